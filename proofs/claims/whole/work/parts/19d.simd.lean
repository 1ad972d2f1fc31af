/-! scrap and advance -/
theorem sc_RN {x m x' m' : LU} {w k : Nat} (h7 : 0 ≤ (m 0 7).toInt ∧ (m 0 7).toInt ≤ 24) (h15 : 0 ≤ (m 0 15).toInt ∧ (m 0 15).toInt ≤ 60) (hN : RN x m) (hw : (w : Int) < (m 0 15).toInt) (hk : m 17 w = nI k) (hkl : (k : Int) < (m 0 7).toInt) (f12 : x' 12 = upd (x 12) k (x 12 k - 1)) (g17 : m' 17 = upd (m 17) w (-1)) (g7 : m' 0 7 = m 0 7) (g15 : m' 0 15 = m 0 15) : RN x' m' ∧ x 12 k - 1 = nI (ctA (upd (m 17) w (-1)) (nI k) (m 0 15).toInt.toNat) := by
  have hc : ∀ l : Nat, (l : Int) < (m 0 7).toInt → ctA (upd (m 17) w (-1)) (nI l) (m 0 15).toInt.toNat + (if l = k then 1 else 0) = ctA (m 17) (nI l) (m 0 15).toInt.toNat := by
    intro l hl
    have h := ctA_upd (m 17) (nI l) (-1) w (m 0 15).toInt.toNat
    have e1 : (-1 : Int32).toInt = -1 := rfl
    have e2 : (nI l).toInt = (l : Int) := ti_nI (by omega)
    have e3 : (nI k).toInt = (k : Int) := ti_nI (by omega)
    have e5 : ¬ (w < (m 0 15).toInt.toNat ∧ (-1 : Int32).toInt = (nI l).toInt) := fun z => by have := z.2; omega
    rw [if_neg e5, hk] at h
    by_cases e : l = k
    · rw [if_pos e]
      rw [if_pos ⟨by omega, by omega⟩] at h
      omega
    · rw [if_neg e]
      rw [if_neg (fun z => by have := z.2; omega)] at h
      omega
  have hk1 : x 12 k - 1 = nI (ctA (upd (m 17) w (-1)) (nI k) (m 0 15).toInt.toNat) := by
    have h := hc k hkl
    rw [if_pos rfl] at h
    rw [hN k hkl, ← h]
    exact nI_pred _
  refine ⟨?_, hk1⟩
  intro l hl
  rw [g7] at hl
  rw [f12, g17, g15]
  by_cases e : l = k
  · subst e
    rw [upd_s]
    exact hk1
  · have h := hc l hl
    rw [if_neg e] at h
    rw [upd_n e, hN l hl, ← h]
    rfl
theorem sc_RW {x m x' m' : LU} {w : Nat} (hW : RW x m) (hw : (w : Int) < (m 0 15).toInt) (f14 : x' 14 = upd (x 14) w (-1)) (f16 : x' 16 = x 16) (fr : ∀ w, x' (100 + w) = x (100 + w)) (g17 : m' 17 = upd (m 17) w (-1)) (g18 : m' 18 = m 18) (g19 : m' 19 = m 19) (g7 : m' 0 7 = m 0 7) (h7 : 0 ≤ (m 0 7).toInt) (g15 : m' 0 15 = m 0 15) (gE : endM m ≤ endM m') : RW x' m' := by
  intro v hv
  obtain ⟨ha, hb⟩ := hW v hv
  unfold RW1
  rw [f14, f16, fr, g17, g18, g19, g7, g15]
  refine ⟨fun q => ?_, fun q => ?_⟩
  · obtain ⟨b1, b2, b3, b4, b5, b6⟩ := ha q
    refine ⟨upd_c w (-1) b1, ?_, b3, b4, by omega, b6⟩
    by_cases e : v = w
    · subst e
      rw [upd_s]
      have : (-1 : Int32).toInt = -1 := rfl
      omega
    · rw [upd_n e]
      exact b2
  · obtain ⟨b1, b2⟩ := hb q
    rw [upd_n (by omega)]
    exact ⟨b1, b2⟩
theorem scrap_rel {B : Int} {x m : LU} (hR : Rel B x m) {w k : Nat} (hw : (w : Int) < (m 0 15).toInt) (hk : m 17 w = nI k) (hkl : (k : Int) < (m 0 7).toInt) (h9 : (m 9 k).toInt = 0) : Rel B (scX x w k) (scM m w) ∧ x 12 k - 1 = nI (ctA (upd (m 17) w (-1)) (m 17 w) (m 0 15).toInt.toNat) := by
  obtain ⟨hC, hS, hL, hZ, hN, hW⟩ := hR
  have h15 := hC.2.2.2.2.2.2.1
  have h7 := hC.2.2.2.2.2.1
  have hkk : (m 17 w).toNatClampNeg = k := by rw [hk]; exact tn_nI (by omega)
  obtain ⟨a6, a6b, a9, a10, a10b, a11, a11b, a7, a7', a8, a8'⟩ := hL k hkl
  have hv := (sc_RN (x' := up x 12 (upd (x 12) k (x 12 k - 1))) (m' := up m 17 (upd (m 17) w (-1))) h7 h15 hN hw hk hkl rfl rfl rfl rfl).2
  have hv' : x 12 k - 1 = nI (ctA (upd (m 17) w (-1)) (m 17 w) (m 0 15).toInt.toNat) := by rw [hv, hk]
  refine ⟨?_, hv'⟩
  have gE : endM m ≤ endM (scM m w) := by
    show ctA (m 9) 3 (m 0 7).toInt.toNat ≤ ctA (upd (m 9) (m 17 w).toNatClampNeg _) 3 (m 0 7).toInt.toNat
    exact ctA_ge _ (by rw [hkk, h9]; decide)
  by_cases q : (x 12 k - 1).toInt = 0
  · have hX : scX x w k = lvX (sc1X x w k) k 3 := if_pos q
    have hM : scM m w = up (up (thM m 0) 17 (upd (m 17) w (-1))) 9 (upd (m 9) k 3) := by
      unfold scM
      rw [if_pos (by rw [← hv']; exact q), hkk]
    rw [hM] at gE
    rw [hX, hM]
    refine ⟨hC, hS, ?_, ?_, And.left (sc_RN h7 h15 hN hw hk hkl rfl rfl rfl rfl), sc_RW hW hw rfl rfl (fun v => ?_) rfl rfl rfl rfl h7.1 rfl gE⟩
    · intro l hl
      by_cases e : l = k
      · subst e
        have F6 : lvX (sc1X x w l) l 3 6 l = 3 := upd_s
        have F7 : lvX (sc1X x w l) l 3 7 l = -1 := upd_s
        have G9 : up (up (thM m 0) 17 (upd (m 17) w (-1))) 9 (upd (m 9) l 3) 9 l = 3 := upd_s
        unfold RL1
        rw [F6, F7, G9]
        exact ⟨rfl, by decide, a9, a10, a10b, a11, a11b, fun z => absurd z (by decide), fun _ => rfl, fun z => absurd z (by decide), fun z => absurd z (by decide)⟩
      · have F6 : lvX (sc1X x w k) k 3 6 l = x 6 l := upd_n e
        have F7 : lvX (sc1X x w k) k 3 7 l = x 7 l := upd_n e
        have G9 : up (up (thM m 0) 17 (upd (m 17) w (-1))) 9 (upd (m 9) k 3) 9 l = m 9 l := upd_n e
        unfold RL1
        rw [F6, F7, G9]
        exact hL l hl
    · intro l hl
      obtain ⟨z9, z⟩ := hZ l hl
      refine ⟨z9, fun q => ⟨?_, (z q).2⟩⟩
      have q' : (m 0 7).toInt ≤ l := q
      show upd (m 9) k 3 l = 0
      rw [upd_n (by omega)]
      exact (z q').1
    · unfold lvX sc1X
      rw [up_n _ _ _ (by omega), up_n _ _ _ (by omega), up_n _ _ _ (by omega), up_n _ _ _ (by omega)]
  · have hX : scX x w k = sc1X x w k := if_neg q
    have hM : scM m w = up (up (thM m 0) 17 (upd (m 17) w (-1))) 9 (upd (m 9) k (m 9 k)) := by
      unfold scM
      rw [if_neg (by rw [← hv']; exact q), hkk]
    rw [hM] at gE
    rw [hX, hM]
    have G9 : ∀ l, up (up (thM m 0) 17 (upd (m 17) w (-1))) 9 (upd (m 9) k (m 9 k)) 9 l = m 9 l := fun l => by
      show upd (m 9) k (m 9 k) l = m 9 l
      by_cases e : l = k
      · subst e
        exact upd_s
      · exact upd_n e
    refine ⟨hC, hS, ?_, ?_, And.left (sc_RN h7 h15 hN hw hk hkl rfl rfl rfl rfl), sc_RW hW hw rfl rfl (fun v => ?_) rfl rfl rfl rfl h7.1 rfl gE⟩
    · intro l hl
      unfold RL1
      rw [G9 l]
      exact hL l hl
    · intro l hl
      rw [G9 l]
      exact hZ l hl
    · unfold sc1X
      rw [up_n _ _ _ (by omega), up_n _ _ _ (by omega)]
theorem sim_scrap {B : Int} {X M : LU} {f : Nat → Int64} (hR : Rel B X M) (hB : B ≤ 5110000) (x : Int32) {k : Int32} {s2 : LU × (Nat → Int64)} {rb : Int32} {M' : LU} (hX : wX_scrap X f x k s2) (hM : pM_scrap M x rb M') : Rel (B + 10000) s2.1 M' ∧ M' 0 0 = k ∧ (k = 0 → s2.2 0 = rb.toInt64) := by
  have hU := hR.up (show B ≤ B + 10000 by omega)
  obtain ⟨⟨e4, e12, e16, e17, h2, h7, h15, h1⟩, hS, hL, hZ, hN, hW⟩ := id hR
  rcases hX with ⟨rfl, r0, v, ⟨n, j, rfl, hn, g14, hj, g6, rfl, rfl⟩, rfl⟩ | ⟨rfl, hx, rfl⟩ | ⟨rfl, hx, rfl⟩
  · rw [e16] at hn
    rw [e12] at hj
    have hi : (nI n).toInt = (n : Int) := ti_nI (by omega)
    have hji : (nI j).toInt = (j : Int) := ti_nI (by omega)
    have hjc : (nI j).toNatClampNeg = j := tn_nI (by omega)
    rw [((hW n (by omega)).1 hn).1] at g14
    rw [(hL j hj).1] at g6
    rcases hM with ⟨hm, rfl⟩ | ⟨w, hw, hwn, ⟨hq', rfl⟩ | ⟨hq', rfl, rfl⟩⟩
    · exact absurd ⟨by omega, by omega⟩ hm
    · obtain rfl : w = n := nI_inj2 hw (by omega) (by omega)
      exact absurd ⟨by rw [g14]; omega, by rw [g14, hjc]; exact g6⟩ hq'
    · obtain rfl : w = n := nI_inj2 hw (by omega) (by omega)
      obtain ⟨g1, g2⟩ := scrap_rel hU hn g14 hj g6
      exact ⟨g1, rfl, fun _ => updL_ti f g2⟩
  · unfold eX_scrap at hx
    rw [e16] at hx
    rcases hx with ⟨-, hx⟩ | ⟨hx, -⟩
    · rcases hM with ⟨hm, rfl⟩ | ⟨w, rfl, hwn, hq⟩
      · exact ⟨hU.th 1, rfl, fun h => absurd h (by decide)⟩
      · have hj : (nI w).toInt = (w : Int) := ti_nI (by omega)
        exact absurd ⟨by omega, by omega⟩ hx
    · exact absurd hx (by decide)
  · unfold eX_scrap at hx
    rw [e16] at hx
    rcases hx with ⟨hx, -⟩ | ⟨-, n, rfl, hn, hq⟩
    · exact absurd hx (by decide)
    · have hi : (nI n).toInt = (n : Int) := ti_nI (by omega)
      rcases hM with ⟨hm, rfl⟩ | ⟨w, hw, hwn, ⟨hq', rfl⟩ | ⟨hq', rfl, rfl⟩⟩
      · exact absurd ⟨by omega, by omega⟩ hm
      · exact ⟨hU.th 2, rfl, fun h => absurd h (by decide)⟩
      · obtain rfl : w = n := nI_inj2 hw (by omega) (by omega)
        obtain ⟨b1, b2, -⟩ := (hW w (by omega)).1 hn
        obtain ⟨q1, q2⟩ := hq'
        have hk := tnc (x := M 17 w) (by omega)
        have a6 := (hL (M 17 w).toNatClampNeg (by omega)).1
        refine absurd ⟨(M 17 w).toNatClampNeg, ?_, by rw [e12]; omega, by rw [a6]; exact q2⟩ hq
        rw [b1]
        have hk2 : (nI (M 17 w).toNatClampNeg).toInt = ((M 17 w).toNatClampNeg : Int) := ti_nI (by omega)
        exact ti_inj (by omega)
theorem ep_rel {B : Int} {u v : LU} (hR : Rel B u v) {i : Nat} (hi : (i : Int) < (v 0 7).toInt) (h9 : (v 9 i).toInt = 1) (h12 : (v 12 i).toInt ≤ (v 0 1).toInt) : Rel B (epX u i) (eaM v i) := by
  obtain ⟨hC, hS, hL, hZ, hN, hW⟩ := hR
  have e4 := hC.1
  have h2 := hC.2.2.2.2.1
  obtain ⟨a6, a6b, a9, a10, a10b, a11, a11b, a7, a7', a8, a8'⟩ := hL i hi
  obtain ⟨b7, b7l, b7h⟩ := a7 (by omega)
  obtain ⟨b8, b8l, b8h⟩ := a8' h9
  have e1 : (1 : Int32).toInt = 1 := rfl
  have hs : (v 10 i + 1).toInt = (v 10 i).toInt + 1 := ti_add (by rw [e1]; omega) (by rw [e1]; omega)
  have hz : ∀ l : Nat, l < 24 → ∀ s : Int32, (u 9 l = 0 ∨ u 9 l = 1) ∧ ((v 0 7).toInt ≤ l → upd (v 9) i s l = 0 ∧ upd (v 10) i (v 10 i + 1) l = 0 ∧ v 13 l = 0 ∧ v 14 l = 0) := fun l hl s => by
    obtain ⟨z9, z⟩ := hZ l hl
    refine ⟨z9, fun q => ?_⟩
    rw [upd_n (by omega), upd_n (by omega)]
    exact z q
  by_cases q : (v 10 i + 1).toInt = (v 0 2).toInt
  · have hX : epX u i = lvX u i 2 := by
      unfold epX
      rw [b7, e4]
      exact if_neg (by omega)
    have hM : eaM v i = up (up (up v 10 (upd (v 10) i (v 10 i + 1))) 11 (upd (v 11) i (v 12 i))) 9 (upd (v 9) i 2) := by
      unfold eaM
      rw [if_pos q]
    rw [hX, hM]
    have E3 : endM (up (up (up v 10 (upd (v 10) i (v 10 i + 1))) 11 (upd (v 11) i (v 12 i))) 9 (upd (v 9) i 2)) = endM v := ctA_n (v 0 7).toInt.toNat (by rw [h9]; decide) (by decide)
    refine ⟨hC, hS, ?_, fun l hl => hz l hl 2, hN, RW_keep hW rfl rfl (fun w => ?_) rfl rfl rfl rfl (Int.le_refl _) (by rw [E3]; exact Nat.le_refl _)⟩
    · intro l hl
      by_cases e : l = i
      · subst e
        have F6 : lvX u l 2 6 l = 2 := upd_s
        have F7 : lvX u l 2 7 l = -1 := upd_s
        have G9 : up (up (up v 10 (upd (v 10) l (v 10 l + 1))) 11 (upd (v 11) l (v 12 l))) 9 (upd (v 9) l 2) 9 l = 2 := upd_s
        unfold RL1
        rw [F6, F7, G9]
        exact ⟨rfl, by decide, a9, a10, a10b, a11, a11b, fun z => absurd z (by decide), fun _ => rfl, fun z => absurd z (by decide), fun z => absurd z (by decide)⟩
      · have F6 : lvX u i 2 6 l = u 6 l := upd_n e
        have F7 : lvX u i 2 7 l = u 7 l := upd_n e
        have G9 : up (up (up v 10 (upd (v 10) i (v 10 i + 1))) 11 (upd (v 11) i (v 12 i))) 9 (upd (v 9) i 2) 9 l = v 9 l := upd_n e
        have G10 : up (up (up v 10 (upd (v 10) i (v 10 i + 1))) 11 (upd (v 11) i (v 12 i))) 9 (upd (v 9) i 2) 10 l = v 10 l := upd_n e
        have G11 : up (up (up v 10 (upd (v 10) i (v 10 i + 1))) 11 (upd (v 11) i (v 12 i))) 9 (upd (v 9) i 2) 11 l = v 11 l := upd_n e
        unfold RL1
        rw [F6, F7, G9, G10, G11]
        exact hL l hl
    · unfold lvX
      rw [up_n _ _ _ (by omega), up_n _ _ _ (by omega)]
  · have hX : epX u i = up (up u 6 (upd (u 6) i 0)) 7 (upd (u 7) i (v 10 i + 1)) := by
      unfold epX
      rw [b7, e4]
      exact if_pos (by omega)
    have hM : eaM v i = up (up (up v 10 (upd (v 10) i (v 10 i + 1))) 11 (upd (v 11) i (v 12 i))) 9 (upd (v 9) i 0) := by
      unfold eaM
      rw [if_neg q]
    rw [hX, hM]
    have E3 : endM (up (up (up v 10 (upd (v 10) i (v 10 i + 1))) 11 (upd (v 11) i (v 12 i))) 9 (upd (v 9) i 0)) = endM v := ctA_n (v 0 7).toInt.toNat (by rw [h9]; decide) (by decide)
    refine ⟨hC, hS, ?_, fun l hl => hz l hl 0, hN, RW_keep hW rfl rfl (fun w => ?_) rfl rfl rfl rfl (Int.le_refl _) (by rw [E3]; exact Nat.le_refl _)⟩
    · intro l hl
      by_cases e : l = i
      · subst e
        have F6 : up (up u 6 (upd (u 6) l 0)) 7 (upd (u 7) l (v 10 l + 1)) 6 l = 0 := upd_s
        have F7 : up (up u 6 (upd (u 6) l 0)) 7 (upd (u 7) l (v 10 l + 1)) 7 l = v 10 l + 1 := upd_s
        have G9 : up (up (up v 10 (upd (v 10) l (v 10 l + 1))) 11 (upd (v 11) l (v 12 l))) 9 (upd (v 9) l 0) 9 l = 0 := upd_s
        have G10 : up (up (up v 10 (upd (v 10) l (v 10 l + 1))) 11 (upd (v 11) l (v 12 l))) 9 (upd (v 9) l 0) 10 l = v 10 l + 1 := upd_s
        have G11 : up (up (up v 10 (upd (v 10) l (v 10 l + 1))) 11 (upd (v 11) l (v 12 l))) 9 (upd (v 9) l 0) 11 l = v 12 l := upd_s
        unfold RL1
        rw [F6, F7, G9, G10, G11]
        refine ⟨rfl, by decide, a9, a10, a10b, a11, a11b, fun _ => ⟨rfl, by omega, ?_⟩, fun z => absurd z (by decide), fun _ => ⟨b8, b8l, h12⟩, fun z => absurd z (by decide)⟩
        show (v 10 l + 1).toInt < (v 0 2).toInt
        omega
      · have F6 : up (up u 6 (upd (u 6) i 0)) 7 (upd (u 7) i (v 10 i + 1)) 6 l = u 6 l := upd_n e
        have F7 : up (up u 6 (upd (u 6) i 0)) 7 (upd (u 7) i (v 10 i + 1)) 7 l = u 7 l := upd_n e
        have G9 : up (up (up v 10 (upd (v 10) i (v 10 i + 1))) 11 (upd (v 11) i (v 12 i))) 9 (upd (v 9) i 0) 9 l = v 9 l := upd_n e
        have G10 : up (up (up v 10 (upd (v 10) i (v 10 i + 1))) 11 (upd (v 11) i (v 12 i))) 9 (upd (v 9) i 0) 10 l = v 10 l := upd_n e
        have G11 : up (up (up v 10 (upd (v 10) i (v 10 i + 1))) 11 (upd (v 11) i (v 12 i))) 9 (upd (v 9) i 0) 11 l = v 11 l := upd_n e
        unfold RL1
        rw [F6, F7, G9, G10, G11]
        exact hL l hl
    · rw [up_n _ _ _ (by omega), up_n _ _ _ (by omega)]
theorem ti_rel {B : Int} {x m : LU} (hR : Rel B x m) (hB : B ≤ 5200000) {t : Int32} (ht : 1 ≤ t.toInt ∧ t.toInt ≤ 10000) : Rel (B + 10000) (up x 0 (upd (x 0) 17 (x 0 17 + t))) (a0M m t) := by
  obtain ⟨⟨e4, e12, e16, e17, h2, h7, h15, h1⟩, hS, hL, hZ, hN, hW⟩ := hR
  have hs : (m 0 1 + t).toInt = (m 0 1).toInt + t.toInt := ti_add (by omega) (by omega)
  refine ⟨⟨e4, e12, e16, congrArg (fun q => q + t) e17, h2, h7, h15, ?_⟩, hS, ?_, hZ, hN, RW_keep hW rfl rfl (fun w => up_n _ _ _ (by omega)) rfl rfl rfl rfl (Int.le_refl _) (Nat.le_refl _)⟩
  · show 0 ≤ (m 0 1 + t).toInt ∧ (m 0 1 + t).toInt ≤ B + 10000
    omega
  · intro l hl
    obtain ⟨a6, a6b, a9, a10, a10b, a11, a11b, a7, a7', a8, a8'⟩ := hL l hl
    refine ⟨a6, a6b, a9, a10, a10b, a11, a11b, a7, a7', fun q => ?_, fun q => ?_⟩
    · obtain ⟨c1, c2, c3⟩ := a8 q
      refine ⟨c1, c2, ?_⟩
      show (m 11 l).toInt ≤ (m 0 1 + t).toInt
      omega
    · obtain ⟨c1, c2, c3⟩ := a8' q
      refine ⟨c1, c2, ?_⟩
      show (m 12 l).toInt ≤ (m 0 1 + t).toInt + 1000
      omega
theorem av_rel {B : Int} {u v : LU} (hR : Rel B u v) : ∀ i : Nat, (i : Int) ≤ (v 0 7).toInt → Rel B (avX u i).1 (avM v i).1 ∧ (avX u i).2 = (avM v i).2 ∧ (avM v i).1 0 = v 0
  | 0, _ => ⟨hR, rfl, rfl⟩
  | i + 1, hi => by
    obtain ⟨h1, h2, h3⟩ := av_rel hR i (by omega)
    have hn : (i : Int) < ((avM v i).1 0 7).toInt := by rw [h3]; omega
    have e17 := h1.1.2.2.2.1
    obtain ⟨a6, a6b, a9, a10, a10b, a11, a11b, a7, a7', a8, a8'⟩ := h1.2.2.1 i hn
    simp only [avX, avM]
    rw [a6, e17]
    by_cases q : ((avM v i).1 9 i).toInt = 1
    · rw [(a8' q).1]
      by_cases z : ((avM v i).1 12 i).toInt ≤ ((avM v i).1 0 1).toInt
      · rw [if_pos ⟨q, z⟩, if_pos ⟨q, z⟩]
        exact ⟨ep_rel h1 hn q z, by rw [h2], h3⟩
      · rw [if_neg (fun y => z y.2), if_neg (fun y => z y.2)]
        exact ⟨h1, h2, h3⟩
    · rw [if_neg (fun y => q y.1), if_neg (fun y => q y.1)]
      exact ⟨h1, h2, h3⟩
theorem sim_advance {B : Int} {X M : LU} {f : Nat → Int64} (hR : Rel B X M) (hB : B ≤ 5110000) (x : Int32) {k : Int32} {s2 : LU × (Nat → Int64)} {rb : Int32} {M' : LU} (hX : wX_advance X f x k s2) (hM : pM_advance M x rb M') : Rel (B + 10000) s2.1 M' ∧ M' 0 0 = k ∧ (k = 0 → s2.2 0 = rb.toInt64) := by
  have hU := hR.up (show B ≤ B + 10000 by omega)
  obtain ⟨⟨e4, e12, e16, e17, h2, h7, h15, h1⟩, hS, hL, hZ, hN, hW⟩ := id hR
  rcases hX with ⟨rfl, r0, v, ⟨ht, rfl, rfl⟩, rfl⟩ | ⟨rfl, ⟨-, hx⟩, rfl⟩
  · rcases hM with ⟨hm, rfl⟩ | ⟨hm, rfl, rfl⟩
    · exact absurd ht hm
    · have hT := ti_rel hR (by omega) ht
      have e : ((a0M M x) 0 7) = M 0 7 := rfl
      obtain ⟨g1, g2, g3⟩ := av_rel hT (M 0 7).toInt.toNat (by rw [e]; omega)
      rw [e12]
      refine ⟨g1, ?_, fun _ => updL_ti f (congrArg nI g2)⟩
      rw [g3]
      rfl
  · rcases hM with ⟨hm, rfl⟩ | ⟨hm, rfl, rfl⟩
    · exact ⟨hU.th 1, rfl, fun h => absurd h (by decide)⟩
    · exact absurd hm hx
