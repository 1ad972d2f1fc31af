/-! split and merge -/
theorem mv1_lo (U : LU) (f i t : Nat) {j : Nat} (h : j < 100) (h12 : j ≠ 12) (h14 : j ≠ 14) (h16 : j ≠ 16) : mv1 U f i t j = U j := by
  unfold mv1
  rw [putX_lo _ _ _ h h16]
  unfold put1
  rw [up_n _ _ _ h12, up_n _ _ _ h14, up_n _ _ _ h12]
theorem mv1_12 (U : LU) (f i t : Nat) : mv1 U f i t 12 = upd (upd (U 12) f (U 12 f - 1)) t (upd (U 12) f (U 12 f - 1) t + 1) := by
  unfold mv1
  rw [putX_lo _ _ _ (by decide) (by decide)]
  rfl
theorem mv1_14 (U : LU) (f i t : Nat) : mv1 U f i t 14 = upd (U 14) i (nI t) := by
  unfold mv1
  rw [putX_lo _ _ _ (by decide) (by decide)]
  rfl
theorem mv1_16 (U : LU) (f t : Nat) {i : Nat} (hi : i < 60) (h : (U 16 i).toInt < 47) : mv1 U f i t 16 = upd (U 16) i (U 16 i + 1) := by
  unfold mv1
  rw [putX_16 _ _ _ hi]
  exact if_pos h
theorem mv1_row (U : LU) (f t : Nat) {i : Nat} (h : (U 16 i).toInt < 47) (q : Nat) : mv1 U f i t (100 + q) = if q = i then upd (U (100 + i)) (U 16 i).toNatClampNeg (nI t) else U (100 + q) := by
  unfold mv1
  rw [putX_row (u := up U 12 (upd (U 12) f (U 12 f - 1))) h]
  by_cases e : q = i
  · rw [if_pos e, if_pos e, up_n _ _ _ (by omega)]
    rfl
  · rw [if_neg e, if_neg e, up_n _ _ _ (by omega)]
theorem ptM_o (V : LU) (i : Nat) (s : Int32) {j : Nat} (h17 : j ≠ 17) (h18 : j ≠ 18) (h19 : j ≠ 19) : ptM V i s j = V j := by
  unfold ptM
  rw [up_n _ _ _ h18, up_n _ _ _ h19, up_n _ _ _ h17]
theorem mv_rel {B : Int} {U V : LU} {f t i : Nat} (hR : Rel B U V) (hf : (f : Int) < (V 0 7).toInt) (ht : (t : Int) < (V 0 7).toInt) (hft : ¬ f = t) (hi : (i : Int) < (V 0 15).toInt) (h17 : V 17 i = nI f) (h47 : (V 18 i).toInt < 47) (hLE : (V 18 i).toInt + 1 ≤ (V 0 7).toInt + endM V) : Rel B (mv1 U f i t) (ptM V i (nI t)) := by
  have h15 := hR.1.2.2.2.2.2.2.1
  have e := ((hR.2.2.2.2.2 i (by omega)).1 hi).2.2.1
  have h := h47
  rw [← e] at h
  exact put_gen hR hf ht hft hi h17 h47 hLE (fun j a b c d => mv1_lo U f i t a b c d) (mv1_12 U f i t) (mv1_14 U f i t) (mv1_16 U f t (by omega) h) (fun q => mv1_row U f t h q) (fun j a b c => ptM_o V i (nI t) a b c) rfl rfl rfl
theorem sp_loop {B : Int} {u v : LU} {f t : Nat} {c : Int32} (hR : Rel B u v) (hf : (f : Int) < (v 0 7).toInt) (ht : (t : Int) < (v 0 7).toInt) (hft : ¬ f = t) (hp : ∀ w : Nat, (w : Int) < (v 0 15).toInt → (v 18 w).toInt < 47 ∧ (v 18 w).toInt + 1 ≤ (v 0 7).toInt + endM v) (hc : 0 ≤ c.toInt) : ∀ i : Nat, (i : Int) ≤ (v 0 15).toInt → Rel B (mvX u f t c i).1 (msM v f t c i).1 ∧ (msM v f t c i).2.toInt = c.toInt - (mvX u f t c i).2 ∧ ((mvX u f t c i).2 : Int) ≤ c.toInt ∧ (∀ w, i ≤ w → (msM v f t c i).1 17 w = v 17 w ∧ (msM v f t c i).1 18 w = v 18 w) ∧ (msM v f t c i).1 0 = v 0 ∧ (msM v f t c i).1 9 = v 9
  | 0, _ => ⟨hR, by show c.toInt = c.toInt - ((0 : Nat) : Int); omega, by show ((0 : Nat) : Int) ≤ c.toInt; omega, fun w _ => ⟨rfl, rfl⟩, rfl, rfl⟩
  | i + 1, hi => by
    obtain ⟨h1, h2, h3, h4, h5, h6⟩ := sp_loop hR hf ht hft hp hc i (by omega)
    simp only [mvX, msM]
    revert h1 h2 h3 h4 h5 h6
    generalize mvX u f t c i = P
    generalize msM v f t c i = Q
    obtain ⟨U, a⟩ := P
    obtain ⟨V, z⟩ := Q
    intro h1 h2 h3 h4 h5 h6
    dsimp only at h1 h2 h3 h4 h5 h6 ⊢
    have h7 := hR.1.2.2.2.2.2.1
    have h15 := hR.1.2.2.2.2.2.2.1
    have hW := h1.2.2.2.2.2
    have a14 := ((hW i (by omega)).1 (by rw [h5]; omega)).1
    obtain ⟨g17, g18⟩ := h4 i (Nat.le_refl _)
    obtain ⟨p1, p2⟩ := hp i (by omega)
    have hE : endM V = endM v := by unfold endM; rw [h5, h6]
    by_cases q : (a : Int) < c.toInt ∧ (V 17 i).toInt = f
    · have qx : (a : Int) < c.toInt ∧ (U 14 i).toInt = f := by rw [a14]; exact q
      rw [if_pos qx, if_pos ⟨by omega, q.2⟩]
      dsimp only
      have efi : (nI f).toInt = (f : Int) := ti_nI (by omega)
      have em : (-1 : Int32).toInt = -1 := rfl
      have hz : (z + -1).toInt = z.toInt - 1 := by
        have hr := ti_rng z
        rw [ti_add (by rw [em]; omega) (by rw [em]; omega), em]
        omega
      refine ⟨mv_rel h1 (by rw [h5]; exact hf) (by rw [h5]; exact ht) hft (by rw [h5]; omega) (ti_inj (by rw [q.2, efi])) (by rw [g18]; exact p1) (by rw [g18, h5, hE]; exact p2), ?_, ?_, fun w hw => ?_, h5, h6⟩
      · rw [hz, h2]
        exact Int.sub_sub c.toInt (a : Int) 1
      · exact q.1
      · obtain ⟨k1, k2⟩ := h4 w (by omega)
        exact ⟨(upd_n (by omega)).trans k1, (upd_n (by omega)).trans k2⟩
    · have qx : ¬ ((a : Int) < c.toInt ∧ (U 14 i).toInt = f) := by rw [a14]; exact q
      rw [if_neg qx, if_neg (fun y => q ⟨by omega, y.2⟩)]
      exact ⟨h1, h2, h3, fun w hw => h4 w (by omega), h5, h6⟩
theorem split_rel {B : Int} {x m : LU} (hR : Rel B x m) {n k : Nat} (hn : (n : Int) < (m 0 7).toInt) (hk : m 0 7 = nI k) (hk24 : k < 24) (h9 : (m 9 n).toInt = 0) {y : Int32} (hy : 0 ≤ y.toInt) : Rel B (spX x n k y) (msM (s0M m n k) n k y (m 0 15).toInt.toNat).1 ∧ (msM (s0M m n k) n k y (m 0 15).toInt.toNat).1 0 0 = 0 := by
  obtain ⟨⟨e4, e12, e16, e17, h2, h7, h15, h1⟩, hS, hL, hZ, hN, hW⟩ := id hR
  have eki : (nI k).toInt = (k : Int) := ti_nI (by omega)
  have eks : (nI k + 1).toInt = (k : Int) + 1 := by rw [nI_1]; exact ti_nI (by omega)
  have eni : (nI n).toInt = (n : Int) := ti_nI (by omega)
  have hki : (m 0 7).toInt = (k : Int) := by rw [hk, eki]
  obtain ⟨a6, a6b, a9, a10, a10b, a11, a11b, a7, a7', a8, a8'⟩ := hL n hn
  obtain ⟨b7, b7l, b7h⟩ := a7 (by omega)
  obtain ⟨b8, b8l, b8h⟩ := a8 h9
  obtain ⟨hb, hE⟩ := nl_gen (m' := s0M m n k) (k := k) (st := x 7 n) (si := x 8 n) (hd := x 9 n) (r9 := x 10 n) (pa := nI n) hR hk hk24 (by rw [b7]; exact ⟨b7l, b7h⟩) (by rw [b8]; exact ⟨b8l, b8h⟩) (hZ n (by omega)).1 (by rw [a10]; exact a10b) (by omega) upd_s (by rw [b7]; exact upd_s) (by rw [b8]; exact upd_s) (by rw [a9]; exact upd_s) (by rw [a10]; exact upd_s) upd_s (fun l hl => ⟨upd_n hl, upd_n hl, upd_n hl, upd_n hl, upd_n hl, upd_n hl⟩) rfl rfl rfl rfl rfl rfl rfl rfl rfl rfl rfl rfl
  have e7 : s0M m n k 0 7 = nI k + 1 := rfl
  have e15 : s0M m n k 0 15 = m 0 15 := rfl
  have hT : (((m 0 15).toInt.toNat : Nat) : Int) = (m 0 15).toInt := Int.toNat_of_nonneg h15.1
  have hle := ctA_le (m 9) 3 (m 0 7).toInt.toNat
  have hle' : endM m ≤ (m 0 7).toInt.toNat := hle
  obtain ⟨g1, -, -, -, g5, -⟩ := sp_loop (f := n) (t := k) (c := y) hb (by rw [e7]; omega) (by rw [e7]; omega) (by omega) (fun w hw => by
    have hw' : (w : Int) < (m 0 15).toInt := hw
    obtain ⟨-, -, -, b4, b5, -⟩ := (hW w (by omega)).1 hw'
    have e18 : s0M m n k 18 w = m 18 w := rfl
    rw [e18, e7, eks]
    omega) hy (m 0 15).toInt.toNat (by rw [e15]; omega)
  refine ⟨?_, ?_⟩
  · unfold spX
    rw [e16]
    exact g1
  · rw [g5]
    rfl
theorem me_loop {B : Int} {u v : LU} {n k : Nat} {c : Int32} (hR : Rel B (lvX u n 3) (m1M v n k)) (hn : (n : Int) < (v 0 7).toInt) (hk : (k : Int) < (v 0 7).toInt) (hnk : ¬ n = k) (hc : c.toInt = (ctA (v 17) (nI n) (v 0 15).toInt.toNat : Nat)) (hp : ∀ w : Nat, (w : Int) < (v 0 15).toInt → (v 18 w).toInt < 47 ∧ (v 18 w).toInt + 1 ≤ (v 0 7).toInt + (ctA (upd (v 9) n 3) 3 (v 0 7).toInt.toNat : Nat)) : ∀ i : Nat, (i : Int) ≤ (v 0 15).toInt → Rel B (lvX (mvX u n k c i).1 n 3) (m1M (mmM v n k i) n k) ∧ (mvX u n k c i).2 = ctA (v 17) (nI n) i ∧ (∀ w, i ≤ w → (mmM v n k i) 17 w = v 17 w ∧ (mmM v n k i) 18 w = v 18 w) ∧ (mmM v n k i) 0 = v 0 ∧ (mmM v n k i) 9 = v 9
  | 0, _ => ⟨hR, rfl, fun w _ => ⟨rfl, rfl⟩, rfl, rfl⟩
  | i + 1, hi => by
    obtain ⟨h1, h2, h4, h5, h6⟩ := me_loop hR hn hk hnk hc hp i (by omega)
    simp only [mvX, mmM, ctA]
    revert h1 h2 h4 h5 h6
    generalize mvX u n k c i = P
    generalize mmM v n k i = V
    obtain ⟨U, a⟩ := P
    intro h1 h2 h4 h5 h6
    dsimp only at h1 h2 h4 h5 h6 ⊢
    have h7 : 0 ≤ (v 0 7).toInt ∧ (v 0 7).toInt ≤ 24 := hR.1.2.2.2.2.2.1
    have h15 : 0 ≤ (v 0 15).toInt ∧ (v 0 15).toInt ≤ 60 := hR.1.2.2.2.2.2.2.1
    have hW := h1.2.2.2.2.2
    have eni : (nI n).toInt = (n : Int) := ti_nI (by omega)
    have hw15 : (i : Int) < (m1M V n k 0 15).toInt := by
      show (i : Int) < (V 0 15).toInt
      rw [h5]
      omega
    obtain ⟨a14, -, a16, -⟩ := (hW i (by omega)).1 hw15
    have a14' : U 14 i = V 17 i := a14
    have a16' : U 16 i = V 18 i := a16
    obtain ⟨g17, g18⟩ := h4 i (Nat.le_refl _)
    obtain ⟨p1, p2⟩ := hp i (by omega)
    by_cases q : (V 17 i).toInt = n
    · have hlt := ctA_lt (f := v 17) (x := nI n) (i := i) (W := (v 0 15).toInt.toNat) (by rw [← g17, q, eni]) (by omega)
      have qx : (a : Int) < c.toInt ∧ (U 14 i).toInt = n := by rw [a14']; exact ⟨by omega, q⟩
      rw [if_pos qx, if_pos q, if_pos (by rw [← g17, eni]; exact q)]
      dsimp only
      have h16l : (U 16 i).toInt < 47 := by rw [a16', g18]; exact p1
      refine ⟨?_, congrArg (fun z => z + 1) h2, fun w hw => ?_, h5, h6⟩
      · refine put_gen (f := n) (t := k) (i := i) h1 ?_ ?_ hnk hw15 (ti_inj (by rw [eni]; exact q)) ?_ ?_ (fun j j1 j2 j3 j4 => ?_) (mv1_12 _ n i k) (mv1_14 _ n i k) (mv1_16 _ n k (by omega) h16l) (fun z => ?_) (fun j j1 j2 j3 => ?_) rfl rfl rfl
        · show (n : Int) < (V 0 7).toInt
          rw [h5]
          exact hn
        · show (k : Int) < (V 0 7).toInt
          rw [h5]
          exact hk
        · show (V 18 i).toInt < 47
          rw [g18]
          exact p1
        · show (V 18 i).toInt + 1 ≤ (V 0 7).toInt + (ctA (upd (V 9) n 3) 3 (V 0 7).toInt.toNat : Nat)
          rw [g18, h5, h6]
          exact p2
        · have hz := mv1_lo U n i k j1 j2 j3 j4
          by_cases e7 : j = 7
          · subst e7
            exact congrArg (fun g => upd g n (-1)) hz
          · by_cases e6 : j = 6
            · subst e6
              exact congrArg (fun g => upd g n 3) hz
            · unfold lvX
              rw [up_n _ _ _ e7, up_n _ _ _ e6, up_n _ _ _ e7, up_n _ _ _ e6, hz]
        · have hl : ∀ (Z : LU) (w : Nat), lvX Z n 3 (100 + w) = Z (100 + w) := fun Z w => by
            unfold lvX
            rw [up_n _ _ _ (by omega), up_n _ _ _ (by omega)]
          rw [hl, hl, hl]
          exact mv1_row _ n k h16l z
        · by_cases e9 : j = 9
          · subst e9
            rfl
          · by_cases e14 : j = 14
            · subst e14
              rfl
            · by_cases e11 : j = 11
              · subst e11
                rfl
              · unfold m1M
                rw [up_n _ _ _ e9, up_n _ _ _ e14, up_n _ _ _ e11, up_n _ _ _ e9, up_n _ _ _ e14, up_n _ _ _ e11, ptM_o _ _ _ j1 j2 j3]
      · obtain ⟨k1, k2⟩ := h4 w (by omega)
        exact ⟨(upd_n (by omega)).trans k1, (upd_n (by omega)).trans k2⟩
    · have qx : ¬ ((a : Int) < c.toInt ∧ (U 14 i).toInt = n) := by rw [a14']; exact fun z => q z.2
      rw [if_neg qx, if_neg q, if_neg (by rw [← g17, eni]; exact q)]
      exact ⟨h1, h2, fun w hw => h4 w (by omega), h5, h6⟩
theorem mn_eq {p q : Int32} : mmin32 p q = (if p.toInt < q.toInt then p else q) := by
  unfold mmin32
  by_cases h : q < p
  · rw [if_pos h, if_neg (by have := Int32.lt_iff_toInt_lt.1 h; omega)]
  · rw [if_neg h]
    have h' : ¬ q.toInt < p.toInt := fun z => h (Int32.lt_iff_toInt_lt.2 z)
    by_cases e : p.toInt < q.toInt
    · rw [if_pos e]
    · rw [if_neg e]
      exact ti_inj (by omega)
theorem mx_eq {p q : Int32} : mmax32 p q = (if q.toInt < p.toInt then p else q) := by
  unfold mmax32
  by_cases h : p < q
  · rw [if_pos h, if_neg (by have := Int32.lt_iff_toInt_lt.1 h; omega)]
  · rw [if_neg h]
    have h' : ¬ p.toInt < q.toInt := fun z => h (Int32.lt_iff_toInt_lt.2 z)
    by_cases e : q.toInt < p.toInt
    · rw [if_pos e]
    · rw [if_neg e]
      exact ti_inj (by omega)
theorem me_base {B : Int} {x m : LU} (hR : Rel B x m) {n k : Nat} (hn : (n : Int) < (m 0 7).toInt) (hk : (k : Int) < (m 0 7).toInt) (hnk : ¬ n = k) (hn9 : (m 9 n).toInt = 0) (hk9 : (m 9 k).toInt = 0) : Rel B (lvX (mg1X x n k) n 3) (m1M (thM m 0) n k) := by
  obtain ⟨hC, hS, hL, hZ, hN, hW⟩ := hR
  have h7 := hC.2.2.2.2.2.1
  obtain ⟨n6, n6b, n9, n10, n10b, n11, n11b, n7, n7', n8, n8'⟩ := hL n hn
  obtain ⟨k6, k6b, k9, k10, k10b, k11, k11b, k7, k7', k8, k8'⟩ := hL k hk
  obtain ⟨c8, c8l, c8h⟩ := n8 hn9
  obtain ⟨d8, d8l, d8h⟩ := k8 hk9
  have gE : endM m ≤ endM (m1M (thM m 0) n k) := ctA_ge (m 0 7).toInt.toNat (by rw [hn9]; decide)
  refine ⟨hC, hS, ?_, ?_, hN, RW_keep hW rfl rfl (fun w => ?_) rfl rfl rfl rfl (Int.le_refl _) gE⟩
  · intro l hl
    have F6n : l ≠ n → lvX (mg1X x n k) n 3 6 l = x 6 l := fun e => upd_n e
    have F7n : l ≠ n → lvX (mg1X x n k) n 3 7 l = x 7 l := fun e => upd_n e
    have F8n : l ≠ k → lvX (mg1X x n k) n 3 8 l = x 8 l := fun e => upd_n e
    have F10n : l ≠ k → lvX (mg1X x n k) n 3 10 l = x 10 l := fun e => upd_n e
    have G9n : l ≠ n → m1M (thM m 0) n k 9 l = m 9 l := fun e => upd_n e
    have G11n : l ≠ k → m1M (thM m 0) n k 11 l = m 11 l := fun e => upd_n e
    have G14n : l ≠ k → m1M (thM m 0) n k 14 l = m 14 l := fun e => upd_n e
    unfold RL1
    by_cases e : l = n
    · have ek : l ≠ k := by omega
      have F6 : lvX (mg1X x n k) n 3 6 l = 3 := by rw [e]; exact upd_s
      have F7 : lvX (mg1X x n k) n 3 7 l = -1 := by rw [e]; exact upd_s
      have G9 : m1M (thM m 0) n k 9 l = 3 := by rw [e]; exact upd_s
      rw [F6, F7, G9, F8n ek, F10n ek, G11n ek, G14n ek, e]
      exact ⟨rfl, by decide, n9, n10, n10b, n11, n11b, fun z => absurd z (by decide), fun _ => rfl, fun z => absurd z (by decide), fun z => absurd z (by decide)⟩
    · rw [F6n e, F7n e, G9n e]
      by_cases ek : l = k
      · have F8 : lvX (mg1X x n k) n 3 8 l = mmin32 (x 8 n) (x 8 k) := by rw [ek]; exact upd_s
        have F10 : lvX (mg1X x n k) n 3 10 l = mmax32 (x 10 n) (x 10 k) := by rw [ek]; exact upd_s
        have G11 : m1M (thM m 0) n k 11 l = (if (m 11 n).toInt < (m 11 k).toInt then m 11 n else m 11 k) := by rw [ek]; exact upd_s
        have G14 : m1M (thM m 0) n k 14 l = (if (m 14 k).toInt < (m 14 n).toInt then m 14 n else m 14 k) := by rw [ek]; exact upd_s
        rw [F8, F10, G11, G14, mn_eq, mx_eq, c8, d8, n10, k10, ek]
        refine ⟨k6, k6b, k9, rfl, ?_, k11, k11b, k7, k7', fun _ => ⟨rfl, ?_⟩, fun z => absurd z (by rw [hk9]; decide)⟩
        · split
          · exact n10b
          · exact k10b
        · split
          · exact ⟨c8l, c8h⟩
          · exact ⟨d8l, d8h⟩
      · rw [F8n ek, F10n ek, G11n ek, G14n ek]
        exact hL l hl
  · intro l hl
    obtain ⟨z9, z⟩ := hZ l hl
    refine ⟨z9, fun q => ?_⟩
    have q' : (m 0 7).toInt ≤ l := q
    obtain ⟨z1, z2, z3, z4⟩ := z q'
    refine ⟨?_, z2, z3, ?_⟩
    · show upd (m 9) n 3 l = 0
      rw [upd_n (by omega)]
      exact z1
    · show upd (m 14) k _ l = 0
      rw [upd_n (by omega)]
      exact z4
  · unfold lvX mg1X
    rw [up_n _ _ _ (by omega), up_n _ _ _ (by omega), up_n _ _ _ (by omega), up_n _ _ _ (by omega)]
theorem merge_rel {B : Int} {x m : LU} (hR : Rel B x m) {n k : Nat} (hn : (n : Int) < (m 0 7).toInt) (hk : (k : Int) < (m 0 7).toInt) (hnk : ¬ n = k) (hn9 : (m 9 n).toInt = 0) (hk9 : (m 9 k).toInt = 0) : Rel B (mgX x n k) (m1M (mmM (thM m 0) n k (m 0 15).toInt.toNat) n k) ∧ mgX x n k 12 k = nI (ctA (mmM (thM m 0) n k (m 0 15).toInt.toNat 17) (nI k) (m 0 15).toInt.toNat) ∧ (mmM (thM m 0) n k (m 0 15).toInt.toNat) 0 0 = 0 := by
  obtain ⟨⟨e4, e12, e16, e17, h2, h7, h15, h1⟩, hS, hL, hZ, hN, hW⟩ := id hR
  have hT : (((m 0 15).toInt.toNat : Nat) : Int) = (m 0 15).toInt := Int.toNat_of_nonneg h15.1
  obtain ⟨t1, t2⟩ := ctA_two (f := m 9) (n := n) (k := k) (L := (m 0 7).toInt.toNat) (by omega) (by omega) hnk (by rw [hn9]; decide) (by rw [hk9]; decide)
  have hcl := ctA_le (m 17) (nI n) (m 0 15).toInt.toNat
  have hc : (x 12 n).toInt = (ctA (m 17) (nI n) (m 0 15).toInt.toNat : Nat) := by
    rw [hN n hn]
    exact ti_nI (by omega)
  obtain ⟨g1, -, -, g4, -⟩ := me_loop (c := x 12 n) (me_base hR hn hk hnk hn9 hk9) hn hk hnk hc (fun w hw => by
    have hw' : (w : Int) < (m 0 15).toInt := hw
    obtain ⟨-, -, -, b4, b5, -⟩ := (hW w (by omega)).1 hw'
    have hEm : endM m = ctA (m 9) 3 (m 0 7).toInt.toNat := rfl
    show (m 18 w).toInt < 47 ∧ (m 18 w).toInt + 1 ≤ (m 0 7).toInt + (ctA (upd (m 9) n 3) 3 (m 0 7).toInt.toNat : Nat)
    omega) (m 0 15).toInt.toNat (by show (((m 0 15).toInt.toNat : Nat) : Int) ≤ (m 0 15).toInt; omega)
  have hX : mgX x n k = lvX (mvX (mg1X x n k) n k (x 12 n) (m 0 15).toInt.toNat).1 n 3 := by
    unfold mgX
    rw [e16]
  rw [hX]
  refine ⟨g1, ?_, ?_⟩
  · have e07 : m1M (mmM (thM m 0) n k (m 0 15).toInt.toNat) n k 0 7 = m 0 7 := congrFun g4 7
    have e15 : m1M (mmM (thM m 0) n k (m 0 15).toInt.toNat) n k 0 15 = m 0 15 := congrFun g4 15
    have h := g1.2.2.2.2.1 k (by rw [e07]; exact hk)
    rw [e15] at h
    exact h
  · rw [g4]
    rfl
theorem sim_split {B : Int} {X M : LU} {f : Nat → Int64} (hR : Rel B X M) (hB : B ≤ 5110000) (x : Int32) (y : Int32) {k : Int32} {s2 : LU × (Nat → Int64)} {rb : Int32} {M' : LU} (hX : wX_split X f x y k s2) (hM : pM_split M x y rb M') : Rel (B + 10000) s2.1 M' ∧ M' 0 0 = k ∧ (k = 0 → s2.2 0 = rb.toInt64) := by
  have hU := hR.up (show B ≤ B + 10000 by omega)
  obtain ⟨⟨e4, e12, e16, e17, h2, h7, h15, h1⟩, hS, hL, hZ, hN, hW⟩ := id hR
  rcases hX with ⟨rfl, r0, v, ⟨n, j, rfl, hn, hy, ⟨g6, g24⟩, hj24, hj, rfl, rfl⟩, rfl⟩ | ⟨rfl, hx, rfl⟩ | ⟨rfl, hx, rfl⟩ | ⟨rfl, hx, rfl⟩
  · rw [e12] at hn hj g24
    have hi : (nI n).toInt = (n : Int) := ti_nI (by omega)
    rw [hN n hn] at hy
    rw [(hL n hn).1] at g6
    rcases hM with ⟨hm, rfl⟩ | ⟨w, hw, hwn, ⟨hq', rfl⟩ | ⟨hq', hq2, rfl⟩ | ⟨hq', hq2, j', hj24', hj', rfl, rfl⟩⟩
    · exact absurd ⟨by omega, by omega⟩ hm
    · obtain rfl : w = n := nI_inj2 hw (by omega) (by omega)
      exact absurd hy hq'
    · obtain rfl : w = n := nI_inj2 hw (by omega) (by omega)
      exact absurd ⟨g6, by omega⟩ hq2
    · obtain rfl : w = n := nI_inj2 hw (by omega) (by omega)
      have hj2 := hj'
      rw [hj] at hj2
      obtain rfl : j' = j := nI_inj2 hj2 (by omega) (by omega)
      obtain ⟨g1, g2⟩ := split_rel hU hn hj hj24 g6 (y := y) (by omega)
      exact ⟨g1, g2, fun _ => updL_ti f rfl⟩
  · unfold eX_split at hx
    rw [e12] at hx
    rcases hx with ⟨-, hx⟩ | ⟨n, rfl, hn, ⟨hx, -⟩ | ⟨hx, -⟩⟩
    · rcases hM with ⟨hm, rfl⟩ | ⟨w, rfl, hwn, hq⟩
      · exact ⟨hU.th 1, rfl, fun h => absurd h (by decide)⟩
      · have hj : (nI w).toInt = (w : Int) := ti_nI (by omega)
        exact absurd ⟨by omega, by omega⟩ hx
    · exact absurd hx (by decide)
    · exact absurd hx (by decide)
  · unfold eX_split at hx
    rw [e12] at hx
    rcases hx with ⟨hx, -⟩ | ⟨n, rfl, hn, ⟨-, hx⟩ | ⟨hx, -⟩⟩
    · exact absurd hx (by decide)
    · have hi : (nI n).toInt = (n : Int) := ti_nI (by omega)
      rw [hN n hn] at hx
      rcases hM with ⟨hm, rfl⟩ | ⟨w, hw, hwn, ⟨hq', rfl⟩ | ⟨hq', hq2, rfl⟩ | ⟨hq', hq2, j', hj24', hj', rfl, rfl⟩⟩
      · exact absurd ⟨by omega, by omega⟩ hm
      · exact ⟨hU.th 2, rfl, fun h => absurd h (by decide)⟩
      · obtain rfl : w = n := nI_inj2 hw (by omega) (by omega)
        exact absurd hq' hx
      · obtain rfl : w = n := nI_inj2 hw (by omega) (by omega)
        exact absurd hq' hx
    · exact absurd hx (by decide)
  · unfold eX_split at hx
    rw [e12] at hx
    rcases hx with ⟨hx, -⟩ | ⟨n, rfl, hn, ⟨hx, -⟩ | ⟨-, hx, hx2⟩⟩
    · exact absurd hx (by decide)
    · exact absurd hx (by decide)
    · have hi : (nI n).toInt = (n : Int) := ti_nI (by omega)
      rw [hN n hn] at hx
      rw [(hL n hn).1] at hx2
      rcases hM with ⟨hm, rfl⟩ | ⟨w, hw, hwn, ⟨hq', rfl⟩ | ⟨hq', hq2, rfl⟩ | ⟨hq', hq2, j', hj24', hj', rfl, rfl⟩⟩
      · exact absurd ⟨by omega, by omega⟩ hm
      · obtain rfl : w = n := nI_inj2 hw (by omega) (by omega)
        exact absurd hx hq'
      · exact ⟨hU.th 3, rfl, fun h => absurd h (by decide)⟩
      · obtain rfl : w = n := nI_inj2 hw (by omega) (by omega)
        exact absurd ⟨hq2.1, by omega⟩ hx2
theorem sim_merge {B : Int} {X M : LU} {f : Nat → Int64} (hR : Rel B X M) (hB : B ≤ 5110000) (x : Int32) (y : Int32) {k : Int32} {s2 : LU × (Nat → Int64)} {rb : Int32} {M' : LU} (hX : wX_merge X f x y k s2) (hM : pM_merge M x y rb M') : Rel (B + 10000) s2.1 M' ∧ M' 0 0 = k ∧ (k = 0 → s2.2 0 = rb.toInt64) := by
  have hU := hR.up (show B ≤ B + 10000 by omega)
  obtain ⟨⟨e4, e12, e16, e17, h2, h7, h15, h1⟩, hS, hL, hZ, hN, hW⟩ := id hR
  have hcond : ∀ n k : Nat, (n : Int) < (M 0 7).toInt → (k : Int) < (M 0 7).toInt → ((((X 6 n).toInt = 0 ∧ (X 9 n).toInt = 0) ∧ ((X 6 k).toInt = 0 ∧ (X 9 k).toInt = 0) ∧ (X 7 n).toInt = (X 7 k).toInt) ↔ (((M 9 n).toInt = 0 ∧ (M 13 n).toInt = 0) ∧ ((M 9 k).toInt = 0 ∧ (M 13 k).toInt = 0) ∧ (M 10 n).toInt = (M 10 k).toInt)) := fun n k hn hk => by
    obtain ⟨n6, n6b, n9, n10, n10b, n11, n11b, n7, -⟩ := hL n hn
    obtain ⟨k6, k6b, k9, k10, k10b, k11, k11b, k7, -⟩ := hL k hk
    rw [n6, k6, n9, k9]
    constructor
    · rintro ⟨⟨a, b⟩, ⟨c, d⟩, q⟩
      rw [(n7 (by omega)).1, (k7 (by omega)).1] at q
      exact ⟨⟨a, b⟩, ⟨c, d⟩, q⟩
    · rintro ⟨⟨a, b⟩, ⟨c, d⟩, q⟩
      rw [(n7 (by omega)).1, (k7 (by omega)).1]
      exact ⟨⟨a, b⟩, ⟨c, d⟩, q⟩
  rcases hX with ⟨rfl, r0, v, ⟨n, j, rfl, hn, rfl, hj, hnj, hq0, rfl, rfl⟩, rfl⟩ | ⟨rfl, hx, rfl⟩ | ⟨rfl, hx, rfl⟩ | ⟨rfl, hx, rfl⟩
  · rw [e12] at hn hj
    have hi : (nI n).toInt = (n : Int) := ti_nI (by omega)
    have hji : (nI j).toInt = (j : Int) := ti_nI (by omega)
    have hq0' := (hcond n j hn hj).1 hq0
    rcases hM with ⟨hm, rfl⟩ | ⟨w, z, hw, hwn, hz, hzn, ⟨hq, rfl⟩ | ⟨hq, hq2, rfl⟩ | ⟨hq, hq2, rfl, rfl⟩⟩
    · exact absurd ⟨⟨by omega, by omega⟩, by omega, by omega⟩ hm
    all_goals
      obtain rfl : w = n := nI_inj2 hw (by omega) (by omega)
      obtain rfl : z = j := nI_inj2 hz (by omega) (by omega)
    · exact absurd hq hnj
    · exact absurd hq0' hq2
    · obtain ⟨g1, g2, g3⟩ := merge_rel hU hn hj hnj hq0'.1.1 hq0'.2.1.1
      exact ⟨g1, g3, fun _ => updL_ti f g2⟩
  · unfold eX_merge at hx
    rw [e12] at hx
    rcases hx with ⟨-, hx⟩ | ⟨n, j, rfl, hn, rfl, hj, ⟨hx, -⟩ | ⟨hx, -⟩⟩
    · rcases hM with ⟨hm, rfl⟩ | ⟨w, z, rfl, hwn, rfl, hzn, hq⟩
      · exact ⟨hU.th 1, rfl, fun h => absurd h (by decide)⟩
      · have hj1 : (nI w).toInt = (w : Int) := ti_nI (by omega)
        have hj2 : (nI z).toInt = (z : Int) := ti_nI (by omega)
        exact absurd ⟨⟨by omega, by omega⟩, by omega, by omega⟩ hx
    · exact absurd hx (by decide)
    · exact absurd hx (by decide)
  · unfold eX_merge at hx
    rw [e12] at hx
    rcases hx with ⟨hx, -⟩ | ⟨n, j, rfl, hn, rfl, hj, ⟨-, hx⟩ | ⟨hx, -⟩⟩
    · exact absurd hx (by decide)
    · have hi : (nI n).toInt = (n : Int) := ti_nI (by omega)
      have hji : (nI j).toInt = (j : Int) := ti_nI (by omega)
      rcases hM with ⟨hm, rfl⟩ | ⟨w, z, hw, hwn, hz, hzn, ⟨hq, rfl⟩ | ⟨hq, hq2, rfl⟩ | ⟨hq, hq2, rfl, rfl⟩⟩
      · exact absurd ⟨⟨by omega, by omega⟩, by omega, by omega⟩ hm
      · exact ⟨hU.th 2, rfl, fun h => absurd h (by decide)⟩
      · obtain rfl : w = n := nI_inj2 hw (by omega) (by omega)
        obtain rfl : z = j := nI_inj2 hz (by omega) (by omega)
        exact absurd hx hq
      · obtain rfl : w = n := nI_inj2 hw (by omega) (by omega)
        obtain rfl : z = j := nI_inj2 hz (by omega) (by omega)
        exact absurd hx hq
    · exact absurd hx (by decide)
  · unfold eX_merge at hx
    rw [e12] at hx
    rcases hx with ⟨hx, -⟩ | ⟨n, j, rfl, hn, rfl, hj, ⟨hx, -⟩ | ⟨-, hx, hx2⟩⟩
    · exact absurd hx (by decide)
    · exact absurd hx (by decide)
    · have hi : (nI n).toInt = (n : Int) := ti_nI (by omega)
      have hji : (nI j).toInt = (j : Int) := ti_nI (by omega)
      rcases hM with ⟨hm, rfl⟩ | ⟨w, z, hw, hwn, hz, hzn, ⟨hq, rfl⟩ | ⟨hq, hq2, rfl⟩ | ⟨hq, hq2, rfl, rfl⟩⟩
      · exact absurd ⟨⟨by omega, by omega⟩, by omega, by omega⟩ hm
      · obtain rfl : w = n := nI_inj2 hw (by omega) (by omega)
        obtain rfl : z = j := nI_inj2 hz (by omega) (by omega)
        exact absurd hq hx
      · exact ⟨hU.th 3, rfl, fun h => absurd h (by decide)⟩
      · obtain rfl : w = n := nI_inj2 hw (by omega) (by omega)
        obtain rfl : z = j := nI_inj2 hz (by omega) (by omega)
        exact absurd ((hcond _ _ hn hj).2 hq2) hx2
