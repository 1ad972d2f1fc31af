/-! the calls that change one lot or the route -/
theorem nI_inj2 {n w : Nat} (h : nI n = nI w) (h1 : n < 2000000000) (h2 : w < 2000000000) : w = n := by
  have e1 := ti_nI h1
  have e2 := ti_nI h2
  rw [h] at e1
  omega
theorem upd_c {f g : Nat → Int32} (n : Nat) (v : Int32) {l : Nat} (h : f l = g l) : upd f n v l = upd g n v l := by
  by_cases e : l = n
  · subst e
    rw [upd_s, upd_s]
  · rw [upd_n e, upd_n e, h]
theorem ctA_upd (f : Nat → Int32) (x v : Int32) (n : Nat) : ∀ L, ctA (upd f n v) x L + (if n < L ∧ (f n).toInt = x.toInt then 1 else 0) = ctA f x L + (if n < L ∧ v.toInt = x.toInt then 1 else 0)
  | 0 => by
    rw [if_neg (by omega), if_neg (by omega)]
    rfl
  | L + 1 => by
    have ih := ctA_upd f x v n L
    simp only [ctA]
    by_cases e : L = n
    · subst e
      rw [if_neg (by omega), if_neg (by omega)] at ih
      rw [upd_s]
      by_cases q1 : (f L).toInt = x.toInt <;> by_cases q2 : v.toInt = x.toInt
      · rw [if_pos q2, if_pos ⟨by omega, q1⟩, if_pos q1, if_pos ⟨by omega, q2⟩]
        omega
      · rw [if_neg q2, if_pos ⟨by omega, q1⟩, if_pos q1, if_neg (fun z => q2 z.2)]
        omega
      · rw [if_pos q2, if_neg (fun z => q1 z.2), if_neg q1, if_pos ⟨by omega, q2⟩]
        omega
      · rw [if_neg q2, if_neg (fun z => q1 z.2), if_neg q1, if_neg (fun z => q2 z.2)]
        omega
    · rw [upd_n e]
      have hn : ∀ P : Prop, (n < L + 1 ∧ P) ↔ (n < L ∧ P) := fun P => ⟨fun z => ⟨by omega, z.2⟩, fun z => ⟨by omega, z.2⟩⟩
      have e1 : (if n < L + 1 ∧ (f n).toInt = x.toInt then 1 else 0) = (if n < L ∧ (f n).toInt = x.toInt then 1 else 0) := by simp only [hn]
      have e2 : (if n < L + 1 ∧ v.toInt = x.toInt then 1 else 0) = (if n < L ∧ v.toInt = x.toInt then 1 else 0) := by simp only [hn]
      rw [e1, e2]
      split <;> omega
/-- neither the old nor the new value counts -/
theorem ctA_n {f : Nat → Int32} {x v : Int32} {n : Nat} (L : Nat) (h1 : ¬ (f n).toInt = x.toInt) (h2 : ¬ v.toInt = x.toInt) : ctA (upd f n v) x L = ctA f x L := by
  have h := ctA_upd f x v n L
  rw [if_neg (fun z => h1 z.2), if_neg (fun z => h2 z.2)] at h
  exact h
/-- the old value counts no less than the new -/
theorem ctA_ge {f : Nat → Int32} {x v : Int32} {n : Nat} (L : Nat) (h1 : ¬ (f n).toInt = x.toInt) : ctA f x L ≤ ctA (upd f n v) x L := by
  have h := ctA_upd f x v n L
  rw [if_neg (fun z => h1 z.2)] at h
  omega
theorem RW_keep {x m x' m' : LU} (h : RW x m) (h14 : x' 14 = x 14) (h16 : x' 16 = x 16) (hr : ∀ w, x' (100 + w) = x (100 + w)) (g17 : m' 17 = m 17) (g18 : m' 18 = m 18) (g19 : m' 19 = m 19) (gW : m' 0 15 = m 0 15) (gL : (m 0 7).toInt ≤ (m' 0 7).toInt) (gE : endM m ≤ endM m') : RW x' m' := by
  intro w hw
  obtain ⟨ha, hb⟩ := h w hw
  rw [h16, g17, g18, gW]
  refine ⟨fun q => ?_, hb⟩
  obtain ⟨b1, b2, b3, b4, b5, b6⟩ := ha q
  unfold RW1
  rw [h14, h16, hr, g17, g18, g19]
  exact ⟨b1, by omega, b3, b4, by omega, b6⟩
theorem hold_rel {B : Int} {x m : LU} (hR : Rel B x m) {n : Nat} (hn : (n : Int) < (m 0 7).toInt) (P : Prop) : Rel B (up x 9 (upd (x 9) n (bP P))) (up (thM m 0) 13 (upd (m 13) n (bP P))) := by
  obtain ⟨hC, hS, hL, hZ, hN, hW⟩ := hR
  refine ⟨hC, hS, ?_, ?_, hN, RW_keep hW rfl rfl (fun w => up_n _ _ _ (by omega)) rfl rfl rfl rfl (Int.le_refl _) (Nat.le_refl _)⟩
  · intro l hl
    obtain ⟨a6, a6b, a9, r⟩ := hL l hl
    exact ⟨a6, a6b, upd_c n (bP P) a9, r⟩
  · intro l hl
    obtain ⟨z9, z⟩ := hZ l hl
    refine ⟨?_, fun q => ⟨(z q).1, (z q).2.1, ?_, (z q).2.2.2⟩⟩
    · show upd (x 9) n (bP P) l = 0 ∨ upd (x 9) n (bP P) l = 1
      by_cases e : l = n
      · subst e
        rw [upd_s]
        exact bP_or P
      · rw [upd_n e]
        exact z9
    · show upd (m 13) n (bP P) l = 0
      have q' : (m 0 7).toInt ≤ l := q
      rw [upd_n (by omega)]
      exact (z q').2.2.1
theorem start_rel {B : Int} {x m : LU} (hR : Rel B x m) (hB : B ≤ 5200000) {n : Nat} (hn : (n : Int) < (m 0 7).toInt) (h9 : (m 9 n).toInt = 0) : Rel B (saX x n) (saM m n) ∧ x 0 17 + x 2 (x 7 n).toNatClampNeg = m 0 1 + m 5 (m 10 n).toNatClampNeg := by
  obtain ⟨hC, hS, hL, hZ, hN, hW⟩ := hR
  have e17 := hC.2.2.2.1
  have h1 := hC.2.2.2.2.2.2.2
  have h7 := hC.2.2.2.2.2.1
  obtain ⟨a6, a6b, a9, a10, a10b, a11, a11b, a7, a7', a8, a8'⟩ := hL n hn
  obtain ⟨b7, b7l, b7h⟩ := a7 (by omega)
  have hk := tnc b7l
  obtain ⟨-, s2, -, -, s2b, -⟩ := hS (m 10 n).toNatClampNeg (by omega)
  have hv : x 0 17 + x 2 (x 7 n).toNatClampNeg = m 0 1 + m 5 (m 10 n).toNatClampNeg := by rw [e17, b7, s2]
  have hs : (m 0 1 + m 5 (m 10 n).toNatClampNeg).toInt = (m 0 1).toInt + (m 5 (m 10 n).toNatClampNeg).toInt := ti_add (by omega) (by omega)
  have E3 : endM (saM m n) = endM m := ctA_n (m 0 7).toInt.toNat (by rw [h9]; decide) (by decide)
  refine ⟨⟨hC, hS, ?_, ?_, hN, RW_keep hW rfl rfl (fun w => ?_) rfl rfl rfl rfl (Int.le_refl _) (by rw [E3]; exact Nat.le_refl _)⟩, hv⟩
  · intro l hl
    by_cases e : l = n
    · subst e
      have F6 : saX x l 6 l = 1 := upd_s
      have F8 : saX x l 8 l = x 0 17 + x 2 (x 7 l).toNatClampNeg := upd_s
      have G9 : saM m l 9 l = 1 := upd_s
      have G12 : saM m l 12 l = m 0 1 + m 5 (m 10 l).toNatClampNeg := upd_s
      unfold RL1
      rw [F6, F8, G9, G12]
      refine ⟨rfl, by decide, a9, a10, a10b, a11, a11b, fun _ => ⟨b7, b7l, b7h⟩, fun q => absurd q (by decide), fun q => absurd q (by decide), fun _ => ⟨hv, ?_, ?_⟩⟩
      · omega
      · show (m 0 1 + m 5 (m 10 l).toNatClampNeg).toInt ≤ (m 0 1).toInt + 1000
        omega
    · have F6 : saX x n 6 l = x 6 l := upd_n e
      have F8 : saX x n 8 l = x 8 l := upd_n e
      have G9 : saM m n 9 l = m 9 l := upd_n e
      have G12 : saM m n 12 l = m 12 l := upd_n e
      unfold RL1
      rw [F6, F8, G9, G12]
      exact hL l hl
  · intro l hl
    obtain ⟨z9, z⟩ := hZ l hl
    refine ⟨z9, fun q => ⟨?_, (z q).2⟩⟩
    have q' : (m 0 7).toInt ≤ l := q
    show upd (m 9) n 1 l = 0
    rw [upd_n (by omega)]
    exact (z q').1
  · unfold saX
    rw [up_n _ _ _ (by omega), up_n _ _ _ (by omega)]
theorem rework_rel {B : Int} {x m : LU} (hR : Rel B x m) {n : Nat} (hn : (n : Int) < (m 0 7).toInt) (h9 : (m 9 n).toInt = 0) (h14 : (m 14 n).toInt < 2) : Rel B (rwX x n) (rwM m n) ∧ x 4 (x 7 n).toNatClampNeg = m 7 (m 10 n).toNatClampNeg := by
  obtain ⟨hC, hS, hL, hZ, hN, hW⟩ := hR
  have e17 := hC.2.2.2.1
  have h1 := hC.2.2.2.2.2.2.2
  have h7 := hC.2.2.2.2.2.1
  obtain ⟨a6, a6b, a9, a10, a10b, a11, a11b, a7, a7', a8, a8'⟩ := hL n hn
  obtain ⟨b7, b7l, b7h⟩ := a7 (by omega)
  have hk := tnc b7l
  obtain ⟨-, -, -, s4, -, -, s4b⟩ := hS (m 10 n).toNatClampNeg (by omega)
  have hv : x 4 (x 7 n).toNatClampNeg = m 7 (m 10 n).toNatClampNeg := by rw [b7, s4]
  have e1 : (1 : Int32).toInt = 1 := rfl
  have hs : (m 14 n + 1).toInt = (m 14 n).toInt + 1 := ti_add (by rw [e1]; omega) (by rw [e1]; omega)
  refine ⟨⟨hC, hS, ?_, ?_, hN, RW_keep hW rfl rfl (fun w => ?_) rfl rfl rfl rfl (Int.le_refl _) (Nat.le_refl _)⟩, hv⟩
  · intro l hl
    by_cases e : l = n
    · subst e
      have F7 : rwX x l 7 l = x 4 (x 7 l).toNatClampNeg := upd_s
      have F8 : rwX x l 8 l = x 0 17 := upd_s
      have F10 : rwX x l 10 l = x 10 l + 1 := upd_s
      have G10 : rwM m l 10 l = m 7 (m 10 l).toNatClampNeg := upd_s
      have G11 : rwM m l 11 l = m 0 1 := upd_s
      have G14 : rwM m l 14 l = m 14 l + 1 := upd_s
      have G9 : rwM m l 9 l = m 9 l := rfl
      unfold RL1
      rw [F7, F8, F10, G10, G11, G14, G9, h9]
      refine ⟨a6, by decide, a9, by rw [a10], by omega, a11, a11b, fun _ => ⟨hv, by omega, ?_⟩, fun q => absurd q (by decide), fun _ => ⟨e17, by omega, Int.le_refl _⟩, fun q => absurd q (by decide)⟩
      show (m 7 (m 10 l).toNatClampNeg).toInt < (m 0 2).toInt
      omega
    · have F7 : rwX x n 7 l = x 7 l := upd_n e
      have F8 : rwX x n 8 l = x 8 l := upd_n e
      have F10 : rwX x n 10 l = x 10 l := upd_n e
      have G10 : rwM m n 10 l = m 10 l := upd_n e
      have G11 : rwM m n 11 l = m 11 l := upd_n e
      have G14 : rwM m n 14 l = m 14 l := upd_n e
      unfold RL1
      rw [F7, F8, F10, G10, G11, G14]
      exact hL l hl
  · intro l hl
    obtain ⟨z9, z⟩ := hZ l hl
    refine ⟨z9, fun q => ?_⟩
    have q' : (m 0 7).toInt ≤ l := q
    obtain ⟨z1, z2, z3, z4⟩ := z q'
    refine ⟨z1, ?_, z3, ?_⟩
    · show upd (m 10) n _ l = 0
      rw [upd_n (by omega)]
      exact z2
    · show upd (m 14) n _ l = 0
      rw [upd_n (by omega)]
      exact z4
  · unfold rwX
    rw [up_n _ _ _ (by omega), up_n _ _ _ (by omega), up_n _ _ _ (by omega)]
theorem add_rel {B : Int} {u m : LU} (hR : Rel B u m) (h7 : (m 0 7).toInt ≤ 0) (h2 : (m 0 2).toInt < 12) (x y z b : Int32) (hy : 1 ≤ y.toInt ∧ y.toInt ≤ 1000) (hz : 0 ≤ z.toInt ∧ z.toInt ≤ 10000) (hb : 0 ≤ b.toInt ∧ b.toInt ≤ (m 0 2).toInt) : Rel B (asX u x y z b) (asM m x y z b) := by
  obtain ⟨⟨e4, e12, e16, e17, h2b, h7b, h15, h1⟩, hS, hL, hZ, hN, hW⟩ := hR
  have e1 : (1 : Int32).toInt = 1 := rfl
  have hs : (m 0 2 + 1).toInt = (m 0 2).toInt + 1 := ti_add (by rw [e1]; omega) (by rw [e1]; omega)
  have hk := tnc h2b.1
  refine ⟨⟨congrArg (fun q => q + 1) e4, e12, e16, e17, ?_, h7b, h15, h1⟩, ?_, ?_, hZ, hN, RW_keep hW rfl rfl (fun w => ?_) rfl rfl rfl rfl (Int.le_refl _) (Nat.le_refl _)⟩
  · show 0 ≤ (m 0 2 + 1).toInt ∧ (m 0 2 + 1).toInt ≤ 12
    omega
  · intro k hk'
    have hk2 : (k : Int) < (m 0 2 + 1).toInt := hk'
    unfold RS1
    show upd (u 1) (u 0 4).toNatClampNeg x k = upd (m 4) (m 0 2).toNatClampNeg x k ∧ upd (u 2) (u 0 4).toNatClampNeg y k = upd (m 5) (m 0 2).toNatClampNeg y k ∧ upd (u 3) (u 0 4).toNatClampNeg z k = upd (m 6) (m 0 2).toNatClampNeg z k ∧ upd (u 4) (u 0 4).toNatClampNeg b k = upd (m 7) (m 0 2).toNatClampNeg b k ∧ (1 ≤ (upd (m 5) (m 0 2).toNatClampNeg y k).toInt ∧ (upd (m 5) (m 0 2).toNatClampNeg y k).toInt ≤ 1000) ∧ (0 ≤ (upd (m 6) (m 0 2).toNatClampNeg z k).toInt ∧ (upd (m 6) (m 0 2).toNatClampNeg z k).toInt ≤ 10000) ∧ (0 ≤ (upd (m 7) (m 0 2).toNatClampNeg b k).toInt ∧ (upd (m 7) (m 0 2).toNatClampNeg b k).toInt ≤ k)
    rw [e4]
    by_cases e : k = (m 0 2).toNatClampNeg
    · subst e
      simp only [upd_s]
      exact ⟨trivial, trivial, trivial, trivial, hy, hz, by omega⟩
    · simp only [upd_n e]
      exact hS k (by omega)
  · intro l hl
    have hl' : (l : Int) < (m 0 7).toInt := hl
    omega
  · unfold asX
    rw [up_n _ _ _ (by omega), up_n _ _ _ (by omega), up_n _ _ _ (by omega), up_n _ _ _ (by omega), up_n _ _ _ (by omega)]
theorem sim_addStep {B : Int} {X M : LU} {f : Nat → Int64} (hR : Rel B X M) (hB : B ≤ 5110000) (x : Int32) (y : Int32) (z : Int32) (b : Int32) {k : Int32} {s2 : LU × (Nat → Int64)} {rb : Int32} {M' : LU} (hX : wX_addStep X f x y z b k s2) (hM : pM_addStep M x y z b rb M') : Rel (B + 10000) s2.1 M' ∧ M' 0 0 = k ∧ (k = 0 → s2.2 0 = rb.toInt64) := by
  have hU := hR.up (show B ≤ B + 10000 by omega)
  obtain ⟨⟨e4, e12, e16, e17, h2, h7, h15, h1⟩, hS, hL, hZ, hN, hW⟩ := id hR
  have hx1 : ∀ q : Int32, q + 1 - 1 = q := fun q => Int32.add_sub_cancel q 1
  rcases hX with ⟨rfl, r0, v, ⟨p1, p2, p3, rfl, rfl⟩, rfl⟩ | ⟨rfl, hx, rfl⟩ | ⟨rfl, hx, rfl⟩ | ⟨rfl, hx, rfl⟩
  · rw [e4] at p2 p3
    rw [e12] at p3
    rcases hM with ⟨hm, rfl⟩ | ⟨hm, hm2, rfl⟩ | ⟨hm, hm2, hm3, rfl⟩ | ⟨hm, hm2, hm3, rfl, rfl⟩
    · exact absurd p1 hm
    · exact absurd p2 hm2
    · exact absurd ⟨by omega, p3.2⟩ hm3
    · refine ⟨add_rel hU p3.2 p3.1 x y z b p2.1 p2.2.1 p2.2.2, rfl, fun _ => ?_⟩
      refine updL_ti f ?_
      rw [hx1, e4]
  all_goals
    unfold eX_addStep at hx
    rw [e4, e12] at hx
    rcases hM with ⟨hm, rfl⟩ | ⟨hm, hm2, rfl⟩ | ⟨hm, hm2, hm3, rfl⟩ | ⟨hm, hm2, hm3, rfl, rfl⟩ <;> rcases hx with ⟨y0, y1⟩ | ⟨y0, y1, y2⟩ | ⟨y0, y1, y2, y3⟩
    all_goals first
      | exact absurd y0 (by decide)
      | exact absurd hm y1
      | exact absurd y1 hm
      | exact absurd y2 hm2
      | exact absurd hm2 y2
      | exact ⟨hU.th _, rfl, fun h => absurd h (by decide)⟩
      | exact absurd ⟨by omega, hm3.2⟩ y3
theorem sim_hold {B : Int} {X M : LU} {f : Nat → Int64} (hR : Rel B X M) (hB : B ≤ 5110000) (x : Int32) (P9 : Prop) {k : Int32} {s2 : LU × (Nat → Int64)} {rb : Int32} {M' : LU} (hX : wX_hold X f x P9 k s2) (hM : pM_hold M x P9 rb M') : Rel (B + 10000) s2.1 M' ∧ M' 0 0 = k ∧ (k = 0 → s2.2 0 = lbI rb) := by
  have hU := hR.up (show B ≤ B + 10000 by omega)
  obtain ⟨⟨e4, e12, e16, e17, h2, h7, h15, h1⟩, hS, hL, hZ, hN, hW⟩ := id hR
  rcases hX with ⟨rfl, r0, v, ⟨n, rfl, hn, hq, rfl, rfl⟩, rfl⟩ | ⟨rfl, hx, rfl⟩ | ⟨rfl, hx, rfl⟩
  · rw [e12] at hn
    have hi : (nI n).toInt = (n : Int) := ti_nI (by omega)
    rw [(hL n hn).1] at hq
    have a6b := (hL n hn).2.1
    rcases hM with ⟨hm, rfl⟩ | ⟨w, hw, hwn, ⟨hq', rfl⟩ | ⟨hq', rfl, rfl⟩⟩
    · exact absurd ⟨by omega, by omega⟩ hm
    · obtain rfl : w = n := nI_inj2 hw (by omega) (by omega)
      omega
    · obtain rfl : w = n := nI_inj2 hw (by omega) (by omega)
      refine ⟨hold_rel hU hn P9, rfl, fun _ => ?_⟩
      exact updL_lb f (hL w hn).2.2.1
  · unfold eX_hold at hx
    rw [e12] at hx
    rcases hx with ⟨-, hx⟩ | ⟨hx, -⟩
    · rcases hM with ⟨hm, rfl⟩ | ⟨w, rfl, hwn, hq⟩
      · exact ⟨hU.th 1, rfl, fun h => absurd h (by decide)⟩
      · have hj : (nI w).toInt = (w : Int) := ti_nI (by omega)
        exact absurd ⟨by omega, by omega⟩ hx
    · exact absurd hx (by decide)
  · unfold eX_hold at hx
    rw [e12] at hx
    rcases hx with ⟨hx, -⟩ | ⟨-, n, rfl, hn, hq⟩
    · exact absurd hx (by decide)
    · have hi : (nI n).toInt = (n : Int) := ti_nI (by omega)
      rw [(hL n hn).1] at hq
      have a6b := (hL n hn).2.1
      rcases hM with ⟨hm, rfl⟩ | ⟨w, hw, hwn, ⟨hq', rfl⟩ | ⟨hq', rfl, rfl⟩⟩
      · exact absurd ⟨by omega, by omega⟩ hm
      · exact ⟨hU.th 2, rfl, fun h => absurd h (by decide)⟩
      · obtain rfl : w = n := nI_inj2 hw (by omega) (by omega)
        omega
theorem sim_start {B : Int} {X M : LU} {f : Nat → Int64} (hR : Rel B X M) (hB : B ≤ 5110000) (x : Int32) {k : Int32} {s2 : LU × (Nat → Int64)} {rb : Int32} {M' : LU} (hX : wX_start X f x k s2) (hM : pM_start M x rb M') : Rel (B + 10000) s2.1 M' ∧ M' 0 0 = k ∧ (k = 0 → s2.2 0 = rb.toInt64) := by
  have hU := hR.up (show B ≤ B + 10000 by omega)
  obtain ⟨⟨e4, e12, e16, e17, h2, h7, h15, h1⟩, hS, hL, hZ, hN, hW⟩ := id hR
  rcases hX with ⟨rfl, r0, v, ⟨n, rfl, hn, ⟨hr, hs, hb⟩, rfl, rfl⟩, rfl⟩ | ⟨rfl, hx, rfl⟩ | ⟨rfl, hx, rfl⟩
  · rw [e12] at hn
    have hi : (nI n).toInt = (n : Int) := ti_nI (by omega)
    obtain ⟨a6, a6b, a9, a10, a10b, a11, a11b, a7, a7', a8, a8'⟩ := hL n hn
    obtain ⟨s1, s2, s3⟩ := sl_eq hR (by omega) hn
    obtain ⟨⟨q1, q2⟩, q3⟩ := hr
    rw [a6] at q1
    rw [a9] at q2
    obtain ⟨b7, b7l, b7h⟩ := a7 (by omega)
    have hk := tnc b7l
    have t1 := (hS (M 10 n).toNatClampNeg (by omega)).1
    rw [b7, t1, bu_eq hR] at hb
    rcases hM with ⟨hm, rfl⟩ | ⟨w, hw, hwn, ⟨hq', rfl⟩ | ⟨hq', rfl, rfl⟩⟩
    · exact absurd ⟨by omega, by omega⟩ hm
    · obtain rfl : w = n := nI_inj2 hw (by omega) (by omega)
      exact absurd ⟨q1, q2, fun z => by have := s2.2 z; omega, hb⟩ hq'
    · obtain rfl : w = n := nI_inj2 hw (by omega) (by omega)
      obtain ⟨g1, g2⟩ := start_rel hU (by omega) hn q1
      exact ⟨g1, rfl, fun _ => updL_ti f g2⟩
  · unfold eX_start at hx
    rw [e12] at hx
    rcases hx with ⟨-, hx⟩ | ⟨hx, -⟩
    · rcases hM with ⟨hm, rfl⟩ | ⟨w, rfl, hwn, hq⟩
      · exact ⟨hU.th 1, rfl, fun h => absurd h (by decide)⟩
      · have hj : (nI w).toInt = (w : Int) := ti_nI (by omega)
        exact absurd ⟨by omega, by omega⟩ hx
    · exact absurd hx (by decide)
  · unfold eX_start at hx
    rw [e12] at hx
    rcases hx with ⟨hx, -⟩ | ⟨-, n, rfl, hn, hq⟩
    · exact absurd hx (by decide)
    · have hi : (nI n).toInt = (n : Int) := ti_nI (by omega)
      obtain ⟨a6, a6b, a9, a10, a10b, a11, a11b, a7, a7', a8, a8'⟩ := hL n hn
      obtain ⟨s1, s2, s3⟩ := sl_eq hR (by omega) hn
      rcases hM with ⟨hm, rfl⟩ | ⟨w, hw, hwn, ⟨hq', rfl⟩ | ⟨hq', rfl, rfl⟩⟩
      · exact absurd ⟨by omega, by omega⟩ hm
      · exact ⟨(hU.th 0).th 2, rfl, fun h => absurd h (by decide)⟩
      · obtain rfl : w = n := nI_inj2 hw (by omega) (by omega)
        obtain ⟨q1, q2, q3, q4⟩ := hq'
        obtain ⟨b7, b7l, b7h⟩ := a7 (by omega)
        have hk := tnc b7l
        have t1 := (hS (M 10 w).toNatClampNeg (by omega)).1
        rw [b7, t1, bu_eq hR, e4] at hq
        refine absurd ⟨⟨⟨by rw [a6]; exact q1, by rw [a9]; exact q2⟩, Int.not_lt.1 (fun z => q3 (s2.1 z))⟩, ⟨b7l, b7h⟩, q4⟩ hq
theorem sim_rework {B : Int} {X M : LU} {f : Nat → Int64} (hR : Rel B X M) (hB : B ≤ 5110000) (x : Int32) {k : Int32} {s2 : LU × (Nat → Int64)} {rb : Int32} {M' : LU} (hX : wX_rework X f x k s2) (hM : pM_rework M x rb M') : Rel (B + 10000) s2.1 M' ∧ M' 0 0 = k ∧ (k = 0 → s2.2 0 = rb.toInt64) := by
  have hU := hR.up (show B ≤ B + 10000 by omega)
  obtain ⟨⟨e4, e12, e16, e17, h2, h7, h15, h1⟩, hS, hL, hZ, hN, hW⟩ := id hR
  rcases hX with ⟨rfl, r0, v, ⟨n, rfl, hn, ⟨⟨q1, q2⟩, hs, hb⟩, rfl, rfl⟩, rfl⟩ | ⟨rfl, hx, rfl⟩ | ⟨rfl, hx, rfl⟩
  · rw [e12] at hn
    have hi : (nI n).toInt = (n : Int) := ti_nI (by omega)
    obtain ⟨a6, a6b, a9, a10, a10b, a11, a11b, a7, a7', a8, a8'⟩ := hL n hn
    rw [a6] at q1
    rw [a9] at q2
    rw [a10] at hb
    rcases hM with ⟨hm, rfl⟩ | ⟨w, hw, hwn, ⟨hq', rfl⟩ | ⟨hq', rfl, rfl⟩⟩
    · exact absurd ⟨by omega, by omega⟩ hm
    · obtain rfl : w = n := nI_inj2 hw (by omega) (by omega)
      exact absurd ⟨q1, q2, by omega⟩ hq'
    · obtain rfl : w = n := nI_inj2 hw (by omega) (by omega)
      obtain ⟨g1, g2⟩ := rework_rel hU hn q1 hb
      exact ⟨g1, rfl, fun _ => updL_ti f g2⟩
  · unfold eX_rework at hx
    rw [e12] at hx
    rcases hx with ⟨-, hx⟩ | ⟨hx, -⟩
    · rcases hM with ⟨hm, rfl⟩ | ⟨w, rfl, hwn, hq⟩
      · exact ⟨hU.th 1, rfl, fun h => absurd h (by decide)⟩
      · have hj : (nI w).toInt = (w : Int) := ti_nI (by omega)
        exact absurd ⟨by omega, by omega⟩ hx
    · exact absurd hx (by decide)
  · unfold eX_rework at hx
    rw [e12] at hx
    rcases hx with ⟨hx, -⟩ | ⟨-, n, rfl, hn, hq⟩
    · exact absurd hx (by decide)
    · have hi : (nI n).toInt = (n : Int) := ti_nI (by omega)
      obtain ⟨a6, a6b, a9, a10, a10b, a11, a11b, a7, a7', a8, a8'⟩ := hL n hn
      rcases hM with ⟨hm, rfl⟩ | ⟨w, hw, hwn, ⟨hq', rfl⟩ | ⟨hq', rfl, rfl⟩⟩
      · exact absurd ⟨by omega, by omega⟩ hm
      · exact ⟨hU.th 2, rfl, fun h => absurd h (by decide)⟩
      · obtain rfl : w = n := nI_inj2 hw (by omega) (by omega)
        obtain ⟨q1, q2, q3⟩ := hq'
        obtain ⟨b7, b7l, b7h⟩ := a7 (by omega)
        rw [b7, e4, a6, a9, a10] at hq
        exact absurd ⟨⟨q1, q2⟩, ⟨b7l, b7h⟩, by omega⟩ hq
