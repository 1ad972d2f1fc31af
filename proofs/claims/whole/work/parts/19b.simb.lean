/-! nextFor, the wafers at a step in both counts, and common -/
theorem cif_c {α : Type} {P P' : Prop} {a b : α} (h : P ↔ P') : cif P a b = cif P' a b := congrArg (fun q => cif q a b) (propext h)
theorem ut_eq {B : Int} {x m : LU} (hR : Rel B x m) {n : Nat} (hn : (n : Int) < (m 0 7).toInt) (t : Int32) (h : (m 9 n).toInt ≤ 1) : utX x n t ↔ (m 4 (m 10 n).toNatClampNeg).toInt = t.toInt := by
  obtain ⟨⟨e4, e12, e16, e17, h2, h7, h15, h1⟩, hS, hL, hZ, hN, hW⟩ := hR
  obtain ⟨b7, b7l, b7h⟩ := (hL n hn).2.2.2.2.2.2.2.1 h
  have hk := tnc b7l
  have s1 := (hS (m 10 n).toNatClampNeg (by omega)).1
  unfold utX
  rw [b7, e4, s1]
  exact ⟨fun q => q.2, fun q => ⟨⟨b7l, b7h⟩, q⟩⟩
theorem bu_eq {B : Int} {x m : LU} (hR : Rel B x m) (t : Int32) : buX x t ↔ buM m t := by
  have hU := fun n hn h => ut_eq hR (n := n) hn t h
  obtain ⟨⟨e4, e12, e16, e17, h2, h7, h15, h1⟩, hS, hL, hZ, hN, hW⟩ := hR
  unfold buX buM buP
  rw [e12]
  constructor
  · rintro ⟨j, hj, h6, hu⟩
    rw [(hL j hj).1] at h6
    exact ⟨j, by omega, h6, (hU j hj (by omega)).1 hu⟩
  · rintro ⟨j, hj, h9, hu⟩
    have hj' : (j : Int) < (m 0 7).toInt := by omega
    exact ⟨j, hj', by rw [(hL j hj').1]; exact h9, (hU j hj' (by omega)).2 hu⟩
theorem nf_eq {B : Int} {x m : LU} (hR : Rel B x m) (hB : B ≤ 5200000) (t : Int32) : ∀ i : Nat, (i : Int) ≤ (m 0 7).toInt → (nfX x t i).1 = nfM m t i ∧ ((nfM m t i).toInt = -1 ∧ (nfX x t i).2 = 2000000 ∨ 0 ≤ (nfM m t i).toInt ∧ (nfX x t i).2 = lfM m (nfM m t i).toNatClampNeg) := by
  intro i
  induction i with
  | zero => intro _; exact ⟨rfl, Or.inl ⟨rfl, rfl⟩⟩
  | succ i ih =>
    intro hi
    obtain ⟨i1, i2⟩ := ih (by omega)
    have hn : (i : Int) < (m 0 7).toInt := by omega
    obtain ⟨s1, s2, s3⟩ := sl_eq hR hB hn
    have hu := ut_eq hR hn t
    obtain ⟨⟨e4, e12, e16, e17, h2, h7, h15, h1⟩, hS, hL, hZ, hN, hW⟩ := hR
    obtain ⟨a6, a6b, a9, -⟩ := hL i hn
    have hii : (nI i).toInt = (i : Int) := ti_nI (by omega)
    have hic : (nI i).toNatClampNeg = i := tn_nI (by omega)
    have hc : (rdX x i ∧ utX x i t ∧ (slX x i).toInt < (nfX x t i).2.toInt) ↔ (cnM m t i ∧ ((nfM m t i).toInt = -1 ∨ (lfM m i).toInt < (lfM m (nfM m t i).toNatClampNeg).toInt)) := by
      unfold rdX cnM
      rw [a6, a9]
      constructor
      · rintro ⟨⟨⟨q1, q2⟩, q3⟩, q4, q5⟩
        refine ⟨⟨q1, q2, fun z => ?_, (hu (by omega)).1 q4⟩, ?_⟩
        · have := s2.2 z
          omega
        · rcases i2 with ⟨z, -⟩ | ⟨z, z2⟩
          · exact Or.inl z
          · rw [z2, s1, if_pos q1] at q5
            exact Or.inr q5
      · rintro ⟨⟨q1, q2, q3, q4⟩, q5⟩
        refine ⟨⟨⟨q1, q2⟩, ?_⟩, (hu (by omega)).2 q4, ?_⟩
        · exact Int.not_lt.1 (fun z => q3 (s2.1 z))
        · rcases i2 with ⟨z, z2⟩ | ⟨z, z2⟩
          · rw [z2]
            exact s3 q1
          · rw [z2, s1, if_pos q1]
            rcases q5 with q5 | q5
            · omega
            · exact q5
    by_cases q : (cnM m t i ∧ ((nfM m t i).toInt = -1 ∨ (lfM m i).toInt < (lfM m (nfM m t i).toNatClampNeg).toInt))
    · have E1 : nfM m t (i + 1) = nI i := by simp only [nfM]; exact cif_t q
      have E2 : nfX x t (i + 1) = (nI i, slX x i) := by simp only [nfX]; exact cif_t (hc.2 q)
      rw [E1, E2]
      refine ⟨rfl, Or.inr ⟨by omega, ?_⟩⟩
      rw [hic]
      exact s1.trans (if_pos q.1.1)
    · have E1 : nfM m t (i + 1) = nfM m t i := by simp only [nfM]; exact cif_f q
      have E2 : nfX x t (i + 1) = nfX x t i := by simp only [nfX]; exact cif_f (fun z => q (hc.1 z))
      rw [E1, E2]
      exact ⟨i1, i2⟩
theorem sim_nextFor {B : Int} {X M : LU} {f : Nat → Int64} (hR : Rel B X M) (hB : B ≤ 5110000) (x : Int32) {k : Int32} {s2 : LU × (Nat → Int64)} {rb : Int32} {M' : LU} (hX : wX_nextFor X f x k s2) (hM : pM_nextFor M x rb M') : Rel (B + 10000) s2.1 M' ∧ M' 0 0 = k ∧ (k = 0 → s2.2 0 = rb.toInt64) := by
  have hU := hR.up (show B ≤ B + 10000 by omega)
  have hb := bu_eq hR x
  have hn := nf_eq hR (by omega) x
  have e12 := hR.1.2.1
  have h7 := hR.1.2.2.2.2.2.1
  rcases hX with ⟨rfl, r0, v, ⟨h1, hr, rfl⟩, rfl⟩ | ⟨rfl, ⟨-, hx⟩, rfl⟩
  · rcases hM with ⟨hm, rfl⟩ | ⟨hm, hr', rfl⟩
    · exact absurd h1 hm
    · refine ⟨hU.th 0, rfl, fun _ => ?_⟩
      refine updL_ti f ?_
      rcases hr with ⟨q, rfl⟩ | ⟨q, rfl⟩ <;> rcases hr' with ⟨q', rfl⟩ | ⟨q', rfl⟩
      · rfl
      · exact absurd (hb.1 q) q'
      · exact absurd (hb.2 q') q
      · rw [e12]
        exact (hn _ (by omega)).1
  · rcases hM with ⟨hm, rfl⟩ | ⟨hm, hr', rfl⟩
    · exact ⟨hU.th 1, rfl, fun h => absurd h (by decide)⟩
    · exact absurd hm hx
theorem wa_eq {B : Int} {x m : LU} (hR : Rel B x m) {t : Int32} (ht : 0 ≤ t.toInt) : ∀ i : Nat, (i : Int) ≤ (m 0 7).toInt → waX x t i = atM m t i := by
  obtain ⟨⟨e4, e12, e16, e17, h2, h7, h15, h1⟩, hS, hL, hZ, hN, hW⟩ := hR
  intro i
  induction i with
  | zero => intro _; rfl
  | succ i ih =>
    intro hi
    have hn : (i : Int) < (m 0 7).toInt := by omega
    obtain ⟨a6, a6b, a9, a10, a10b, a11, a11b, a7, a7', -⟩ := hL i hn
    simp only [waX, atM]
    rw [ih (by omega), hN i hn]
    by_cases q : (m 9 i).toInt ≤ 1
    · rw [(a7 q).1]
      by_cases z : (m 10 i).toInt = t.toInt
      · rw [if_pos z, if_pos ⟨q, z⟩]
      · rw [if_neg z, if_neg (fun y => z y.2), Int32.add_zero]
    · rw [a7' (by omega)]
      have : (-1 : Int32).toInt = -1 := rfl
      rw [if_neg (by omega), if_neg (fun y => q y.1), Int32.add_zero]
/-- the wafers of f below W that lie in a lot below i which keeps P -/
noncomputable def cw (f : Nat → Int32) (P : Nat → Prop) (i : Nat) : Nat → Nat
  | 0 => 0
  | w + 1 => cw f P i w + cif ((0 ≤ (f w).toInt ∧ (f w).toInt < i) ∧ P (f w).toNatClampNeg) 1 0
theorem cw_0 (f : Nat → Int32) (P : Nat → Prop) : ∀ W, cw f P 0 W = 0
  | 0 => rfl
  | W + 1 => by
    simp only [cw]
    rw [cw_0 f P W, cif_f (fun q => by have := q.1; omega)]
theorem cw_s (f : Nat → Int32) (P : Nat → Prop) {i : Nat} (hi : i < 2000000000) : ∀ W, cw f P (i + 1) W = cw f P i W + cif (P i) (ctA f (nI i) W) 0
  | 0 => by
    simp only [cw, ctA]
    rcases Classical.em (P i) with q | q
    · rw [cif_t q]
    · rw [cif_f q]
  | W + 1 => by
    have ih := cw_s f P hi W
    have hii : (nI i).toInt = (i : Int) := ti_nI hi
    simp only [cw, ctA]
    rw [ih]
    by_cases e : (f W).toInt = (i : Int)
    · have ec : (f W).toNatClampNeg = i := by
        have := tnc (x := f W) (by omega)
        omega
      rw [ec, if_pos (by omega)]
      rw [cif_f (fun z : (0 ≤ (f W).toInt ∧ (f W).toInt < (i : Int)) ∧ P i => by have := z.1; omega)]
      rcases Classical.em (P i) with q | q
      · rw [cif_t q, cif_t q, cif_t ⟨⟨by omega, by omega⟩, q⟩]
        omega
      · rw [cif_f q, cif_f q, cif_f (fun z => q z.2)]
    · rw [if_neg (by omega)]
      rw [cif_c (show ((0 ≤ (f W).toInt ∧ (f W).toInt < ((i + 1 : Nat) : Int)) ∧ P (f W).toNatClampNeg) ↔ ((0 ≤ (f W).toInt ∧ (f W).toInt < (i : Int)) ∧ P (f W).toNatClampNeg) from ⟨fun z => ⟨⟨z.1.1, by have := z.1; omega⟩, z.2⟩, fun z => ⟨⟨z.1.1, by have := z.1; omega⟩, z.2⟩⟩)]
      omega
theorem at_cw {m : LU} (t : Int32) : ∀ i : Nat, i ≤ 24 → atM m t i = nI (cw (m 17) (fun j => (m 9 j).toInt ≤ 1 ∧ (m 10 j).toInt = t.toInt) i (m 0 15).toInt.toNat)
  | 0, _ => by
    rw [cw_0]
    rfl
  | i + 1, hi => by
    have ih := at_cw (m := m) t i (by omega)
    simp only [atM]
    rw [ih, cw_s _ _ (by omega)]
    by_cases q : (m 9 i).toInt ≤ 1 ∧ (m 10 i).toInt = t.toInt
    · rw [if_pos q, cif_t q, nI_add]
    · rw [if_neg q, cif_f q, Int32.add_zero, Nat.add_zero]
theorem wb_cw {B : Int} {x m : LU} (hR : Rel B x m) {t : Int32} (ht : 0 ≤ t.toInt) : ∀ W : Nat, (W : Int) ≤ (m 0 15).toInt → wbX x t W = cw (m 17) (fun j => (m 9 j).toInt ≤ 1 ∧ (m 10 j).toInt = t.toInt) (m 0 7).toInt.toNat W := by
  obtain ⟨⟨e4, e12, e16, e17, h2, h7, h15, h1⟩, hS, hL, hZ, hN, hW⟩ := hR
  intro W
  induction W with
  | zero => intro _; rfl
  | succ W ih =>
    intro hi
    obtain ⟨w14, w17, -⟩ := (hW W (by omega)).1 (by omega)
    simp only [wbX, cw]
    rw [ih (by omega), w14, e12]
    have hT : (((m 0 7).toInt.toNat : Nat) : Int) = (m 0 7).toInt := Int.toNat_of_nonneg h7.1
    have hc : ((0 ≤ (m 17 W).toInt ∧ (m 17 W).toInt < (m 0 7).toInt) ∧ (x 7 (m 17 W).toNatClampNeg).toInt = t.toInt) ↔ ((0 ≤ (m 17 W).toInt ∧ (m 17 W).toInt < (((m 0 7).toInt.toNat : Nat) : Int)) ∧ ((m 9 (m 17 W).toNatClampNeg).toInt ≤ 1 ∧ (m 10 (m 17 W).toNatClampNeg).toInt = t.toInt)) := by
      rw [hT]
      constructor
      · rintro ⟨q1, q2⟩
        have hk := tnc q1.1
        obtain ⟨a6, a6b, a9, a10, a10b, a11, a11b, a7, a7', -⟩ := hL (m 17 W).toNatClampNeg (by omega)
        by_cases q : (m 9 (m 17 W).toNatClampNeg).toInt ≤ 1
        · rw [(a7 q).1] at q2
          exact ⟨q1, q, q2⟩
        · rw [a7' (by omega)] at q2
          have : (-1 : Int32).toInt = -1 := rfl
          omega
      · rintro ⟨q1, q2, q3⟩
        have hk := tnc q1.1
        obtain ⟨a6, a6b, a9, a10, a10b, a11, a11b, a7, a7', -⟩ := hL (m 17 W).toNatClampNeg (by omega)
        rw [(a7 q2).1]
        exact ⟨q1, q3⟩
    by_cases z : ((0 ≤ (m 17 W).toInt ∧ (m 17 W).toInt < (m 0 7).toInt) ∧ (x 7 (m 17 W).toNatClampNeg).toInt = t.toInt)
    · rw [if_pos z, cif_t (hc.1 z)]
    · rw [if_neg z, cif_f (fun y => z (hc.2 y)), Nat.add_zero]
theorem sim_wafersAt {B : Int} {X M : LU} {f : Nat → Int64} (hR : Rel B X M) (hB : B ≤ 5110000) (x : Int32) {k : Int32} {s2 : LU × (Nat → Int64)} {rb : Int32} {M' : LU} (hX : wX_wafersAt X f x k s2) (hM : pM_wafersAt M x rb M') : Rel (B + 10000) s2.1 M' ∧ M' 0 0 = k ∧ (k = 0 → s2.2 0 = rb.toInt64) := by
  have hU := hR.up (show B ≤ B + 10000 by omega)
  have e4 := hR.1.1
  have e12 := hR.1.2.1
  have e16 := hR.1.2.2.1
  have h7 := hR.1.2.2.2.2.2.1
  have h15 := hR.1.2.2.2.2.2.2.1
  rcases hX with ⟨rfl, r0, v, ⟨h1, rfl, rfl⟩, rfl⟩ | ⟨rfl, ⟨-, hx⟩, rfl⟩
  · rw [e4] at h1
    rcases hM with ⟨hm, rfl⟩ | ⟨hm, rfl, rfl⟩
    · exact absurd h1 hm
    · refine ⟨hU.th 0, rfl, fun _ => ?_⟩
      refine updL_ti f ?_
      rw [e12]
      exact wa_eq hU h1.1 _ (by omega)
  · rw [e4] at hx
    rcases hM with ⟨hm, rfl⟩ | ⟨hm, rfl, rfl⟩
    · exact ⟨hU.th 1, rfl, fun h => absurd h (by decide)⟩
    · exact absurd hm hx
theorem sim_wafersAtByWafers {B : Int} {X M : LU} {f : Nat → Int64} (hR : Rel B X M) (hB : B ≤ 5110000) (x : Int32) {k : Int32} {s2 : LU × (Nat → Int64)} {rb : Int32} {M' : LU} (hX : wX_wafersAtByWafers X f x k s2) (hM : pM_wafersAtByWafers M x rb M') : Rel (B + 10000) s2.1 M' ∧ M' 0 0 = k ∧ (k = 0 → s2.2 0 = rb.toInt64) := by
  have hU := hR.up (show B ≤ B + 10000 by omega)
  have e4 := hR.1.1
  have e12 := hR.1.2.1
  have e16 := hR.1.2.2.1
  have h7 := hR.1.2.2.2.2.2.1
  have h15 := hR.1.2.2.2.2.2.2.1
  rcases hX with ⟨rfl, r0, v, ⟨h1, rfl, rfl⟩, rfl⟩ | ⟨rfl, ⟨-, hx⟩, rfl⟩
  · rw [e4] at h1
    rcases hM with ⟨hm, rfl⟩ | ⟨hm, rfl, rfl⟩
    · exact absurd h1 hm
    · refine ⟨hU.th 0, rfl, fun _ => ?_⟩
      refine updL_ti f ?_
      skip
      exact (show nI (wbX _ x _) = _ from by
        rw [at_cw x _ (by omega), e16, wb_cw hU h1.1 _ (by omega)])
  · rw [e4] at hx
    rcases hM with ⟨hm, rfl⟩ | ⟨hm, rfl, rfl⟩
    · exact ⟨hU.th 1, rfl, fun h => absurd h (by decide)⟩
    · exact absurd hm hx
/-! common: the class climbs from both, the reference marks and climbs -/
def itX (u : LU) : Nat → Int32 → Int32
  | 0, a => a
  | k + 1, a => itX u k (ponX u a)
def ancX (u : LU) (b a : Int32) : Prop := 0 ≤ a.toInt ∧ ∃ j, itX u j b = a
/-- every parent is older than its child -/
def OLD (u : LU) : Prop := ∀ l : Nat, (l : Int) < (u 0 12).toInt → -1 ≤ (u 11 l).toInt ∧ (u 11 l).toInt < l
theorem pon_le {u : LU} (h : OLD u) (a : Int32) (h1 : -1 ≤ a.toInt) : -1 ≤ (ponX u a).toInt ∧ (ponX u a).toInt ≤ a.toInt ∧ (0 ≤ a.toInt → (ponX u a).toInt < a.toInt) := by
  have e : (-1 : Int32).toInt = -1 := rfl
  unfold ponX
  split
  · next q =>
    have hk := tnc q.1
    have := h a.toNatClampNeg (by omega)
    omega
  · omega
theorem it_le {u : LU} (h : OLD u) : ∀ j b, -1 ≤ b.toInt → (itX u j b).toInt ≤ b.toInt
  | 0, b, _ => Int.le_refl _
  | j + 1, b, hb => by
    have h1 := pon_le h b hb
    have := it_le h j (ponX u b) h1.1
    simp only [itX]
    omega
theorem anc_le {u : LU} (h : OLD u) {b a : Int32} (hb : -1 ≤ b.toInt) (q : ancX u b a) : a.toInt ≤ b.toInt := by
  obtain ⟨-, j, rfl⟩ := q
  exact it_le h j b hb
theorem anc_s {u : LU} {b : Int32} (h : 0 ≤ b.toInt) : ancX u b b := ⟨h, 0, rfl⟩
theorem anc_p {u : LU} {b a : Int32} (h : ¬ a.toInt = b.toInt) : ancX u b a ↔ ancX u (ponX u b) a := by
  constructor
  · rintro ⟨h0, j, hj⟩
    cases j with
    | zero => exact absurd (by rw [← hj]; rfl) h
    | succ j => exact ⟨h0, j, hj⟩
  · rintro ⟨h0, j, hj⟩
    exact ⟨h0, j + 1, hj⟩
noncomputable def clA (u : LU) (P : Int32 → Prop) : Nat → Int32 → Int32
  | 0, a => a
  | k + 1, a => cif (a.toInt = -1 ∨ P a) a (clA u P k (ponX u a))
theorem clA_c {u : LU} (h : OLD u) {P Q : Int32 → Prop} : ∀ k a, -1 ≤ a.toInt → (∀ c : Int32, -1 ≤ c.toInt → c.toInt ≤ a.toInt → (P c ↔ Q c)) → clA u P k a = clA u Q k a
  | 0, a, _, _ => rfl
  | k + 1, a, ha, hc => by
    have h1 := pon_le h a ha
    have ih := clA_c h k (ponX u a) h1.1 (fun c c1 c2 => hc c c1 (by omega))
    simp only [clA]
    rw [ih, cif_c (show (a.toInt = -1 ∨ P a) ↔ (a.toInt = -1 ∨ Q a) from or_congr Iff.rfl (hc a ha (Int.le_refl _)))]
theorem co_cl {u : LU} (h : OLD u) : ∀ (k : Nat) (a b : Int32), -1 ≤ a.toInt → -1 ≤ b.toInt → a.toInt + b.toInt + 2 ≤ k → ∀ k' : Nat, a.toInt + 1 ≤ k' → coX u k a b = clA u (ancX u b) k' a := by
  intro k
  induction k with
  | zero =>
    intro a b ha hb hk k' hk'
    simp only [coX]
    cases k' with
    | zero => rfl
    | succ k' => simp only [clA]; exact (cif_t (Or.inl (by omega))).symm
  | succ k ih =>
    intro a b ha hb hk k' hk'
    simp only [coX]
    by_cases e : a.toInt = b.toInt
    · rw [if_pos e]
      cases k' with
      | zero => rfl
      | succ k' =>
        simp only [clA]
        refine (cif_t ?_).symm
        rcases Int.lt_or_le a.toInt 0 with q | q
        · exact Or.inl (by omega)
        · rw [ti_inj e]
          exact Or.inr (anc_s (by omega))
    · rw [if_neg e]
      by_cases q : b.toInt < a.toInt
      · rw [if_pos q]
        have h1 := pon_le h a ha
        obtain ⟨k2, rfl⟩ : ∃ k2, k' = k2 + 1 := ⟨k' - 1, by omega⟩
        rw [ih (ponX u a) b h1.1 hb (by have := h1.2.2 (by omega); omega) k2 (by have := h1.2.2 (by omega); omega)]
        simp only [clA]
        refine (cif_f ?_).symm
        rintro (z | z)
        · omega
        · have := anc_le h hb z
          omega
      · rw [if_neg q]
        have h1 := pon_le h b hb
        rw [ih a (ponX u b) ha h1.1 (by have := h1.2.2 (by omega); omega) k' hk']
        exact clA_c h k' a ha (fun c c1 c2 => (anc_p (by omega)).symm)
theorem ch_eq {u : LU} (h : OLD u) : ∀ (k : Nat) (a : Int32) (v : LU), -1 ≤ a.toInt → a.toInt < (u 0 12).toInt → a.toInt + 1 ≤ k → (∀ l : Nat, (l : Int) < (u 0 12).toInt → u 11 l = v 15 l) → ∀ c : Int32, 0 ≤ c.toInt → (((chM v k a) 20 c.toNatClampNeg).toInt = 0 ↔ (v 20 c.toNatClampNeg).toInt = 0 ∧ ¬ ancX u a c) := by
  intro k
  induction k with
  | zero =>
    intro a v ha hl hk hp c hc
    refine ⟨fun q => ⟨q, fun z => ?_⟩, fun q => q.1⟩
    have := anc_le h ha z
    omega
  | succ k ih =>
    intro a v ha hl hk hp c hc
    simp only [chM]
    by_cases e : a.toInt = -1
    · rw [if_pos e]
      refine ⟨fun q => ⟨q, fun z => ?_⟩, fun q => q.1⟩
      have := anc_le h ha z
      omega
    · rw [if_neg e]
      have hk1 := tnc (x := a) (by omega)
      have hpa : v 15 a.toNatClampNeg = ponX u a := by
        unfold ponX
        rw [if_pos ⟨by omega, hl⟩]
        exact (hp _ (by omega)).symm
      have h1 := pon_le h a ha
      have h12 := h1.2.2 (by omega)
      rw [hpa, ih (ponX u a) (up v 20 (upd (v 20) a.toNatClampNeg 1)) h1.1 (by omega) (by omega) hp c hc]
      show (upd (v 20) a.toNatClampNeg 1 c.toNatClampNeg).toInt = 0 ∧ _ ↔ _
      have hk2 := tnc hc
      by_cases q : c.toInt = a.toInt
      · have : c = a := ti_inj q
        subst this
        rw [upd_s]
        exact ⟨fun z => absurd z.1 (by decide), fun z => absurd (anc_s hc) z.2⟩
      · rw [upd_n (by omega), anc_p q]
theorem cl_eq {u : LU} {P : Int32 → Prop} (h : OLD u) : ∀ (k : Nat) (a : Int32) (v : LU), -1 ≤ a.toInt → a.toInt < (u 0 12).toInt → (∀ l : Nat, (l : Int) < (u 0 12).toInt → u 11 l = v 15 l) → (∀ c : Int32, 0 ≤ c.toInt → c.toInt < (u 0 12).toInt → (¬ (v 20 c.toNatClampNeg).toInt = 0 ↔ P c)) → clM v k a = clA u P k a
  | 0, a, v, _, _, _, _ => rfl
  | k + 1, a, v, ha, hl, hp, hc => by
    simp only [clM, clA]
    by_cases e : a.toInt = -1
    · rw [if_pos (Or.inl e), cif_t (Or.inl e)]
    · have hk1 := tnc (x := a) (by omega)
      have hpa : v 15 a.toNatClampNeg = ponX u a := by
        unfold ponX
        rw [if_pos ⟨by omega, hl⟩]
        exact (hp _ (by omega)).symm
      have h1 := pon_le h a ha
      have h12 := h1.2.2 (by omega)
      by_cases q : P a
      · rw [if_pos (Or.inr ((hc a (by omega) hl).2 q)), cif_t (Or.inr q)]
      · rw [if_neg (fun z => z.elim e (fun y => q ((hc a (by omega) hl).1 y))), cif_f (fun z => z.elim e q), hpa]
        exact cl_eq h k (ponX u a) v h1.1 (by omega) hp hc
theorem rel_ch {B : Int} {x : LU} : ∀ (k : Nat) (a : Int32) (m : LU), Rel B x m → Rel B x (chM m k a)
  | 0, _, _, h => h
  | k + 1, a, m, h => by
    simp only [chM]
    split
    · exact h
    · exact rel_ch k _ (up m 20 (upd (m 20) a.toNatClampNeg 1)) h
theorem rel_clr {B : Int} {x m : LU} (h : Rel B x m) : ∀ k, Rel B x (clr m k)
  | 0 => h
  | k + 1 => rel_clr h k
theorem ch_0 : ∀ (k : Nat) (a : Int32) (m : LU), chM m k a 0 = m 0 ∧ chM m k a 15 = m 15
  | 0, _, _ => ⟨rfl, rfl⟩
  | k + 1, a, m => by
    simp only [chM]
    split
    · exact ⟨rfl, rfl⟩
    · exact ch_0 k _ (up m 20 (upd (m 20) a.toNatClampNeg 1))
theorem clr_0 (m : LU) : ∀ k, clr m k 0 = m 0
  | 0 => rfl
  | k + 1 => clr_0 m k
theorem clr_20 (m : LU) : ∀ k j, j < k → clr m k 20 j = 0
  | 0, _, h => absurd h (Nat.not_lt_zero _)
  | k + 1, j, h => by
    show upd (clr m k 20) k 0 j = 0
    by_cases e : j = k
    · subst e
      exact upd_s
    · rw [upd_n e]
      exact clr_20 m k j (by omega)
theorem sim_common {B : Int} {X M : LU} {f : Nat → Int64} (hR : Rel B X M) (hB : B ≤ 5110000) (x : Int32) (y : Int32) {k : Int32} {s2 : LU × (Nat → Int64)} {rb : Int32} {M' : LU} (hX : wX_common X f x y k s2) (hM : pM_common M x y rb M') : Rel (B + 10000) s2.1 M' ∧ M' 0 0 = k ∧ (k = 0 → s2.2 0 = rb.toInt64) := by
  have hU := hR.up (show B ≤ B + 10000 by omega)
  obtain ⟨⟨e4, e12, e16, e17, h2, h7, h15, h1⟩, hS, hL, hZ, hN, hW⟩ := hR
  rcases hX with ⟨rfl, r0, v, ⟨hx, hy, rfl, rfl⟩, rfl⟩ | ⟨rfl, ⟨-, hx⟩, rfl⟩
  · rw [e12] at hx hy
    rcases hM with ⟨hm, rfl⟩ | ⟨hm1, hm2, rfl, rfl⟩
    · exact absurd ⟨hx, hy⟩ hm
    · refine ⟨rel_ch 25 y _ (rel_clr (hU.th 0) 24), ?_, fun _ => ?_⟩
      · rw [(ch_0 25 y _).1, clr_0]
        rfl
      · refine updL_ti f ?_
        have hO : OLD v := fun l hl => by
          rw [e12] at hl
          rw [(hL l hl).2.2.2.2.2.1]
          exact (hL l hl).2.2.2.2.2.2.1
        have hp : ∀ l : Nat, (l : Int) < (v 0 12).toInt → v 11 l = M 15 l := fun l hl => by
          rw [e12] at hl
          exact (hL l hl).2.2.2.2.2.1
        rw [co_cl hO 48 x y (by omega) (by omega) (by omega) 25 (by omega)]
        refine (cl_eq hO 25 x _ (by omega) (by rw [e12]; omega) ?_ ?_).symm
        · rw [(ch_0 25 y _).2, clr_15]
          exact hp
        · intro c hc hcl
          rw [e12] at hcl
          rw [ch_eq hO 25 y _ (by omega) (by rw [e12]; omega) (by omega) (by rw [clr_15]; exact hp) c hc]
          constructor
          · intro q
            refine Classical.byContradiction (fun z => q ⟨?_, z⟩)
            have hk := tnc hc
            rw [clr_20 _ _ _ (by omega)]
            rfl
          · intro q z
            exact z.2 q
  · rw [e12] at hx
    rcases hM with ⟨hm, rfl⟩ | ⟨hm1, hm2, rfl, rfl⟩
    · exact ⟨hU.th 1, rfl, fun h => absurd h (by decide)⟩
    · exact absurd ⟨hm1, hm2⟩ hx
