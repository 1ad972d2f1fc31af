/-! lemmas: counts, paths, ancestors; what a call answers at a place -/
theorem tnc {x : Int32} (h : 0 ≤ x.toInt) : (x.toNatClampNeg : Int) = x.toInt := Int.toNat_of_nonneg h
theorem ti_inj {x y : Int32} (h : x.toInt = y.toInt) : x = y := Int32.toInt.inj h
theorem ti_nI {n : Nat} (h : n < 2000000000) : (nI n).toInt = (n : Int) := nI_toInt (by omega)
theorem tn_nI {n : Nat} (h : n < 2000000000) : (nI n).toNatClampNeg = n := nI_clamp (by omega)
theorem nI_inj2 {n w : Nat} (h : nI n = nI w) (h1 : n < 2000000000) (h2 : w < 2000000000) : w = n := by
  have e1 := ti_nI h1
  have e2 := ti_nI h2
  rw [h] at e1
  omega
def ctA (f : Nat → Int32) (x : Int32) : Nat → Nat
  | 0 => 0
  | i + 1 => if (f i).toInt = x.toInt then ctA f x i + 1 else ctA f x i
theorem ctA_t {f : Nat → Int32} {x : Int32} {i : Nat} (h : (f i).toInt = x.toInt) : nI (ctA f x i) + 1 = nI (ctA f x (i + 1)) := by
  simp only [ctA]
  rw [if_pos h, nI_1]
theorem ctA_f {f : Nat → Int32} {x : Int32} {i : Nat} (h : ¬ (f i).toInt = x.toInt) : nI (ctA f x i) + 0 = nI (ctA f x (i + 1)) := by
  simp only [ctA]
  rw [if_neg h, Int32.add_zero]
theorem ctA_le (f : Nat → Int32) (x : Int32) : ∀ n, ctA f x n ≤ n
  | 0 => Nat.le_refl 0
  | n + 1 => by
    have h := ctA_le f x n
    simp only [ctA]
    split <;> omega
theorem ctA_g {f g : Nat → Int32} {x : Int32} : ∀ L, (∀ l, l < L → f l = g l) → ctA f x L = ctA g x L
  | 0, _ => rfl
  | L + 1, h => by
    simp only [ctA]
    rw [ctA_g L (fun l hl => h l (by omega)), h L (by omega)]
theorem ctA_z {f : Nat → Int32} {x : Int32} : ∀ L, (∀ l, l < L → ¬ (f l).toInt = x.toInt) → ctA f x L = 0
  | 0, _ => rfl
  | L + 1, h => by
    simp only [ctA]
    rw [if_neg (h L (by omega))]
    exact ctA_z L (fun l hl => h l (by omega))
theorem ctA_mono (f : Nat → Int32) (x : Int32) (i : Nat) : ∀ d, ctA f x i ≤ ctA f x (i + d)
  | 0 => Nat.le_refl _
  | d + 1 => by
    have h := ctA_mono f x i d
    show _ ≤ ctA f x ((i + d) + 1)
    simp only [ctA]
    split <;> omega
theorem ctA_lt {f : Nat → Int32} {x : Int32} {i W : Nat} (h : (f i).toInt = x.toInt) (hi : i < W) : ctA f x i + 1 ≤ ctA f x W := by
  have h1 : ctA f x (i + 1) = ctA f x i + 1 := by simp only [ctA]; exact if_pos h
  have h2 := ctA_mono f x (i + 1) (W - (i + 1))
  rw [show i + 1 + (W - (i + 1)) = W by omega] at h2
  omega
theorem ctA_upd (f : Nat → Int32) (x v : Int32) (n : Nat) : ∀ L, ctA (upd f n v) x L + (if n < L ∧ (f n).toInt = x.toInt then 1 else 0) = ctA f x L + (if n < L ∧ v.toInt = x.toInt then 1 else 0)
  | 0 => by
    rw [if_neg (by omega), if_neg (by omega)]
    rfl
  | L + 1 => by
    have ih := ctA_upd f x v n L
    simp only [ctA]
    by_cases e : L = n
    · subst e
      rw [if_neg (by omega), if_neg (by omega)] at ih
      rw [upd_s]
      by_cases q1 : (f L).toInt = x.toInt <;> by_cases q2 : v.toInt = x.toInt
      · rw [if_pos q2, if_pos ⟨by omega, q1⟩, if_pos q1, if_pos ⟨by omega, q2⟩]
        omega
      · rw [if_neg q2, if_pos ⟨by omega, q1⟩, if_pos q1, if_neg (fun z => q2 z.2)]
        omega
      · rw [if_pos q2, if_neg (fun z => q1 z.2), if_neg q1, if_pos ⟨by omega, q2⟩]
        omega
      · rw [if_neg q2, if_neg (fun z => q1 z.2), if_neg q1, if_neg (fun z => q2 z.2)]
        omega
    · rw [upd_n e]
      have hn : ∀ P : Prop, (n < L + 1 ∧ P) ↔ (n < L ∧ P) := fun P => ⟨fun z => ⟨by omega, z.2⟩, fun z => ⟨by omega, z.2⟩⟩
      have e1 : (if n < L + 1 ∧ (f n).toInt = x.toInt then 1 else 0) = (if n < L ∧ (f n).toInt = x.toInt then 1 else 0) := by simp only [hn]
      have e2 : (if n < L + 1 ∧ v.toInt = x.toInt then 1 else 0) = (if n < L ∧ v.toInt = x.toInt then 1 else 0) := by simp only [hn]
      rw [e1, e2]
      split <;> omega
/-- neither the old nor the new value counts -/
theorem ctA_n {f : Nat → Int32} {x v : Int32} {n : Nat} (L : Nat) (h1 : ¬ (f n).toInt = x.toInt) (h2 : ¬ v.toInt = x.toInt) : ctA (upd f n v) x L = ctA f x L := by
  have h := ctA_upd f x v n L
  rw [if_neg (fun z => h1 z.2), if_neg (fun z => h2 z.2)] at h
  exact h
theorem cif_c {α : Type} {P P' : Prop} {a b : α} (h : P ↔ P') : cif P a b = cif P' a b := congrArg (fun q => cif q a b) (propext h)
/-- the wafers of f below W that lie in a lot below i which keeps P -/
noncomputable def cw (f : Nat → Int32) (P : Nat → Prop) (i : Nat) : Nat → Nat
  | 0 => 0
  | w + 1 => cw f P i w + cif ((0 ≤ (f w).toInt ∧ (f w).toInt < i) ∧ P (f w).toNatClampNeg) 1 0
theorem cw_0 (f : Nat → Int32) (P : Nat → Prop) : ∀ W, cw f P 0 W = 0
  | 0 => rfl
  | W + 1 => by
    simp only [cw]
    rw [cw_0 f P W, cif_f (fun q => by have := q.1; omega)]
theorem cw_s (f : Nat → Int32) (P : Nat → Prop) {i : Nat} (hi : i < 2000000000) : ∀ W, cw f P (i + 1) W = cw f P i W + cif (P i) (ctA f (nI i) W) 0
  | 0 => by
    simp only [cw, ctA]
    rcases Classical.em (P i) with q | q
    · rw [cif_t q]
    · rw [cif_f q]
  | W + 1 => by
    have ih := cw_s f P hi W
    have hii : (nI i).toInt = (i : Int) := ti_nI hi
    simp only [cw, ctA]
    rw [ih]
    by_cases e : (f W).toInt = (i : Int)
    · have ec : (f W).toNatClampNeg = i := by
        have := tnc (x := f W) (by omega)
        omega
      rw [ec, if_pos (by omega)]
      rw [cif_f (fun z : (0 ≤ (f W).toInt ∧ (f W).toInt < (i : Int)) ∧ P i => by have := z.1; omega)]
      rcases Classical.em (P i) with q | q
      · rw [cif_t q, cif_t q, cif_t ⟨⟨by omega, by omega⟩, q⟩]
        omega
      · rw [cif_f q, cif_f q, cif_f (fun z => q z.2)]
    · rw [if_neg (by omega)]
      rw [cif_c (show ((0 ≤ (f W).toInt ∧ (f W).toInt < ((i + 1 : Nat) : Int)) ∧ P (f W).toNatClampNeg) ↔ ((0 ≤ (f W).toInt ∧ (f W).toInt < (i : Int)) ∧ P (f W).toNatClampNeg) from ⟨fun z => ⟨⟨z.1.1, by have := z.1; omega⟩, z.2⟩, fun z => ⟨⟨z.1.1, by have := z.1; omega⟩, z.2⟩⟩)]
      omega
theorem putX_lo (u : LU) (w n : Nat) {j : Nat} (h : j < 100) (h16 : j ≠ 16) : putX u w n j = put1 u w n j := by
  unfold putX
  split
  · rw [up_n _ _ _ h16]
    unfold put2
    rw [up_n _ _ _ (by omega)]
  · rfl
theorem put1_row (u : LU) (w n q : Nat) : put1 u w n (100 + q) = u (100 + q) := by
  unfold put1
  rw [up_n _ _ _ (by omega), up_n _ _ _ (by omega)]
theorem putX_row {u : LU} {w n : Nat} (h : (u 16 w).toInt < 47) (q : Nat) : putX u w n (100 + q) = if q = w then upd (u (100 + w)) (u 16 w).toNatClampNeg (nI n) else u (100 + q) := by
  unfold putX
  rw [if_pos h, up_n _ _ _ (by omega)]
  unfold put2
  rw [put1_row]
  by_cases e : q = w
  · subst e
    rw [if_pos rfl]
    exact if_pos rfl
  · rw [if_neg e, up_n _ _ _ (by omega), put1_row]
theorem mv1_lo (U : LU) (f i t : Nat) {j : Nat} (h : j < 100) (h12 : j ≠ 12) (h14 : j ≠ 14) (h16 : j ≠ 16) : mv1 U f i t j = U j := by
  unfold mv1
  rw [putX_lo _ _ _ h h16]
  unfold put1
  rw [up_n _ _ _ h12, up_n _ _ _ h14, up_n _ _ _ h12]
theorem mv1_12 (U : LU) (f i t : Nat) : mv1 U f i t 12 = upd (upd (U 12) f (U 12 f - 1)) t (upd (U 12) f (U 12 f - 1) t + 1) := by
  unfold mv1
  rw [putX_lo _ _ _ (by decide) (by decide)]
  rfl
theorem mv1_14 (U : LU) (f i t : Nat) : mv1 U f i t 14 = upd (U 14) i (nI t) := by
  unfold mv1
  rw [putX_lo _ _ _ (by decide) (by decide)]
  rfl
theorem mv1_16 (U : LU) (f t : Nat) {i : Nat} (hi : i < 60) (h : (U 16 i).toInt < 47) : mv1 U f i t 16 = upd (U 16) i (U 16 i + 1) := by
  unfold mv1
  rw [putX_16 _ _ _ hi]
  exact if_pos h
theorem mv1_row (U : LU) (f t : Nat) {i : Nat} (h : (U 16 i).toInt < 47) (q : Nat) : mv1 U f i t (100 + q) = if q = i then upd (U (100 + i)) (U 16 i).toNatClampNeg (nI t) else U (100 + q) := by
  unfold mv1
  rw [putX_row (u := up U 12 (upd (U 12) f (U 12 f - 1))) h]
  by_cases e : q = i
  · rw [if_pos e, if_pos e, up_n _ _ _ (by omega)]
    rfl
  · rw [if_neg e, if_neg e, up_n _ _ _ (by omega)]
def itX (u : LU) : Nat → Int32 → Int32
  | 0, a => a
  | k + 1, a => itX u k (ponX u a)
/-- every parent is older than its child -/
def OLD (u : LU) : Prop := ∀ l : Nat, (l : Int) < (u 0 12).toInt → -1 ≤ (u 11 l).toInt ∧ (u 11 l).toInt < l
theorem pon_le {u : LU} (h : OLD u) (a : Int32) (h1 : -1 ≤ a.toInt) : -1 ≤ (ponX u a).toInt ∧ (ponX u a).toInt ≤ a.toInt ∧ (0 ≤ a.toInt → (ponX u a).toInt < a.toInt) := by
  have e : (-1 : Int32).toInt = -1 := rfl
  unfold ponX
  split
  · next q =>
    have hk := tnc q.1
    have := h a.toNatClampNeg (by omega)
    omega
  · omega
theorem it_le {u : LU} (h : OLD u) : ∀ j b, -1 ≤ b.toInt → (itX u j b).toInt ≤ b.toInt
  | 0, b, _ => Int.le_refl _
  | j + 1, b, hb => by
    have h1 := pon_le h b hb
    have := it_le h j (ponX u b) h1.1
    simp only [itX]
    omega
theorem bool01 {x : Int32} (h : x = 0 ∨ x = 1) : vp_nar .boolean x = x ∧ narrow .boolean (.int x) = .int x := by
  rcases h with h | h <;> rw [h] <;> exact ⟨rfl, rfl⟩
theorem KI.mono {S : Type} {l : Launch} {D : va_G} {tys : List (ClassId × FieldType)} {wf : S → va_W} {u : S} {As : List Value} {y : MethodName} {ws : List Cond} {rm : Room} {p1 p2 : Int32 → S → Prop} (hM : KI l y ws rm D tys wf As u p1) (h : ∀ r v, p1 r v → p2 r v) : KI l y ws rm D tys wf As u p2 := by
  intro sz p e ha hc hk s m args below hf happ hP hx
  obtain ⟨n, o, h1, h2, h3, ⟨⟨r, v, ho, hp, hB⟩, hF⟩, L, hFE, hL⟩ := hM sz p e ha hc hk s m args below hf happ hP hx
  exact ⟨n, o, h1, h2, h3, ⟨⟨r, v, ho, h r v hp, hB⟩, hF⟩, L, hFE, hL⟩
theorem IX.l24 {u : LU} (h : IX u) {n : Nat} (hn : (n : Int) < (u 0 12).toInt) : n < 24 := by
  have := h.2.1
  omega
theorem IX.w60 {u : LU} (h : IX u) {n : Nat} (hn : (n : Int) < (u 0 16).toInt) : n < 60 := by
  have := h.2.2.1
  omega
theorem q_state {l : Launch} {D : va_G} {cI cZ cQ : ClassId} {a : Nat → Nat} (u : LU) (n : Nat) (hI : IX u) (hn : (n : Int) < (u 0 12).toInt) : KI l yX0_state wsX0_state ({ frames := 2, cells := 0, slots := 0, locals := 42 } : Room) D (tyX cI cZ cQ) (wX cI cZ cQ a) [.ref (a 0), .int (nI n)] u (fun (r : Int32) (u' : LU) => r = u 6 n ∧ u' = u) := by
  have h24 := hI.l24 hn
  have en := ti_nI (n := n) (by omega)
  refine (c_X0_state u (nI n) hI ⟨by omega, by omega⟩).mono (fun r u' h => ?_)
  obtain ⟨n1, e1, h1, h2, h3⟩ := h
  have b1 := hI.l24 h1
  have e9 := nI_inj2 e1 (by omega) (by omega)
  subst e9
  exact ⟨h2, h3⟩
theorem q_stepOf {l : Launch} {D : va_G} {cI cZ cQ : ClassId} {a : Nat → Nat} (u : LU) (n : Nat) (hI : IX u) (hn : (n : Int) < (u 0 12).toInt) : KI l yX0_stepOf wsX0_stepOf ({ frames := 2, cells := 0, slots := 0, locals := 42 } : Room) D (tyX cI cZ cQ) (wX cI cZ cQ a) [.ref (a 0), .int (nI n)] u (fun (r : Int32) (u' : LU) => r = u 7 n ∧ u' = u) := by
  have h24 := hI.l24 hn
  have en := ti_nI (n := n) (by omega)
  refine (c_X0_stepOf u (nI n) hI ⟨by omega, by omega⟩).mono (fun r u' h => ?_)
  obtain ⟨n1, e1, h1, h2, h3⟩ := h
  have b1 := hI.l24 h1
  have e9 := nI_inj2 e1 (by omega) (by omega)
  subst e9
  exact ⟨h2, h3⟩
theorem q_size {l : Launch} {D : va_G} {cI cZ cQ : ClassId} {a : Nat → Nat} (u : LU) (n : Nat) (hI : IX u) (hn : (n : Int) < (u 0 12).toInt) : KI l yX0_size wsX0_size ({ frames := 2, cells := 0, slots := 0, locals := 42 } : Room) D (tyX cI cZ cQ) (wX cI cZ cQ a) [.ref (a 0), .int (nI n)] u (fun (r : Int32) (u' : LU) => r = u 12 n ∧ u' = u) := by
  have h24 := hI.l24 hn
  have en := ti_nI (n := n) (by omega)
  refine (c_X0_size u (nI n) hI ⟨by omega, by omega⟩).mono (fun r u' h => ?_)
  obtain ⟨n1, e1, h1, h2, h3⟩ := h
  have b1 := hI.l24 h1
  have e9 := nI_inj2 e1 (by omega) (by omega)
  subst e9
  exact ⟨h2, h3⟩
theorem q_reworks {l : Launch} {D : va_G} {cI cZ cQ : ClassId} {a : Nat → Nat} (u : LU) (n : Nat) (hI : IX u) (hn : (n : Int) < (u 0 12).toInt) : KI l yX0_reworks wsX0_reworks ({ frames := 2, cells := 0, slots := 0, locals := 42 } : Room) D (tyX cI cZ cQ) (wX cI cZ cQ a) [.ref (a 0), .int (nI n)] u (fun (r : Int32) (u' : LU) => r = u 10 n ∧ u' = u) := by
  have h24 := hI.l24 hn
  have en := ti_nI (n := n) (by omega)
  refine (c_X0_reworks u (nI n) hI ⟨by omega, by omega⟩).mono (fun r u' h => ?_)
  obtain ⟨n1, e1, h1, h2, h3⟩ := h
  have b1 := hI.l24 h1
  have e9 := nI_inj2 e1 (by omega) (by omega)
  subst e9
  exact ⟨h2, h3⟩
theorem q_parentOf {l : Launch} {D : va_G} {cI cZ cQ : ClassId} {a : Nat → Nat} (u : LU) (n : Nat) (hI : IX u) (hn : (n : Int) < (u 0 12).toInt) : KI l yX0_parentOf wsX0_parentOf ({ frames := 2, cells := 0, slots := 0, locals := 42 } : Room) D (tyX cI cZ cQ) (wX cI cZ cQ a) [.ref (a 0), .int (nI n)] u (fun (r : Int32) (u' : LU) => r = u 11 n ∧ u' = u) := by
  have h24 := hI.l24 hn
  have en := ti_nI (n := n) (by omega)
  refine (c_X0_parentOf u (nI n) hI ⟨by omega, by omega⟩).mono (fun r u' h => ?_)
  obtain ⟨n1, e1, h1, h2, h3⟩ := h
  have b1 := hI.l24 h1
  have e9 := nI_inj2 e1 (by omega) (by omega)
  subst e9
  exact ⟨h2, h3⟩
theorem q_slack {l : Launch} {D : va_G} {cI cZ cQ : ClassId} {a : Nat → Nat} (u : LU) (n : Nat) (hI : IX u) (hn : (n : Int) < (u 0 12).toInt) : KI l yX0_slack wsX0_slack ({ frames := 2, cells := 0, slots := 0, locals := 43 } : Room) D (tyX cI cZ cQ) (wX cI cZ cQ a) [.ref (a 0), .int (nI n)] u (fun (r : Int32) (u' : LU) => r = slX u n ∧ u' = u) := by
  have h24 := hI.l24 hn
  have en := ti_nI (n := n) (by omega)
  refine (c_X0_slack u (nI n) hI ⟨by omega, by omega⟩).mono (fun r u' h => ?_)
  obtain ⟨n1, e1, h1, h2, h3⟩ := h
  have b1 := hI.l24 h1
  have e9 := nI_inj2 e1 (by omega) (by omega)
  subst e9
  exact ⟨h2, h3⟩
theorem q_isLate {l : Launch} {D : va_G} {cI cZ cQ : ClassId} {a : Nat → Nat} (u : LU) (n : Nat) (hI : IX u) (hn : (n : Int) < (u 0 12).toInt) : KI l yX0_isLate wsX0_isLate ({ frames := 2, cells := 0, slots := 0, locals := 43 } : Room) D (tyX cI cZ cQ) (wX cI cZ cQ a) [.ref (a 0), .int (nI n)] u (fun (r : Int32) (u' : LU) => r = bP ((slX u n).toInt < 0) ∧ u' = u) := by
  have h24 := hI.l24 hn
  have en := ti_nI (n := n) (by omega)
  refine (c_X0_isLate u (nI n) hI ⟨by omega, by omega⟩).mono (fun r u' h => ?_)
  obtain ⟨n1, e1, h1, h2, h3⟩ := h
  have b1 := hI.l24 h1
  have e9 := nI_inj2 e1 (by omega) (by omega)
  subst e9
  exact ⟨h2, h3⟩
theorem q_lotOf {l : Launch} {D : va_G} {cI cZ cQ : ClassId} {a : Nat → Nat} (u : LU) (n : Nat) (hI : IX u) (hn : (n : Int) < (u 0 16).toInt) : KI l yX0_lotOf wsX0_lotOf ({ frames := 1, cells := 0, slots := 0, locals := 21 } : Room) D (tyX cI cZ cQ) (wX cI cZ cQ a) [.ref (a 0), .int (nI n)] u (fun (r : Int32) (u' : LU) => r = u 14 n ∧ u' = u) := by
  have h24 := hI.w60 hn
  have en := ti_nI (n := n) (by omega)
  refine (c_X0_lotOf u (nI n) hI ⟨by omega, by omega⟩).mono (fun r u' h => ?_)
  obtain ⟨n1, e1, h1, h2, h3⟩ := h
  have b1 := hI.w60 h1
  have e9 := nI_inj2 e1 (by omega) (by omega)
  subst e9
  exact ⟨h2, h3⟩
theorem q_path {l : Launch} {D : va_G} {cI cZ cQ : ClassId} {a : Nat → Nat} (u : LU) (n : Nat) (hI : IX u) (hn : (n : Int) < (u 0 16).toInt) : KI l yX0_path wsX0_path ({ frames := 1, cells := 0, slots := 0, locals := 21 } : Room) D (tyX cI cZ cQ) (wX cI cZ cQ a) [.ref (a 0), .int (nI n)] u (fun (r : Int32) (u' : LU) => r = u 16 n ∧ u' = u) := by
  have h24 := hI.w60 hn
  have en := ti_nI (n := n) (by omega)
  refine (c_X0_path u (nI n) hI ⟨by omega, by omega⟩).mono (fun r u' h => ?_)
  obtain ⟨n1, e1, h1, h2, h3⟩ := h
  have b1 := hI.w60 h1
  have e9 := nI_inj2 e1 (by omega) (by omega)
  subst e9
  exact ⟨h2, h3⟩
theorem q_pathAt {l : Launch} {D : va_G} {cI cZ cQ : ClassId} {a : Nat → Nat} (u : LU) (n j : Nat) (hI : IX u) (hn : (n : Int) < (u 0 16).toInt) (hj : (j : Int) < (u 16 n).toInt) : KI l yX0_pathAt wsX0_pathAt ({ frames := 1, cells := 0, slots := 0, locals := 22 } : Room) D (tyX cI cZ cQ) (wX cI cZ cQ a) [.ref (a 0), .int (nI n), .int (nI j)] u (fun (r : Int32) (u' : LU) => r = u (100 + n) j ∧ u' = u) := by
  have h24 := hI.w60 hn
  have en := ti_nI (n := n) (by omega)
  refine (c_X0_pathAt u (nI n) (nI j) hI ⟨by omega, by omega⟩ (fun w hw e => by have e9 := nI_inj2 e (by omega) (by omega); subst e9; have p9 := hI.2.2.2.2 w (by omega); have ej := ti_nI (n := j) (by omega); have t1 : (1 : Int32).toInt = 1 := rfl; have t9 : (u 16 w - 1).toInt = (u 16 w).toInt - (1 : Int32).toInt := ti_sub (by omega) (by omega); omega)).mono (fun r u' h => ?_)
  obtain ⟨n1, e1, h1, h2, h3, h4⟩ := h
  have b1 := hI.w60 h1
  have e9 := nI_inj2 e1 (by omega) (by omega)
  subst e9
  exact ⟨by rw [h3, tn_nI (by have p9 := hI.2.2.2.2 n1 (by omega); omega)], h4⟩
theorem q_start {l : Launch} {D : va_G} {cI cZ cQ : ClassId} {a : Nat → Nat} (u : LU) (n : Nat) (hI : IX u) (hn : (n : Int) < (u 0 12).toInt) (hy : rdX u n ∧ (0 ≤ (u 7 n).toInt ∧ (u 7 n).toInt < (u 0 4).toInt) ∧ ¬ buX u (u 1 (u 7 n).toNatClampNeg)) : KI l yX0_start wsX0_start ({ frames := 3, cells := 0, slots := 0, locals := 66 } : Room) D (tyX cI cZ cQ) (wX cI cZ cQ a) [.ref (a 0), .int (nI n)] u (fun (r : Int32) (u' : LU) => r = u 0 17 + u 2 (u 7 n).toNatClampNeg ∧ u' = saX u n) := by
  have h24 := hI.l24 hn
  have en := ti_nI (n := n) (by omega)
  refine (c_X0_start u (nI n) hI ⟨by omega, by omega⟩ (fun w hw e => by have e9 := nI_inj2 e (by omega) (by omega); subst e9; exact hy)).mono (fun r u' h => ?_)
  obtain ⟨n1, e1, h1, h2, h3, h4⟩ := h
  have b1 := hI.l24 h1
  have e9 := nI_inj2 e1 (by omega) (by omega)
  subst e9
  exact ⟨h3, h4⟩
theorem q_split {l : Launch} {D : va_G} {cI cZ cQ : ClassId} {a : Nat → Nat} (u : LU) (n : Nat) (y : Int32) (hI : IX u) (hn : (n : Int) < (u 0 12).toInt) (hy : (1 ≤ y.toInt ∧ y.toInt ≤ (u 12 n - 1).toInt) ∧ ((u 6 n).toInt = 0 ∧ (u 0 12).toInt < 24)) : KI l yX0_split wsX0_split ({ frames := 2, cells := 0, slots := 0, locals := 48 } : Room) D (tyX cI cZ cQ) (wX cI cZ cQ a) [.ref (a 0), .int (nI n), .int y] u (fun (r : Int32) (u' : LU) => ∃ k : Nat, k < 24 ∧ u 0 12 = nI k ∧ r = nI k ∧ u' = spX u n k y) := by
  have h24 := hI.l24 hn
  have en := ti_nI (n := n) (by omega)
  refine (c_X0_split u (nI n) y hI ⟨by omega, by omega⟩ (fun w hw e => by have e9 := nI_inj2 e (by omega) (by omega); subst e9; exact hy)).mono (fun r u' h => ?_)
  obtain ⟨n1, k, e1, h1, h2, h3, h4, h5, h6, h7⟩ := h
  have b1 := hI.l24 h1
  have e9 := nI_inj2 e1 (by omega) (by omega)
  subst e9
  exact ⟨k, h4, h5, h6, h7⟩
theorem q_hold {l : Launch} {D : va_G} {cI cZ cQ : ClassId} {a : Nat → Nat} (u : LU) (n : Nat) (P9 : Prop) (hI : IX u) (hn : (n : Int) < (u 0 12).toInt) (hy : ¬ (u 6 n).toInt = 2 ∧ ¬ (u 6 n).toInt = 3) : KI l yX0_hold wsX0_hold ({ frames := 2, cells := 0, slots := 0, locals := 42 } : Room) D (tyX cI cZ cQ) (wX cI cZ cQ a) [.ref (a 0), .int (nI n), .int (bP P9)] u (fun (r : Int32) (u' : LU) => r = u 9 n ∧ u' = up u 9 (upd (u 9) n (bP P9))) := by
  have h24 := hI.l24 hn
  have en := ti_nI (n := n) (by omega)
  refine (c_X0_hold u (nI n) P9 hI ⟨by omega, by omega⟩ (fun w hw e => by have e9 := nI_inj2 e (by omega) (by omega); subst e9; exact hy)).mono (fun r u' h => ?_)
  obtain ⟨n1, e1, h1, h2, h3, h4⟩ := h
  have b1 := hI.l24 h1
  have e9 := nI_inj2 e1 (by omega) (by omega)
  subst e9
  exact ⟨h3, h4⟩
theorem q_scrap {l : Launch} {D : va_G} {cI cZ cQ : ClassId} {a : Nat → Nat} (u : LU) (n k : Nat) (hI : IX u) (hn : (n : Int) < (u 0 16).toInt) (hk : u 14 n = nI k) (hkl : (k : Int) < (u 0 12).toInt) (h6 : (u 6 k).toInt = 0) : KI l yX0_scrap wsX0_scrap ({ frames := 1, cells := 0, slots := 0, locals := 22 } : Room) D (tyX cI cZ cQ) (wX cI cZ cQ a) [.ref (a 0), .int (nI n)] u (fun (_ : Int32) (u' : LU) => u' = scX u n k) := by
  have h60 := hI.w60 hn
  have h24 := hI.l24 hkl
  have en := ti_nI (n := n) (by omega)
  refine (c_X0_scrap u (nI n) hI ⟨by omega, by omega⟩ (fun w hw e => by have e9 := nI_inj2 e (by omega) (by omega); subst e9; exact ⟨k, hk, hkl, h6⟩)).mono (fun r u' h => ?_)
  obtain ⟨n1, k1, e1, h1, h2, h3, h4, h5, h7⟩ := h
  have b1 := hI.w60 h1
  have b3 := hI.l24 h3
  have e9 := nI_inj2 e1 (by omega) (by omega)
  subst e9
  rw [hk] at h2
  have e8 := nI_inj2 h2 (by omega) (by omega)
  subst e8
  exact h7
