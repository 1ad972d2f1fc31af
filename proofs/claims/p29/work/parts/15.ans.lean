/-! what the law asks of the answers, from the invariant -/
/-- sizes of the lots below i, summed over the steps below t -/
def sumX (u : LU) (i : Nat) : Nat → Int32
  | 0 => 0
  | t + 1 => sumX u i t + waX u (nI t) i
/-- sizes of the lots below i that wait or run -/
def allX (u : LU) : Nat → Int32
  | 0 => 0
  | i + 1 => if (u 6 i).toInt < 2 then allX u i + u 12 i else allX u i
theorem sum_0 (u : LU) : ∀ t, sumX u 0 t = 0
  | 0 => rfl
  | t + 1 => by
    simp only [sumX, waX]
    rw [sum_0 u t]
    rfl
theorem sum_s (u : LU) (i : Nat) : ∀ t : Nat, t < 1000 → sumX u (i + 1) t = (if 0 ≤ (u 7 i).toInt ∧ (u 7 i).toInt < t then sumX u i t + u 12 i else sumX u i t)
  | 0, _ => by
    rw [if_neg (by omega)]
    rfl
  | t + 1, ht => by
    have et := ti_nI (n := t) (by omega)
    have ih := sum_s u i t (by omega)
    simp only [sumX, waX]
    rw [ih]
    by_cases e : (u 7 i).toInt = (nI t).toInt
    · rw [if_pos e, if_neg (by omega), if_pos (by omega), Int32.add_assoc]
    · rw [if_neg e]
      by_cases q : 0 ≤ (u 7 i).toInt ∧ (u 7 i).toInt < t
      · rw [if_pos q, if_pos (by omega), Int32.add_assoc, Int32.add_comm (u 12 i), ← Int32.add_assoc]
      · rw [if_neg q, if_neg (by omega)]
theorem sum_all {s : Nat} {u : LU} (hs : s ≤ 12) (hL : JL s u) : ∀ i : Nat, (i : Int) ≤ (u 0 12).toInt → sumX u i s = allX u i
  | 0, _ => sum_0 u s
  | i + 1, hi => by
    have h := hL i (by omega)
    obtain ⟨h6, -, -, h7, h7'⟩ := h
    simp only [allX]
    rw [sum_s u i s (by omega), sum_all hs hL i (by omega)]
    by_cases q : (u 6 i).toInt < 2
    · rw [if_pos q, if_pos (h7 (by omega))]
    · rw [if_neg q, if_neg (by omega)]
theorem wa_cw {u : LU} (h24 : (u 0 12).toInt ≤ 24) (hN : JN u) (x : Int32) : ∀ i : Nat, (i : Int) ≤ (u 0 12).toInt → waX u x i = nI (cw (u 14) (fun j => (u 7 j).toInt = x.toInt) i (u 0 16).toInt.toNat)
  | 0, _ => by
    rw [cw_0]
    rfl
  | i + 1, hi => by
    have ih := wa_cw h24 hN x i (by omega)
    simp only [waX]
    rw [ih, cw_s _ _ (by omega), hN i (by omega)]
    by_cases q : (u 7 i).toInt = x.toInt
    · rw [if_pos q, cif_t q, nI_add]
    · rw [if_neg q, cif_f q, Nat.add_zero]
theorem wb_cw {u : LU} (h12 : 0 ≤ (u 0 12).toInt) (x : Int32) : ∀ W : Nat, wbX u x W = cw (u 14) (fun j => (u 7 j).toInt = x.toInt) (u 0 12).toInt.toNat W
  | 0 => rfl
  | W + 1 => by
    have hT : (((u 0 12).toInt.toNat : Nat) : Int) = (u 0 12).toInt := Int.toNat_of_nonneg h12
    simp only [wbX, cw]
    rw [wb_cw h12 x W, hT]
    by_cases z : ((0 ≤ (u 14 W).toInt ∧ (u 14 W).toInt < (u 0 12).toInt) ∧ (u 7 (u 14 W).toNatClampNeg).toInt = x.toInt)
    · rw [if_pos z, cif_t z]
    · rw [if_neg z, cif_f z, Nat.add_zero]
theorem wb_wa {s : Nat} {B : Int} {u : LU} (hJ : JV s B u) (x : Int32) : nI (wbX u x (u 0 16).toInt.toNat) = waX u x (u 0 12).toInt.toNat := by
  have h12 := hJ.1.2.1
  rw [wb_cw h12.1, wa_cw h12.2 hJ.2.2.2.2.1 x _ (by omega)]
theorem JL.old {s : Nat} {u : LU} (h : JL s u) : OLD u := fun l hl => (h l hl).2.2.1
theorem co_com {u : LU} (h : OLD u) : ∀ (k : Nat) (a b : Int32), -1 ≤ a.toInt → -1 ≤ b.toInt → a.toInt + b.toInt + 2 ≤ k → coX u k a b = coX u k b a
  | 0, a, b, ha, hb, hk => by
    have : a = b := ti_inj (by omega)
    rw [this]
  | k + 1, a, b, ha, hb, hk => by
    simp only [coX]
    by_cases e : a.toInt = b.toInt
    · rw [if_pos e, if_pos e.symm]
      exact ti_inj e
    · rw [if_neg e, if_neg (show ¬ b.toInt = a.toInt from fun z => e z.symm)]
      by_cases q : b.toInt < a.toInt
      · have h1 := pon_le h a ha
        have h2 := h1.2.2 (by omega)
        rw [if_pos q, if_neg (by omega)]
        exact co_com h k (ponX u a) b h1.1 hb (by omega)
      · have h1 := pon_le h b hb
        have h2 := h1.2.2 (by omega)
        rw [if_neg q, if_pos (by omega)]
        exact co_com h k a (ponX u b) ha h1.1 (by omega)
theorem co_self (u : LU) (a : Int32) : coX u 48 a a = a := by
  show (if a.toInt = a.toInt then a else _) = a
  exact if_pos rfl
theorem co_le {u : LU} (h : OLD u) : ∀ (k : Nat) (a b : Int32), -1 ≤ a.toInt → -1 ≤ b.toInt → a.toInt + b.toInt + 2 ≤ k → -1 ≤ (coX u k a b).toInt ∧ (coX u k a b).toInt ≤ a.toInt ∧ (coX u k a b).toInt ≤ b.toInt
  | 0, a, b, ha, hb, hk => by
    simp only [coX]
    omega
  | k + 1, a, b, ha, hb, hk => by
    simp only [coX]
    by_cases e : a.toInt = b.toInt
    · rw [if_pos e]
      omega
    · rw [if_neg e]
      by_cases q : b.toInt < a.toInt
      · have h1 := pon_le h a ha
        have h2 := h1.2.2 (by omega)
        have h3 := co_le h k (ponX u a) b h1.1 hb (by omega)
        rw [if_pos q]
        omega
      · have h1 := pon_le h b hb
        have h2 := h1.2.2 (by omega)
        have h3 := co_le h k a (ponX u b) ha h1.1 (by omega)
        rw [if_neg q]
        omega
theorem co_it (u : LU) : ∀ (k : Nat) (a b : Int32), ∃ j, itX u j a = coX u k a b
  | 0, a, b => ⟨0, rfl⟩
  | k + 1, a, b => by
    simp only [coX]
    by_cases e : a.toInt = b.toInt
    · rw [if_pos e]
      exact ⟨0, rfl⟩
    · rw [if_neg e]
      by_cases q : b.toInt < a.toInt
      · rw [if_pos q]
        obtain ⟨j, hj⟩ := co_it u k (ponX u a) b
        exact ⟨j + 1, hj⟩
      · rw [if_neg q]
        exact co_it u k a (ponX u b)
/-- a climb that has not met z yet: one further -/
theorem it_next {u : LU} {a z : Int32} (h : ∃ j, itX u j a = z) (hne : ¬ a.toInt = z.toInt) : ∃ j, itX u j (ponX u a) = z := by
  obtain ⟨j, hj⟩ := h
  cases j with
  | zero => exact absurd (congrArg Int32.toInt hj) hne
  | succ j => exact ⟨j, hj⟩
/-- nothing lies above no lot -/
theorem it_m1 {u : LU} (h : OLD u) {a z : Int32} (ha : a.toInt = -1) (hz : -1 ≤ z.toInt) (hj : ∃ j, itX u j a = z) : z.toInt = -1 := by
  obtain ⟨j, rfl⟩ := hj
  have := it_le h j a (by omega)
  omega
theorem q_pon {l : Launch} {D : va_G} {cI cZ cQ : ClassId} {a : Nat → Nat} (u : LU) (x : Int32) (hI : IX u) (hx : 0 ≤ x.toInt ∧ x.toInt < (u 0 12).toInt) : KI l yX0_parentOf wsX0_parentOf ({ frames := 2, cells := 0, slots := 0, locals := 42 } : Room) D (tyX cI cZ cQ) (wX cI cZ cQ a) [.ref (a 0), .int x] u (fun (r : Int32) (u' : LU) => r = ponX u x ∧ u' = u) := by
  refine (c_X0_parentOf u x hI hx).mono (fun r u' h => ?_)
  obtain ⟨n1, e1, h1, h2, h3⟩ := h
  have b1 := hI.l24 h1
  refine ⟨?_, h3⟩
  rw [h2]
  unfold ponX
  rw [if_pos hx, e1, tn_nI (by omega)]
theorem q_common {l : Launch} {D : va_G} {cI cZ cQ : ClassId} {a : Nat → Nat} (u : LU) (x y : Int32) (hI : IX u) (hx : 0 ≤ x.toInt ∧ x.toInt < (u 0 12).toInt) (hy : 0 ≤ y.toInt ∧ y.toInt < (u 0 12).toInt) : KI l yX0_common wsX0_common ({ frames := 2, cells := 0, slots := 0, locals := 42 } : Room) D (tyX cI cZ cQ) (wX cI cZ cQ a) [.ref (a 0), .int x, .int y] u (fun (r : Int32) (u' : LU) => r = coX u 48 x y ∧ u' = u) := (c_X0_common u x y hI hx hy).mono (fun r u' h => h.2.2)
theorem q_wafersAt {l : Launch} {D : va_G} {cI cZ cQ : ClassId} {a : Nat → Nat} (u : LU) (x : Int32) (hI : IX u) (hx : 0 ≤ x.toInt ∧ x.toInt < (u 0 4).toInt) : KI l yX0_wafersAt wsX0_wafersAt ({ frames := 2, cells := 0, slots := 0, locals := 42 } : Room) D (tyX cI cZ cQ) (wX cI cZ cQ a) [.ref (a 0), .int x] u (fun (r : Int32) (u' : LU) => r = waX u x (u 0 12).toInt.toNat ∧ u' = u) := (c_X0_wafersAt u x hI hx).mono (fun r u' h => h.2)
theorem q_wafersAtByWafers {l : Launch} {D : va_G} {cI cZ cQ : ClassId} {a : Nat → Nat} {s : Nat} {B : Int} (u : LU) (x : Int32) (hJ : JV s B u) (hI : IX u) (hx : 0 ≤ x.toInt ∧ x.toInt < (u 0 4).toInt) : KI l yX0_wafersAtByWafers wsX0_wafersAtByWafers ({ frames := 2, cells := 0, slots := 0, locals := 42 } : Room) D (tyX cI cZ cQ) (wX cI cZ cQ a) [.ref (a 0), .int x] u (fun (r : Int32) (u' : LU) => r = waX u x (u 0 12).toInt.toNat ∧ u' = u) := (c_X0_wafersAtByWafers u x hI hx).mono (fun r u' h => ⟨h.2.1.trans (wb_wa hJ x), h.2.2⟩)
/-- the lot of a wafer is not ended -/
theorem lot_alive {s : Nat} {B : Int} {u : LU} (hI : Inv s B u) {w l : Nat} (hw : (w : Int) < (u 0 16).toInt) (hl : (l : Int) < (u 0 12).toInt) (h : u 14 w = nI l) : ¬ (u 6 l).toInt = 3 := by
  have h12 := hI.1.1.2.1
  have h16 := hI.1.1.2.2.1
  have h1 := ctA_lt (f := u 14) (x := nI l) (i := w) (W := (u 0 16).toInt.toNat) (by rw [h]) (by omega)
  have h2 := ctA_le (u 14) (nI l) (u 0 16).toInt.toNat
  have h3 := hI.1.2.2.2.2.1 l hl
  have h4 : (u 12 l).toInt = _ := (congrArg Int32.toInt h3).trans (ti_nI (by omega))
  have h5 := hI.2 l hl
  omega
theorem low_ok {v n : Int32} (hn : 0 < n.toInt) : 0 ≤ ((v &&& 2147483647) - (v &&& 2147483647) / n * n).toInt ∧ ((v &&& 2147483647) - (v &&& 2147483647) / n * n).toInt < n.toInt := by
  obtain ⟨k, hk, e⟩ := pk_andE v (m := 2147483647) 31 (by decide)
  rw [e, rem_toInt, nI_toInt hk]
  exact ⟨Int.tmod_nonneg _ (by omega), Int.tmod_lt_of_pos _ hn⟩
