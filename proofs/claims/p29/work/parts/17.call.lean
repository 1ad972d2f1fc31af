/-! the class's calls as the law uses them: each keeps the invariant -/
section LCL
variable {l : Launch} {D : va_G} {cI cZ cQ : ClassId} {a : Nat → Nat} {sn : Nat} {B : Int}
theorem L_addStep (u : LU) (x y z b : Int32) {k : Nat} (hJ : JV k 0 u) (h12 : u 0 12 = 0) (h16 : u 0 16 = 0) (hk : k < 12) (hx : 0 ≤ x.toInt ∧ x.toInt ≤ 5) (hy : 1 ≤ y.toInt ∧ y.toInt ≤ 1000) (hz : 0 ≤ z.toInt ∧ z.toInt ≤ 10000) (hb : 0 ≤ b.toInt ∧ b.toInt ≤ k) : KI l yX0_addStep wsX0_addStep ({ frames := 2, cells := 0, slots := 0, locals := 42 } : Room) D (tyX cI cZ cQ) (wX cI cZ cQ a) [.ref (a 0), .int x, .int y, .int z, .int b] u (fun (_ : Int32) (u' : LU) => JV (k + 1) 0 u' ∧ u' 0 12 = 0 ∧ u' 0 16 = 0) := by
  have e4 : (u 0 4).toInt = (k : Int) := by rw [hJ.1.1]; exact ti_nI (by omega)
  have e12 : (u 0 12).toInt = 0 := by rw [h12]; rfl
  refine (c_X0_addStep u x y z b (hJ.ix (by omega)) hx ⟨hy, hz, by omega⟩ ⟨by omega, by omega⟩).mono (fun r u' h => ?_)
  obtain ⟨-, -, -, -, rfl⟩ := h
  exact J_as hJ h12 h16 hk hy
theorem L_enter (u : LU) (c : Nat) (hI : Inv sn B u) (hs1 : 1 ≤ sn) (hs : sn ≤ 12) (hc : 1 ≤ c ∧ c ≤ 12) (hL : (u 0 12).toInt < 24) (hW : (u 0 16).toInt + c ≤ 60) : KI l yX0_enter wsX0_enter ({ frames := 2, cells := 0, slots := 0, locals := 45 } : Room) D (tyX cI cZ cQ) (wX cI cZ cQ a) [.ref (a 0), .int (nI c)] u (fun (_ : Int32) (u' : LU) => Inv sn B u' ∧ (u' 0 12).toInt = (u 0 12).toInt + 1 ∧ (u' 0 16).toInt = (u 0 16).toInt + c) := by
  have ec := ti_nI (n := c) (by omega)
  have e4 : (u 0 4).toInt = (sn : Int) := by rw [hI.1.1.1]; exact ti_nI (by omega)
  refine (c_X0_enter u (nI c) (hI.1.ix hs) ⟨by omega, by omega⟩ ⟨by omega, hL, by omega⟩).mono (fun r u' h => ?_)
  obtain ⟨-, -, n, w0, hn, hw0, h1, h2, -, rfl⟩ := h
  have e12 : (u 0 12).toInt = (n : Int) := by rw [h1]; exact ti_nI (by omega)
  have e16 : (u 0 16).toInt = (w0 : Int) := by rw [h2]; exact ti_nI (by omega)
  rw [show (nI c).toInt.toNat = c by omega]
  obtain ⟨g1, g2, g3⟩ := I_enter (w := w0) (c := c) hI hs1 h1 hn h2 hc.1 (by omega)
  refine ⟨g1, ?_, ?_⟩
  · rw [g2, ti_nI (by omega), e12]
    rfl
  · rw [g3, ti_nI (by omega), e16]
    omega
theorem L_start (u : LU) (n : Nat) (hI : Inv sn B u) (hs : sn ≤ 12) (hB : B ≤ 1000000) (hn : (n : Int) < (u 0 12).toInt) (hy : rdX u n ∧ (0 ≤ (u 7 n).toInt ∧ (u 7 n).toInt < (u 0 4).toInt) ∧ ¬ buX u (u 1 (u 7 n).toNatClampNeg)) : KI l yX0_start wsX0_start ({ frames := 3, cells := 0, slots := 0, locals := 66 } : Room) D (tyX cI cZ cQ) (wX cI cZ cQ a) [.ref (a 0), .int (nI n)] u (fun (r : Int32) (u' : LU) => Inv sn B u' ∧ u' 0 = u 0 ∧ (u 0 17).toInt < r.toInt) := by
  refine (q_start u n (hI.1.ix hs) hn hy).mono (fun r u' h => ?_)
  obtain ⟨rfl, rfl⟩ := h
  exact I_start hI hs hB hn hy.1.1.1
theorem L_split (u : LU) (n : Nat) (y : Int32) (hI : Inv sn B u) (hs : sn ≤ 12) (hn : (n : Int) < (u 0 12).toInt) (h6 : (u 6 n).toInt = 0) (hL : (u 0 12).toInt < 24) (hy : 1 ≤ y.toInt ∧ y.toInt ≤ (u 12 n - 1).toInt) : KI l yX0_split wsX0_split ({ frames := 2, cells := 0, slots := 0, locals := 48 } : Room) D (tyX cI cZ cQ) (wX cI cZ cQ a) [.ref (a 0), .int (nI n), .int y] u (fun (r : Int32) (u' : LU) => ∃ k : Nat, r = nI k ∧ Inv sn B u' ∧ (u 0 12).toInt = k ∧ (u' 0 12).toInt = (k : Int) + 1 ∧ u' 0 16 = u 0 16 ∧ (u' 12 k).toInt = y.toInt ∧ (u' 12 n).toInt = (u 12 n - y).toInt ∧ u' 11 k = nI n ∧ slX u' k = slX u' n) := by
  refine (q_split u n y (hI.1.ix hs) hn ⟨hy, h6, hL⟩).mono (fun r u' h => ?_)
  obtain ⟨k, hk, h1, h2, rfl⟩ := h
  obtain ⟨g1, g2, g3, g4, g5, g6, g7⟩ := I_split hI hn h6 h1 hk hy
  refine ⟨k, h2, g1, ?_, ?_, g3, g4, g5, g6, g7⟩
  · rw [h1]; exact ti_nI (by omega)
  · rw [g2, ti_nI (by omega)]; rfl
theorem L_hold (u : LU) (n : Nat) (P : Prop) (hI : Inv sn B u) (hs : sn ≤ 12) (hn : (n : Int) < (u 0 12).toInt) (h6 : (u 6 n).toInt < 2) : KI l yX0_hold wsX0_hold ({ frames := 2, cells := 0, slots := 0, locals := 42 } : Room) D (tyX cI cZ cQ) (wX cI cZ cQ a) [.ref (a 0), .int (nI n), .int (bP P)] u (fun (r : Int32) (u' : LU) => r = u 9 n ∧ Inv sn B u' ∧ u' 0 = u 0 ∧ u' 6 = u 6 ∧ u' 9 n = bP P) := by
  refine (q_hold u n P (hI.1.ix hs) hn ⟨by omega, by omega⟩).mono (fun r u' h => ?_)
  obtain ⟨h1, rfl⟩ := h
  refine ⟨h1, I_hold hI n P, rfl, rfl, ?_⟩
  show upd (u 9) n (bP P) n = bP P
  exact upd_s
theorem L_scrap (u : LU) (w k : Nat) (hI : Inv sn B u) (hs : sn ≤ 12) (hw : (w : Int) < (u 0 16).toInt) (hk : u 14 w = nI k) (hkl : (k : Int) < (u 0 12).toInt) (h6 : (u 6 k).toInt = 0) : KI l yX0_scrap wsX0_scrap ({ frames := 1, cells := 0, slots := 0, locals := 22 } : Room) D (tyX cI cZ cQ) (wX cI cZ cQ a) [.ref (a 0), .int (nI w)] u (fun (_ : Int32) (u' : LU) => Inv sn B u' ∧ u' 0 = u 0) := by
  refine (q_scrap u w k (hI.1.ix hs) hw hk hkl h6).mono (fun r u' h => ?_)
  subst h
  exact I_scrap hI hw hk hkl h6
theorem L_advance (u : LU) (x : Int32) (hI : Inv sn B u) (hs : sn ≤ 12) (hB : B ≤ 1000000) (hx : 1 ≤ x.toInt ∧ x.toInt ≤ 40) : KI l yX0_advance wsX0_advance ({ frames := 2, cells := 0, slots := 0, locals := 44 } : Room) D (tyX cI cZ cQ) (wX cI cZ cQ a) [.ref (a 0), .int x] u (fun (_ : Int32) (u' : LU) => Inv sn (B + 40) u' ∧ u' 0 12 = u 0 12 ∧ u' 0 16 = u 0 16) := by
  refine (c_X0_advance u x (hI.1.ix hs) ⟨by omega, by omega⟩).mono (fun r u' h => ?_)
  obtain ⟨-, -, rfl⟩ := h
  exact I_adv hI hs hB hx
theorem nf_ok (u : LU) (x : Int32) : ∀ i : Nat, (nfX u x i).1.toInt = -1 ∨ ∃ n : Nat, n < i ∧ (nfX u x i).1 = nI n ∧ rdX u n ∧ utX u n x
  | 0 => Or.inl rfl
  | i + 1 => by
    simp only [nfX]
    rcases Classical.em (rdX u i ∧ utX u i x ∧ (slX u i).toInt < (nfX u x i).2.toInt) with q | q
    · rw [cif_t q]
      exact Or.inr ⟨i, by omega, rfl, q.1, q.2.1⟩
    · rw [cif_f q]
      rcases nf_ok u x i with h | ⟨n, h1, h2⟩
      · exact Or.inl h
      · exact Or.inr ⟨n, by omega, h2⟩
theorem L_nextFor (u : LU) (x : Int32) (hI : Inv sn B u) (hs : sn ≤ 12) (hx : 0 ≤ x.toInt ∧ x.toInt ≤ 5) : KI l yX0_nextFor wsX0_nextFor ({ frames := 3, cells := 0, slots := 0, locals := 66 } : Room) D (tyX cI cZ cQ) (wX cI cZ cQ a) [.ref (a 0), .int x] u (fun (r : Int32) (u' : LU) => (r.toInt < 0 ∨ ∃ n : Nat, r = nI n ∧ (n : Int) < (u 0 12).toInt ∧ rdX u n ∧ (0 ≤ (u 7 n).toInt ∧ (u 7 n).toInt < (u 0 4).toInt) ∧ ¬ buX u (u 1 (u 7 n).toNatClampNeg)) ∧ u' = u) := by
  refine (c_X0_nextFor u x (hI.1.ix hs) hx).mono (fun r u' h => ?_)
  obtain ⟨-, h, hu⟩ := h
  refine ⟨?_, hu⟩
  have h12 := hI.1.1.2.1
  rcases h with ⟨-, rfl⟩ | ⟨hb, rfl⟩
  · exact Or.inl (by decide)
  · rcases nf_ok u x (u 0 12).toInt.toNat with h | ⟨n, h1, h2, h3, h4⟩
    · exact Or.inl (by omega)
    · refine Or.inr ⟨n, h2, by omega, h3, h4.1, ?_⟩
      rw [ti_inj h4.2]
      exact hb
theorem lot_of {u : LU} (hI : Inv sn B u) {w : Nat} (hw : (w : Int) < (u 0 16).toInt) : (u 14 w).toInt = -1 ∨ ∃ k : Nat, u 14 w = nI k ∧ (k : Int) < (u 0 12).toInt := by
  obtain ⟨m, q, -, p1, p2, p3, p4, p5⟩ := hI.1.2.2.2.2.2.1 w hw
  rcases p5 with h | h
  · exact Or.inl (by rw [h]; rfl)
  · exact Or.inr ⟨q m, h, (p2 m (Nat.le_refl m)).2⟩
theorem no_waf {u : LU} (hI : Inv sn B u) (h : (u 0 12).toInt = 0) : (u 0 16).toInt = 0 := by
  have h16 := hI.1.1.2.2.1
  rcases Int.lt_or_le 0 (u 0 16).toInt with q | q
  · obtain ⟨m, f, -, p1, p2, -⟩ := hI.1.2.2.2.2.2.1 0 (by omega)
    have := (p2 0 (Nat.zero_le m)).2
    omega
  · omega
end LCL
