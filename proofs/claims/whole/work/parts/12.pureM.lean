/-! THE REFERENCE's steps as functions of its state -/
def thM (u : LU) (x : Int32) : LU := up u 0 (upd (u 0) 0 x)
/-- the reference's invariant, as far as its indices need it -/
def IM (u : LU) : Prop := (0 ≤ (u 0 2).toInt ∧ (u 0 2).toInt ≤ 12) ∧ (0 ≤ (u 0 7).toInt ∧ (u 0 7).toInt ≤ 24) ∧ (0 ≤ (u 0 15).toInt ∧ (u 0 15).toInt ≤ 60) ∧ (∀ n, n < 24 → (u 9 n).toInt ≤ 1 → 0 ≤ (u 10 n).toInt ∧ (u 10 n).toInt < 12) ∧ (∀ n, n < 24 → vp_nar .boolean (u 13 n) = u 13 n ∧ narrow .boolean (.int (u 13 n)) = .int (u 13 n)) ∧ (∀ w, w < 60 → 0 ≤ (u 18 w).toInt ∧ (u 18 w).toInt ≤ 47) ∧ (∀ w, w < 60 → (u 17 w).toInt = -1 ∨ 0 ≤ (u 17 w).toInt ∧ (u 17 w).toInt < 24) ∧ ∀ n : Nat, (n : Int) < (u 0 7).toInt → -1 ≤ (u 15 n).toInt ∧ (u 15 n).toInt < n
def ptM (u : LU) (w : Nat) (x : Int32) : LU := up (up (up u 17 (upd (u 17) w x)) 19 (upd (u 19) (48 * w + (u 18 w).toInt.toNat) x)) 18 (upd (u 18) w (u 18 w + 1))
theorem ti_mul {x y : Int32} (h1 : -2147483648 ≤ x.toInt * y.toInt) (h2 : x.toInt * y.toInt < 2147483648) : (x * y).toInt = x.toInt * y.toInt := by
  rw [Int32.toInt_mul]
  exact Int.bmod_eq_of_le (by omega) (by omega)
theorem ix48 {w : Nat} {x : Int32} (hw : w < 60) (h : 0 ≤ x.toInt ∧ x.toInt ≤ 47) : (48 * nI w + x).toInt = 48 * (w : Int) + x.toInt := by
  have e48 : (48 : Int32).toInt = 48 := rfl
  have ew : (nI w).toInt = (w : Int) := nI_toInt (by omega)
  have h1 : (48 * nI w).toInt = 48 * (w : Int) := by
    rw [ti_mul (by rw [e48, ew]; omega) (by rw [e48, ew]; omega), e48, ew]
  rw [ti_add (by rw [h1]; omega) (by rw [h1]; omega), h1]
theorem ix48_in {w : Nat} {x : Int32} (hw : w < 60) (h : 0 ≤ x.toInt ∧ x.toInt ≤ 47) : vp_in (48 * nI w + x) 2880 := by
  have e := ix48 hw h
  exact vp_of (by omega) (by omega)
theorem ix48_k {w : Nat} {x : Int32} (hw : w < 60) (h : 0 ≤ x.toInt ∧ x.toInt ≤ 47) : (48 * nI w + x).toNatClampNeg = 48 * w + x.toInt.toNat := by
  have e := ix48 hw h
  show (48 * nI w + x).toInt.toNat = _
  rw [e]
  omega
def ctA (f : Nat → Int32) (x : Int32) : Nat → Nat
  | 0 => 0
  | i + 1 => if (f i).toInt = x.toInt then ctA f x i + 1 else ctA f x i
theorem ctA_t {f : Nat → Int32} {x : Int32} {i : Nat} (h : (f i).toInt = x.toInt) : nI (ctA f x i) + 1 = nI (ctA f x (i + 1)) := by
  simp only [ctA]
  rw [if_pos h, nI_1]
theorem ctA_f {f : Nat → Int32} {x : Int32} {i : Nat} (h : ¬ (f i).toInt = x.toInt) : nI (ctA f x i) + 0 = nI (ctA f x (i + 1)) := by
  simp only [ctA]
  rw [if_neg h, Int32.add_zero]
def ewM (u : LU) (w n : Nat) : LU := up (ptM u w (nI n)) 0 (upd (ptM u w (nI n) 0) 15 (nI w + 1))
def enM (u : LU) (w n : Nat) : Nat → LU
  | 0 => u
  | i + 1 => ewM (enM u w n i) (w + i) n
/-- enter, ahead of its loop -/
def e0M (u : LU) (n : Nat) : LU := up (up (thM u 0) 15 (upd (u 15) n (-1))) 11 (upd (u 11) n (u 0 1))
def e1M (v : LU) (n : Nat) : LU := up v 0 (upd (v 0) 7 (nI n + 1))
def asM (u : LU) (x y z b : Int32) : LU := up (up (up (up (up (thM u 0) 4 (upd (u 4) (u 0 2).toNatClampNeg x)) 5 (upd (u 5) (u 0 2).toNatClampNeg y)) 6 (upd (u 6) (u 0 2).toNatClampNeg z)) 7 (upd (u 7) (u 0 2).toNatClampNeg b)) 0 (upd (upd (u 0) 0 0) 2 (u 0 2 + 1))
def tlM (u : LU) (n : Nat) : Prop := (u 9 n).toInt = 0 ∧ 0 < (u 6 (u 10 n).toNatClampNeg).toInt ∧ (u 6 (u 10 n).toNatClampNeg).toInt < (u 0 1 - u 11 n).toInt
def buP (u : LU) (x : Int32) (i : Nat) : Prop := ∃ j : Nat, j < i ∧ (u 9 j).toInt = 1 ∧ (u 4 (u 10 j).toNatClampNeg).toInt = x.toInt
def buM (u : LU) (x : Int32) : Prop := buP u x (u 0 7).toInt.toNat
theorem buP_t {u : LU} {x : Int32} {i : Nat} (h : buP u x i) : buP u x (i + 1) := by
  obtain ⟨j, h1, h2⟩ := h
  exact ⟨j, by omega, h2⟩
theorem buP_n {u : LU} {x : Int32} {i : Nat} (h : (u 9 i).toInt = 1) (h2 : (u 4 (u 10 i).toNatClampNeg).toInt = x.toInt) : buP u x (i + 1) := ⟨i, by omega, h, h2⟩
theorem buP_f {u : LU} {x : Int32} {i : Nat} (h0 : ¬ buP u x i) (h : ¬ ((u 9 i).toInt = 1 ∧ (u 4 (u 10 i).toNatClampNeg).toInt = x.toInt)) : ¬ buP u x (i + 1) := by
  rintro ⟨j, h1, h2⟩
  rcases Nat.lt_or_ge j i with q | q
  · exact h0 ⟨j, q, h2⟩
  · have : j = i := by omega
    subst this
    exact h h2
def saM (u : LU) (n : Nat) : LU := up (up (thM (thM u 0) 0) 9 (upd (u 9) n 1)) 12 (upd (u 12) n (u 0 1 + u 5 (u 10 n).toNatClampNeg))
def rwM (u : LU) (n : Nat) : LU := up (up (up (thM u 0) 10 (upd (u 10) n (u 7 (u 10 n).toNatClampNeg))) 11 (upd (u 11) n (u 0 1))) 14 (upd (u 14) n (u 14 n + 1))
/-- split, ahead of its loop -/
def s0M (u : LU) (n k : Nat) : LU := up (up (up (up (up (up (up (thM u 0) 9 (upd (u 9) k 0)) 10 (upd (u 10) k (u 10 n))) 11 (upd (u 11) k (u 11 n))) 13 (upd (u 13) k (u 13 n))) 14 (upd (u 14) k (u 14 n))) 15 (upd (u 15) k (nI n))) 0 (upd (upd (u 0) 0 0) 7 (nI k + 1))
def msM (u : LU) (f t : Nat) (c : Int32) : Nat → LU × Int32
  | 0 => (u, c)
  | i + 1 => if 0 < (msM u f t c i).2.toInt ∧ ((msM u f t c i).1 17 i).toInt = f then (ptM (msM u f t c i).1 i (nI t), (msM u f t c i).2 + -1) else msM u f t c i
theorem msM_t {u v : LU} {f t : Nat} {c z : Int32} {i : Nat} (hv : msM u f t c i = (v, z)) (h1 : 0 < z.toInt) (h2 : (v 17 i).toInt = f) : msM u f t c (i + 1) = (ptM v i (nI t), z + -1) := by
  simp only [msM]
  rw [hv]
  exact if_pos ⟨h1, h2⟩
theorem msM_f {u v : LU} {f t : Nat} {c z : Int32} {i : Nat} (hv : msM u f t c i = (v, z)) (h2 : ¬ (0 < z.toInt ∧ (v 17 i).toInt = f)) : msM u f t c (i + 1) = (v, z) := by
  simp only [msM]
  rw [hv]
  exact if_neg h2
def mmM (u : LU) (f t : Nat) : Nat → LU
  | 0 => u
  | i + 1 => if (mmM u f t i 17 i).toInt = f then ptM (mmM u f t i) i (nI t) else mmM u f t i
theorem mmM_t {u v : LU} {f t : Nat} {i : Nat} (hv : v = mmM u f t i) (h2 : (v 17 i).toInt = f) : mmM u f t (i + 1) = ptM v i (nI t) := by
  subst hv
  simp only [mmM]
  exact if_pos h2
theorem mmM_f {u v : LU} {f t : Nat} {i : Nat} (hv : v = mmM u f t i) (h2 : ¬ (v 17 i).toInt = f) : mmM u f t (i + 1) = v := by
  subst hv
  simp only [mmM]
  exact if_neg h2
def m1M (v : LU) (n k : Nat) : LU := up (up (up v 11 (upd (v 11) k (if (v 11 n).toInt < (v 11 k).toInt then v 11 n else v 11 k))) 14 (upd (v 14) k (if (v 14 k).toInt < (v 14 n).toInt then v 14 n else v 14 k))) 9 (upd (v 9) n 3)
def scM (u : LU) (w : Nat) : LU := up (up (thM u 0) 17 (upd (u 17) w (-1))) 9 (upd (u 9) (u 17 w).toNatClampNeg (if (nI (ctA (upd (u 17) w (-1)) (u 17 w) (u 0 15).toInt.toNat)).toInt = 0 then 3 else u 9 (u 17 w).toNatClampNeg))
def a0M (u : LU) (x : Int32) : LU := up (thM u 0) 0 (upd (upd (u 0) 0 0) 1 (u 0 1 + x))
def eaM (v : LU) (i : Nat) : LU := up (up (up v 10 (upd (v 10) i (v 10 i + 1))) 11 (upd (v 11) i (v 12 i))) 9 (upd (v 9) i (if (v 10 i + 1).toInt = (v 0 2).toInt then 2 else 0))
def avM (u : LU) : Nat → LU × Nat
  | 0 => (u, 0)
  | i + 1 => if ((avM u i).1 9 i).toInt = 1 ∧ ((avM u i).1 12 i).toInt ≤ ((avM u i).1 0 1).toInt then (eaM (avM u i).1 i, (avM u i).2 + 1) else avM u i
theorem avM_t {u v : LU} {i k : Nat} (hv : avM u i = (v, k)) (h1 : (v 9 i).toInt = 1) (h2 : (v 12 i).toInt ≤ (v 0 1).toInt) : avM u (i + 1) = (eaM v i, k + 1) := by
  simp only [avM]
  rw [hv]
  exact if_pos ⟨h1, h2⟩
theorem avM_f {u v : LU} {i k : Nat} (hv : avM u i = (v, k)) (h2 : ¬ ((v 9 i).toInt = 1 ∧ (v 12 i).toInt ≤ (v 0 1).toInt)) : avM u (i + 1) = (v, k) := by
  simp only [avM]
  rw [hv]
  exact if_neg h2
def lfM (u : LU) (n : Nat) : Int32 := if (u 6 (u 10 n).toNatClampNeg).toInt = 0 then 1000000 else u 6 (u 10 n).toNatClampNeg - (u 0 1 - u 11 n)
def cnM (u : LU) (x : Int32) (i : Nat) : Prop := (u 9 i).toInt = 0 ∧ (u 13 i).toInt = 0 ∧ ¬ tlM u i ∧ (u 4 (u 10 i).toNatClampNeg).toInt = x.toInt
noncomputable def nfM (u : LU) (x : Int32) : Nat → Int32
  | 0 => -1
  | i + 1 => cif (cnM u x i ∧ ((nfM u x i).toInt = -1 ∨ (lfM u i).toInt < (lfM u (nfM u x i).toNatClampNeg).toInt)) (nI i) (nfM u x i)
theorem nfM_t {u : LU} {x b : Int32} {i : Nat} (hv : nfM u x i = b) (h1 : cnM u x i) (h2 : b.toInt = -1 ∨ (lfM u i).toInt < (lfM u b.toNatClampNeg).toInt) : nfM u x (i + 1) = nI i := by
  simp only [nfM]
  rw [hv]
  exact cif_t ⟨h1, h2⟩
theorem nfM_f {u : LU} {x b : Int32} {i : Nat} (hv : nfM u x i = b) (h : ¬ (cnM u x i ∧ (b.toInt = -1 ∨ (lfM u i).toInt < (lfM u b.toNatClampNeg).toInt))) : nfM u x (i + 1) = b := by
  simp only [nfM]
  rw [hv]
  exact cif_f h
theorem nfM_end {u : LU} {x b : Int32} {i : Nat} {B : Prop} {L : Nat} (hv : nfM u x i = b) (h0 : i = 0 ∨ ¬ B) (hL : i = L) : (B ∧ b = -1) ∨ (¬ B ∧ b = nfM u x L) := by
  rcases Classical.em B with q | q
  · rcases h0 with h | h
    · subst h
      exact Or.inl ⟨q, hv.symm⟩
    · exact absurd q h
  · exact Or.inr ⟨q, by rw [← hL, hv]⟩
def atM (u : LU) (x : Int32) : Nat → Int32
  | 0 => 0
  | i + 1 => atM u x i + (if (u 9 i).toInt ≤ 1 ∧ (u 10 i).toInt = x.toInt then nI (ctA (u 17) (nI i) (u 0 15).toInt.toNat) else 0)
def clr (u : LU) : Nat → LU
  | 0 => u
  | i + 1 => up (clr u i) 20 (upd (clr u i 20) i 0)
def chM (u : LU) : Nat → Int32 → LU
  | 0, _ => u
  | k + 1, a => if a.toInt = -1 then u else chM (up u 20 (upd (u 20) a.toNatClampNeg 1)) k (u 15 a.toNatClampNeg)
def clM (u : LU) : Nat → Int32 → Int32
  | 0, a => a
  | k + 1, a => if a.toInt = -1 ∨ ¬ (u 20 a.toNatClampNeg).toInt = 0 then a else clM u k (u 15 a.toNatClampNeg)
theorem chM_stop {u : LU} {a : Int32} (h : a.toInt = -1) (k : Nat) : chM u k a = u := by
  cases k with
  | zero => rfl
  | succ k => simp only [chM]; exact if_pos h
theorem clM_stop {u : LU} {a : Int32} (h : a.toInt = -1 ∨ ¬ (u 20 a.toNatClampNeg).toInt = 0) (k : Nat) : clM u k a = a := by
  cases k with
  | zero => rfl
  | succ k => simp only [clM]; exact if_pos h
theorem ewM_15 (v : LU) (w n : Nat) : ewM v w n 0 15 = nI (w + 1) := by
  show upd (ptM v w (nI n) 0) 15 (nI w + 1) 15 = nI (w + 1)
  rw [upd_s, nI_1]
theorem ewM_7 (v : LU) (w n : Nat) : ewM v w n 0 7 = v 0 7 := rfl
theorem ptM_18 (v : LU) {w q : Nat} (x : Int32) (h : q ≠ w) : ptM v w x 18 q = v 18 q := by
  show upd (v 18) w _ q = _
  exact upd_n h
theorem ewM_18 (v : LU) {w q : Nat} (n : Nat) (h : q ≠ w) : ewM v w n 18 q = v 18 q := ptM_18 v (nI n) h
theorem clr_15 (u : LU) : ∀ i, clr u i 15 = u 15
  | 0 => rfl
  | i + 1 => clr_15 u i
theorem ctA_le (f : Nat → Int32) (x : Int32) : ∀ n, ctA f x n ≤ n
  | 0 => Nat.le_refl 0
  | n + 1 => by
    have h := ctA_le f x n
    simp only [ctA]
    split <;> omega
