def tx0 : List (Nat × String) := [(78, "minutes, limit or back is out of range"), (85, "the route takes no more steps"), (88, "wafers is out of range"), (90, "there is no step, or no room for the lot or its wafers"), (112, "the lot can't run now"), (117, "the lot can't be reworked now"), (119, "the lot is not WAITING, or there were 24 lots"), (125, "both lots are the same"), (127, "the lots can't be merged now"), (142, "the lot is DONE or ENDED"), (150, "the wafer was scrapped, or its lot is not WAITING"), (152, "minutes is out of range"), (174, "the path has no such place"), (177, "there is no such tool"), (179, "there is no such step"), (181, "there was no such lot"), (183, "there was no such wafer")]
/-- what is left of the waiting -/
def slX (u : LU) (n : Nat) : Int32 := if (u 6 n).toInt = 0 ∧ 0 ≤ (u 7 n).toInt ∧ (u 7 n).toInt < (u 0 4).toInt then (if (u 3 (u 7 n).toNatClampNeg).toInt = 0 then 1000000 else u 3 (u 7 n).toNatClampNeg - (u 0 17 - u 8 n)) else 2000000
def rdX (u : LU) (n : Nat) : Prop := ((u 6 n).toInt = 0 ∧ (u 9 n).toInt = 0) ∧ 0 ≤ (slX u n).toInt
def utX (u : LU) (n : Nat) (x : Int32) : Prop := (0 ≤ (u 7 n).toInt ∧ (u 7 n).toInt < (u 0 4).toInt) ∧ (u 1 (u 7 n).toNatClampNeg).toInt = x.toInt
def buX (u : LU) (x : Int32) : Prop := ∃ j : Nat, (j : Int) < (u 0 12).toInt ∧ (u 6 j).toInt = 1 ∧ utX u j x
def ponX (u : LU) (x : Int32) : Int32 := if 0 ≤ x.toInt ∧ x.toInt < (u 0 12).toInt then u 11 x.toNatClampNeg else -1
noncomputable def cif {α : Type} (P : Prop) (a b : α) : α := @ite α P (Classical.propDecidable P) a b
theorem cif_t {α : Type} {P : Prop} {a b : α} (h : P) : cif P a b = a := by unfold cif; exact if_pos h
theorem cif_f {α : Type} {P : Prop} {a b : α} (h : ¬ P) : cif P a b = b := by unfold cif; exact if_neg h
/-- the state after leaveRoute, endProcessing, putInto, makeLot, makeWafer, moveWafers .. -/
def lvX (u : LU) (n : Nat) (x : Int32) : LU := up (up u 6 (upd (u 6) n x)) 7 (upd (u 7) n (-1))
def epX (u : LU) (n : Nat) : LU := if 0 ≤ (u 7 n + 1).toInt ∧ (u 7 n + 1).toInt < (u 0 4).toInt then up (up u 6 (upd (u 6) n 0)) 7 (upd (u 7) n (u 7 n + 1)) else lvX u n 2
def put1 (u : LU) (w n : Nat) : LU := up (up u 14 (upd (u 14) w (nI n))) 12 (upd (u 12) n (u 12 n + 1))
def put2 (u : LU) (w n : Nat) : LU := up (put1 u w n) (100 + w) (upd (put1 u w n (100 + w)) (u 16 w).toNatClampNeg (nI n))
def putX (u : LU) (w n : Nat) : LU := if (u 16 w).toInt < 47 then up (put2 u w n) 16 (upd (put2 u w n 16) w (u 16 w + 1)) else put1 u w n
def mkLX (u : LU) (n : Nat) (st si hd rw9 pa : Int32) : LU := up (up (up (up (up (up (up (up u 6 (upd (u 6) n 0)) 7 (upd (u 7) n st)) 8 (upd (u 8) n si)) 9 (upd (u 9) n hd)) 10 (upd (u 10) n rw9)) 11 (upd (u 11) n pa)) 12 (upd (u 12) n 0)) 0 (upd (u 0) 12 (nI n + 1))
def mwX (u : LU) (w n : Nat) : LU := putX (up (up u 16 (upd (u 16) w 0)) 0 (upd (u 0) 16 (nI w + 1))) w n
def enX (u : LU) (w n : Nat) : Nat → LU
  | 0 => u
  | i + 1 => mwX (enX u w n i) (w + i) n
def mv1 (u : LU) (f w t : Nat) : LU := putX (up u 12 (upd (u 12) f (u 12 f - 1))) w t
def mvX (u : LU) (f t : Nat) (c : Int32) : Nat → LU × Nat
  | 0 => (u, 0)
  | i + 1 => if ((mvX u f t c i).2 : Int) < c.toInt ∧ ((mvX u f t c i).1 14 i).toInt = f then (mv1 (mvX u f t c i).1 f i t, (mvX u f t c i).2 + 1) else mvX u f t c i
def avX (u : LU) : Nat → LU × Nat
  | 0 => (u, 0)
  | i + 1 => if ((avX u i).1 6 i).toInt = 1 ∧ ((avX u i).1 8 i).toInt ≤ ((avX u i).1 0 17).toInt then (epX (avX u i).1 i, (avX u i).2 + 1) else avX u i
noncomputable def nfX (u : LU) (x : Int32) : Nat → Int32 × Int32
  | 0 => (-1, 2000000)
  | i + 1 => cif (rdX u i ∧ utX u i x ∧ (slX u i).toInt < (nfX u x i).2.toInt) (nI i, slX u i) (nfX u x i)
def waX (u : LU) (x : Int32) : Nat → Int32
  | 0 => 0
  | i + 1 => if (u 7 i).toInt = x.toInt then waX u x i + u 12 i else waX u x i
def wbX (u : LU) (x : Int32) : Nat → Nat
  | 0 => 0
  | i + 1 => if (0 ≤ (u 14 i).toInt ∧ (u 14 i).toInt < (u 0 12).toInt) ∧ (u 7 (u 14 i).toNatClampNeg).toInt = x.toInt then wbX u x i + 1 else wbX u x i
def coX (u : LU) : Nat → Int32 → Int32 → Int32
  | 0, a, _ => a
  | k + 1, a, b => if a.toInt = b.toInt then a else if b.toInt < a.toInt then coX u k (ponX u a) b else coX u k a (ponX u b)
/-- the class's own invariant, as far as its indices need it -/
def IX (u : LU) : Prop := (0 ≤ (u 0 4).toInt ∧ (u 0 4).toInt ≤ 12) ∧ (0 ≤ (u 0 12).toInt ∧ (u 0 12).toInt ≤ 24) ∧ (0 ≤ (u 0 16).toInt ∧ (u 0 16).toInt ≤ 60) ∧ (∀ n, n < 24 → vp_nar .boolean (u 9 n) = u 9 n ∧ narrow .boolean (.int (u 9 n)) = .int (u 9 n)) ∧ ∀ w, w < 60 → 0 ≤ (u 16 w).toInt ∧ (u 16 w).toInt ≤ 47
theorem upd_s {f : Nat → Int32} {k : Nat} {x : Int32} : upd f k x k = x := pk_us
theorem upd_n {f : Nat → Int32} {k j : Nat} {x : Int32} (h : j ≠ k) : upd f k x j = f j := pk_un h
theorem put1_0 (u : LU) (w n : Nat) : put1 u w n 0 = u 0 := rfl
theorem putX_0 (u : LU) (w n : Nat) : putX u w n 0 = u 0 := by
  unfold putX
  split
  · show put2 u w n 0 = u 0
    unfold put2
    rw [up_n _ _ _ (by omega : 0 ≠ 100 + w)]
    rfl
  · rfl
theorem put2_16 (u : LU) (w n : Nat) (hw : w < 60) : put2 u w n 16 = u 16 := by
  unfold put2
  rw [up_n _ _ _ (by omega : 16 ≠ 100 + w)]
  rfl
theorem putX_16 (u : LU) (w n : Nat) (hw : w < 60) : putX u w n 16 = if (u 16 w).toInt < 47 then upd (u 16) w (u 16 w + 1) else u 16 := by
  unfold putX
  split
  · rw [up_s, put2_16 u w n hw]
  · rfl
theorem putX_pb {u : LU} {w n : Nat} (hw : w < 60) (h : ∀ w, w < 60 → 0 ≤ (u 16 w).toInt ∧ (u 16 w).toInt ≤ 47) : ∀ q, q < 60 → 0 ≤ (putX u w n 16 q).toInt ∧ (putX u w n 16 q).toInt ≤ 47 := by
  intro q hq
  rw [putX_16 u w n hw]
  have h1 := h q hq
  split
  · by_cases e : q = w
    · subst e
      have e1 : (1 : Int32).toInt = 1 := rfl
      have h2 : (u 16 q + 1).toInt = (u 16 q).toInt + (1 : Int32).toInt := ti_add (by rw [e1]; omega) (by rw [e1]; omega)
      rw [upd_s, h2, e1]
      omega
    · rw [upd_n e]
      exact h1
  · exact h1
theorem epX_0 (u : LU) (n : Nat) : epX u n 0 = u 0 := by unfold epX; split <;> rfl
theorem mvX_stop (u : LU) (f t : Nat) (c : Int32) {i : Nat} (h : c.toInt ≤ ((mvX u f t c i).2 : Int)) : ∀ k, mvX u f t c (i + k) = mvX u f t c i
  | 0 => rfl
  | k + 1 => by
    have ih := mvX_stop u f t c h k
    show mvX u f t c ((i + k) + 1) = _
    simp only [mvX]
    rw [ih, if_neg (by omega)]
theorem mvX_t {u v : LU} {f t : Nat} {c : Int32} {i k : Nat} (hv : mvX u f t c i = (v, k)) (h1 : (k : Int) < c.toInt) (h2 : (v 14 i).toInt = f) : mvX u f t c (i + 1) = (mv1 v f i t, k + 1) := by
  simp only [mvX]
  rw [hv]
  exact if_pos ⟨h1, h2⟩
theorem mvX_f {u v : LU} {f t : Nat} {c : Int32} {i k : Nat} (hv : mvX u f t c i = (v, k)) (h2 : ¬ (v 14 i).toInt = f) : mvX u f t c (i + 1) = (v, k) := by
  simp only [mvX]
  rw [hv]
  exact if_neg (fun q => h2 q.2)
theorem avX_t {u v : LU} {i k : Nat} (hv : avX u i = (v, k)) (h1 : (v 6 i).toInt = 1) (h2 : (v 8 i).toInt ≤ (v 0 17).toInt) : avX u (i + 1) = (epX v i, k + 1) := by
  simp only [avX]
  rw [hv]
  exact if_pos ⟨h1, h2⟩
theorem avX_f {u v : LU} {i k : Nat} (hv : avX u i = (v, k)) (h2 : ¬ ((v 6 i).toInt = 1 ∧ (v 8 i).toInt ≤ (v 0 17).toInt)) : avX u (i + 1) = (v, k) := by
  simp only [avX]
  rw [hv]
  exact if_neg h2
theorem nfX_t {u : LU} {x b s : Int32} {i : Nat} (hv : nfX u x i = (b, s)) (h1 : rdX u i) (h2 : utX u i x) (h3 : (slX u i).toInt < s.toInt) : nfX u x (i + 1) = (nI i, slX u i) := by
  simp only [nfX]
  rw [hv]
  exact cif_t ⟨h1, h2, h3⟩
theorem nfX_f {u : LU} {x b s : Int32} {i : Nat} (hv : nfX u x i = (b, s)) (h : ¬ (rdX u i ∧ utX u i x ∧ (slX u i).toInt < s.toInt)) : nfX u x (i + 1) = (b, s) := by
  simp only [nfX]
  rw [hv]
  exact cif_f h
def asX (u : LU) (x y z b : Int32) : LU := up (up (up (up (up u 1 (upd (u 1) (u 0 4).toNatClampNeg x)) 2 (upd (u 2) (u 0 4).toNatClampNeg y)) 3 (upd (u 3) (u 0 4).toNatClampNeg z)) 4 (upd (u 4) (u 0 4).toNatClampNeg b)) 0 (upd (u 0) 4 (u 0 4 + 1))
def saX (u : LU) (n : Nat) : LU := up (up u 6 (upd (u 6) n 1)) 8 (upd (u 8) n (u 0 17 + u 2 (u 7 n).toNatClampNeg))
def rwX (u : LU) (n : Nat) : LU := up (up (up u 7 (upd (u 7) n (u 4 (u 7 n).toNatClampNeg))) 8 (upd (u 8) n (u 0 17))) 10 (upd (u 10) n (u 10 n + 1))
def spX (u : LU) (n k : Nat) (y : Int32) : LU := (mvX (mkLX u k (u 7 n) (u 8 n) (u 9 n) (u 10 n) (nI n)) n k y (u 0 16).toInt.toNat).1
def mg1X (u : LU) (n k : Nat) : LU := up (up u 8 (upd (u 8) k (mmin32 (u 8 n) (u 8 k)))) 10 (upd (u 10) k (mmax32 (u 10 n) (u 10 k)))
def mgX (u : LU) (n k : Nat) : LU := lvX (mvX (mg1X u n k) n k (u 12 n) (u 0 16).toInt.toNat).1 n 3
def sc1X (u : LU) (w k : Nat) : LU := up (up u 14 (upd (u 14) w (-1))) 12 (upd (u 12) k (u 12 k - 1))
def scX (u : LU) (w k : Nat) : LU := if (u 12 k - 1).toInt = 0 then lvX (sc1X u w k) k 3 else sc1X u w k
theorem scX_no {u : LU} {w : Nat} (h : ¬ (0 ≤ (u 14 w).toInt ∧ (u 14 w).toInt < (u 0 12).toInt) ∨ ∃ k : Nat, u 14 w = nI k ∧ k < 24 ∧ ¬ (u 6 k).toInt = 0) : ¬ ∃ k : Nat, u 14 w = nI k ∧ (k : Int) < (u 0 12).toInt ∧ (u 6 k).toInt = 0 := by
  rintro ⟨k, h1, h2, h3⟩
  have hr := ti_rng (u 0 12)
  have hk : (nI k).toInt = (k : Int) := nI_toInt (by omega)
  rcases h with h | ⟨j, g1, g2, g3⟩
  · rw [h1, hk] at h
    omega
  · have hj : (nI j).toInt = (j : Int) := nI_toInt (by omega)
    rw [h1] at g1
    have : k = j := by rw [g1] at hk; omega
    subst this
    exact g3 h3
theorem mwX_16 (u : LU) (w n : Nat) : mwX u w n 0 16 = nI (w + 1) := by
  unfold mwX
  rw [putX_0]
  show upd (u 0) 16 (nI w + 1) 16 = _
  rw [upd_s, nI_1]
theorem coX_end {u : LU} {i : Nat} {a b x y : Int32} (hv : coX u (48 - i) a b = coX u 48 x y) (h : ¬ (i < 48 ∧ ¬ a.toInt = b.toInt)) : a = coX u 48 x y := by
  rw [← hv]
  rcases Nat.lt_or_ge i 48 with q | q
  · have e : a.toInt = b.toInt := Classical.byContradiction (fun z => h ⟨q, z⟩)
    rw [show 48 - i = (47 - i) + 1 by omega]
    simp only [coX]
    rw [if_pos e]
  · rw [show 48 - i = 0 by omega]
    rfl
