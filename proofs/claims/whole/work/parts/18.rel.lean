/-! THE RELATION of the class's state X and the reference's M; what each call says, by name -/
def pX_addStep (u : LU) (x : Int32) (y : Int32) (z : Int32) (b : Int32) (r : Int32) (u' : LU) : Prop := (0 ≤ x.toInt ∧ x.toInt ≤ 5) ∧ ((1 ≤ y.toInt ∧ y.toInt ≤ 1000) ∧ (0 ≤ z.toInt ∧ z.toInt ≤ 10000) ∧ (0 ≤ b.toInt ∧ b.toInt ≤ (u 0 4).toInt)) ∧ ((u 0 4).toInt < 12 ∧ (u 0 12).toInt ≤ 0) ∧ r = u 0 4 ∧ u' = asX u x y z b
def eX_addStep (u : LU) (x : Int32) (y : Int32) (z : Int32) (b : Int32) (E : String) : Prop := (E = "java/lang/IndexOutOfBoundsException" ∧ ¬ (0 ≤ x.toInt ∧ x.toInt ≤ 5)) ∨ (E = "java/lang/IllegalArgumentException" ∧ (0 ≤ x.toInt ∧ x.toInt ≤ 5) ∧ ¬ ((1 ≤ y.toInt ∧ y.toInt ≤ 1000) ∧ (0 ≤ z.toInt ∧ z.toInt ≤ 10000) ∧ (0 ≤ b.toInt ∧ b.toInt ≤ (u 0 4).toInt))) ∨ (E = "java/lang/IllegalStateException" ∧ (0 ≤ x.toInt ∧ x.toInt ≤ 5) ∧ ((1 ≤ y.toInt ∧ y.toInt ≤ 1000) ∧ (0 ≤ z.toInt ∧ z.toInt ≤ 10000) ∧ (0 ≤ b.toInt ∧ b.toInt ≤ (u 0 4).toInt)) ∧ ¬ ((u 0 4).toInt < 12 ∧ (u 0 12).toInt ≤ 0))
def pM_addStep (u : LU) (x : Int32) (y : Int32) (z : Int32) (b : Int32) (r : Int32) (u' : LU) : Prop := (¬ (0 ≤ x.toInt ∧ x.toInt ≤ 5) ∧ u' = thM u 1) ∨ ((0 ≤ x.toInt ∧ x.toInt ≤ 5) ∧ ¬ ((1 ≤ y.toInt ∧ y.toInt ≤ 1000) ∧ (0 ≤ z.toInt ∧ z.toInt ≤ 10000) ∧ (0 ≤ b.toInt ∧ b.toInt ≤ (u 0 2).toInt)) ∧ u' = thM u 2) ∨ ((0 ≤ x.toInt ∧ x.toInt ≤ 5) ∧ ((1 ≤ y.toInt ∧ y.toInt ≤ 1000) ∧ (0 ≤ z.toInt ∧ z.toInt ≤ 10000) ∧ (0 ≤ b.toInt ∧ b.toInt ≤ (u 0 2).toInt)) ∧ ¬ (¬ (u 0 2).toInt = 12 ∧ (u 0 7).toInt ≤ 0) ∧ u' = thM u 3) ∨ ((0 ≤ x.toInt ∧ x.toInt ≤ 5) ∧ ((1 ≤ y.toInt ∧ y.toInt ≤ 1000) ∧ (0 ≤ z.toInt ∧ z.toInt ≤ 10000) ∧ (0 ≤ b.toInt ∧ b.toInt ≤ (u 0 2).toInt)) ∧ (¬ (u 0 2).toInt = 12 ∧ (u 0 7).toInt ≤ 0) ∧ r = u 0 2 + 1 - 1 ∧ u' = asM u x y z b)
def wX_addStep (u : LU) (f : Nat → Int64) (x : Int32) (y : Int32) (z : Int32) (b : Int32) (k : Int32) (s2 : LU × (Nat → Int64)) : Prop := (k = 0 ∧ ∃ r0 v, pX_addStep u x y z b r0 v ∧ s2 = (v, vp_updL f 0 (r0.toInt64))) ∨ (k = 1 ∧ eX_addStep u x y z b "java/lang/IndexOutOfBoundsException" ∧ s2 = (u, f)) ∨ (k = 2 ∧ eX_addStep u x y z b "java/lang/IllegalArgumentException" ∧ s2 = (u, f)) ∨ (k = 3 ∧ eX_addStep u x y z b "java/lang/IllegalStateException" ∧ s2 = (u, f))
def pX_enter (u : LU) (x : Int32) (r : Int32) (u' : LU) : Prop := (1 ≤ x.toInt ∧ x.toInt ≤ 12) ∧ (¬ (u 0 4).toInt = 0 ∧ (u 0 12).toInt < 24 ∧ (u 0 16).toInt + x.toInt ≤ 60) ∧ ∃ n w0 : Nat, n < 24 ∧ w0 < 60 ∧ u 0 12 = nI n ∧ u 0 16 = nI w0 ∧ r = nI n ∧ u' = enX (mkLX u n 0 (u 0 17) 0 0 (-1)) w0 n x.toInt.toNat
def eX_enter (u : LU) (x : Int32) (E : String) : Prop := (E = "java/lang/IllegalArgumentException" ∧ ¬ (1 ≤ x.toInt ∧ x.toInt ≤ 12)) ∨ (E = "java/lang/IllegalStateException" ∧ (1 ≤ x.toInt ∧ x.toInt ≤ 12) ∧ ¬ (¬ (u 0 4).toInt = 0 ∧ (u 0 12).toInt < 24 ∧ (u 0 16).toInt + x.toInt ≤ 60))
def pM_enter (u : LU) (x : Int32) (r : Int32) (u' : LU) : Prop := (¬ (1 ≤ x.toInt ∧ x.toInt ≤ 12) ∧ u' = thM u 1) ∨ ((1 ≤ x.toInt ∧ x.toInt ≤ 12) ∧ ¬ (¬ (u 0 2).toInt = 0 ∧ ¬ (u 0 7).toInt = 24 ∧ (u 0 15).toInt + x.toInt ≤ 60) ∧ u' = thM u 2) ∨ ((1 ≤ x.toInt ∧ x.toInt ≤ 12) ∧ (¬ (u 0 2).toInt = 0 ∧ ¬ (u 0 7).toInt = 24 ∧ (u 0 15).toInt + x.toInt ≤ 60) ∧ ∃ n w0 : Nat, n < 24 ∧ w0 < 60 ∧ u 0 7 = nI n ∧ u 0 15 = nI w0 ∧ r = nI n + 1 - 1 ∧ u' = e1M (enM (e0M u n) w0 n x.toInt.toNat) n)
def wX_enter (u : LU) (f : Nat → Int64) (x : Int32) (k : Int32) (s2 : LU × (Nat → Int64)) : Prop := (k = 0 ∧ ∃ r0 v, pX_enter u x r0 v ∧ s2 = (v, vp_updL f 0 (r0.toInt64))) ∨ (k = 1 ∧ eX_enter u x "java/lang/IllegalArgumentException" ∧ s2 = (u, f)) ∨ (k = 2 ∧ eX_enter u x "java/lang/IllegalStateException" ∧ s2 = (u, f))
def pX_start (u : LU) (x : Int32) (r : Int32) (u' : LU) : Prop := ∃ n : Nat, x = nI n ∧ (n : Int) < (u 0 12).toInt ∧ (rdX u n ∧ (0 ≤ (u 7 n).toInt ∧ (u 7 n).toInt < (u 0 4).toInt) ∧ ¬ buX u (u 1 (u 7 n).toNatClampNeg)) ∧ r = u 0 17 + u 2 (u 7 n).toNatClampNeg ∧ u' = saX u n
def eX_start (u : LU) (x : Int32) (E : String) : Prop := (E = "java/lang/IndexOutOfBoundsException" ∧ ¬ (0 ≤ x.toInt ∧ x.toInt < (u 0 12).toInt)) ∨ (E = "java/lang/IllegalStateException" ∧ ∃ n : Nat, x = nI n ∧ (n : Int) < (u 0 12).toInt ∧ ¬ (rdX u n ∧ (0 ≤ (u 7 n).toInt ∧ (u 7 n).toInt < (u 0 4).toInt) ∧ ¬ buX u (u 1 (u 7 n).toNatClampNeg)))
def pM_start (u : LU) (x : Int32) (r : Int32) (u' : LU) : Prop := (¬ (0 ≤ x.toInt ∧ x.toInt < (u 0 7).toInt) ∧ u' = thM u 1) ∨ (∃ n : Nat, x = nI n ∧ (n : Int) < (u 0 7).toInt ∧ ((¬ ((u 9 n).toInt = 0 ∧ (u 13 n).toInt = 0 ∧ ¬ tlM u n ∧ ¬ buM u (u 4 (u 10 n).toNatClampNeg)) ∧ u' = thM (thM u 0) 2) ∨ (((u 9 n).toInt = 0 ∧ (u 13 n).toInt = 0 ∧ ¬ tlM u n ∧ ¬ buM u (u 4 (u 10 n).toNatClampNeg)) ∧ r = u 0 1 + u 5 (u 10 n).toNatClampNeg ∧ u' = saM u n)))
def wX_start (u : LU) (f : Nat → Int64) (x : Int32) (k : Int32) (s2 : LU × (Nat → Int64)) : Prop := (k = 0 ∧ ∃ r0 v, pX_start u x r0 v ∧ s2 = (v, vp_updL f 0 (r0.toInt64))) ∨ (k = 1 ∧ eX_start u x "java/lang/IndexOutOfBoundsException" ∧ s2 = (u, f)) ∨ (k = 2 ∧ eX_start u x "java/lang/IllegalStateException" ∧ s2 = (u, f))
def pX_rework (u : LU) (x : Int32) (r : Int32) (u' : LU) : Prop := ∃ n : Nat, x = nI n ∧ (n : Int) < (u 0 12).toInt ∧ (((u 6 n).toInt = 0 ∧ (u 9 n).toInt = 0) ∧ (0 ≤ (u 7 n).toInt ∧ (u 7 n).toInt < (u 0 4).toInt) ∧ (u 10 n).toInt < 2) ∧ r = u 4 (u 7 n).toNatClampNeg ∧ u' = rwX u n
def eX_rework (u : LU) (x : Int32) (E : String) : Prop := (E = "java/lang/IndexOutOfBoundsException" ∧ ¬ (0 ≤ x.toInt ∧ x.toInt < (u 0 12).toInt)) ∨ (E = "java/lang/IllegalStateException" ∧ ∃ n : Nat, x = nI n ∧ (n : Int) < (u 0 12).toInt ∧ ¬ (((u 6 n).toInt = 0 ∧ (u 9 n).toInt = 0) ∧ (0 ≤ (u 7 n).toInt ∧ (u 7 n).toInt < (u 0 4).toInt) ∧ (u 10 n).toInt < 2))
def pM_rework (u : LU) (x : Int32) (r : Int32) (u' : LU) : Prop := (¬ (0 ≤ x.toInt ∧ x.toInt < (u 0 7).toInt) ∧ u' = thM u 1) ∨ (∃ n : Nat, x = nI n ∧ (n : Int) < (u 0 7).toInt ∧ ((¬ ((u 9 n).toInt = 0 ∧ (u 13 n).toInt = 0 ∧ ¬ (u 14 n).toInt = 2) ∧ u' = thM u 2) ∨ (((u 9 n).toInt = 0 ∧ (u 13 n).toInt = 0 ∧ ¬ (u 14 n).toInt = 2) ∧ r = u 7 (u 10 n).toNatClampNeg ∧ u' = rwM u n)))
def wX_rework (u : LU) (f : Nat → Int64) (x : Int32) (k : Int32) (s2 : LU × (Nat → Int64)) : Prop := (k = 0 ∧ ∃ r0 v, pX_rework u x r0 v ∧ s2 = (v, vp_updL f 0 (r0.toInt64))) ∨ (k = 1 ∧ eX_rework u x "java/lang/IndexOutOfBoundsException" ∧ s2 = (u, f)) ∨ (k = 2 ∧ eX_rework u x "java/lang/IllegalStateException" ∧ s2 = (u, f))
def pX_split (u : LU) (x : Int32) (y : Int32) (r : Int32) (u' : LU) : Prop := ∃ n k : Nat, x = nI n ∧ (n : Int) < (u 0 12).toInt ∧ (1 ≤ y.toInt ∧ y.toInt ≤ (u 12 n - 1).toInt) ∧ ((u 6 n).toInt = 0 ∧ (u 0 12).toInt < 24) ∧ k < 24 ∧ u 0 12 = nI k ∧ r = nI k ∧ u' = spX u n k y
def eX_split (u : LU) (x : Int32) (y : Int32) (E : String) : Prop := (E = "java/lang/IndexOutOfBoundsException" ∧ ¬ (0 ≤ x.toInt ∧ x.toInt < (u 0 12).toInt)) ∨ (∃ n : Nat, x = nI n ∧ (n : Int) < (u 0 12).toInt ∧ ((E = "java/lang/IllegalArgumentException" ∧ ¬ (1 ≤ y.toInt ∧ y.toInt ≤ (u 12 n - 1).toInt)) ∨ (E = "java/lang/IllegalStateException" ∧ (1 ≤ y.toInt ∧ y.toInt ≤ (u 12 n - 1).toInt) ∧ ¬ ((u 6 n).toInt = 0 ∧ (u 0 12).toInt < 24))))
def pM_split (u : LU) (x : Int32) (y : Int32) (r : Int32) (u' : LU) : Prop := (¬ (0 ≤ x.toInt ∧ x.toInt < (u 0 7).toInt) ∧ u' = thM u 1) ∨ (∃ n : Nat, x = nI n ∧ (n : Int) < (u 0 7).toInt ∧ ((¬ (1 ≤ y.toInt ∧ y.toInt ≤ (nI (ctA (u 17) (nI n) (u 0 15).toInt.toNat) - 1).toInt) ∧ u' = thM u 2) ∨ ((1 ≤ y.toInt ∧ y.toInt ≤ (nI (ctA (u 17) (nI n) (u 0 15).toInt.toNat) - 1).toInt) ∧ ¬ ((u 9 n).toInt = 0 ∧ ¬ (u 0 7).toInt = 24) ∧ u' = thM u 3) ∨ ((1 ≤ y.toInt ∧ y.toInt ≤ (nI (ctA (u 17) (nI n) (u 0 15).toInt.toNat) - 1).toInt) ∧ ((u 9 n).toInt = 0 ∧ ¬ (u 0 7).toInt = 24) ∧ ∃ k : Nat, k < 24 ∧ u 0 7 = nI k ∧ r = nI k ∧ u' = (msM (s0M u n k) n k y (u 0 15).toInt.toNat).1)))
def wX_split (u : LU) (f : Nat → Int64) (x : Int32) (y : Int32) (k : Int32) (s2 : LU × (Nat → Int64)) : Prop := (k = 0 ∧ ∃ r0 v, pX_split u x y r0 v ∧ s2 = (v, vp_updL f 0 (r0.toInt64))) ∨ (k = 1 ∧ eX_split u x y "java/lang/IndexOutOfBoundsException" ∧ s2 = (u, f)) ∨ (k = 2 ∧ eX_split u x y "java/lang/IllegalArgumentException" ∧ s2 = (u, f)) ∨ (k = 3 ∧ eX_split u x y "java/lang/IllegalStateException" ∧ s2 = (u, f))
def pX_merge (u : LU) (x : Int32) (y : Int32) (r : Int32) (u' : LU) : Prop := ∃ n k : Nat, x = nI n ∧ (n : Int) < (u 0 12).toInt ∧ y = nI k ∧ (k : Int) < (u 0 12).toInt ∧ ¬ n = k ∧ (((u 6 n).toInt = 0 ∧ (u 9 n).toInt = 0) ∧ ((u 6 k).toInt = 0 ∧ (u 9 k).toInt = 0) ∧ (u 7 n).toInt = (u 7 k).toInt) ∧ r = mgX u n k 12 k ∧ u' = mgX u n k
def eX_merge (u : LU) (x : Int32) (y : Int32) (E : String) : Prop := (E = "java/lang/IndexOutOfBoundsException" ∧ ¬ ((0 ≤ x.toInt ∧ x.toInt < (u 0 12).toInt) ∧ (0 ≤ y.toInt ∧ y.toInt < (u 0 12).toInt))) ∨ (∃ n k : Nat, x = nI n ∧ (n : Int) < (u 0 12).toInt ∧ y = nI k ∧ (k : Int) < (u 0 12).toInt ∧ ((E = "java/lang/IllegalArgumentException" ∧ n = k) ∨ (E = "java/lang/IllegalStateException" ∧ ¬ n = k ∧ ¬ (((u 6 n).toInt = 0 ∧ (u 9 n).toInt = 0) ∧ ((u 6 k).toInt = 0 ∧ (u 9 k).toInt = 0) ∧ (u 7 n).toInt = (u 7 k).toInt))))
def pM_merge (u : LU) (x : Int32) (y : Int32) (r : Int32) (u' : LU) : Prop := (¬ ((0 ≤ x.toInt ∧ x.toInt < (u 0 7).toInt) ∧ (0 ≤ y.toInt ∧ y.toInt < (u 0 7).toInt)) ∧ u' = thM u 1) ∨ (∃ n k : Nat, x = nI n ∧ (n : Int) < (u 0 7).toInt ∧ y = nI k ∧ (k : Int) < (u 0 7).toInt ∧ ((n = k ∧ u' = thM u 2) ∨ (¬ n = k ∧ ¬ (((u 9 n).toInt = 0 ∧ (u 13 n).toInt = 0) ∧ ((u 9 k).toInt = 0 ∧ (u 13 k).toInt = 0) ∧ (u 10 n).toInt = (u 10 k).toInt) ∧ u' = thM u 3) ∨ (¬ n = k ∧ (((u 9 n).toInt = 0 ∧ (u 13 n).toInt = 0) ∧ ((u 9 k).toInt = 0 ∧ (u 13 k).toInt = 0) ∧ (u 10 n).toInt = (u 10 k).toInt) ∧ r = nI (ctA (mmM (thM u 0) n k (u 0 15).toInt.toNat 17) (nI k) (u 0 15).toInt.toNat) ∧ u' = m1M (mmM (thM u 0) n k (u 0 15).toInt.toNat) n k)))
def wX_merge (u : LU) (f : Nat → Int64) (x : Int32) (y : Int32) (k : Int32) (s2 : LU × (Nat → Int64)) : Prop := (k = 0 ∧ ∃ r0 v, pX_merge u x y r0 v ∧ s2 = (v, vp_updL f 0 (r0.toInt64))) ∨ (k = 1 ∧ eX_merge u x y "java/lang/IndexOutOfBoundsException" ∧ s2 = (u, f)) ∨ (k = 2 ∧ eX_merge u x y "java/lang/IllegalArgumentException" ∧ s2 = (u, f)) ∨ (k = 3 ∧ eX_merge u x y "java/lang/IllegalStateException" ∧ s2 = (u, f))
def pX_hold (u : LU) (x : Int32) (P9 : Prop) (r : Int32) (u' : LU) : Prop := ∃ n : Nat, x = nI n ∧ (n : Int) < (u 0 12).toInt ∧ (¬ (u 6 n).toInt = 2 ∧ ¬ (u 6 n).toInt = 3) ∧ r = u 9 n ∧ u' = up u 9 (upd (u 9) n (bP P9))
def eX_hold (u : LU) (x : Int32) (P9 : Prop) (E : String) : Prop := (E = "java/lang/IndexOutOfBoundsException" ∧ ¬ (0 ≤ x.toInt ∧ x.toInt < (u 0 12).toInt)) ∨ (E = "java/lang/IllegalStateException" ∧ ∃ n : Nat, x = nI n ∧ (n : Int) < (u 0 12).toInt ∧ ¬ (¬ (u 6 n).toInt = 2 ∧ ¬ (u 6 n).toInt = 3))
def pM_hold (u : LU) (x : Int32) (P9 : Prop) (r : Int32) (u' : LU) : Prop := (¬ (0 ≤ x.toInt ∧ x.toInt < (u 0 7).toInt) ∧ u' = thM u 1) ∨ (∃ n : Nat, x = nI n ∧ (n : Int) < (u 0 7).toInt ∧ ((¬ (u 9 n).toInt ≤ 1 ∧ u' = thM u 2) ∨ ((u 9 n).toInt ≤ 1 ∧ r = u 13 n ∧ u' = up (thM u 0) 13 (upd (u 13) n (bP P9)))))
def wX_hold (u : LU) (f : Nat → Int64) (x : Int32) (P9 : Prop) (k : Int32) (s2 : LU × (Nat → Int64)) : Prop := (k = 0 ∧ ∃ r0 v, pX_hold u x P9 r0 v ∧ s2 = (v, vp_updL f 0 (lbI r0))) ∨ (k = 1 ∧ eX_hold u x P9 "java/lang/IndexOutOfBoundsException" ∧ s2 = (u, f)) ∨ (k = 2 ∧ eX_hold u x P9 "java/lang/IllegalStateException" ∧ s2 = (u, f))
def pX_scrap (u : LU) (x : Int32) (r : Int32) (u' : LU) : Prop := ∃ w k : Nat, x = nI w ∧ (w : Int) < (u 0 16).toInt ∧ u 14 w = nI k ∧ (k : Int) < (u 0 12).toInt ∧ (u 6 k).toInt = 0 ∧ r = u 12 k - 1 ∧ u' = scX u w k
def eX_scrap (u : LU) (x : Int32) (E : String) : Prop := (E = "java/lang/IndexOutOfBoundsException" ∧ ¬ (0 ≤ x.toInt ∧ x.toInt < (u 0 16).toInt)) ∨ (E = "java/lang/IllegalStateException" ∧ ∃ w : Nat, x = nI w ∧ (w : Int) < (u 0 16).toInt ∧ ¬ (∃ k : Nat, u 14 w = nI k ∧ (k : Int) < (u 0 12).toInt ∧ (u 6 k).toInt = 0))
def pM_scrap (u : LU) (x : Int32) (r : Int32) (u' : LU) : Prop := (¬ (0 ≤ x.toInt ∧ x.toInt < (u 0 15).toInt) ∧ u' = thM u 1) ∨ (∃ n : Nat, x = nI n ∧ (n : Int) < (u 0 15).toInt ∧ ((¬ (¬ (u 17 n).toInt = -1 ∧ (u 9 (u 17 n).toNatClampNeg).toInt = 0) ∧ u' = thM u 2) ∨ ((¬ (u 17 n).toInt = -1 ∧ (u 9 (u 17 n).toNatClampNeg).toInt = 0) ∧ r = nI (ctA (upd (u 17) n (-1)) (u 17 n) (u 0 15).toInt.toNat) ∧ u' = scM u n)))
def wX_scrap (u : LU) (f : Nat → Int64) (x : Int32) (k : Int32) (s2 : LU × (Nat → Int64)) : Prop := (k = 0 ∧ ∃ r0 v, pX_scrap u x r0 v ∧ s2 = (v, vp_updL f 0 (r0.toInt64))) ∨ (k = 1 ∧ eX_scrap u x "java/lang/IndexOutOfBoundsException" ∧ s2 = (u, f)) ∨ (k = 2 ∧ eX_scrap u x "java/lang/IllegalStateException" ∧ s2 = (u, f))
def pX_advance (u : LU) (x : Int32) (r : Int32) (u' : LU) : Prop := (1 ≤ x.toInt ∧ x.toInt ≤ 10000) ∧ r = nI (avX (up u 0 (upd (u 0) 17 (u 0 17 + x))) (u 0 12).toInt.toNat).2 ∧ u' = (avX (up u 0 (upd (u 0) 17 (u 0 17 + x))) (u 0 12).toInt.toNat).1
def eX_advance (u : LU) (x : Int32) (E : String) : Prop := E = "java/lang/IllegalArgumentException" ∧ ¬ (1 ≤ x.toInt ∧ x.toInt ≤ 10000)
def pM_advance (u : LU) (x : Int32) (r : Int32) (u' : LU) : Prop := (¬ (1 ≤ x.toInt ∧ x.toInt ≤ 10000) ∧ u' = thM u 1) ∨ ((1 ≤ x.toInt ∧ x.toInt ≤ 10000) ∧ r = nI (avM (a0M u x) (u 0 7).toInt.toNat).2 ∧ u' = (avM (a0M u x) (u 0 7).toInt.toNat).1)
def wX_advance (u : LU) (f : Nat → Int64) (x : Int32) (k : Int32) (s2 : LU × (Nat → Int64)) : Prop := (k = 0 ∧ ∃ r0 v, pX_advance u x r0 v ∧ s2 = (v, vp_updL f 0 (r0.toInt64))) ∨ (k = 1 ∧ eX_advance u x "java/lang/IllegalArgumentException" ∧ s2 = (u, f))
def pX_state (u : LU) (x : Int32) (r : Int32) (u' : LU) : Prop := ∃ n : Nat, x = nI n ∧ (n : Int) < (u 0 12).toInt ∧ r = u 6 n ∧ u' = u
def eX_state (u : LU) (x : Int32) (E : String) : Prop := E = "java/lang/IndexOutOfBoundsException" ∧ ¬ (0 ≤ x.toInt ∧ x.toInt < (u 0 12).toInt)
def pM_state (u : LU) (x : Int32) (r : Int32) (u' : LU) : Prop := ((0 ≤ x.toInt ∧ x.toInt < (u 0 7).toInt) ∧ r = u 9 x.toNatClampNeg ∧ u' = thM u 0) ∨ (¬ (0 ≤ x.toInt ∧ x.toInt < (u 0 7).toInt) ∧ u' = thM (thM u 0) 1)
def wX_state (u : LU) (f : Nat → Int64) (x : Int32) (k : Int32) (s2 : LU × (Nat → Int64)) : Prop := (k = 0 ∧ ∃ r0 v, pX_state u x r0 v ∧ s2 = (v, vp_updL f 0 (r0.toInt64))) ∨ (k = 1 ∧ eX_state u x "java/lang/IndexOutOfBoundsException" ∧ s2 = (u, f))
def pX_stepOf (u : LU) (x : Int32) (r : Int32) (u' : LU) : Prop := ∃ n : Nat, x = nI n ∧ (n : Int) < (u 0 12).toInt ∧ r = u 7 n ∧ u' = u
def eX_stepOf (u : LU) (x : Int32) (E : String) : Prop := E = "java/lang/IndexOutOfBoundsException" ∧ ¬ (0 ≤ x.toInt ∧ x.toInt < (u 0 12).toInt)
def pM_stepOf (u : LU) (x : Int32) (r : Int32) (u' : LU) : Prop := ((0 ≤ x.toInt ∧ x.toInt < (u 0 7).toInt) ∧ r = (if (u 9 x.toNatClampNeg).toInt ≤ 1 then u 10 x.toNatClampNeg else -1) ∧ u' = thM u 0) ∨ (¬ (0 ≤ x.toInt ∧ x.toInt < (u 0 7).toInt) ∧ u' = thM (thM u 0) 1)
def wX_stepOf (u : LU) (f : Nat → Int64) (x : Int32) (k : Int32) (s2 : LU × (Nat → Int64)) : Prop := (k = 0 ∧ ∃ r0 v, pX_stepOf u x r0 v ∧ s2 = (v, vp_updL f 0 (r0.toInt64))) ∨ (k = 1 ∧ eX_stepOf u x "java/lang/IndexOutOfBoundsException" ∧ s2 = (u, f))
def pX_size (u : LU) (x : Int32) (r : Int32) (u' : LU) : Prop := ∃ n : Nat, x = nI n ∧ (n : Int) < (u 0 12).toInt ∧ r = u 12 n ∧ u' = u
def eX_size (u : LU) (x : Int32) (E : String) : Prop := E = "java/lang/IndexOutOfBoundsException" ∧ ¬ (0 ≤ x.toInt ∧ x.toInt < (u 0 12).toInt)
def pM_size (u : LU) (x : Int32) (r : Int32) (u' : LU) : Prop := ((0 ≤ x.toInt ∧ x.toInt < (u 0 7).toInt) ∧ r = nI (ctA (u 17) x (u 0 15).toInt.toNat) ∧ u' = thM u 0) ∨ (¬ (0 ≤ x.toInt ∧ x.toInt < (u 0 7).toInt) ∧ u' = thM (thM u 0) 1)
def wX_size (u : LU) (f : Nat → Int64) (x : Int32) (k : Int32) (s2 : LU × (Nat → Int64)) : Prop := (k = 0 ∧ ∃ r0 v, pX_size u x r0 v ∧ s2 = (v, vp_updL f 0 (r0.toInt64))) ∨ (k = 1 ∧ eX_size u x "java/lang/IndexOutOfBoundsException" ∧ s2 = (u, f))
def pX_slack (u : LU) (x : Int32) (r : Int32) (u' : LU) : Prop := ∃ n : Nat, x = nI n ∧ (n : Int) < (u 0 12).toInt ∧ r = slX u n ∧ u' = u
def eX_slack (u : LU) (x : Int32) (E : String) : Prop := E = "java/lang/IndexOutOfBoundsException" ∧ ¬ (0 ≤ x.toInt ∧ x.toInt < (u 0 12).toInt)
def pM_slack (u : LU) (x : Int32) (r : Int32) (u' : LU) : Prop := (¬ (0 ≤ x.toInt ∧ x.toInt < (u 0 7).toInt) ∧ u' = thM u 1) ∨ (∃ n : Nat, x = nI n ∧ (n : Int) < (u 0 7).toInt ∧ r = (if (u 9 n).toInt = 0 then lfM u n else 2000000) ∧ u' = thM u 0)
def wX_slack (u : LU) (f : Nat → Int64) (x : Int32) (k : Int32) (s2 : LU × (Nat → Int64)) : Prop := (k = 0 ∧ ∃ r0 v, pX_slack u x r0 v ∧ s2 = (v, vp_updL f 0 (r0.toInt64))) ∨ (k = 1 ∧ eX_slack u x "java/lang/IndexOutOfBoundsException" ∧ s2 = (u, f))
def pX_isLate (u : LU) (x : Int32) (r : Int32) (u' : LU) : Prop := ∃ n : Nat, x = nI n ∧ (n : Int) < (u 0 12).toInt ∧ r = bP ((slX u n).toInt < 0) ∧ u' = u
def eX_isLate (u : LU) (x : Int32) (E : String) : Prop := E = "java/lang/IndexOutOfBoundsException" ∧ ¬ (0 ≤ x.toInt ∧ x.toInt < (u 0 12).toInt)
def pM_isLate (u : LU) (x : Int32) (r : Int32) (u' : LU) : Prop := (¬ (0 ≤ x.toInt ∧ x.toInt < (u 0 7).toInt) ∧ u' = thM u 1) ∨ (∃ n : Nat, x = nI n ∧ (n : Int) < (u 0 7).toInt ∧ r = bP (tlM u n) ∧ u' = thM u 0)
def wX_isLate (u : LU) (f : Nat → Int64) (x : Int32) (k : Int32) (s2 : LU × (Nat → Int64)) : Prop := (k = 0 ∧ ∃ r0 v, pX_isLate u x r0 v ∧ s2 = (v, vp_updL f 0 (lbI r0))) ∨ (k = 1 ∧ eX_isLate u x "java/lang/IndexOutOfBoundsException" ∧ s2 = (u, f))
def pX_reworks (u : LU) (x : Int32) (r : Int32) (u' : LU) : Prop := ∃ n : Nat, x = nI n ∧ (n : Int) < (u 0 12).toInt ∧ r = u 10 n ∧ u' = u
def eX_reworks (u : LU) (x : Int32) (E : String) : Prop := E = "java/lang/IndexOutOfBoundsException" ∧ ¬ (0 ≤ x.toInt ∧ x.toInt < (u 0 12).toInt)
def pM_reworks (u : LU) (x : Int32) (r : Int32) (u' : LU) : Prop := ((0 ≤ x.toInt ∧ x.toInt < (u 0 7).toInt) ∧ r = u 14 x.toNatClampNeg ∧ u' = thM u 0) ∨ (¬ (0 ≤ x.toInt ∧ x.toInt < (u 0 7).toInt) ∧ u' = thM (thM u 0) 1)
def wX_reworks (u : LU) (f : Nat → Int64) (x : Int32) (k : Int32) (s2 : LU × (Nat → Int64)) : Prop := (k = 0 ∧ ∃ r0 v, pX_reworks u x r0 v ∧ s2 = (v, vp_updL f 0 (r0.toInt64))) ∨ (k = 1 ∧ eX_reworks u x "java/lang/IndexOutOfBoundsException" ∧ s2 = (u, f))
def pX_nextFor (u : LU) (x : Int32) (r : Int32) (u' : LU) : Prop := (0 ≤ x.toInt ∧ x.toInt ≤ 5) ∧ ((buX u x ∧ r = -1) ∨ (¬ buX u x ∧ r = (nfX u x (u 0 12).toInt.toNat).1)) ∧ u' = u
def eX_nextFor (u : LU) (x : Int32) (E : String) : Prop := E = "java/lang/IndexOutOfBoundsException" ∧ ¬ (0 ≤ x.toInt ∧ x.toInt ≤ 5)
def pM_nextFor (u : LU) (x : Int32) (r : Int32) (u' : LU) : Prop := (¬ (0 ≤ x.toInt ∧ x.toInt ≤ 5) ∧ u' = thM u 1) ∨ ((0 ≤ x.toInt ∧ x.toInt ≤ 5) ∧ ((buM u x ∧ r = -1) ∨ (¬ buM u x ∧ r = nfM u x (u 0 7).toInt.toNat)) ∧ u' = thM u 0)
def wX_nextFor (u : LU) (f : Nat → Int64) (x : Int32) (k : Int32) (s2 : LU × (Nat → Int64)) : Prop := (k = 0 ∧ ∃ r0 v, pX_nextFor u x r0 v ∧ s2 = (v, vp_updL f 0 (r0.toInt64))) ∨ (k = 1 ∧ eX_nextFor u x "java/lang/IndexOutOfBoundsException" ∧ s2 = (u, f))
def pX_wafersAt (u : LU) (x : Int32) (r : Int32) (u' : LU) : Prop := (0 ≤ x.toInt ∧ x.toInt < (u 0 4).toInt) ∧ r = waX u x (u 0 12).toInt.toNat ∧ u' = u
def eX_wafersAt (u : LU) (x : Int32) (E : String) : Prop := E = "java/lang/IndexOutOfBoundsException" ∧ ¬ (0 ≤ x.toInt ∧ x.toInt < (u 0 4).toInt)
def pM_wafersAt (u : LU) (x : Int32) (r : Int32) (u' : LU) : Prop := (¬ (0 ≤ x.toInt ∧ x.toInt < (u 0 2).toInt) ∧ u' = thM u 1) ∨ ((0 ≤ x.toInt ∧ x.toInt < (u 0 2).toInt) ∧ r = atM u x (u 0 7).toInt.toNat ∧ u' = thM u 0)
def wX_wafersAt (u : LU) (f : Nat → Int64) (x : Int32) (k : Int32) (s2 : LU × (Nat → Int64)) : Prop := (k = 0 ∧ ∃ r0 v, pX_wafersAt u x r0 v ∧ s2 = (v, vp_updL f 0 (r0.toInt64))) ∨ (k = 1 ∧ eX_wafersAt u x "java/lang/IndexOutOfBoundsException" ∧ s2 = (u, f))
def pX_wafersAtByWafers (u : LU) (x : Int32) (r : Int32) (u' : LU) : Prop := (0 ≤ x.toInt ∧ x.toInt < (u 0 4).toInt) ∧ r = nI (wbX u x (u 0 16).toInt.toNat) ∧ u' = u
def eX_wafersAtByWafers (u : LU) (x : Int32) (E : String) : Prop := E = "java/lang/IndexOutOfBoundsException" ∧ ¬ (0 ≤ x.toInt ∧ x.toInt < (u 0 4).toInt)
def pM_wafersAtByWafers (u : LU) (x : Int32) (r : Int32) (u' : LU) : Prop := (¬ (0 ≤ x.toInt ∧ x.toInt < (u 0 2).toInt) ∧ u' = thM u 1) ∨ ((0 ≤ x.toInt ∧ x.toInt < (u 0 2).toInt) ∧ r = atM u x (u 0 7).toInt.toNat ∧ u' = thM u 0)
def wX_wafersAtByWafers (u : LU) (f : Nat → Int64) (x : Int32) (k : Int32) (s2 : LU × (Nat → Int64)) : Prop := (k = 0 ∧ ∃ r0 v, pX_wafersAtByWafers u x r0 v ∧ s2 = (v, vp_updL f 0 (r0.toInt64))) ∨ (k = 1 ∧ eX_wafersAtByWafers u x "java/lang/IndexOutOfBoundsException" ∧ s2 = (u, f))
def pX_lotOf (u : LU) (x : Int32) (r : Int32) (u' : LU) : Prop := ∃ w : Nat, x = nI w ∧ (w : Int) < (u 0 16).toInt ∧ r = u 14 w ∧ u' = u
def eX_lotOf (u : LU) (x : Int32) (E : String) : Prop := E = "java/lang/IndexOutOfBoundsException" ∧ ¬ (0 ≤ x.toInt ∧ x.toInt < (u 0 16).toInt)
def pM_lotOf (u : LU) (x : Int32) (r : Int32) (u' : LU) : Prop := ((0 ≤ x.toInt ∧ x.toInt < (u 0 15).toInt) ∧ r = u 17 x.toNatClampNeg ∧ u' = thM u 0) ∨ (¬ (0 ≤ x.toInt ∧ x.toInt < (u 0 15).toInt) ∧ u' = thM (thM u 0) 1)
def wX_lotOf (u : LU) (f : Nat → Int64) (x : Int32) (k : Int32) (s2 : LU × (Nat → Int64)) : Prop := (k = 0 ∧ ∃ r0 v, pX_lotOf u x r0 v ∧ s2 = (v, vp_updL f 0 (r0.toInt64))) ∨ (k = 1 ∧ eX_lotOf u x "java/lang/IndexOutOfBoundsException" ∧ s2 = (u, f))
def pX_parentOf (u : LU) (x : Int32) (r : Int32) (u' : LU) : Prop := ∃ n : Nat, x = nI n ∧ (n : Int) < (u 0 12).toInt ∧ r = u 11 n ∧ u' = u
def eX_parentOf (u : LU) (x : Int32) (E : String) : Prop := E = "java/lang/IndexOutOfBoundsException" ∧ ¬ (0 ≤ x.toInt ∧ x.toInt < (u 0 12).toInt)
def pM_parentOf (u : LU) (x : Int32) (r : Int32) (u' : LU) : Prop := ((0 ≤ x.toInt ∧ x.toInt < (u 0 7).toInt) ∧ r = u 15 x.toNatClampNeg ∧ u' = thM u 0) ∨ (¬ (0 ≤ x.toInt ∧ x.toInt < (u 0 7).toInt) ∧ u' = thM (thM u 0) 1)
def wX_parentOf (u : LU) (f : Nat → Int64) (x : Int32) (k : Int32) (s2 : LU × (Nat → Int64)) : Prop := (k = 0 ∧ ∃ r0 v, pX_parentOf u x r0 v ∧ s2 = (v, vp_updL f 0 (r0.toInt64))) ∨ (k = 1 ∧ eX_parentOf u x "java/lang/IndexOutOfBoundsException" ∧ s2 = (u, f))
def pX_common (u : LU) (x : Int32) (y : Int32) (r : Int32) (u' : LU) : Prop := (0 ≤ x.toInt ∧ x.toInt < (u 0 12).toInt) ∧ (0 ≤ y.toInt ∧ y.toInt < (u 0 12).toInt) ∧ r = coX u 48 x y ∧ u' = u
def eX_common (u : LU) (x : Int32) (y : Int32) (E : String) : Prop := E = "java/lang/IndexOutOfBoundsException" ∧ ¬ ((0 ≤ x.toInt ∧ x.toInt < (u 0 12).toInt) ∧ (0 ≤ y.toInt ∧ y.toInt < (u 0 12).toInt))
def pM_common (u : LU) (x : Int32) (y : Int32) (r : Int32) (u' : LU) : Prop := (¬ ((0 ≤ x.toInt ∧ x.toInt < (u 0 7).toInt) ∧ (0 ≤ y.toInt ∧ y.toInt < (u 0 7).toInt)) ∧ u' = thM u 1) ∨ ((0 ≤ x.toInt ∧ x.toInt < (u 0 7).toInt) ∧ (0 ≤ y.toInt ∧ y.toInt < (u 0 7).toInt) ∧ r = clM (chM (clr (thM u 0) 24) 25 y) 25 x ∧ u' = chM (clr (thM u 0) 24) 25 y)
def wX_common (u : LU) (f : Nat → Int64) (x : Int32) (y : Int32) (k : Int32) (s2 : LU × (Nat → Int64)) : Prop := (k = 0 ∧ ∃ r0 v, pX_common u x y r0 v ∧ s2 = (v, vp_updL f 0 (r0.toInt64))) ∨ (k = 1 ∧ eX_common u x y "java/lang/IndexOutOfBoundsException" ∧ s2 = (u, f))
def pX_path (u : LU) (x : Int32) (r : Int32) (u' : LU) : Prop := ∃ w : Nat, x = nI w ∧ (w : Int) < (u 0 16).toInt ∧ r = u 16 w ∧ u' = u
def eX_path (u : LU) (x : Int32) (E : String) : Prop := E = "java/lang/IndexOutOfBoundsException" ∧ ¬ (0 ≤ x.toInt ∧ x.toInt < (u 0 16).toInt)
def pM_path (u : LU) (x : Int32) (r : Int32) (u' : LU) : Prop := ((0 ≤ x.toInt ∧ x.toInt < (u 0 15).toInt) ∧ r = u 18 x.toNatClampNeg ∧ u' = thM u 0) ∨ (¬ (0 ≤ x.toInt ∧ x.toInt < (u 0 15).toInt) ∧ u' = thM (thM u 0) 1)
def wX_path (u : LU) (f : Nat → Int64) (x : Int32) (k : Int32) (s2 : LU × (Nat → Int64)) : Prop := (k = 0 ∧ ∃ r0 v, pX_path u x r0 v ∧ s2 = (v, vp_updL f 0 (r0.toInt64))) ∨ (k = 1 ∧ eX_path u x "java/lang/IndexOutOfBoundsException" ∧ s2 = (u, f))
def pX_pathAt (u : LU) (x : Int32) (y : Int32) (r : Int32) (u' : LU) : Prop := ∃ w : Nat, x = nI w ∧ (w : Int) < (u 0 16).toInt ∧ (0 ≤ y.toInt ∧ y.toInt ≤ (u 16 w - 1).toInt) ∧ r = u (100 + w) y.toNatClampNeg ∧ u' = u
def eX_pathAt (u : LU) (x : Int32) (y : Int32) (E : String) : Prop := E = "java/lang/IndexOutOfBoundsException" ∧ (¬ (0 ≤ x.toInt ∧ x.toInt < (u 0 16).toInt) ∨ ∃ w : Nat, x = nI w ∧ (w : Int) < (u 0 16).toInt ∧ ¬ (0 ≤ y.toInt ∧ y.toInt ≤ (u 16 w - 1).toInt))
def pM_pathAt (u : LU) (x : Int32) (y : Int32) (r : Int32) (u' : LU) : Prop := (¬ (0 ≤ x.toInt ∧ x.toInt < (u 0 15).toInt) ∧ u' = thM u 1) ∨ (∃ n : Nat, x = nI n ∧ (n : Int) < (u 0 15).toInt ∧ ((¬ (0 ≤ y.toInt ∧ y.toInt ≤ (u 18 n - 1).toInt) ∧ u' = thM u 1) ∨ ((0 ≤ y.toInt ∧ y.toInt ≤ (u 18 n - 1).toInt) ∧ r = u 19 (48 * n + y.toInt.toNat) ∧ u' = thM u 0)))
def wX_pathAt (u : LU) (f : Nat → Int64) (x : Int32) (y : Int32) (k : Int32) (s2 : LU × (Nat → Int64)) : Prop := (k = 0 ∧ ∃ r0 v, pX_pathAt u x y r0 v ∧ s2 = (v, vp_updL f 0 (r0.toInt64))) ∨ (k = 1 ∧ eX_pathAt u x y "java/lang/IndexOutOfBoundsException" ∧ s2 = (u, f))
/-- how many lots are ended -/
def endM (m : LU) : Nat := ctA (m 9) 3 (m 0 7).toInt.toNat
def RC (B : Int) (x m : LU) : Prop := x 0 4 = m 0 2 ∧ x 0 12 = m 0 7 ∧ x 0 16 = m 0 15 ∧ x 0 17 = m 0 1 ∧ (0 ≤ (m 0 2).toInt ∧ (m 0 2).toInt ≤ 12) ∧ (0 ≤ (m 0 7).toInt ∧ (m 0 7).toInt ≤ 24) ∧ (0 ≤ (m 0 15).toInt ∧ (m 0 15).toInt ≤ 60) ∧ (0 ≤ (m 0 1).toInt ∧ (m 0 1).toInt ≤ B)
def RS1 (x m : LU) (k : Nat) : Prop := x 1 k = m 4 k ∧ x 2 k = m 5 k ∧ x 3 k = m 6 k ∧ x 4 k = m 7 k ∧ (1 ≤ (m 5 k).toInt ∧ (m 5 k).toInt ≤ 1000) ∧ (0 ≤ (m 6 k).toInt ∧ (m 6 k).toInt ≤ 10000) ∧ (0 ≤ (m 7 k).toInt ∧ (m 7 k).toInt ≤ k)
def RS (x m : LU) : Prop := ∀ k : Nat, (k : Int) < (m 0 2).toInt → RS1 x m k
def RL1 (x m : LU) (l : Nat) : Prop := x 6 l = m 9 l ∧ (0 ≤ (m 9 l).toInt ∧ (m 9 l).toInt ≤ 3) ∧ x 9 l = m 13 l ∧ x 10 l = m 14 l ∧ (0 ≤ (m 14 l).toInt ∧ (m 14 l).toInt ≤ 2) ∧ x 11 l = m 15 l ∧ (-1 ≤ (m 15 l).toInt ∧ (m 15 l).toInt < l) ∧ ((m 9 l).toInt ≤ 1 → x 7 l = m 10 l ∧ 0 ≤ (m 10 l).toInt ∧ (m 10 l).toInt < (m 0 2).toInt) ∧ (2 ≤ (m 9 l).toInt → x 7 l = -1) ∧ ((m 9 l).toInt = 0 → x 8 l = m 11 l ∧ 0 ≤ (m 11 l).toInt ∧ (m 11 l).toInt ≤ (m 0 1).toInt) ∧ ((m 9 l).toInt = 1 → x 8 l = m 12 l ∧ 0 ≤ (m 12 l).toInt ∧ (m 12 l).toInt ≤ (m 0 1).toInt + 1000)
def RLo (x m : LU) : Prop := ∀ l : Nat, (l : Int) < (m 0 7).toInt → RL1 x m l
def RZ (x m : LU) : Prop := ∀ l : Nat, l < 24 → (x 9 l = 0 ∨ x 9 l = 1) ∧ ((m 0 7).toInt ≤ l → m 9 l = 0 ∧ m 10 l = 0 ∧ m 13 l = 0 ∧ m 14 l = 0)
def RN (x m : LU) : Prop := ∀ l : Nat, (l : Int) < (m 0 7).toInt → x 12 l = nI (ctA (m 17) (nI l) (m 0 15).toInt.toNat)
def RW1 (x m : LU) (w : Nat) : Prop := x 14 w = m 17 w ∧ (-1 ≤ (m 17 w).toInt ∧ (m 17 w).toInt < (m 0 7).toInt) ∧ x 16 w = m 18 w ∧ (1 ≤ (m 18 w).toInt ∧ (m 18 w).toInt ≤ 47) ∧ (m 18 w).toInt ≤ (m 0 7).toInt + endM m ∧ ∀ j : Nat, (j : Int) < (m 18 w).toInt → x (100 + w) j = m 19 (48 * w + j)
def RW (x m : LU) : Prop := ∀ w : Nat, w < 60 → ((w : Int) < (m 0 15).toInt → RW1 x m w) ∧ ((m 0 15).toInt ≤ w → m 17 w = 0 ∧ m 18 w = 0 ∧ x 16 w = 0)
def Rel (B : Int) (x m : LU) : Prop := RC B x m ∧ RS x m ∧ RLo x m ∧ RZ x m ∧ RN x m ∧ RW x m
theorem bool01 {x : Int32} (h : x = 0 ∨ x = 1) : vp_nar .boolean x = x ∧ narrow .boolean (.int x) = .int x := by
  rcases h with h | h <;> rw [h] <;> exact ⟨rfl, rfl⟩
theorem Rel.ix {B : Int} {x m : LU} (h : Rel B x m) : IX x := by
  obtain ⟨⟨e4, e12, e16, -, h2, h7, h15, -⟩, -, hL, hZ, -, hW⟩ := h
  refine ⟨by rw [e4]; exact h2, by rw [e12]; exact h7, by rw [e16]; exact h15, fun n hn => bool01 (hZ n hn).1, fun w hw => ?_⟩
  rcases Int.lt_or_le (w : Int) (m 0 15).toInt with q | q
  · obtain ⟨-, -, e, hb, -⟩ := (hW w hw).1 q
    rw [e]
    omega
  · rw [((hW w hw).2 q).2.2]
    decide
theorem Rel.im {B : Int} {x m : LU} (h : Rel B x m) : IM m := by
  obtain ⟨⟨-, -, -, -, h2, h7, h15, -⟩, -, hL, hZ, -, hW⟩ := h
  refine ⟨h2, h7, h15, fun n hn hs => ?_, fun n hn => ?_, fun w hw => ?_, fun w hw => ?_, fun n hn => (hL n hn).2.2.2.2.2.2.1⟩
  · rcases Int.lt_or_le (n : Int) (m 0 7).toInt with q | q
    · have := ((hL n q).2.2.2.2.2.2.2.1 hs).2
      omega
    · rw [((hZ n hn).2 q).2.1]
      decide
  · rcases Int.lt_or_le (n : Int) (m 0 7).toInt with q | q
    · have e := (hL n q).2.2.1
      rw [← e]
      exact bool01 (hZ n hn).1
    · rw [((hZ n hn).2 q).2.2.1]
      exact ⟨rfl, rfl⟩
  · rcases Int.lt_or_le (w : Int) (m 0 15).toInt with q | q
    · obtain ⟨-, -, e, hb, -⟩ := (hW w hw).1 q
      omega
    · rw [((hW w hw).2 q).2.1]
      decide
  · rcases Int.lt_or_le (w : Int) (m 0 15).toInt with q | q
    · obtain ⟨-, hb, -⟩ := (hW w hw).1 q
      omega
    · rw [((hW w hw).2 q).1]
      decide
/-- time may pass further; the reference's note of what it threw is no part of it -/
theorem Rel.up {B B' : Int} {x m : LU} (h : Rel B x m) (hB : B ≤ B') : Rel B' x m := by
  obtain ⟨⟨a1, a2, a3, a4, a5, a6, a7, a8, a9⟩, r⟩ := h
  exact ⟨⟨a1, a2, a3, a4, a5, a6, a7, a8, by omega⟩, r⟩
theorem Rel.th {B : Int} {x m : LU} (h : Rel B x m) (t : Int32) : Rel B x (thM m t) := h
theorem thM_0 (m : LU) (t : Int32) : thM m t 0 0 = t := rfl
theorem updL_0 {f : Nat → Int64} {v : Int64} : vp_updL f 0 v 0 = v := if_pos rfl
