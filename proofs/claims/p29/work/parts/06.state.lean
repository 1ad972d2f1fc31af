/-! THE WORLDS: the class's object and rows (wX), the reference's (wM); array k of a state u is u k, the scalars are u 0 -/
def mkA (a : Nat → Nat) (u : LU) (q : Nat × ClassId × Nat) : Nat × va_E := (a q.1, .inl (q.2.1, q.2.2, .inl (u q.1)))
theorem mkA_fst (a : Nat → Nat) (u u' : LU) (l : List (Nat × ClassId × Nat)) : (l.map (mkA a u)).map Prod.fst = (l.map (mkA a u')).map Prod.fst := by
  rw [List.map_map, List.map_map]
  rfl
theorem mkA_set (a : Nat → Nat) (u : LU) {g : Nat → Int32} {j n : Nat} {c : ClassId} : ∀ (l : List (Nat × ClassId × Nat)) (k : Nat), (l.map Prod.fst).Nodup → l[k]? = some (j, c, n) → (l.map (mkA a u)).set k (a j, .inl (c, n, .inl g)) = l.map (mkA a (up u j g))
  | [], k, _, h => by simp at h
  | q :: l, 0, hn, h => by
    simp only [List.getElem?_cons_zero, Option.some.injEq] at h
    subst h
    simp only [List.map_cons, List.nodup_cons] at hn
    simp only [List.map_cons, List.set_cons_zero, mkA, up_s]
    refine congrArg _ (List.map_congr_left fun x hx => ?_)
    simp only [mkA]
    rw [up_n]
    intro e
    exact hn.1 (e ▸ List.mem_map_of_mem hx)
  | q :: l, k + 1, hn, h => by
    simp only [List.getElem?_cons_succ] at h
    simp only [List.map_cons, List.nodup_cons] at hn
    simp only [List.map_cons, List.set_cons_succ]
    rw [mkA_set a u l k hn.2 h]
    refine congrArg (· :: _) ?_
    have hm : j ∈ l.map Prod.fst := List.mem_map.mpr ⟨_, List.mem_of_getElem? h, rfl⟩
    simp only [mkA]
    rw [up_n]
    intro e
    exact hn.1 (e ▸ hm)
theorem mkA_get (a : Nat → Nat) (u : LU) {j n : Nat} {c : ClassId} {l : List (Nat × ClassId × Nat)} {k : Nat} (h : l[k]? = some (j, c, n)) : (l.map (mkA a u))[k]? = some (a j, .inl (c, n, .inl (u j))) := by
  rw [List.getElem?_map, h]
  rfl
theorem mkA_0 (a : Nat → Nat) (u : LU) (f : Nat → Int32) (l : List (Nat × ClassId × Nat)) (h0 : 0 ∉ l.map Prod.fst) : l.map (mkA a (up u 0 f)) = l.map (mkA a u) := by
  refine List.map_congr_left fun x hx => ?_
  simp only [mkA]
  rw [up_n]
  intro e
  exact h0 (e ▸ List.mem_map_of_mem hx)
def tyX (cI cZ cQ : ClassId) : List (ClassId × FieldType) := [(cI, .int), (cZ, .boolean), (cQ, .array .int)]
def flX (a : Nat → Nat) (f : Nat → Int32) : List Value := [.ref (a 1), .ref (a 2), .ref (a 3), .ref (a 4), .int (f 4), .ref (a 6), .ref (a 7), .ref (a 8), .ref (a 9), .ref (a 10), .ref (a 11), .ref (a 12), .int (f 12), .ref (a 14), .ref (a 15), .ref (a 16), .int (f 16), .int (f 17)]
def arX (cI cZ : ClassId) : List (Nat × ClassId × Nat) := [(1, cI, 12), (2, cI, 12), (3, cI, 12), (4, cI, 12), (6, cI, 24), (7, cI, 24), (8, cI, 24), (9, cZ, 24), (10, cI, 24), (11, cI, 24), (12, cI, 24), (14, cI, 60), (16, cI, 60)] ++ (List.range 60).map (fun i => (100 + i, cI, 47))
def rfX (a : Nat → Nat) : Nat → Option Nat := fun i => if i < 60 then some (a (100 + i)) else none
def wX (cI cZ cQ : ClassId) (a : Nat → Nat) (u : LU) : va_W := (a 0, .inr (0, flX a (u 0))) :: (a 15, .inl (cQ, 60, .inr (.inr (.inr (.inr (rfX a)))))) :: (arX cI cZ).map (mkA a u)
theorem arX_nd (cI cZ : ClassId) : ((arX cI cZ).map Prod.fst).Nodup := by
  have h : (arX cI cZ).map Prod.fst = [1, 2, 3, 4, 6, 7, 8, 9, 10, 11, 12, 14, 16] ++ (List.range 60).map (fun i => 100 + i) := by
    simp only [arX, List.map_append, List.map_map]
    rfl
  rw [h]
  decide +kernel
theorem arX_0 (cI cZ : ClassId) : 0 ∉ (arX cI cZ).map Prod.fst := by
  have h : (arX cI cZ).map Prod.fst = [1, 2, 3, 4, 6, 7, 8, 9, 10, 11, 12, 14, 16] ++ (List.range 60).map (fun i => 100 + i) := by
    simp only [arX, List.map_append, List.map_map]
    rfl
  rw [h]
  decide +kernel
theorem arX_row (cI cZ : ClassId) {i : Nat} (h : i < 60) : (arX cI cZ)[13 + i]? = some (100 + i, cI, 47) := by
  unfold arX
  rw [List.getElem?_append_right (by simp)]
  simp [h]
theorem wX_ok (cI cZ cQ : ClassId) (a : Nat → Nat) : WfOk (wX cI cZ cQ a) := fun u u' => by
  simp only [wX, List.map_cons]
  rw [mkA_fst a u u']
theorem wX_get (cI cZ cQ : ClassId) (a : Nat → Nat) (u : LU) {j n k : Nat} {c : ClassId} (h : (arX cI cZ)[k]? = some (j, c, n)) : (wX cI cZ cQ a u)[k + 2]? = some (a j, .inl (c, n, .inl (u j))) := mkA_get a u h
theorem wX_set (cI cZ cQ : ClassId) (a : Nat → Nat) (u : LU) {g : Nat → Int32} {j n k : Nat} {c : ClassId} (h : (arX cI cZ)[k]? = some (j, c, n)) : (wX cI cZ cQ a u).set (k + 2) (a j, .inl (c, n, .inl g)) = wX cI cZ cQ a (up u j g) := by
  have hj : 0 ≠ j := fun e => arX_0 cI cZ (e ▸ List.mem_map.mpr ⟨_, List.mem_of_getElem? h, rfl⟩)
  simp only [wX, List.set_cons_succ]
  rw [mkA_set a u _ k (arX_nd cI cZ) h, up_n u j g hj]
theorem wX_put (cI cZ cQ : ClassId) (a : Nat → Nat) (u : LU) {f : Nat → Int32} {fs : List Value} (h : fs = flX a f) : (wX cI cZ cQ a u).set 0 (a 0, .inr (0, fs)) = wX cI cZ cQ a (up u 0 f) := by
  subst h
  simp only [wX, List.set_cons_zero]
  rw [mkA_0 a u f _ (arX_0 cI cZ), up_s]
def flM (a : Nat → Nat) (f : Nat → Int32) : List Value := [.int (f 0), .int (f 1), .int (f 2), .ref (a 4), .ref (a 5), .ref (a 6), .ref (a 7), .int (f 7), .ref (a 9), .ref (a 10), .ref (a 11), .ref (a 12), .ref (a 13), .ref (a 14), .ref (a 15), .int (f 15), .ref (a 17), .ref (a 18), .ref (a 19), .ref (a 20)]
def arM (cI cZ : ClassId) : List (Nat × ClassId × Nat) := [(4, cI, 12), (5, cI, 12), (6, cI, 12), (7, cI, 12), (9, cI, 24), (10, cI, 24), (11, cI, 24), (12, cI, 24), (13, cZ, 24), (14, cI, 24), (15, cI, 24), (17, cI, 60), (18, cI, 60), (19, cI, 2880), (20, cZ, 24)]
def wM (cI cZ : ClassId) (a : Nat → Nat) (u : LU) : va_W := (a 0, .inr (1, flM a (u 0))) :: (arM cI cZ).map (mkA a u)
theorem arM_nd (cI cZ : ClassId) : ((arM cI cZ).map Prod.fst).Nodup := by
  show [4, 5, 6, 7, 9, 10, 11, 12, 13, 14, 15, 17, 18, 19, 20].Nodup
  decide +kernel
theorem arM_0 (cI cZ : ClassId) : 0 ∉ (arM cI cZ).map Prod.fst := by
  show 0 ∉ [4, 5, 6, 7, 9, 10, 11, 12, 13, 14, 15, 17, 18, 19, 20]
  decide +kernel
theorem wM_ok (cI cZ : ClassId) (a : Nat → Nat) : WfOk (wM cI cZ a) := fun u u' => by
  simp only [wM, List.map_cons]
  rw [mkA_fst a u u']
theorem wM_get (cI cZ : ClassId) (a : Nat → Nat) (u : LU) {j n k : Nat} {c : ClassId} (h : (arM cI cZ)[k]? = some (j, c, n)) : (wM cI cZ a u)[k + 1]? = some (a j, .inl (c, n, .inl (u j))) := mkA_get a u h
theorem wM_set (cI cZ : ClassId) (a : Nat → Nat) (u : LU) {g : Nat → Int32} {j n k : Nat} {c : ClassId} (h : (arM cI cZ)[k]? = some (j, c, n)) : (wM cI cZ a u).set (k + 1) (a j, .inl (c, n, .inl g)) = wM cI cZ a (up u j g) := by
  have hj : 0 ≠ j := fun e => arM_0 cI cZ (e ▸ List.mem_map.mpr ⟨_, List.mem_of_getElem? h, rfl⟩)
  simp only [wM, List.set_cons_succ]
  rw [mkA_set a u _ k (arM_nd cI cZ) h, up_n u j g hj]
theorem wM_put (cI cZ : ClassId) (a : Nat → Nat) (u : LU) {f : Nat → Int32} {fs : List Value} (h : fs = flM a f) : (wM cI cZ a u).set 0 (a 0, .inr (1, fs)) = wM cI cZ a (up u 0 f) := by
  subst h
  simp only [wM, List.set_cons_zero]
  rw [mkA_0 a u f _ (arM_0 cI cZ), up_s]
theorem ti_add {x y : Int32} (h1 : -2147483648 ≤ x.toInt + y.toInt) (h2 : x.toInt + y.toInt < 2147483648) : (x + y).toInt = x.toInt + y.toInt := by
  rw [Int32.toInt_add]
  exact Int.bmod_eq_of_le (by omega) (by omega)
theorem ti_sub {x y : Int32} (h1 : -2147483648 ≤ x.toInt - y.toInt) (h2 : x.toInt - y.toInt < 2147483648) : (x - y).toInt = x.toInt - y.toInt := by
  rw [Int32.toInt_sub]
  exact Int.bmod_eq_of_le (by omega) (by omega)
theorem ti_rng (x : Int32) : -2147483648 ≤ x.toInt ∧ x.toInt < 2147483648 := ⟨Int32.le_toInt x, Int32.toInt_lt x⟩
theorem vp_of {x : Int32} {n : Nat} (h1 : 0 ≤ x.toInt) (h2 : x.toInt < n) : vp_in x n := vp_in_iff.mpr ⟨h1, h2⟩
theorem nI_of_ti {x : Int32} {n : Nat} (h1 : 0 ≤ x.toInt) (h2 : x.toInt < n) (hn : n < 2 ^ 31) : ∃ j : Nat, j < n ∧ x = nI j := vp_in_of (vp_of h1 h2) hn
theorem row_get (cI cZ cQ : ClassId) (a : Nat → Nat) (u : LU) {i : Nat} (h : i < 60) : (wX cI cZ cQ a u)[15 + i]? = some (a (100 + i), .inl (cI, 47, .inl (u (100 + i)))) := by
  have e : 15 + i = (13 + i) + 2 := by omega
  rw [e]
  exact wX_get cI cZ cQ a u (arX_row cI cZ h)
theorem row_set (cI cZ cQ : ClassId) (a : Nat → Nat) (u : LU) {i : Nat} {g : Nat → Int32} (h : i < 60) : (wX cI cZ cQ a u).set (15 + i) (a (100 + i), .inl (cI, 47, .inl g)) = wX cI cZ cQ a (up u (100 + i) g) := by
  have e : 15 + i = (13 + i) + 2 := by omega
  rw [e]
  exact wX_set cI cZ cQ a u (arX_row cI cZ h)
def mmin32 (x y : Int32) : Int32 := if y < x then y else x
def mmax32 (x y : Int32) : Int32 := if x < y then y else x
section GM
variable {S : Type} {p : Program} {l : Launch} {e : Env} {R : Room} {s : State} {m : MethodId} {args : Array Value} {below : List Frame} {meth : Method} {c : Code} {D : va_G} {tys : List (ClassId × FieldType)} {A : Nat → Prop} {own : String} {cc : ByteArray} {Ts : List Cond} {nL : Nat} {wf : S → va_W} {cells slots : Nat} {Q : State → Prop} {u : S} {pc pc' : Nat} {L : List (Nat × Value)} {st : List Value}
theorem g_mmin (C : CX p s m args meth c D tys A own cc Ts nL wf) {index : Nat} (h1 : Cond.methodLink own index Lib.Math.min.name ∈ Ts) (h2 : Cond.static Lib.Math.min.name ∈ Ts) (h3 : Cond.initialized "java/lang/Math" ∈ Ts) (h4 : Cond.code Lib.Math.min.name Lib.Math.min.code 2 (some .int) ∈ Ts) (hf : 1 ≤ R.frames) (hlo : (st.map fun v => v.category).sum + 13 ≤ R.locals) (hc : cells ≤ R.cells) (hs : slots ≤ R.slots) {x y : Int32} (hdg : decode cc pc = .ok (.invokestatic index, 3)) (hp : pc + 3 = pc')
    (kk : G p l e R s m args below meth c D A nL wf cells slots Q u pc' L (.int (mmin32 x y) :: st)) : G p l e R s m args below meth c D A nL wf cells slots Q u pc L (.int y :: .int x :: st) := by
  subst hp; exact fun H locs ls hP hS hl => va_mmin C.1 C.2.1 (C.2.2.1.trans hl.1.symm) C.2.2.2.1 (C.2.2.2.2.1 _ h1) (C.2.2.2.2.1 _ h2) (C.2.2.2.2.1 _ h3) (C.2.2.2.2.1 _ h4) hf hlo hc hs hdg (kk H locs ls hP hS hl)
theorem g_mmax (C : CX p s m args meth c D tys A own cc Ts nL wf) {index : Nat} (h1 : Cond.methodLink own index Lib.Math.max.name ∈ Ts) (h2 : Cond.static Lib.Math.max.name ∈ Ts) (h3 : Cond.initialized "java/lang/Math" ∈ Ts) (h4 : Cond.code Lib.Math.max.name Lib.Math.max.code 2 (some .int) ∈ Ts) (hf : 1 ≤ R.frames) (hlo : (st.map fun v => v.category).sum + 13 ≤ R.locals) (hc : cells ≤ R.cells) (hs : slots ≤ R.slots) {x y : Int32} (hdg : decode cc pc = .ok (.invokestatic index, 3)) (hp : pc + 3 = pc')
    (kk : G p l e R s m args below meth c D A nL wf cells slots Q u pc' L (.int (mmax32 x y) :: st)) : G p l e R s m args below meth c D A nL wf cells slots Q u pc L (.int y :: .int x :: st) := by
  subst hp; exact fun H locs ls hP hS hl => va_mmax C.1 C.2.1 (C.2.2.1.trans hl.1.symm) C.2.2.2.1 (C.2.2.2.2.1 _ h1) (C.2.2.2.2.1 _ h2) (C.2.2.2.2.1 _ h3) (C.2.2.2.2.1 _ h4) hf hlo hc hs hdg (kk H locs ls hP hS hl)
end GM
theorem g_conv {S : Type} {p : Program} {l : Launch} {e : Env} {R : Room} {s : State} {m : MethodId} {args : Array Value} {below : List Frame} {meth : Method} {c : Code} {D : va_G} {A : Nat → Prop} {nL : Nat} {wf : S → va_W} {cells slots : Nat} {Q : State → Prop} {u : S} {pc : Nat} {L : List (Nat × Value)} {st : List Value} {x y : Int32} (h : x = y) (kk : G p l e R s m args below meth c D A nL wf cells slots Q u pc L (.int y :: st)) : G p l e R s m args below meth c D A nL wf cells slots Q u pc L (.int x :: st) := h ▸ kk
