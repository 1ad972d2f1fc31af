/-! THE FRAMEWORK: one judgement over a pure state. A method's world is a family wf of cell lists over a pure state u; G says: in every heap that holds wf u, with locals L and stack st at pc, the machine comes to Q. -/
abbrev LU : Type := Nat → Nat → Int32
/-- array k replaced -/
def up (u : LU) (k : Nat) (f : Nat → Int32) : LU := fun j => if j = k then f else u j
theorem up_s (u : LU) (k : Nat) (f : Nat → Int32) : up u k f k = f := if_pos rfl
theorem up_n (u : LU) (k : Nat) (f : Nat → Int32) {j : Nat} (h : j ≠ k) : up u k f j = u j := if_neg h
/-- a truth as an int -/
noncomputable def bP (P : Prop) : Int32 := @ite _ P (Classical.propDecidable P) 1 0
theorem bP_t {P : Prop} (h : P) : bP P = 1 := by unfold bP; exact if_pos h
theorem bP_f {P : Prop} (h : ¬ P) : bP P = 0 := by unfold bP; exact if_neg h
theorem bP_0 {P : Prop} : bP P = 0 ↔ ¬ P := ⟨fun h q => by rw [bP_t q] at h; exact absurd h (by decide), bP_f⟩
theorem bP_n0 {P : Prop} : ¬ bP P = 0 ↔ P := ⟨fun h => Classical.byContradiction (fun q => h (bP_f q)), fun q h => by rw [bP_t q] at h; exact absurd h (by decide)⟩
theorem bP_1 {P : Prop} : bP P = 1 ↔ P := ⟨fun h => Classical.byContradiction (fun q => by rw [bP_f q] at h; exact absurd h (by decide)), bP_t⟩
theorem bP_c {P P' : Prop} (h : P ↔ P') : bP P = bP P' := congrArg bP (propext h)
theorem bP_or (P : Prop) : bP P = 0 ∨ bP P = 1 := (Classical.em P).elim (fun h => Or.inr (bP_t h)) (fun h => Or.inl (bP_f h))
theorem bP_ti {P : Prop} : (bP P).toInt = 0 ∧ ¬ P ∨ (bP P).toInt = 1 ∧ P := (Classical.em P).elim (fun h => Or.inr ⟨by rw [bP_t h]; rfl, h⟩) (fun h => Or.inl ⟨by rw [bP_f h]; rfl, h⟩)
theorem bP_nar (P : Prop) : narrow .boolean (.int (bP P)) = .int (bP P) := by rcases bP_or P with h | h <;> rw [h] <;> rfl
theorem bP_vp (P : Prop) : vp_nar .boolean (bP P) = bP P := by rcases bP_or P with h | h <;> rw [h] <;> rfl
/-- what a method's body knows throughout -/
def CX {S : Type} (p : Program) (s : State) (m : MethodId) (args : Array Value) (meth : Method) (c : Code) (D : va_G) (tys : List (ClassId × FieldType)) (A : Nat → Prop) (own : String) (cc : ByteArray) (Ts : List Cond) (nL : Nat) (wf : S → va_W) : Prop :=
  p.tables.exec = Jvm.exec ∧ c.code = cc ∧ c.maxLocals = nL ∧ s.vm.findClass own = some m.cls ∧ (∀ w ∈ Ts, w.before args s = true) ∧ va_K D vwCl tys s ∧ (∀ q, s.heap.size ≤ q → A q) ∧ (∀ u, va_D A (wf u)) ∧ meth.locks = false
def G {S : Type} (p : Program) (l : Launch) (e : Env) (R : Room) (s : State) (m : MethodId) (args : Array Value) (below : List Frame) (meth : Method) (c : Code) (D : va_G) (A : Nat → Prop) (nL : Nat) (wf : S → va_W) (cells slots : Nat) (Q : State → Prop) (u : S) (pc : Nat) (L : List (Nat × Value)) (st : List Value) : Prop :=
  ∀ (H : Heap) (locs : List Loc) (ls : Array Slot), va_P D vwCl (wf u) H → va_S A s.heap H locs → lv_has ls nL L → W p l e R s m args below meth c H locs cells slots Q (F0 m pc ls st)
section GR
variable {S : Type} {p : Program} {l : Launch} {e : Env} {R : Room} {s : State} {m : MethodId} {args : Array Value} {below : List Frame} {meth : Method} {c : Code} {D : va_G} {tys : List (ClassId × FieldType)} {A : Nat → Prop} {own : String} {cc : ByteArray} {Ts : List Cond} {nL : Nat} {wf : S → va_W} {cells slots : Nat} {Q : State → Prop} {u : S} {pc pc' : Nat} {L : List (Nat × Value)} {st : List Value}
theorem g_widen {k n : Nat} (h1 : cells ≤ k) (h2 : slots ≤ n) (kk : G p l e R s m args below meth c D A nL wf k n Q u pc L st) : G p l e R s m args below meth c D A nL wf cells slots Q u pc L st :=
  fun H locs ls hP hS hl => W.widen h1 h2 (kk H locs ls hP hS hl)
theorem g_sub {L' : List (Nat × Value)} (ks : List Nat) (hL : lv_pick L ks = L') (kk : G p l e R s m args below meth c D A nL wf cells slots Q u pc L' st) : G p l e R s m args below meth c D A nL wf cells slots Q u pc L st :=
  fun H locs ls hP hS hl => kk H locs ls hP hS (lv_sub hl ks hL)
theorem g_st {u' : S} (h : u = u') (kk : G p l e R s m args below meth c D A nL wf cells slots Q u' pc L st) : G p l e R s m args below meth c D A nL wf cells slots Q u pc L st := h ▸ kk
theorem g_iconst (C : CX p s m args meth c D tys A own cc Ts nL wf) {n : Int} {v : Int32} (hdg : decode cc pc = .ok (.iconst n, 1)) (hp : pc + 1 = pc') (hv : Int32.ofInt n = v) (kk : G p l e R s m args below meth c D A nL wf cells slots Q u pc' L (.int v :: st)) : G p l e R s m args below meth c D A nL wf cells slots Q u pc L st := by
  subst hp; exact fun H locs ls hP hS hl => lv_iconst C.1 C.2.1 hdg hv (kk H locs ls hP hS hl)
theorem g_bipush (C : CX p s m args meth c D tys A own cc Ts nL wf) {n : Int} {v : Int32} (hdg : decode cc pc = .ok (.bipush n, 2)) (hp : pc + 2 = pc') (hv : (Int8.ofInt n).toInt32 = v) (kk : G p l e R s m args below meth c D A nL wf cells slots Q u pc' L (.int v :: st)) : G p l e R s m args below meth c D A nL wf cells slots Q u pc L st := by
  subst hp; exact fun H locs ls hP hS hl => lv_bipush C.1 C.2.1 hdg hv (kk H locs ls hP hS hl)
theorem g_sipush (C : CX p s m args meth c D tys A own cc Ts nL wf) {n : Int} {v : Int32} (hdg : decode cc pc = .ok (.sipush n, 3)) (hp : pc + 3 = pc') (hv : (Int16.ofInt n).toInt32 = v) (kk : G p l e R s m args below meth c D A nL wf cells slots Q u pc' L (.int v :: st)) : G p l e R s m args below meth c D A nL wf cells slots Q u pc L st := by
  subst hp; exact fun H locs ls hP hS hl => lv_sipush C.1 C.2.1 hdg hv (kk H locs ls hP hS hl)
theorem g_ldc (C : CX p s m args meth c D tys A own cc Ts nL wf) {index : Nat} {v : Int32} (hdg : decode cc pc = .ok (.ldc index, 2)) (hp : pc + 2 = pc') (hc : Cond.constant own index v ∈ Ts) (kk : G p l e R s m args below meth c D A nL wf cells slots Q u pc' L (.int v :: st)) : G p l e R s m args below meth c D A nL wf cells slots Q u pc L st := by
  subst hp; exact fun H locs ls hP hS hl => lv_ldc C.1 C.2.1 C.2.2.2.1 (C.2.2.2.2.1 _ hc) hdg (kk H locs ls hP hS hl)
theorem g_iload_n (C : CX p s m args meth c D tys A own cc Ts nL wf) {k : Fin 4} {i q : Nat} {x : Int32} (hdg : decode cc pc = .ok (.iload_n k, 1)) (hp : pc + 1 = pc') (hi : (k : Nat) = i) (hL : L[q]? = some (i, .int x)) (kk : G p l e R s m args below meth c D A nL wf cells slots Q u pc' L (.int x :: st)) : G p l e R s m args below meth c D A nL wf cells slots Q u pc L st := by
  subst hp; exact fun H locs ls hP hS hl => lv_iload_n C.1 C.2.1 hdg hi (lv_at hl q hL) (kk H locs ls hP hS hl)
theorem g_iload (C : CX p s m args meth c D tys A own cc Ts nL wf) {i q : Nat} {x : Int32} (hdg : decode cc pc = .ok (.iload i, 2)) (hp : pc + 2 = pc') (hL : L[q]? = some (i, .int x)) (kk : G p l e R s m args below meth c D A nL wf cells slots Q u pc' L (.int x :: st)) : G p l e R s m args below meth c D A nL wf cells slots Q u pc L st := by
  subst hp; exact fun H locs ls hP hS hl => lv_iload C.1 C.2.1 hdg (lv_at hl q hL) (kk H locs ls hP hS hl)
theorem g_aload_n (C : CX p s m args meth c D tys A own cc Ts nL wf) {k : Fin 4} {i q : Nat} {x : Nat} (hdg : decode cc pc = .ok (.aload_n k, 1)) (hp : pc + 1 = pc') (hi : (k : Nat) = i) (hL : L[q]? = some (i, .ref x)) (kk : G p l e R s m args below meth c D A nL wf cells slots Q u pc' L (.ref x :: st)) : G p l e R s m args below meth c D A nL wf cells slots Q u pc L st := by
  subst hp; exact fun H locs ls hP hS hl => lv_aload_n C.1 C.2.1 hdg hi (lv_at hl q hL) (kk H locs ls hP hS hl)
theorem g_aload (C : CX p s m args meth c D tys A own cc Ts nL wf) {i q : Nat} {x : Nat} (hdg : decode cc pc = .ok (.aload i, 2)) (hp : pc + 2 = pc') (hL : L[q]? = some (i, .ref x)) (kk : G p l e R s m args below meth c D A nL wf cells slots Q u pc' L (.ref x :: st)) : G p l e R s m args below meth c D A nL wf cells slots Q u pc L st := by
  subst hp; exact fun H locs ls hP hS hl => lv_aload C.1 C.2.1 hdg (lv_at hl q hL) (kk H locs ls hP hS hl)
theorem g_istore_n (C : CX p s m args meth c D tys A own cc Ts nL wf) {k : Fin 4} {i : Nat} {x : Int32} {L' : List (Nat × Value)} (hdg : decode cc pc = .ok (.istore_n k, 1)) (hp : pc + 1 = pc') (hi : (k : Nat) = i) (hn : i < nL) (hl : (i, Value.int x) :: L.filter (fun q => !(q.1 == i) && !(q.1 + 1 == i && q.2.category == 2)) = L') (kk : G p l e R s m args below meth c D A nL wf cells slots Q u pc' L' st) : G p l e R s m args below meth c D A nL wf cells slots Q u pc L (.int x :: st) := by
  subst hp; exact fun H locs ls hP hS h => lv_istore_n C.1 C.2.1 hdg hi h hn hl (fun ls' h' => kk H locs ls' hP hS h')
theorem g_istore (C : CX p s m args meth c D tys A own cc Ts nL wf) {i : Nat} {x : Int32} {L' : List (Nat × Value)} (hdg : decode cc pc = .ok (.istore i, 2)) (hp : pc + 2 = pc') (hn : i < nL) (hl : (i, Value.int x) :: L.filter (fun q => !(q.1 == i) && !(q.1 + 1 == i && q.2.category == 2)) = L') (kk : G p l e R s m args below meth c D A nL wf cells slots Q u pc' L' st) : G p l e R s m args below meth c D A nL wf cells slots Q u pc L (.int x :: st) := by
  subst hp; exact fun H locs ls hP hS h => lv_istore C.1 C.2.1 hdg h hn hl (fun ls' h' => kk H locs ls' hP hS h')
theorem g_astore_n (C : CX p s m args meth c D tys A own cc Ts nL wf) {k : Fin 4} {i : Nat} {x : Nat} {L' : List (Nat × Value)} (hdg : decode cc pc = .ok (.astore_n k, 1)) (hp : pc + 1 = pc') (hi : (k : Nat) = i) (hn : i < nL) (hl : (i, Value.ref x) :: L.filter (fun q => !(q.1 == i) && !(q.1 + 1 == i && q.2.category == 2)) = L') (kk : G p l e R s m args below meth c D A nL wf cells slots Q u pc' L' st) : G p l e R s m args below meth c D A nL wf cells slots Q u pc L (.ref x :: st) := by
  subst hp; exact fun H locs ls hP hS h => lv_astore_n C.1 C.2.1 hdg hi h hn hl (fun ls' h' => kk H locs ls' hP hS h')
theorem g_astore (C : CX p s m args meth c D tys A own cc Ts nL wf) {i : Nat} {x : Nat} {L' : List (Nat × Value)} (hdg : decode cc pc = .ok (.astore i, 2)) (hp : pc + 2 = pc') (hn : i < nL) (hl : (i, Value.ref x) :: L.filter (fun q => !(q.1 == i) && !(q.1 + 1 == i && q.2.category == 2)) = L') (kk : G p l e R s m args below meth c D A nL wf cells slots Q u pc' L' st) : G p l e R s m args below meth c D A nL wf cells slots Q u pc L (.ref x :: st) := by
  subst hp; exact fun H locs ls hP hS h => lv_astore C.1 C.2.1 hdg h hn hl (fun ls' h' => kk H locs ls' hP hS h')
theorem g_iinc (C : CX p s m args meth c D tys A own cc Ts nL wf) {i k : Nat} {n : Int} {x v : Int32} {L' : List (Nat × Value)} (hdg : decode cc pc = .ok (.iinc i n, 3)) (hp : pc + 3 = pc') (hk : L[k]? = some (i, .int x)) (hv : x + Int32.ofInt n = v) (hn : i < nL) (hl : (i, Value.int v) :: L.filter (fun q => !(q.1 == i) && !(q.1 + 1 == i && q.2.category == 2)) = L') (kk : G p l e R s m args below meth c D A nL wf cells slots Q u pc' L' st) : G p l e R s m args below meth c D A nL wf cells slots Q u pc L st := by
  subst hp; exact fun H locs ls hP hS h => lv_iinc C.1 C.2.1 hdg h hk hv hn hl (fun ls' h' => kk H locs ls' hP hS h')
theorem g_iadd (C : CX p s m args meth c D tys A own cc Ts nL wf) {x y : Int32} (hdg : decode cc pc = .ok (.iadd, 1)) (hp : pc + 1 = pc') (kk : G p l e R s m args below meth c D A nL wf cells slots Q u pc' L (.int (x + y) :: st)) : G p l e R s m args below meth c D A nL wf cells slots Q u pc L (.int y :: .int x :: st) := by
  subst hp; exact fun H locs ls hP hS hl => lv_iadd C.1 C.2.1 hdg (kk H locs ls hP hS hl)
theorem g_isub (C : CX p s m args meth c D tys A own cc Ts nL wf) {x y : Int32} (hdg : decode cc pc = .ok (.isub, 1)) (hp : pc + 1 = pc') (kk : G p l e R s m args below meth c D A nL wf cells slots Q u pc' L (.int (x - y) :: st)) : G p l e R s m args below meth c D A nL wf cells slots Q u pc L (.int y :: .int x :: st) := by
  subst hp; exact fun H locs ls hP hS hl => lv_isub C.1 C.2.1 hdg (kk H locs ls hP hS hl)
theorem g_imul (C : CX p s m args meth c D tys A own cc Ts nL wf) {x y : Int32} (hdg : decode cc pc = .ok (.imul, 1)) (hp : pc + 1 = pc') (kk : G p l e R s m args below meth c D A nL wf cells slots Q u pc' L (.int (x * y) :: st)) : G p l e R s m args below meth c D A nL wf cells slots Q u pc L (.int y :: .int x :: st) := by
  subst hp; exact fun H locs ls hP hS hl => lv_imul C.1 C.2.1 hdg (kk H locs ls hP hS hl)
theorem g_iand (C : CX p s m args meth c D tys A own cc Ts nL wf) {x y : Int32} (hdg : decode cc pc = .ok (.iand, 1)) (hp : pc + 1 = pc') (kk : G p l e R s m args below meth c D A nL wf cells slots Q u pc' L (.int (x &&& y) :: st)) : G p l e R s m args below meth c D A nL wf cells slots Q u pc L (.int y :: .int x :: st) := by
  subst hp; exact fun H locs ls hP hS hl => lv_iand C.1 C.2.1 hdg (kk H locs ls hP hS hl)
theorem g_dup (C : CX p s m args meth c D tys A own cc Ts nL wf) {v : Value} (hdg : decode cc pc = .ok (.dup, 1)) (hp : pc + 1 = pc') (hv : v.category = 1) (kk : G p l e R s m args below meth c D A nL wf cells slots Q u pc' L (v :: v :: st)) : G p l e R s m args below meth c D A nL wf cells slots Q u pc L (v :: st) := by
  subst hp; exact fun H locs ls hP hS hl => lv_dup C.1 C.2.1 hdg hv (kk H locs ls hP hS hl)
theorem g_dup2 (C : CX p s m args meth c D tys A own cc Ts nL wf) {v w : Value} (hdg : decode cc pc = .ok (.dup2, 1)) (hp : pc + 1 = pc') (hv : v.category = 1) (hw : w.category = 1) (kk : G p l e R s m args below meth c D A nL wf cells slots Q u pc' L (v :: w :: v :: w :: st)) : G p l e R s m args below meth c D A nL wf cells slots Q u pc L (v :: w :: st) := by
  subst hp; exact fun H locs ls hP hS hl => lv_dup2_11 C.1 C.2.1 hdg hv hw (kk H locs ls hP hS hl)
theorem g_goto (C : CX p s m args meth c D tys A own cc Ts nL wf) {off : Int} {tgt : Nat} (hdg : decode cc pc = .ok (.goto off, 3)) (ht : (pc : Int) + off = (tgt : Int)) (kk : G p l e R s m args below meth c D A nL wf cells slots Q u tgt L st) : G p l e R s m args below meth c D A nL wf cells slots Q u pc L st :=
  fun H locs ls hP hS hl => lv_goto C.1 C.2.1 hdg ht (kk H locs ls hP hS hl)
theorem ti_0 : (0 : Int32).toInt = 0 := Int32.toInt_zero
theorem ii_eq (x : Int32) : (x = 0) ↔ (x.toInt = 0) := by
  have h := @Int32.toInt_inj x 0
  rw [ti_0] at h
  exact h.symm
theorem ii_ne (x : Int32) : (¬ x = 0) ↔ (¬ x.toInt = 0) := by
  have h := @Int32.toInt_inj x 0
  rw [ti_0] at h
  exact not_congr h.symm
theorem ii_lt (x : Int32) : (x < 0) ↔ (x.toInt < 0) := by
  have h := @Int32.lt_iff_toInt_lt x 0
  rw [ti_0] at h
  exact h
theorem ii_ge (x : Int32) : (0 ≤ x) ↔ (0 ≤ x.toInt) := by
  have h := @Int32.le_iff_toInt_le 0 x
  rw [ti_0] at h
  exact h
theorem ii_gt (x : Int32) : (0 < x) ↔ (0 < x.toInt) := by
  have h := @Int32.lt_iff_toInt_lt 0 x
  rw [ti_0] at h
  exact h
theorem ii_le (x : Int32) : (x ≤ 0) ↔ (x.toInt ≤ 0) := by
  have h := @Int32.le_iff_toInt_le x 0
  rw [ti_0] at h
  exact h
theorem cc_eq (x y : Int32) : (x = y) ↔ (x.toInt = y.toInt) := Int32.toInt_inj.symm
theorem cc_ne (x y : Int32) : (¬ x = y) ↔ (¬ x.toInt = y.toInt) := not_congr Int32.toInt_inj.symm
theorem cc_lt (x y : Int32) : (x < y) ↔ (x.toInt < y.toInt) := Int32.lt_iff_toInt_lt
theorem cc_ge (x y : Int32) : (y ≤ x) ↔ (y.toInt ≤ x.toInt) := Int32.le_iff_toInt_le
theorem cc_gt (x y : Int32) : (y < x) ↔ (y.toInt < x.toInt) := Int32.lt_iff_toInt_lt
theorem cc_le (x y : Int32) : (x ≤ y) ↔ (x.toInt ≤ y.toInt) := Int32.le_iff_toInt_le
theorem g_if_eq (C : CX p s m args meth c D tys A own cc Ts nL wf) {x : Int32} {off : Int} {tgt : Nat} (hdg : decode cc pc = .ok (.ifCond .eq off, 3)) (hp : pc + 3 = pc') (ht : (pc : Int) + off = (tgt : Int)) (kt : x.toInt = 0 → G p l e R s m args below meth c D A nL wf cells slots Q u tgt L st) (kf : ¬ (x.toInt = 0) → G p l e R s m args below meth c D A nL wf cells slots Q u pc' L st) : G p l e R s m args below meth c D A nL wf cells slots Q u pc L (.int x :: st) := by
  subst hp; exact fun H locs ls hP hS hl => lv_if_eq C.1 C.2.1 hdg ht (fun h => kt ((ii_eq x).mp h) H locs ls hP hS hl) (fun h => kf (fun h9 => h ((ii_eq x).mpr h9)) H locs ls hP hS hl)
theorem g_if_ne (C : CX p s m args meth c D tys A own cc Ts nL wf) {x : Int32} {off : Int} {tgt : Nat} (hdg : decode cc pc = .ok (.ifCond .ne off, 3)) (hp : pc + 3 = pc') (ht : (pc : Int) + off = (tgt : Int)) (kt : ¬ x.toInt = 0 → G p l e R s m args below meth c D A nL wf cells slots Q u tgt L st) (kf : x.toInt = 0 → G p l e R s m args below meth c D A nL wf cells slots Q u pc' L st) : G p l e R s m args below meth c D A nL wf cells slots Q u pc L (.int x :: st) := by
  subst hp; exact fun H locs ls hP hS hl => lv_if_ne C.1 C.2.1 hdg ht (fun h => kt ((ii_ne x).mp h) H locs ls hP hS hl) (fun h => kf ((ii_eq x).mp h) H locs ls hP hS hl)
theorem g_if_lt (C : CX p s m args meth c D tys A own cc Ts nL wf) {x : Int32} {off : Int} {tgt : Nat} (hdg : decode cc pc = .ok (.ifCond .lt off, 3)) (hp : pc + 3 = pc') (ht : (pc : Int) + off = (tgt : Int)) (kt : x.toInt < 0 → G p l e R s m args below meth c D A nL wf cells slots Q u tgt L st) (kf : ¬ (x.toInt < 0) → G p l e R s m args below meth c D A nL wf cells slots Q u pc' L st) : G p l e R s m args below meth c D A nL wf cells slots Q u pc L (.int x :: st) := by
  subst hp; exact fun H locs ls hP hS hl => lv_if_lt C.1 C.2.1 hdg ht (fun h => kt ((ii_lt x).mp h) H locs ls hP hS hl) (fun h => kf (fun h9 => h ((ii_lt x).mpr h9)) H locs ls hP hS hl)
theorem g_if_ge (C : CX p s m args meth c D tys A own cc Ts nL wf) {x : Int32} {off : Int} {tgt : Nat} (hdg : decode cc pc = .ok (.ifCond .ge off, 3)) (hp : pc + 3 = pc') (ht : (pc : Int) + off = (tgt : Int)) (kt : 0 ≤ x.toInt → G p l e R s m args below meth c D A nL wf cells slots Q u tgt L st) (kf : ¬ (0 ≤ x.toInt) → G p l e R s m args below meth c D A nL wf cells slots Q u pc' L st) : G p l e R s m args below meth c D A nL wf cells slots Q u pc L (.int x :: st) := by
  subst hp; exact fun H locs ls hP hS hl => lv_if_ge C.1 C.2.1 hdg ht (fun h => kt ((ii_ge x).mp h) H locs ls hP hS hl) (fun h => kf (fun h9 => h ((ii_ge x).mpr h9)) H locs ls hP hS hl)
theorem g_if_gt (C : CX p s m args meth c D tys A own cc Ts nL wf) {x : Int32} {off : Int} {tgt : Nat} (hdg : decode cc pc = .ok (.ifCond .gt off, 3)) (hp : pc + 3 = pc') (ht : (pc : Int) + off = (tgt : Int)) (kt : 0 < x.toInt → G p l e R s m args below meth c D A nL wf cells slots Q u tgt L st) (kf : ¬ (0 < x.toInt) → G p l e R s m args below meth c D A nL wf cells slots Q u pc' L st) : G p l e R s m args below meth c D A nL wf cells slots Q u pc L (.int x :: st) := by
  subst hp; exact fun H locs ls hP hS hl => lv_if_gt C.1 C.2.1 hdg ht (fun h => kt ((ii_gt x).mp h) H locs ls hP hS hl) (fun h => kf (fun h9 => h ((ii_gt x).mpr h9)) H locs ls hP hS hl)
theorem g_if_le (C : CX p s m args meth c D tys A own cc Ts nL wf) {x : Int32} {off : Int} {tgt : Nat} (hdg : decode cc pc = .ok (.ifCond .le off, 3)) (hp : pc + 3 = pc') (ht : (pc : Int) + off = (tgt : Int)) (kt : x.toInt ≤ 0 → G p l e R s m args below meth c D A nL wf cells slots Q u tgt L st) (kf : ¬ (x.toInt ≤ 0) → G p l e R s m args below meth c D A nL wf cells slots Q u pc' L st) : G p l e R s m args below meth c D A nL wf cells slots Q u pc L (.int x :: st) := by
  subst hp; exact fun H locs ls hP hS hl => lv_if_le C.1 C.2.1 hdg ht (fun h => kt ((ii_le x).mp h) H locs ls hP hS hl) (fun h => kf (fun h9 => h ((ii_le x).mpr h9)) H locs ls hP hS hl)
theorem g_icmp_eq (C : CX p s m args meth c D tys A own cc Ts nL wf) {x y : Int32} {off : Int} {tgt : Nat} (hdg : decode cc pc = .ok (.if_icmp .eq off, 3)) (hp : pc + 3 = pc') (ht : (pc : Int) + off = (tgt : Int)) (kt : x.toInt = y.toInt → G p l e R s m args below meth c D A nL wf cells slots Q u tgt L st) (kf : ¬ (x.toInt = y.toInt) → G p l e R s m args below meth c D A nL wf cells slots Q u pc' L st) : G p l e R s m args below meth c D A nL wf cells slots Q u pc L (.int y :: .int x :: st) := by
  subst hp; exact fun H locs ls hP hS hl => lv_icmp_eq C.1 C.2.1 hdg ht (fun h => kt ((cc_eq x y).mp h) H locs ls hP hS hl) (fun h => kf (fun h9 => h ((cc_eq x y).mpr h9)) H locs ls hP hS hl)
theorem g_icmp_ne (C : CX p s m args meth c D tys A own cc Ts nL wf) {x y : Int32} {off : Int} {tgt : Nat} (hdg : decode cc pc = .ok (.if_icmp .ne off, 3)) (hp : pc + 3 = pc') (ht : (pc : Int) + off = (tgt : Int)) (kt : ¬ x.toInt = y.toInt → G p l e R s m args below meth c D A nL wf cells slots Q u tgt L st) (kf : x.toInt = y.toInt → G p l e R s m args below meth c D A nL wf cells slots Q u pc' L st) : G p l e R s m args below meth c D A nL wf cells slots Q u pc L (.int y :: .int x :: st) := by
  subst hp; exact fun H locs ls hP hS hl => lv_icmp_ne C.1 C.2.1 hdg ht (fun h => kt ((cc_ne x y).mp h) H locs ls hP hS hl) (fun h => kf ((cc_eq x y).mp h) H locs ls hP hS hl)
theorem g_icmp_lt (C : CX p s m args meth c D tys A own cc Ts nL wf) {x y : Int32} {off : Int} {tgt : Nat} (hdg : decode cc pc = .ok (.if_icmp .lt off, 3)) (hp : pc + 3 = pc') (ht : (pc : Int) + off = (tgt : Int)) (kt : x.toInt < y.toInt → G p l e R s m args below meth c D A nL wf cells slots Q u tgt L st) (kf : ¬ (x.toInt < y.toInt) → G p l e R s m args below meth c D A nL wf cells slots Q u pc' L st) : G p l e R s m args below meth c D A nL wf cells slots Q u pc L (.int y :: .int x :: st) := by
  subst hp; exact fun H locs ls hP hS hl => lv_icmp_lt C.1 C.2.1 hdg ht (fun h => kt ((cc_lt x y).mp h) H locs ls hP hS hl) (fun h => kf (fun h9 => h ((cc_lt x y).mpr h9)) H locs ls hP hS hl)
theorem g_icmp_ge (C : CX p s m args meth c D tys A own cc Ts nL wf) {x y : Int32} {off : Int} {tgt : Nat} (hdg : decode cc pc = .ok (.if_icmp .ge off, 3)) (hp : pc + 3 = pc') (ht : (pc : Int) + off = (tgt : Int)) (kt : y.toInt ≤ x.toInt → G p l e R s m args below meth c D A nL wf cells slots Q u tgt L st) (kf : ¬ (y.toInt ≤ x.toInt) → G p l e R s m args below meth c D A nL wf cells slots Q u pc' L st) : G p l e R s m args below meth c D A nL wf cells slots Q u pc L (.int y :: .int x :: st) := by
  subst hp; exact fun H locs ls hP hS hl => lv_icmp_ge C.1 C.2.1 hdg ht (fun h => kt ((cc_ge x y).mp h) H locs ls hP hS hl) (fun h => kf (fun h9 => h ((cc_ge x y).mpr h9)) H locs ls hP hS hl)
theorem g_icmp_gt (C : CX p s m args meth c D tys A own cc Ts nL wf) {x y : Int32} {off : Int} {tgt : Nat} (hdg : decode cc pc = .ok (.if_icmp .gt off, 3)) (hp : pc + 3 = pc') (ht : (pc : Int) + off = (tgt : Int)) (kt : y.toInt < x.toInt → G p l e R s m args below meth c D A nL wf cells slots Q u tgt L st) (kf : ¬ (y.toInt < x.toInt) → G p l e R s m args below meth c D A nL wf cells slots Q u pc' L st) : G p l e R s m args below meth c D A nL wf cells slots Q u pc L (.int y :: .int x :: st) := by
  subst hp; exact fun H locs ls hP hS hl => lv_icmp_gt C.1 C.2.1 hdg ht (fun h => kt ((cc_gt x y).mp h) H locs ls hP hS hl) (fun h => kf (fun h9 => h ((cc_gt x y).mpr h9)) H locs ls hP hS hl)
theorem g_icmp_le (C : CX p s m args meth c D tys A own cc Ts nL wf) {x y : Int32} {off : Int} {tgt : Nat} (hdg : decode cc pc = .ok (.if_icmp .le off, 3)) (hp : pc + 3 = pc') (ht : (pc : Int) + off = (tgt : Int)) (kt : x.toInt ≤ y.toInt → G p l e R s m args below meth c D A nL wf cells slots Q u tgt L st) (kf : ¬ (x.toInt ≤ y.toInt) → G p l e R s m args below meth c D A nL wf cells slots Q u pc' L st) : G p l e R s m args below meth c D A nL wf cells slots Q u pc L (.int y :: .int x :: st) := by
  subst hp; exact fun H locs ls hP hS hl => lv_icmp_le C.1 C.2.1 hdg ht (fun h => kt ((cc_le x y).mp h) H locs ls hP hS hl) (fun h => kf (fun h9 => h ((cc_le x y).mpr h9)) H locs ls hP hS hl)
theorem g_ifP_eq (C : CX p s m args meth c D tys A own cc Ts nL wf) {P : Prop} {off : Int} {tgt : Nat} (hdg : decode cc pc = .ok (.ifCond .eq off, 3)) (hp : pc + 3 = pc') (ht : (pc : Int) + off = (tgt : Int)) (kt : ¬ P → G p l e R s m args below meth c D A nL wf cells slots Q u tgt L st) (kf : P → G p l e R s m args below meth c D A nL wf cells slots Q u pc' L st) : G p l e R s m args below meth c D A nL wf cells slots Q u pc L (.int (bP P) :: st) := by
  subst hp; exact fun H locs ls hP hS hl => lv_if_eq C.1 C.2.1 hdg ht (fun h => kt (bP_0.mp h) H locs ls hP hS hl) (fun h => kf (bP_n0.mp h) H locs ls hP hS hl)
theorem g_ifP_ne (C : CX p s m args meth c D tys A own cc Ts nL wf) {P : Prop} {off : Int} {tgt : Nat} (hdg : decode cc pc = .ok (.ifCond .ne off, 3)) (hp : pc + 3 = pc') (ht : (pc : Int) + off = (tgt : Int)) (kt : P → G p l e R s m args below meth c D A nL wf cells slots Q u tgt L st) (kf : ¬ P → G p l e R s m args below meth c D A nL wf cells slots Q u pc' L st) : G p l e R s m args below meth c D A nL wf cells slots Q u pc L (.int (bP P) :: st) := by
  subst hp; exact fun H locs ls hP hS hl => lv_if_ne C.1 C.2.1 hdg ht (fun h => kt (bP_n0.mp h) H locs ls hP hS hl) (fun h => kf (bP_0.mp h) H locs ls hP hS hl)
theorem g_get (C : CX p s m args meth c D tys A own cc Ts nL wf) {ref Cn : String} {T : u_T} {N ci index : Nat} (hF : ∀ w ∈ u_ws Cn T N, w.before args s = true) (q0 : Nat) {b : Nat} {fs : List Value} (he : (wf u)[q0]? = some (b, .inr (ci, fs))) (hc : vwCl[ci]? = some (Cn, T, N)) (k : Nat) (hk : k < N) (hlink : Cond.fieldLink own index ref (T k).2.1 (T k).2.2.1 ∈ Ts) (hsame : (T k).1 = ref) {v : Value} (hv : fs[k]? = some v) (hdg : decode cc pc = .ok (.getfield index, 3)) (hp : pc + 3 = pc')
    (kk : G p l e R s m args below meth c D A nL wf cells slots Q u pc' L (v :: st)) : G p l e R s m args below meth c D A nL wf cells slots Q u pc L (.ref b :: st) := by
  subst hp; subst hsame
  exact fun H locs ls hP hS hl => va_get C.1 C.2.1 (Ts := u_ws Cn T N) hF (fun _ h => h) C.2.2.2.1 C.2.2.2.2.2.1 hP q0 he hc k hk (C.2.2.2.2.1 _ hlink) (fun _ h => h) hv hdg (kk H locs ls hP hS hl)
theorem g_putI (C : CX p s m args meth c D tys A own cc Ts nL wf) {ref Cn : String} {T : u_T} {N ci index : Nat} (hF : ∀ w ∈ u_ws Cn T N, w.before args s = true) (ty0 : Nat → FieldType) (hty : ∀ k, k < N → parseFieldDescriptor (T k).2.2.1 = some (ty0 k)) (hnm : ∀ a, a < N → ∀ b, b < N → a ≠ b → (T a).2.1 ≠ (T b).2.1) (q0 : Nat) {b : Nat} {fs : List Value} (he : (wf u)[q0]? = some (b, .inr (ci, fs))) (hc : vwCl[ci]? = some (Cn, T, N)) (k : Nat) (hk : k < N) (hlink : Cond.fieldLink own index ref (T k).2.1 (T k).2.2.1 ∈ Ts) (hsame : (T k).1 = ref) (hfin : (T k).2.2.2 = false) (hd : parseFieldDescriptor (T k).2.2.1 = some .int) {x : Int32} (hl0 : k < fs.length) (hdg : decode cc pc = .ok (.putfield index, 3)) (hp : pc + 3 = pc') {u' : S} (hset : (wf u).set q0 (b, .inr (ci, fs.set k (.int x))) = wf u')
    (kk : G p l e R s m args below meth c D A nL wf cells slots Q u' pc' L st) : G p l e R s m args below meth c D A nL wf cells slots Q u pc L (.int x :: .ref b :: st) := by
  subst hp; subst hsame
  exact fun H locs ls hP hS hl => va_put C.1 C.2.1 (Ts := u_ws Cn T N) hF (fun _ h => h) ty0 hty hnm C.2.2.2.1 C.2.2.2.2.2.1 hP (C.2.2.2.2.2.2.2.1 u) hS q0 he hc k hk (C.2.2.2.2.1 _ hlink) (fun _ h => h) hfin hd rfl rfl hl0 hdg (fun H1 locs1 hP1 _ hS1 => kk H1 locs1 ls (hset ▸ hP1) hS1 hl)
theorem g_iald (C : CX p s m args meth c D tys A own cc Ts nL wf) (q0 t0 : Nat) {b n : Nat} {cA : ClassId} {f : Nat → Int32} (he : (wf u)[q0]? = some (b, .inl (cA, n, .inl f))) (ht : tys[t0]? = some (cA, .int)) {i : Int32} {k : Nat} (hin : vp_in i n) (hk : i.toNatClampNeg = k) (hdg : decode cc pc = .ok (.iaload, 1)) (hp : pc + 1 = pc')
    (kk : G p l e R s m args below meth c D A nL wf cells slots Q u pc' L (.int (f k) :: st)) : G p l e R s m args below meth c D A nL wf cells slots Q u pc L (.int i :: .ref b :: st) := by
  subst hp; subst hk; exact fun H locs ls hP hS hl => va_iald C.1 C.2.1 C.2.2.2.2.2.1 hP q0 t0 he ht hin hdg (kk H locs ls hP hS hl)
theorem g_zald (C : CX p s m args meth c D tys A own cc Ts nL wf) (q0 t0 : Nat) {b n : Nat} {cA : ClassId} {f : Nat → Int32} (he : (wf u)[q0]? = some (b, .inl (cA, n, .inl f))) (ht : tys[t0]? = some (cA, .boolean)) {i : Int32} {k : Nat} (hin : vp_in i n) (hk : i.toNatClampNeg = k) (hdg : decode cc pc = .ok (.baload, 1)) (hp : pc + 1 = pc')
    (kk : G p l e R s m args below meth c D A nL wf cells slots Q u pc' L (.int (f k) :: st)) : G p l e R s m args below meth c D A nL wf cells slots Q u pc L (.int i :: .ref b :: st) := by
  subst hp; subst hk; exact fun H locs ls hP hS hl => va_zald C.1 C.2.1 C.2.2.2.2.2.1 hP q0 t0 he ht hin hdg (kk H locs ls hP hS hl)
theorem g_iast (C : CX p s m args meth c D tys A own cc Ts nL wf) (q0 t0 : Nat) {b n : Nat} {cA : ClassId} {f : Nat → Int32} (he : (wf u)[q0]? = some (b, .inl (cA, n, .inl f))) (ht : tys[t0]? = some (cA, .int)) {i x : Int32} {k : Nat} (hin : vp_in i n) (hk : i.toNatClampNeg = k) (hdg : decode cc pc = .ok (.iastore, 1)) (hp : pc + 1 = pc') {u' : S} (hset : (wf u).set q0 (b, .inl (cA, n, .inl (upd f k x))) = wf u')
    (kk : G p l e R s m args below meth c D A nL wf cells slots Q u' pc' L st) : G p l e R s m args below meth c D A nL wf cells slots Q u pc L (.int x :: .int i :: .ref b :: st) := by
  subst hp; subst hk; exact fun H locs ls hP hS hl => va_iast C.1 C.2.1 C.2.2.2.2.2.1 hP (C.2.2.2.2.2.2.2.1 u) hS q0 t0 he ht hin hdg (fun H1 locs1 hP1 _ hS1 => kk H1 locs1 ls (hset ▸ hP1) hS1 hl)
theorem g_zast (C : CX p s m args meth c D tys A own cc Ts nL wf) (q0 t0 : Nat) {b n : Nat} {cA : ClassId} {f : Nat → Int32} (he : (wf u)[q0]? = some (b, .inl (cA, n, .inl f))) (ht : tys[t0]? = some (cA, .boolean)) {i x : Int32} (hx : vp_nar .boolean x = x) {k : Nat} (hin : vp_in i n) (hk : i.toNatClampNeg = k) (hdg : decode cc pc = .ok (.bastore, 1)) (hp : pc + 1 = pc') {u' : S} (hset : (wf u).set q0 (b, .inl (cA, n, .inl (upd f k x))) = wf u')
    (kk : G p l e R s m args below meth c D A nL wf cells slots Q u' pc' L st) : G p l e R s m args below meth c D A nL wf cells slots Q u pc L (.int x :: .int i :: .ref b :: st) := by
  subst hp; subst hk; exact fun H locs ls hP hS hl => va_zast C.1 C.2.1 C.2.2.2.2.2.1 hP (C.2.2.2.2.2.2.2.1 u) hS q0 t0 he ht hin hdg (fun H1 locs1 hP1 _ hS1 => kk H1 locs1 ls (hset ▸ (hx ▸ hP1)) hS1 hl)
theorem g_aald (C : CX p s m args meth c D tys A own cc Ts nL wf) (q0 t0 : Nat) {b n : Nat} {cA : ClassId} {ty : FieldType} {f : Nat → Option Nat} (he : (wf u)[q0]? = some (b, .inl (cA, n, .inr (.inr (.inr (.inr f)))))) (ht : tys[t0]? = some (cA, .array ty)) {i : Int32} {x : Nat} (hin : vp_in i n) (hf : f i.toNatClampNeg = some x) (hdg : decode cc pc = .ok (.aaload, 1)) (hp : pc + 1 = pc')
    (kk : G p l e R s m args below meth c D A nL wf cells slots Q u pc' L (.ref x :: st)) : G p l e R s m args below meth c D A nL wf cells slots Q u pc L (.int i :: .ref b :: st) := by
  subst hp
  intro H locs ls hP hS hl
  have hlt : i.toNatClampNeg < n := Nat.not_le.mp fun q => hin (Or.inr q)
  refine W.aald (v := va_rf (f i.toNatClampNeg)) (ty := .array ty) C.1 C.2.1 (hP q0 _ he) ((C.2.2.2.2.2.1.2 t0 _ ht).1 n (fun j => va_rf (f j))) rfl (fun q => by cases q) (by show ¬ (i < 0 ∨ (arrV _ _ _).slots.size ≤ _); rw [arrV_size]; exact hin) (by show (arrV _ _ _).slots[_]? = _; rw [arrV_read _ _ hlt]) rfl rfl hdg ?_
  rw [hf]
  exact kk H locs ls hP hS hl
end GR
/-- the words of a throw that a call doesn't keep by itself -/
def dl0 : List MethodName := [Bundle.initS "java/lang/RuntimeException", Bundle.initS "java/lang/Exception", Bundle.initS Bundle.tN]
def cl0 : List String := ["java/lang/IndexOutOfBoundsException", "java/lang/IllegalArgumentException", "java/lang/IllegalStateException"]
def nc0 : List (String × String) := [("java/lang/IllegalArgumentException", "java/lang/IndexOutOfBoundsException"), ("java/lang/IllegalStateException", "java/lang/IndexOutOfBoundsException"), ("java/lang/IllegalStateException", "java/lang/IllegalArgumentException")]
def bw0 : List Cond := dl0.map Cond.declares ++ cl0.map (fun C => Cond.castable C C)
/-- the statics and texts that a throw of the class uses -/
def EV (A : Nat → Prop) (U : State) (H : Heap) (tx : List (Nat × String)) : Prop := vx_Zq Bundle.tN "UNASSIGNED_STACK" Bundle.steD A U H ∧ vx_Zq Bundle.tN "SUPPRESSED_SENTINEL" Bundle.listD A U H ∧ (∀ q ∈ tx, ∃ sa, vk_R RX0 q.1 q.2 sa U) ∧ (∀ y ∈ dl0, va_Nw (.declares y) U) ∧ (∀ C ∈ cl0, va_Nw (.castable C C) U) ∧ ∀ q ∈ nc0, va_Nc q.1 q.2 U
theorem EV.warm {A : Nat → Prop} {s U : State} {H : Heap} {tx : List (Nat × String)} (hW : s.WarmedH U.vm) (h : EV A s H tx) : EV A U H tx :=
  ⟨h.1.moved hW.alike, h.2.1.moved hW.alike, fun q hq => by obtain ⟨sa, h1⟩ := h.2.2.1 q hq; exact ⟨sa, vk_R.warm hW h1⟩, fun y hy => va_Nw.warmD hW (h.2.2.2.1 y hy), fun C hC => va_tabs rfl (rfl : (s.setVm U.vm).vm = U.vm) (by rw [Cond.castable_setVm hW.alike]; exact h.2.2.2.2.1 C hC), fun q hq => va_Nc.moved hW.alike (h.2.2.2.2.2 q hq)⟩
theorem EV.same {A : Nat → Prop} {s U : State} {H : Heap} {tx : List (Nat × String)} (hv : U.vm = s.vm) (h : EV A s H tx) : EV A U H tx :=
  ⟨h.1.moved (by rw [hv]; exact Vm.Alike.refl _), h.2.1.moved (by rw [hv]; exact Vm.Alike.refl _), fun q hq => by obtain ⟨sa, h1⟩ := h.2.2.1 q hq; exact ⟨sa, vk_R.same hv h1⟩, fun y hy => va_Nw.same rfl hv.symm (h.2.2.2.1 y hy), fun C hC => va_Nw.same rfl hv.symm (h.2.2.2.2.1 C hC), fun q hq => va_Nc.moved (by rw [hv]; exact Vm.Alike.refl _) (h.2.2.2.2.2 q hq)⟩
theorem EV.kept {A : Nat → Prop} {U : State} {H H1 : Heap} {tx : List (Nat × String)} (h : EV A U H tx) (hq : ∀ a : Nat, a < H.size → ¬ A a → H1[a]? = H[a]?) : EV A U H1 tx := ⟨h.1.kept hq, h.2.1.kept hq, h.2.2⟩
theorem EV.narrow {A B : Nat → Prop} {U : State} {H : Heap} {tx : List (Nat × String)} (h : EV A U H tx) (hAB : ∀ q, B q → A q) : EV B U H tx := ⟨h.1.narrow hAB, h.2.1.narrow hAB, h.2.2⟩
theorem EV.bw {A : Nat → Prop} {U : State} {H : Heap} {tx : List (Nat × String)} {args : Array Value} (h : EV A U H tx) : ∀ w ∈ bw0, w.before args U = true := fun w hw => by
  rcases List.mem_append.mp hw with h1 | h1
  · obtain ⟨y, hy, rfl⟩ := List.mem_map.mp h1
    exact va_Nw.use rfl (h.2.2.2.1 y hy)
  · obtain ⟨C, hC, rfl⟩ := List.mem_map.mp h1
    exact va_Nw.use rfl (h.2.2.2.2.1 C hC)
/-- a contract's start and end -/
def KB {S : Type} (D : va_G) (tys : List (ClassId × FieldType)) (wf : S → va_W) (u : S) (sz : Nat) : State → Prop := fun U => U.heap.size = sz ∧ va_P D vwCl (wf u) U.heap ∧ va_K D vwCl tys U ∧ va_D (fun _ => True) (wf u)
def KE {S : Type} (D : va_G) (tys : List (ClassId × FieldType)) (wf : S → va_W) (u : S) (t : State) : Prop := va_P D vwCl (wf u) t.heap ∧ va_K D vwCl tys t
def KI {S : Type} (l : Launch) (y : MethodName) (ws : List Cond) (rm : Room) (D : va_G) (tys : List (ClassId × FieldType)) (wf : S → va_W) (As : List Value) (u : S) (post : Int32 → S → Prop) : Prop :=
  ∀ sz, Met l y ws rm (va_Pc As (KB D tys wf u sz)) (va_Qi post (KE D tys wf) (va_A (wf u) sz)) rm.cells rm.slots (va_A (wf u) sz)
def KV {S : Type} (l : Launch) (y : MethodName) (ws : List Cond) (rm : Room) (D : va_G) (tys : List (ClassId × FieldType)) (wf : S → va_W) (As : List Value) (u : S) (post : S → Prop) : Prop :=
  ∀ sz, Met l y ws rm (va_Pc As (KB D tys wf u sz)) (va_Qv post (KE D tys wf) (va_A (wf u) sz)) rm.cells rm.slots (va_A (wf u) sz)
def KX {S : Type} (D : va_G) (tys : List (ClassId × FieldType)) (wf : S → va_W) (u : S) (xp : String → Prop) (A : Nat → Prop) : String → State → State → Prop := vx_X (fun u' : S => u' = u) (fun E u' t => xp E ∧ KE D tys wf u' t) A
def XI {S : Type} (l : Launch) (y : MethodName) (ws : List Cond) (rm : Room) (D : va_G) (tys : List (ClassId × FieldType)) (tx : List (Nat × String)) (wf : S → va_W) (As : List Value) (u : S) (post : Int32 → S → Prop) (xp : String → Prop) : Prop :=
  ∀ sz, vx_Met l y ws rm (va_Pc As (fun U => KB D tys wf u sz U ∧ EV (va_A (wf u) sz) U U.heap tx)) (va_Qi post (KE D tys wf) (va_A (wf u) sz)) (KX D tys wf u xp (va_A (wf u) sz)) rm.cells rm.slots (va_A (wf u) sz)
def XV {S : Type} (l : Launch) (y : MethodName) (ws : List Cond) (rm : Room) (D : va_G) (tys : List (ClassId × FieldType)) (tx : List (Nat × String)) (wf : S → va_W) (As : List Value) (u : S) (post : S → Prop) (xp : String → Prop) : Prop :=
  ∀ sz, vx_Met l y ws rm (va_Pc As (fun U => KB D tys wf u sz U ∧ EV (va_A (wf u) sz) U U.heap tx)) (va_Qv post (KE D tys wf) (va_A (wf u) sz)) (KX D tys wf u xp (va_A (wf u) sz)) rm.cells rm.slots (va_A (wf u) sz)
theorem KB.blind {S : Type} {D : va_G} {tys : List (ClassId × FieldType)} {wf : S → va_W} {u : S} {sz : Nat} {As : List Value} : FrameBlind (va_Pc As (KB D tys wf u sz)) := fun a U g mk q => by
  obtain ⟨q0, q1, q2, q3, q4⟩ := q
  exact ⟨q0, q1, q2, va_K.moved (u := U) (U := U.calling g mk a) (Vm.Alike.refl U.vm) q3, q4⟩
theorem KB.blindX {S : Type} {D : va_G} {tys : List (ClassId × FieldType)} {tx : List (Nat × String)} {wf : S → va_W} {u : S} {sz : Nat} {As : List Value} {A : Nat → Prop} : FrameBlind (va_Pc As (fun U => KB D tys wf u sz U ∧ EV A U U.heap tx)) := fun a U g mk q => by
  obtain ⟨q0, ⟨q1, q2, q3, q4⟩, q5⟩ := q
  exact ⟨q0, ⟨q1, q2, va_K.moved (u := U) (U := U.calling g mk a) (Vm.Alike.refl U.vm) q3, q4⟩, EV.same (s := U) (U := U.calling g mk a) rfl q5⟩
section GC
variable {S : Type} {p : Program} {l : Launch} {e : Env} {R : Room} {s : State} {m : MethodId} {args : Array Value} {below : List Frame} {meth : Method} {c : Code} {D : va_G} {tys : List (ClassId × FieldType)} {A : Nat → Prop} {own : String} {cc : ByteArray} {Ts : List Cond} {nL : Nat} {wf : S → va_W} {cells slots cells' slots' : Nat} {Q : State → Prop} {u : S} {pc pc' : Nat} {L : List (Nat × Value)} {st st0 As : List Value} {tx : List (Nat × String)}
variable {y : MethodName} {ws ws' : List Cond} {rm : Room} {index maxL n b : Nat} {bytes : ByteArray} {ret : Option FieldType} {Cn : String} {posti : Int32 → S → Prop} {postv : S → Prop} {xp : String → Prop}
theorem cx_A (C : CX p s m args meth c D tys A own cc Ts nL wf) {H : Heap} {locs : List Loc} (hS : va_S A s.heap H locs) : ∀ q, va_A (wf u) H.size q → A q := by
  intro q h
  rcases h with ⟨k, e, h⟩ | h
  · exact (C.2.2.2.2.2.2.2.1 u).2 k _ h
  · exact C.2.2.2.2.2.2.1 q (Nat.le_trans hS.1 h)
theorem cx_EV (C : CX p s m args meth c D tys A own cc Ts nL wf) (hE : EV A s s.heap tx) {H : Heap} {locs : List Loc} (hS : va_S A s.heap H locs) {U : State} (hU : U.heap = H) (hW : s.WarmedH U.vm) : EV (va_A (wf u) H.size) U U.heap tx := by
  rw [hU]
  exact EV.warm hW ((hE.kept (fun a h1 h2 => hS.2.1 a h1 h2)).narrow (cx_A C hS))
theorem cx_fix (C : CX p s m args meth c D tys A own cc Ts nL wf) : CallFix p m c cc nL s args Ts own := ⟨C.1, C.2.1, C.2.2.1, C.2.2.2.1, C.2.2.2.2.1⟩
theorem cx_KB (C : CX p s m args meth c D tys A own cc Ts nL wf) {H : Heap} (hP : va_P D vwCl (wf u) H) {U : State} (hU : U.heap = H) (hW : s.WarmedH U.vm) : KB D tys wf u H.size U :=
  ⟨by rw [hU], by rw [hU]; exact hP, va_K.moved hW.alike C.2.2.2.2.2.1, (C.2.2.2.2.2.2.2.1 u).weaken (fun _ _ _ _ => trivial)⟩
theorem g_calliV (C : CX p s m args meth c D tys A own cc Ts nL wf) (hM : KI l y ws rm D tys wf (.ref b :: As) u posti) (gd : GoodIn Ts (wsV own index Cn y ws)) (hw : ws = Cond.code y bytes maxL ret :: ws') (hd : y.cls = Cn ∧ y.cls ≠ "java/lang/invoke/MethodHandle" ∧ y.cls ≠ "java/lang/invoke/VarHandle" ∧ (parseMethodDescriptor y.desc).map (fun d => d.parameters.length) = some n) (hR : rm.frames + 1 ≤ R.frames ∧ 8 + (maxL + 11) + rm.locals ≤ R.locals)
    (q0 : Nat) {ci N : Nat} {T : u_T} {fs : List Value} (he : (wf u)[q0]? = some (b, .inr (ci, fs))) (hc : vwCl[ci]? = some (Cn, T, N)) (hn : As.length = n) (hst : st0 = As.reverse ++ .ref b :: st) (hW : (st.map fun v => v.category).sum ≤ 8) (hdg : decode cc pc = .ok (.invokevirtual index, 3)) (hp : pc + 3 = pc') (hcl : cells + rm.cells = cells') (hsl : slots + rm.slots = slots') (hf : cells' ≤ R.cells ∧ slots' ≤ R.slots)
    (kk : ∀ (r : Int32) (u' : S), posti r u' → G p l e R s m args below meth c D A nL wf cells' slots' Q u' pc' L (.int r :: st)) : G p l e R s m args below meth c D A nL wf cells slots Q u pc L st0 := by
  subst hp; subst hcl; subst hsl
  intro H locs ls hP hS hl
  refine va_calli (va_runV (As := As) (rest := st) (cx_fix C) (hM H.size) (cwV n C.2.2.2.2.1 gd hw rfl rfl hd hR) ⟨KB.blind, va_recv C.2.2.2.2.2.1 hP hc he, fun U hU hW => ⟨rfl, cx_KB C hP hU hW⟩⟩ rfl hn hl.1 hst (lv_room hW) hdg hf) hS (fun q _ h => cx_A C hS q h) (cx_A C hS) (fun r u' t H1 locs1 ht hvm hw9 hB hz hk hS1 => ?_)
  exact kk r u' hw9 H1 locs1 ls (ht ▸ hB.1) hS1 hl
theorem g_callvV (C : CX p s m args meth c D tys A own cc Ts nL wf) (hM : KV l y ws rm D tys wf (.ref b :: As) u postv) (gd : GoodIn Ts (wsV own index Cn y ws)) (hw : ws = Cond.code y bytes maxL ret :: ws') (hd : y.cls = Cn ∧ y.cls ≠ "java/lang/invoke/MethodHandle" ∧ y.cls ≠ "java/lang/invoke/VarHandle" ∧ (parseMethodDescriptor y.desc).map (fun d => d.parameters.length) = some n) (hR : rm.frames + 1 ≤ R.frames ∧ 8 + (maxL + 11) + rm.locals ≤ R.locals)
    (q0 : Nat) {ci N : Nat} {T : u_T} {fs : List Value} (he : (wf u)[q0]? = some (b, .inr (ci, fs))) (hc : vwCl[ci]? = some (Cn, T, N)) (hn : As.length = n) (hst : st0 = As.reverse ++ .ref b :: st) (hW : (st.map fun v => v.category).sum ≤ 8) (hdg : decode cc pc = .ok (.invokevirtual index, 3)) (hp : pc + 3 = pc') (hcl : cells + rm.cells = cells') (hsl : slots + rm.slots = slots') (hf : cells' ≤ R.cells ∧ slots' ≤ R.slots)
    (kk : ∀ (u' : S), postv u' → G p l e R s m args below meth c D A nL wf cells' slots' Q u' pc' L st) : G p l e R s m args below meth c D A nL wf cells slots Q u pc L st0 := by
  subst hp; subst hcl; subst hsl
  intro H locs ls hP hS hl
  refine va_callv (va_runV (As := As) (rest := st) (cx_fix C) (hM H.size) (cwV n C.2.2.2.2.1 gd hw rfl rfl hd hR) ⟨KB.blind, va_recv C.2.2.2.2.2.1 hP hc he, fun U hU hW => ⟨rfl, cx_KB C hP hU hW⟩⟩ rfl hn hl.1 hst (lv_room hW) hdg hf) hS (fun q _ h => cx_A C hS q h) (cx_A C hS) (fun u' t H1 locs1 ht hvm hw9 hB hz hk hS1 => ?_)
  exact kk u' hw9 H1 locs1 ls (ht ▸ hB.1) hS1 hl
theorem g_calliS (C : CX p s m args meth c D tys A own cc Ts nL wf) (hM : KI l y ws rm D tys wf As u posti) (gd : GoodIn Ts (va_wsS own index y ws)) (hw : ws = Cond.code y bytes maxL ret :: ws') (hd : y.cls ≠ "java/lang/invoke/MethodHandle" ∧ y.cls ≠ "java/lang/invoke/VarHandle" ∧ (parseMethodDescriptor y.desc).map (fun d => d.parameters.length) = some n) (hR : rm.frames + 1 ≤ R.frames ∧ 8 + (maxL + 11) + rm.locals ≤ R.locals)
    (hn : As.length = n) (hst : st0 = As.reverse ++ st) (hW : (st.map fun v => v.category).sum ≤ 8) (hdg : decode cc pc = .ok (.invokestatic index, 3)) (hp : pc + 3 = pc') (hcl : cells + rm.cells = cells') (hsl : slots + rm.slots = slots') (hf : cells' ≤ R.cells ∧ slots' ≤ R.slots)
    (kk : ∀ (r : Int32) (u' : S), posti r u' → G p l e R s m args below meth c D A nL wf cells' slots' Q u' pc' L (.int r :: st)) : G p l e R s m args below meth c D A nL wf cells slots Q u pc L st0 := by
  subst hp; subst hcl; subst hsl
  intro H locs ls hP hS hl
  refine va_calli (va_runS (As := As) (rest := st) (cx_fix C) (hM H.size) (va_cwS n C.2.2.2.2.1 gd hw rfl rfl hd hR) ⟨KB.blind, fun U hU hW => ⟨rfl, cx_KB C hP hU hW⟩⟩ rfl hn hl.1 hst (lv_room hW) hdg hf) hS (fun q _ h => cx_A C hS q h) (cx_A C hS) (fun r u' t H1 locs1 ht hvm hw9 hB hz hk hS1 => ?_)
  exact kk r u' hw9 H1 locs1 ls (ht ▸ hB.1) hS1 hl
theorem g_cxvV {Qc : Array Value → State → Outcome → State → Prop} {xp0 : String → Prop} {mc ms : Nat} (C : CX p s m args meth c D tys A own cc Ts nL wf) (hE : EV A s s.heap tx) (ht : ∀ x ∈ c.exceptionTable.toList, False) (hM : XV l y ws rm D tys tx wf (.ref b :: As) u postv xp) (gd : GoodIn Ts (wsV own index Cn y ws)) (hw : ws = Cond.code y bytes maxL ret :: ws') (hd : y.cls = Cn ∧ y.cls ≠ "java/lang/invoke/MethodHandle" ∧ y.cls ≠ "java/lang/invoke/VarHandle" ∧ (parseMethodDescriptor y.desc).map (fun d => d.parameters.length) = some n) (hR : rm.frames + 1 ≤ R.frames ∧ 8 + (maxL + 11) + rm.locals ≤ R.locals)
    (q0 : Nat) {ci N : Nat} {T : u_T} {fs : List Value} (he : (wf u)[q0]? = some (b, .inr (ci, fs))) (hc : vwCl[ci]? = some (Cn, T, N)) (hn : As.length = n) (hst : st0 = As.reverse ++ .ref b :: st) (hW : (st.map fun v => v.category).sum ≤ 8) (hdg : decode cc pc = .ok (.invokevirtual index, 3)) (hp : pc + 3 = pc') (hcl : cells + rm.cells = cells') (hsl : slots + rm.slots = slots') (hf : cells' ≤ R.cells ∧ slots' ≤ R.slots)
    (hxp : ∀ E, xp E → xp0 E) (hmc : cells' ≤ mc) (hms : slots' ≤ ms)
    (kk : ∀ (u' : S), postv u' → G p l e R s m args below meth c D A nL wf cells' slots' (vx_MQ below Qc (KX D tys wf u xp0 A) args s mc ms A) u' pc' L st) : G p l e R s m args below meth c D A nL wf cells slots (vx_MQ below Qc (KX D tys wf u xp0 A) args s mc ms A) u pc L st0 := by
  subst hp; subst hcl; subst hsl
  intro H locs ls hP hS hl
  refine vx_callv (vx_runV (As := As) (rest := st) (cx_fix C) (hM H.size) (cwV n C.2.2.2.2.1 gd hw rfl rfl hd hR) ⟨KB.blindX, va_recv C.2.2.2.2.2.1 hP hc he, fun U hU hW => ⟨rfl, cx_KB C hP hU hW, cx_EV C hE hS hU hW⟩⟩ rfl hn hl.1 hst (lv_room hW) hdg hf) hS (fun q _ h => cx_A C hS q h) (cx_A C hS) (fun q _ h => cx_A C hS q h) (fun E ce q9 u' t H1 locs1 ht9 hvm hpx hBX hz hk hS1 hcell hcv hcl => ?_) (fun u' t H1 locs1 ht9 hvm hw9 hB hz hk hS1 => ?_)
  · refine vx_out (fun x hx => (ht x hx).elim) C.2.2.2.2.2.2.2.2 hcell hcv hcl (fun t2 ht2 hvm2 => ⟨u', hpx, ⟨hxp E hBX.1, by rw [ht2, ← ht9]; exact hBX.2.1, va_K.moved hvm2 C.2.2.2.2.2.1⟩, hS1.F ht2⟩) hS1.2.2 hmc hms
  · exact kk u' hw9 H1 locs1 ls (ht9 ▸ hB.1) hS1 hl
theorem g_cxvS {Qc : Array Value → State → Outcome → State → Prop} {xp0 : String → Prop} {mc ms : Nat} (C : CX p s m args meth c D tys A own cc Ts nL wf) (hE : EV A s s.heap tx) (ht : ∀ x ∈ c.exceptionTable.toList, False) (hM : XV l y ws rm D tys tx wf As u postv xp) (gd : GoodIn Ts (va_wsS own index y ws)) (hw : ws = Cond.code y bytes maxL ret :: ws') (hd : y.cls ≠ "java/lang/invoke/MethodHandle" ∧ y.cls ≠ "java/lang/invoke/VarHandle" ∧ (parseMethodDescriptor y.desc).map (fun d => d.parameters.length) = some n) (hR : rm.frames + 1 ≤ R.frames ∧ 8 + (maxL + 11) + rm.locals ≤ R.locals)
    (hn : As.length = n) (hst : st0 = As.reverse ++ st) (hW : (st.map fun v => v.category).sum ≤ 8) (hdg : decode cc pc = .ok (.invokestatic index, 3)) (hp : pc + 3 = pc') (hcl : cells + rm.cells = cells') (hsl : slots + rm.slots = slots') (hf : cells' ≤ R.cells ∧ slots' ≤ R.slots)
    (hxp : ∀ E, xp E → xp0 E) (hmc : cells' ≤ mc) (hms : slots' ≤ ms)
    (kk : ∀ (u' : S), postv u' → G p l e R s m args below meth c D A nL wf cells' slots' (vx_MQ below Qc (KX D tys wf u xp0 A) args s mc ms A) u' pc' L st) : G p l e R s m args below meth c D A nL wf cells slots (vx_MQ below Qc (KX D tys wf u xp0 A) args s mc ms A) u pc L st0 := by
  subst hp; subst hcl; subst hsl
  intro H locs ls hP hS hl
  refine vx_callv (vx_runS (As := As) (rest := st) (cx_fix C) (hM H.size) (va_cwS n C.2.2.2.2.1 gd hw rfl rfl hd hR) ⟨KB.blindX, fun U hU hW => ⟨rfl, cx_KB C hP hU hW, cx_EV C hE hS hU hW⟩⟩ rfl hn hl.1 hst (lv_room hW) hdg hf) hS (fun q _ h => cx_A C hS q h) (cx_A C hS) (fun q _ h => cx_A C hS q h) (fun E ce q9 u' t H1 locs1 ht9 hvm hpx hBX hz hk hS1 hcell hcv hcl => ?_) (fun u' t H1 locs1 ht9 hvm hw9 hB hz hk hS1 => ?_)
  · refine vx_out (fun x hx => (ht x hx).elim) C.2.2.2.2.2.2.2.2 hcell hcv hcl (fun t2 ht2 hvm2 => ⟨u', hpx, ⟨hxp E hBX.1, by rw [ht2, ← ht9]; exact hBX.2.1, va_K.moved hvm2 C.2.2.2.2.2.1⟩, hS1.F ht2⟩) hS1.2.2 hmc hms
  · exact kk u' hw9 H1 locs1 ls (ht9 ▸ hB.1) hS1 hl
theorem g_throw {Qc : Array Value → State → Outcome → State → Prop} {xp0 : String → Prop} {mc ms : Nat} (C : CX p s m args meth c D tys A RX0 cc Ts nL wf) (hl : l.stackTraces = false) (hE : EV A s s.heap tx) (ht : ∀ x ∈ c.exceptionTable.toList, False) {cls text : String} {names : List String} {ik is ic : Nat} (hcls : Bundle.fit cls = true) (hnames : ∀ n ∈ names, Bundle.fit n = true)
    (hk : Cond.classLink RX0 ik cls ∈ Ts) (hini : Cond.initialized cls ∈ Ts) (htx : (is, text) ∈ tx) (hat : ∀ w ∈ (vx_atS RX0 ic cls names).filter goodWord, w ∈ Ts) (hat2 : ∀ w ∈ (vx_atS RX0 ic cls names).filter (fun w => !goodWord w), w ∈ bw0) (hgood : ∀ w ∈ Cond.classLink RX0 ik cls :: Cond.initialized cls :: vx_atS RX0 ic cls names, vx_ot w = true)
    (d0 : decode cc pc = .ok (.new ik, 3)) (d3 : decode cc (pc + 3) = .ok (.dup, 1)) (d4 : decode cc (pc + 4) = .ok (.ldc is, 2)) (d6 : decode cc (pc + 6) = .ok (.invokespecial ic, 3)) (d9 : decode cc (pc + 9) = .ok (.athrow, 1))
    (hRf : names.length + 3 < R.frames) (hRl : (st.map fun v => v.category).sum + (13 * (names.length + 1) + 43) ≤ R.locals) (hRc : cells + 1 ≤ R.cells) (hRs : slots + 6 ≤ R.slots) (hxp : xp0 cls) (hmc : cells + 1 ≤ mc) (hms : slots + 6 ≤ ms) :
    G p l e R s m args below meth c D A nL wf cells slots (vx_MQ below Qc (KX D tys wf u xp0 A) args s mc ms A) u pc L st := by
  intro H locs ls hP hS hls
  obtain ⟨sa, hstr⟩ := hE.2.2.1 _ htx
  exact vx_throwS C.1 C.2.1 hl C.2.2.2.1 hcls hnames (C.2.2.2.2.1 _ hk) (C.2.2.2.2.1 _ hini) hstr (vx_hat (fun w h => C.2.2.2.2.1 _ (hat w h)) hat2 hE.bw) hgood hE.1 hE.2.1 hS (hls.1.trans C.2.2.1.symm) d0 d3 d4 d6 d9 (fun x hx => (ht x hx).elim) hRf hRl hRc hRs C.2.2.2.2.2.2.2.2
    (fun t hvm hz hkp => ⟨u, rfl, ⟨hxp, hP.kept (fun k q hq => hkp q.1 ((hP k q hq).lt)), va_K.moved hvm C.2.2.2.2.2.1⟩, ⟨Nat.le_trans hS.1 hz, fun q h1 h2 => (hkp q (Nat.lt_of_lt_of_le h1 hS.1)).trans (hS.2.1 q h1 h2)⟩⟩) hS.2.2 hmc hms
theorem g_iret {ty : FieldType} {r : Int32} (C : CX p s m args meth c D tys A own cc Ts nL wf) (hr : meth.sig.returnType = some ty) (hn : narrow ty (.int r) = .int r) (hpost : posti r u) (hdg : decode cc pc = .ok (.ireturn, 1)) : G p l e R s m args below meth c D A nL wf cells slots (MQ below (va_Qi posti (KE D tys wf) A) args s cells slots A) u pc L [.int r] := by
  intro H locs ls hP hS hl
  exact W.zret C.1 C.2.1 hr hn (fun t ht hW => ⟨⟨r, u, rfl, hpost, by rw [ht]; exact hP, va_K.moved hW.alike C.2.2.2.2.2.1⟩, hS.F ht⟩) hS.2.2 hdg C.2.2.2.2.2.2.2.2
theorem g_vret (C : CX p s m args meth c D tys A own cc Ts nL wf) (hr : meth.sig.returnType = none) (hpost : postv u) (hdg : decode cc pc = .ok (.return_, 1)) : G p l e R s m args below meth c D A nL wf cells slots (MQ below (va_Qv postv (KE D tys wf) A) args s cells slots A) u pc L [] := by
  intro H locs ls hP hS hl
  exact W.vret C.1 C.2.1 hr (fun t ht hW => ⟨⟨u, rfl, hpost, by rw [ht]; exact hP, va_K.moved hW.alike C.2.2.2.2.2.1⟩, hS.F ht⟩) hS.2.2 hdg C.2.2.2.2.2.2.2.2
theorem g_xiret {XC : String → State → State → Prop} {mc ms : Nat} {ty : FieldType} {r : Int32} (C : CX p s m args meth c D tys A own cc Ts nL wf) (hr : meth.sig.returnType = some ty) (hn : narrow ty (.int r) = .int r) (hpost : posti r u) (hdg : decode cc pc = .ok (.ireturn, 1)) (h1 : cells ≤ mc) (h2 : slots ≤ ms) : G p l e R s m args below meth c D A nL wf cells slots (vx_MQ below (va_Qi posti (KE D tys wf) A) XC args s mc ms A) u pc L [.int r] :=
  fun H locs ls hP hS hl => vx_ret (W.widen h1 h2 (g_iret C hr hn hpost hdg H locs ls hP hS hl))
theorem g_xvret {XC : String → State → State → Prop} {mc ms : Nat} (C : CX p s m args meth c D tys A own cc Ts nL wf) (hr : meth.sig.returnType = none) (hpost : postv u) (hdg : decode cc pc = .ok (.return_, 1)) (h1 : cells ≤ mc) (h2 : slots ≤ ms) : G p l e R s m args below meth c D A nL wf cells slots (vx_MQ below (va_Qv postv (KE D tys wf) A) XC args s mc ms A) u pc L [] :=
  fun H locs ls hP hS hl => vx_ret (W.widen h1 h2 (g_vret C hr hpost hdg H locs ls hP hS hl))
end GC
/-! a contract out of its body -/
section GE
variable {S : Type} {l : Launch} {D : va_G} {tys : List (ClassId × FieldType)} {wf : S → va_W} {u : S} {As : List Value} {L0 : List (Nat × Value)} {tx : List (Nat × String)}
variable {y : MethodName} {ws ws' : List Cond} {rm : Room} {maxL : Nat} {cc : ByteArray} {ty : FieldType} {posti : Int32 → S → Prop} {postv : S → Prop} {xp : String → Prop} {own : String}
def WfOk (wf : S → va_W) : Prop := ∀ u u' : S, (wf u).map Prod.fst = (wf u').map Prod.fst
theorem va_D_fst {A : Nat → Prop} {w w' : va_W} (h : w.map Prod.fst = w'.map Prod.fst) (hD : va_D A w) : va_D A w' := by
  have key : ∀ (k : Nat) (q : Nat × va_E), w'[k]? = some q → ∃ q0, w[k]? = some q0 ∧ q0.1 = q.1 := by
    intro k q hk
    have h1 : (w'.map Prod.fst)[k]? = some q.1 := by rw [List.getElem?_map, hk]; rfl
    rw [← h, List.getElem?_map] at h1
    cases hw : w[k]? with
    | none => rw [hw] at h1; cases h1
    | some q0 => rw [hw] at h1; exact ⟨q0, rfl, Option.some.inj h1⟩
  refine ⟨fun i j x y hi hj hxy => ?_, fun k q hk => ?_⟩
  · obtain ⟨x0, h1, h2⟩ := key i x hi
    obtain ⟨y0, h3, h4⟩ := key j y hj
    exact hD.1 i j x0 y0 h1 h3 (h2.trans (hxy.trans h4.symm))
  · obtain ⟨q0, h1, h2⟩ := key k q hk
    rw [← h2]
    exact hD.2 k q0 h1
theorem cx_ent {p : Program} {s s₁ : State} {e : Env} {m : MethodId} {args : Array Value} {below : List Frame} {meth : Method} {c : Code} {ret : Option FieldType} (hwf : WfOk wf) (hown : y.cls = own) (B : BodyLoose p l y (headSpec ws rm) cc maxL ret e s m args below meth c s₁) (hml : c.maxLocals = maxL) (hP : KB D tys wf u s.heap.size s) :
    CX p s m args meth c D tys (va_A (wf u) s.heap.size) own cc ws maxL wf := by
  refine ⟨B.exec, B.bytes, hml, ?_, atoms_spec (ws := ws) B.pre, hP.2.2.1, fun q h => Or.inr h, fun u' => va_D_fst (hwf u u') (hP.2.2.2.self), B.notSynchronized⟩
  rw [← hown]
  exact findClass_of_methodNamed B.named
theorem ent_I (hy : plainName y.cls = true) (hw : ws = Cond.code y cc maxL (some ty) :: ws') (hwf : WfOk wf) (hown : y.cls = own) (hlen : (lg_sl As).length ≤ maxL) (hL0 : lv_args 0 As = L0)
    (body : ∀ (p : Program) (e : Env) (s : State) (m : MethodId) (args : Array Value) (below : List Frame) (meth : Method) (c : Code) (A : Nat → Prop), CX p s m args meth c D tys A own cc ws maxL wf → meth.sig.returnType = some ty → G p l e rm s m args below meth c D A maxL wf 0 0 (MQ below (va_Qi posti (KE D tys wf) A) args s rm.cells rm.slots A) u 0 L0 []) : KI l y ws rm D tys wf As u posti := by
  intro sz
  refine Met.ofW (cc := cc) (maxL := maxL) (ret := some ty) hy hw ?_
  intro p e s m args below meth c s₁ B hml hv
  obtain ⟨rfl, hsz, hP, hK, hD⟩ := hv
  subst hsz; subst hL0
  rw [lg_entry_eq]
  exact body p e s m _ below meth c _ (cx_ent hwf hown B hml ⟨rfl, hP, hK, hD⟩) B.returns s.heap [] _ hP va_S.rf (lv_entry As hlen)
theorem ent_V (hy : plainName y.cls = true) (hw : ws = Cond.code y cc maxL none :: ws') (hwf : WfOk wf) (hown : y.cls = own) (hlen : (lg_sl As).length ≤ maxL) (hL0 : lv_args 0 As = L0)
    (body : ∀ (p : Program) (e : Env) (s : State) (m : MethodId) (args : Array Value) (below : List Frame) (meth : Method) (c : Code) (A : Nat → Prop), CX p s m args meth c D tys A own cc ws maxL wf → meth.sig.returnType = none → G p l e rm s m args below meth c D A maxL wf 0 0 (MQ below (va_Qv postv (KE D tys wf) A) args s rm.cells rm.slots A) u 0 L0 []) : KV l y ws rm D tys wf As u postv := by
  intro sz
  refine Met.ofW (cc := cc) (maxL := maxL) (ret := none) hy hw ?_
  intro p e s m args below meth c s₁ B hml hv
  obtain ⟨rfl, hsz, hP, hK, hD⟩ := hv
  subst hsz; subst hL0
  rw [lg_entry_eq]
  exact body p e s m _ below meth c _ (cx_ent hwf hown B hml ⟨rfl, hP, hK, hD⟩) B.returns s.heap [] _ hP va_S.rf (lv_entry As hlen)
theorem ent_XI (hy : plainName y.cls = true) (hw : ws = Cond.code y cc maxL (some ty) :: ws') (hwf : WfOk wf) (hown : y.cls = own) (hlen : (lg_sl As).length ≤ maxL) (hL0 : lv_args 0 As = L0)
    (body : ∀ (p : Program) (e : Env) (s : State) (m : MethodId) (args : Array Value) (below : List Frame) (meth : Method) (c : Code) (A : Nat → Prop), CX p s m args meth c D tys A own cc ws maxL wf → meth.sig.returnType = some ty → EV A s s.heap tx → (∀ x ∈ c.exceptionTable.toList, False) → G p l e rm s m args below meth c D A maxL wf 0 0 (vx_MQ below (va_Qi posti (KE D tys wf) A) (KX D tys wf u xp A) args s rm.cells rm.slots A) u 0 L0 []) : XI l y ws rm D tys tx wf As u posti xp := by
  intro sz
  refine vx_ofW (cc := cc) (maxL := maxL) (ret := some ty) hy hw ?_
  intro p e s m args below meth c s₁ B hml ht hv
  obtain ⟨rfl, ⟨hsz, hP, hK, hD⟩, hE⟩ := hv
  subst hsz; subst hL0
  rw [lg_entry_eq]
  exact body p e s m _ below meth c _ (cx_ent hwf hown B hml ⟨rfl, hP, hK, hD⟩) B.returns hE ht s.heap [] _ hP va_S.rf (lv_entry As hlen)
theorem ent_XV (hy : plainName y.cls = true) (hw : ws = Cond.code y cc maxL none :: ws') (hwf : WfOk wf) (hown : y.cls = own) (hlen : (lg_sl As).length ≤ maxL) (hL0 : lv_args 0 As = L0)
    (body : ∀ (p : Program) (e : Env) (s : State) (m : MethodId) (args : Array Value) (below : List Frame) (meth : Method) (c : Code) (A : Nat → Prop), CX p s m args meth c D tys A own cc ws maxL wf → meth.sig.returnType = none → EV A s s.heap tx → (∀ x ∈ c.exceptionTable.toList, False) → G p l e rm s m args below meth c D A maxL wf 0 0 (vx_MQ below (va_Qv postv (KE D tys wf) A) (KX D tys wf u xp A) args s rm.cells rm.slots A) u 0 L0 []) : XV l y ws rm D tys tx wf As u postv xp := by
  intro sz
  refine vx_ofW (cc := cc) (maxL := maxL) (ret := none) hy hw ?_
  intro p e s m args below meth c s₁ B hml ht hv
  obtain ⟨rfl, ⟨hsz, hP, hK, hD⟩, hE⟩ := hv
  subst hsz; subst hL0
  rw [lg_entry_eq]
  exact body p e s m _ below meth c _ (cx_ent hwf hown B hml ⟨rfl, hP, hK, hD⟩) B.returns hE ht s.heap [] _ hP va_S.rf (lv_entry As hlen)
end GE
