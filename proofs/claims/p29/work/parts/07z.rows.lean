/-! further rows of the judgement: remainder, shift, pop, a static call without an answer; the law's own small methods -/
section GZ
variable {S : Type} {p : Program} {l : Launch} {e : Env} {R : Room} {s : State} {m : MethodId} {args : Array Value} {below : List Frame} {meth : Method} {c : Code} {D : va_G} {tys : List (ClassId × FieldType)} {A : Nat → Prop} {own : String} {cc : ByteArray} {Ts : List Cond} {nL : Nat} {wf : S → va_W} {cells slots cells' slots' : Nat} {Q : State → Prop} {u : S} {pc pc' : Nat} {L : List (Nat × Value)} {st st0 As : List Value}
variable {y : MethodName} {ws ws' : List Cond} {rm : Room} {index maxL n b : Nat} {bytes : ByteArray} {ret9 : Option FieldType} {Cn : String} {posti : Int32 → S → Prop} {postv : S → Prop}
theorem g_irem (C : CX p s m args meth c D tys A own cc Ts nL wf) {x z : Int32} (hdg : decode cc pc = .ok (.irem, 1)) (hp : pc + 1 = pc') (hne : ¬ z = 0) (kk : G p l e R s m args below meth c D A nL wf cells slots Q u pc' L (.int (x - x / z * z) :: st)) : G p l e R s m args below meth c D A nL wf cells slots Q u pc L (.int z :: .int x :: st) := by
  subst hp; exact fun H locs ls hP hS hl => lv_irem C.1 C.2.1 hdg hne (kk H locs ls hP hS hl)
theorem g_ishr (C : CX p s m args meth c D tys A own cc Ts nL wf) {x z : Int32} (hdg : decode cc pc = .ok (.ishr, 1)) (hp : pc + 1 = pc') (kk : G p l e R s m args below meth c D A nL wf cells slots Q u pc' L (.int (x >>> (z &&& 31)) :: st)) : G p l e R s m args below meth c D A nL wf cells slots Q u pc L (.int z :: .int x :: st) := by
  subst hp; exact fun H locs ls hP hS hl => lv_ishr C.1 C.2.1 hdg (kk H locs ls hP hS hl)
theorem g_pop (C : CX p s m args meth c D tys A own cc Ts nL wf) {v : Value} (hdg : decode cc pc = .ok (.pop, 1)) (hp : pc + 1 = pc') (hv : v.category = 1) (kk : G p l e R s m args below meth c D A nL wf cells slots Q u pc' L st) : G p l e R s m args below meth c D A nL wf cells slots Q u pc L (v :: st) := by
  subst hp; exact fun H locs ls hP hS hl => lv_pop C.1 C.2.1 hdg hv (kk H locs ls hP hS hl)
theorem g_callvS (C : CX p s m args meth c D tys A own cc Ts nL wf) (hM : KV l y ws rm D tys wf As u postv) (gd : GoodIn Ts (va_wsS own index y ws)) (hw : ws = Cond.code y bytes maxL ret9 :: ws') (hd : y.cls ≠ "java/lang/invoke/MethodHandle" ∧ y.cls ≠ "java/lang/invoke/VarHandle" ∧ (parseMethodDescriptor y.desc).map (fun d => d.parameters.length) = some n) (hR : rm.frames + 1 ≤ R.frames ∧ 8 + (maxL + 11) + rm.locals ≤ R.locals)
    (hn : As.length = n) (hst : st0 = As.reverse ++ st) (hW : (st.map fun v => v.category).sum ≤ 8) (hdg : decode cc pc = .ok (.invokestatic index, 3)) (hp : pc + 3 = pc') (hcl : cells + rm.cells = cells') (hsl : slots + rm.slots = slots') (hf : cells' ≤ R.cells ∧ slots' ≤ R.slots)
    (kk : ∀ (u' : S), postv u' → G p l e R s m args below meth c D A nL wf cells' slots' Q u' pc' L st) : G p l e R s m args below meth c D A nL wf cells slots Q u pc L st0 := by
  subst hp; subst hcl; subst hsl
  intro H locs ls hP hS hl
  refine va_callv (va_runS (As := As) (rest := st) (cx_fix C) (hM H.size) (va_cwS n C.2.2.2.2.1 gd hw rfl rfl hd hR) ⟨KB.blind, fun U hU hW => ⟨rfl, cx_KB C hP hU hW⟩⟩ rfl hn hl.1 hst (lv_room hW) hdg hf) hS (fun q _ h => cx_A C hS q h) (cx_A C hS) (fun u' t H1 locs1 ht hvm hw9 hB hz hk hS1 => ?_)
  exact kk u' hw9 H1 locs1 ls (ht ▸ hB.1) hS1 hl
/-- a world of nothing -/
def w0 : Unit → va_W := fun _ => []
theorem w0_ok : WfOk w0 := fun _ _ => rfl
/-- a static method that reads the script and nothing else -/
def KS (l : Launch) (y : MethodName) (ws : List Cond) (rm : Room) (D : va_G) (b L9 : Nat) (xs : Nat → Int32) (As : List Value) : Prop :=
  ∀ sz, Met l y ws rm (va_Pc As (fun U => KB D [] w0 () sz U ∧ va_X b L9 xs U U.heap ∧ b < sz)) (va_Qi (fun (_ : Int32) (_ : Unit) => True) (KE D [] w0) (va_A (w0 ()) sz)) rm.cells rm.slots (va_A (w0 ()) sz)
theorem KS.blind {D : va_G} {sz b L9 : Nat} {xs : Nat → Int32} : FrameBlind (va_Pc As (fun U => KB D [] w0 () sz U ∧ va_X b L9 xs U U.heap ∧ b < sz)) := fun a U g mk q => by
  obtain ⟨q0, ⟨q1, q2, q3, q4⟩, q5, q6⟩ := q
  exact ⟨q0, ⟨q1, q2, va_K.moved (u := U) (U := U.calling g mk a) (Vm.Alike.refl U.vm) q3, q4⟩, va_X.moved (u := U) (U := U.calling g mk a) (Vm.Alike.refl U.vm) q5, q6⟩
theorem ent_S {D : va_G} {L9 : Nat} {xs : Nat → Int32} {cc : ByteArray} {ty : FieldType} {L0 : List (Nat × Value)} (hy : plainName y.cls = true) (hw : ws = Cond.code y cc maxL (some ty) :: ws') (hown : y.cls = own) (hlen : (lg_sl As).length ≤ maxL) (hL0 : lv_args 0 As = L0)
    (body : ∀ (p : Program) (e : Env) (s : State) (m : MethodId) (args : Array Value) (below : List Frame) (meth : Method) (c : Code) (A : Nat → Prop), CX p s m args meth c D [] A own cc ws maxL w0 → meth.sig.returnType = some ty → va_X b L9 xs s s.heap → b < s.heap.size → ¬ A b → G p l e rm s m args below meth c D A maxL w0 0 0 (MQ below (va_Qi (fun (_ : Int32) (_ : Unit) => True) (KE D [] w0) A) args s rm.cells rm.slots A) () 0 L0 []) : KS l y ws rm D b L9 xs As := by
  intro sz
  refine Met.ofW (cc := cc) (maxL := maxL) (ret := some ty) hy hw ?_
  intro p e s m args below meth c s₁ B hml hv
  obtain ⟨rfl, ⟨hsz, hP, hK, hD⟩, hX, hb⟩ := hv
  subst hsz; subst hL0
  rw [lg_entry_eq]
  refine body p e s m _ below meth c _ (cx_ent w0_ok hown B hml ⟨rfl, hP, hK, hD⟩) B.returns hX hb ?_ s.heap [] _ hP va_S.rf (lv_entry As hlen)
  rintro (⟨k, q, h⟩ | h)
  · simp [w0] at h
  · exact absurd hb (Nat.not_lt.mpr h)
theorem g_callS {L9 : Nat} {xs : Nat → Int32} (C : CX p s m args meth c D tys A own cc Ts nL wf) (hX : va_X b L9 xs s s.heap) (hbl : b < s.heap.size) (hbA : ¬ A b) (hM : KS l y ws rm D b L9 xs As) (gd : GoodIn Ts (va_wsS own index y ws)) (hw : ws = Cond.code y bytes maxL ret9 :: ws') (hd : y.cls ≠ "java/lang/invoke/MethodHandle" ∧ y.cls ≠ "java/lang/invoke/VarHandle" ∧ (parseMethodDescriptor y.desc).map (fun d => d.parameters.length) = some n) (hR : rm.frames + 1 ≤ R.frames ∧ 8 + (maxL + 11) + rm.locals ≤ R.locals)
    (hn : As.length = n) (hst : st0 = As.reverse ++ st) (hW : (st.map fun v => v.category).sum ≤ 8) (hdg : decode cc pc = .ok (.invokestatic index, 3)) (hp : pc + 3 = pc') (hcl : cells + rm.cells = cells') (hsl : slots + rm.slots = slots') (hf : cells' ≤ R.cells ∧ slots' ≤ R.slots)
    (kk : ∀ (r : Int32), G p l e R s m args below meth c D A nL wf cells' slots' Q u pc' L (.int r :: st)) : G p l e R s m args below meth c D A nL wf cells slots Q u pc L st0 := by
  subst hp; subst hcl; subst hsl
  intro H locs ls hP hS hl
  have hXH : va_X b L9 xs s H := hX.kept (hS.2.1 b hbl hbA)
  have hbH : b < H.size := Nat.lt_of_lt_of_le hbl hS.1
  have hF : ∀ q, va_A (w0 ()) H.size q → A q := by
    rintro q (⟨k, z, h⟩ | h)
    · simp [w0] at h
    · exact C.2.2.2.2.2.2.1 q (Nat.le_trans hS.1 h)
  refine va_calli (va_runS (As := As) (rest := st) (cx_fix C) (hM H.size) (va_cwS n C.2.2.2.2.1 gd hw rfl rfl hd hR) ⟨KS.blind, fun U hU hW => ⟨rfl, ⟨by rw [hU], fun k q h => by simp [w0] at h, (va_K.moved hW.alike C.2.2.2.2.2.1).sub [] rfl, ⟨fun i j p q h => by simp [w0] at h, fun k q h => by simp [w0] at h⟩⟩, by rw [hU]; exact va_X.moved hW.alike hXH, hbH⟩⟩ rfl hn hl.1 hst (lv_room hW) hdg hf) hS (fun q _ h => hF q h) hF (fun r u' t H1 locs1 ht hvm hw9 hB hz hk hS1 => ?_)
  refine kk r H1 locs1 ls (hP.kept (fun k q hq => hk q.1 ((hP k q hq).lt) ?_)) hS1 hl
  rintro (⟨k, z, h⟩ | h)
  · simp [w0] at h
  · exact absurd ((hP k q hq).lt) (Nat.not_lt.mpr h)
end GZ
