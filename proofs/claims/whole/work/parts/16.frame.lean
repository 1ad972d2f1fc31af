/-! THE FRAME RULE at contracts: a contract over a part of a world is one over the whole -/
section FR
variable {S S2 : Type} {l : Launch} {D : va_G} {tys tysG : List (ClassId × FieldType)} {wf : S → va_W} {wg : S2 → va_W} {u : S} {As : List Value} {tx : List (Nat × String)} {E1 E2 : va_W} {emb : S → S2}
variable {y : MethodName} {ws : List Cond} {rm : Room} {posti : Int32 → S → Prop} {postv : S → Prop} {xp : String → Prop}
theorem fr_get {a b c : va_W} {k : Nat} {q : Nat × va_E} (h : b[k]? = some q) : (a ++ (b ++ c))[a.length + k]? = some q := by
  rw [List.getElem?_append_right (by omega), Nat.add_sub_cancel_left, List.getElem?_append_left (List.getElem?_eq_some_iff.mp h).1]
  exact h
theorem fr_P {a b c : va_W} {H : Heap} (h : va_P D vwCl (a ++ (b ++ c)) H) : va_P D vwCl b H := fun k q hk => h (a.length + k) q (fr_get hk)
theorem fr_D {A : Nat → Prop} {a b c : va_W} (h : va_D A (a ++ (b ++ c))) : va_D A b := ⟨fun i j x y hi hj hxy => by have := h.1 _ _ x y (fr_get hi) (fr_get hj) hxy; omega, fun k q hk => h.2 _ q (fr_get hk)⟩
theorem fr_A {a b c : va_W} {sz : Nat} : ∀ q, va_A b sz q → va_A (a ++ (b ++ c)) sz q := by
  intro q h
  rcases h with ⟨k, e, h⟩ | h
  · exact Or.inl ⟨_, e, fr_get h⟩
  · exact Or.inr h
theorem fr_K (is : List Nat) (hs : is.filterMap (fun i => tysG[i]?) = tys) {U : State} (h : va_K D vwCl tysG U) : va_K D vwCl tys U := h.sub is hs
theorem fr_join {a b c b' : va_W} {s t : State} (hP : va_P D vwCl (a ++ (b ++ c)) s.heap) (hD : va_D (fun _ => True) (a ++ (b ++ c))) (hF : va_F (va_A b s.heap.size) s t) (hP' : va_P D vwCl b' t.heap) : va_P D vwCl (a ++ (b' ++ c)) t.heap := by
  have keep : ∀ (k : Nat) (q : Nat × va_E), (a ++ (b ++ c))[k]? = some q → (k < a.length ∨ a.length + b.length ≤ k) → va_at D vwCl q t.heap := by
    intro k q hk ho
    have hq := hP k q hk
    refine hq.kept (hF.2 q.1 hq.lt (fun h => ?_))
    rcases h with ⟨j, e, h⟩ | h
    · have hj := (List.getElem?_eq_some_iff.mp h).1
      have := hD.1 _ _ q (q.1, e) hk (fr_get h) rfl
      omega
    · have := hq.lt
      omega
  refine va_P.app (fun k q hk => ?_) (va_P.app hP' (fun k q hk => ?_))
  · have hl := (List.getElem?_eq_some_iff.mp hk).1
    exact keep k q (by rw [List.getElem?_append_left hl]; exact hk) (Or.inl hl)
  · refine keep (a.length + b.length + k) q ?_ (Or.inr (by omega))
    rw [List.getElem?_append_right (by omega), List.getElem?_append_right (by omega)]
    rw [show a.length + b.length + k - a.length - b.length = k by omega]
    exact hk
theorem fr_F {a b c : va_W} {s t : State} {sz : Nat} (hF : va_F (va_A b sz) s t) : va_F (va_A (a ++ (b ++ c)) sz) s t := ⟨hF.1, fun q h1 h2 => hF.2 q h1 (fun h => h2 (fr_A q h))⟩
theorem fr_XI (hwg : ∀ v, wg (emb v) = E1 ++ (wf v ++ E2)) (is : List Nat) (hs : is.filterMap (fun i => tysG[i]?) = tys) (hM : XI l y ws rm D tys tx wf As u posti xp) : XI l y ws rm D tysG tx wg As (emb u) (fun r s2 => ∃ v, posti r v ∧ s2 = emb v) xp := by
  intro sz p e ha hc hk s m args below hf happ hP _
  obtain ⟨rfl, ⟨hsz, hPw, hK, hD⟩, hE⟩ := hP
  subst hsz
  rw [hwg] at hPw hD hE ⊢
  obtain ⟨n, o, h1, h2, h3, hQ⟩ := hM s.heap.size p e ha hc hk s m _ below hf happ ⟨rfl, ⟨rfl, fr_P hPw, fr_K is hs hK, fr_D hD⟩, hE.narrow fr_A⟩ trivial
  refine ⟨n, o, h1, h2, h3, ?_⟩
  rcases hQ with ⟨⟨⟨r, v, ho, hp, hB⟩, hF⟩, L, hFE, hL⟩ | ⟨q, ho, E, ce, L, ⟨v, hv, ⟨hx, hB⟩, hF⟩, hce, hcv, hcl, hW, hsb, hL⟩
  · refine Or.inl ⟨⟨⟨r, emb v, ho, ⟨v, hp, rfl⟩, ?_, va_K.moved hFE.2.1.alike hK⟩, fr_F hF⟩, L, hFE, fun q h => fr_A _ (hL q h)⟩
    rw [hwg]
    exact fr_join hPw hD hF hB.1
  · refine Or.inr ⟨q, ho, E, ce, L, ⟨emb v, by rw [hv], ⟨hx, ?_, va_K.moved hW.alike hK⟩, fr_F hF⟩, hce, hcv, hcl, hW, hsb, fun z h => fr_A _ (hL z h)⟩
    rw [hwg]
    exact fr_join hPw hD hF hB.1
theorem fr_KI (hwg : ∀ v, wg (emb v) = E1 ++ (wf v ++ E2)) (is : List Nat) (hs : is.filterMap (fun i => tysG[i]?) = tys) (hM : KI l y ws rm D tys wf As u posti) : KI l y ws rm D tysG wg As (emb u) (fun r s2 => ∃ v, posti r v ∧ s2 = emb v) := by
  intro sz p e ha hc hk s m args below hf happ hP _
  obtain ⟨rfl, hsz, hPw, hK, hD⟩ := hP
  subst hsz
  rw [hwg] at hPw hD ⊢
  obtain ⟨n, o, h1, h2, h3, ⟨⟨r, v, ho, hp, hB⟩, hF⟩, L, hFE, hL⟩ := hM s.heap.size p e ha hc hk s m _ below hf happ ⟨rfl, rfl, fr_P hPw, fr_K is hs hK, fr_D hD⟩ trivial
  refine ⟨n, o, h1, h2, h3, ⟨⟨r, emb v, ho, ⟨v, hp, rfl⟩, ?_, va_K.moved hFE.2.1.alike hK⟩, fr_F hF⟩, L, hFE, fun q h => fr_A _ (hL q h)⟩
  rw [hwg]
  exact fr_join hPw hD hF hB.1
end FR
/-! a call that may throw, in a method with handlers; what is thrown over the frame; a handler -/
def GX {S : Type} (p : Program) (l : Launch) (e : Env) (R : Room) (s : State) (m : MethodId) (args : Array Value) (below : List Frame) (meth : Method) (c : Code) (D : va_G) (A : Nat → Prop) (nL : Nat) (wf : S → va_W) (cells slots : Nat) (Q : State → Prop) (u : S) (pc : Nat) (L : List (Nat × Value)) (st : List Value) (E : String) : Prop :=
  ∀ (H : Heap) (locs : List Loc) (ls : Array Slot) (q : Addr) (ce : Cell), va_P D vwCl (wf u) H → va_S A s.heap H locs → lv_has ls nL L → H[q]? = some ce → ce.vm = .none → s.vm.findClass E = some ce.cls → vx_W p l e R s m args below meth c H locs cells slots Q (F0 m pc ls st) q
section GH
variable {S : Type} {p : Program} {l : Launch} {e : Env} {R : Room} {s : State} {m : MethodId} {args : Array Value} {below : List Frame} {meth : Method} {c : Code} {D : va_G} {tys : List (ClassId × FieldType)} {A : Nat → Prop} {own : String} {cc : ByteArray} {Ts : List Cond} {nL : Nat} {wf : S → va_W} {cells slots cells' slots' : Nat} {Q : State → Prop} {u : S} {pc pc' : Nat} {L : List (Nat × Value)} {st st0 As : List Value} {tx : List (Nat × String)}
variable {y : MethodName} {ws ws' : List Cond} {rm : Room} {index maxL n b : Nat} {bytes : ByteArray} {ret : Option FieldType} {Cn : String} {posti : Int32 → S → Prop} {postv : S → Prop} {xp : String → Prop}
theorem g_cxiC (C : CX p s m args meth c D tys A own cc Ts nL wf) (hE : EV A s s.heap tx) (hM : XI l y ws rm D tys tx wf (.ref b :: As) u posti xp) (gd : GoodIn Ts (wsV own index Cn y ws)) (hw : ws = Cond.code y bytes maxL ret :: ws') (hd : y.cls = Cn ∧ y.cls ≠ "java/lang/invoke/MethodHandle" ∧ y.cls ≠ "java/lang/invoke/VarHandle" ∧ (parseMethodDescriptor y.desc).map (fun d => d.parameters.length) = some n) (hR : rm.frames + 1 ≤ R.frames ∧ 8 + (maxL + 11) + rm.locals ≤ R.locals)
    (q0 : Nat) {ci N : Nat} {T : u_T} {fs : List Value} (he : (wf u)[q0]? = some (b, .inr (ci, fs))) (hc : vwCl[ci]? = some (Cn, T, N)) (hn : As.length = n) (hst : st0 = As.reverse ++ .ref b :: st) (hW : (st.map fun v => v.category).sum ≤ 8) (hdg : decode cc pc = .ok (.invokevirtual index, 3)) (hp : pc + 3 = pc') (hcl : cells + rm.cells = cells') (hsl : slots + rm.slots = slots') (hf : cells' ≤ R.cells ∧ slots' ≤ R.slots)
    (kx : ∀ E, xp E → GX p l e R s m args below meth c D A nL wf cells' slots' Q u pc L st E)
    (kk : ∀ (r : Int32) (u' : S), posti r u' → G p l e R s m args below meth c D A nL wf cells' slots' Q u' pc' L (.int r :: st)) : G p l e R s m args below meth c D A nL wf cells slots Q u pc L st0 := by
  subst hp; subst hcl; subst hsl
  intro H locs ls hP hS hl
  refine vx_calli (vx_runV (As := As) (rest := st) (cx_fix C) (hM H.size) (cwV n C.2.2.2.2.1 gd hw rfl rfl hd hR) ⟨KB.blindX, va_recv C.2.2.2.2.2.1 hP hc he, fun U hU hW => ⟨rfl, cx_KB C hP hU hW, cx_EV C hE hS hU hW⟩⟩ rfl hn hl.1 hst (lv_room hW) hdg hf) hS (fun q _ h => cx_A C hS q h) (cx_A C hS) (fun q _ h => cx_A C hS q h) (fun E ce q9 u' t H1 locs1 ht9 hvm hpx hBX hz hk hS1 hcell hcv hcl => ?_) (fun r u' t H1 locs1 ht9 hvm hw9 hB hz hk hS1 => ?_)
  · have hP1 : va_P D vwCl (wf u) H1 := by rw [← ht9, ← hpx]; exact hBX.2.1
    exact kx E hBX.1 H1 locs1 ls q9 ce hP1 hS1 hl hcell hcv hcl
  · exact kk r u' hw9 H1 locs1 ls (ht9 ▸ hB.1) hS1 hl
theorem g_catch (C : CX p s m args meth c D tys A own cc Ts nL wf) (hE : EV A s s.heap tx) {E name : String} (pre : List ExceptionTableEntry) (x : ExceptionTableEntry) (suf : List ExceptionTableEntry) (hsplit : c.exceptionTable.toList = pre ++ x :: suf)
    (hpass : ∀ z ∈ pre, z.catchType ≠ 0 ∧ ∃ nm : String, Cond.classLink own z.catchType nm ∈ Ts ∧ (E, nm) ∈ nc0) (hx : covers x pc = true) (h0 : x.catchType ≠ 0) (hlink : Cond.classLink own x.catchType name ∈ Ts) (hEn : E = name) (hcl0 : name ∈ cl0)
    (kk : ∀ q, G p l e R s m args below meth c D A nL wf cells slots Q u x.handlerPc L [.ref q]) : GX p l e R s m args below meth c D A nL wf cells slots Q u pc L st E := by
  intro H locs ls q ce hP hS hl hcell hcv hcl
  subst hEn
  refine vx_catch C.2.2.2.1 pre x suf hsplit (fun z hz => ?_) hx h0 (C.2.2.2.2.1 _ hlink) (va_Nw.use rfl (hE.2.2.2.2.1 _ hcl0)) hcell hcv hcl (kk q H locs ls hP hS hl)
  obtain ⟨h1, nm, h2, h3⟩ := hpass z hz
  exact Or.inr ⟨h1, nm, C.2.2.2.2.1 _ h2, hE.2.2.2.2.2 _ h3⟩
theorem g_i2l (C : CX p s m args meth c D tys A own cc Ts nL wf) {x : Int32} (hdg : decode cc pc = .ok (.i2l, 1)) (hp : pc + 1 = pc') (kk : G p l e R s m args below meth c D A nL wf cells slots Q u pc' L (.long x.toInt64 :: st)) : G p l e R s m args below meth c D A nL wf cells slots Q u pc L (.int x :: st) := by
  subst hp; exact fun H locs ls hP hS hl => lv_i2l C.1 C.2.1 hdg rfl (kk H locs ls hP hS hl)
theorem g_lconst (C : CX p s m args meth c D tys A own cc Ts nL wf) {n : Fin 2} {v : Int64} (hdg : decode cc pc = .ok (.lconst n, 1)) (hp : pc + 1 = pc') (hv : Int64.ofNat (n : Nat) = v) (kk : G p l e R s m args below meth c D A nL wf cells slots Q u pc' L (.long v :: st)) : G p l e R s m args below meth c D A nL wf cells slots Q u pc L st := by
  subst hp; exact fun H locs ls hP hS hl => lv_lconst C.1 C.2.1 hdg hv (kk H locs ls hP hS hl)
theorem g_last (C : CX p s m args meth c D tys A own cc Ts nL wf) (q0 t0 : Nat) {b n : Nat} {cA : ClassId} {f : Nat → Int64} (he : (wf u)[q0]? = some (b, .inl (cA, n, .inr (.inl f)))) (ht : tys[t0]? = some (cA, .long)) {i : Int32} {x : Int64} {k : Nat} (hin : vp_in i n) (hk : i.toNatClampNeg = k) (hdg : decode cc pc = .ok (.lastore, 1)) (hp : pc + 1 = pc') {u' : S} (hset : (wf u).set q0 (b, .inl (cA, n, .inr (.inl (vp_updL f k x)))) = wf u')
    (kk : G p l e R s m args below meth c D A nL wf cells slots Q u' pc' L st) : G p l e R s m args below meth c D A nL wf cells slots Q u pc L (.long x :: .int i :: .ref b :: st) := by
  subst hp; subst hk; exact fun H locs ls hP hS hl => va_last C.1 C.2.1 C.2.2.2.2.2.1 hP (C.2.2.2.2.2.2.2.1 u) hS q0 t0 he ht hin hdg (fun H1 locs1 hP1 _ hS1 => kk H1 locs1 ls (hset ▸ hP1) hS1 hl)
theorem g_lald (C : CX p s m args meth c D tys A own cc Ts nL wf) (q0 t0 : Nat) {b n : Nat} {cA : ClassId} {f : Nat → Int64} (he : (wf u)[q0]? = some (b, .inl (cA, n, .inr (.inl f)))) (ht : tys[t0]? = some (cA, .long)) {i : Int32} {k : Nat} (hin : vp_in i n) (hk : i.toNatClampNeg = k) (hdg : decode cc pc = .ok (.laload, 1)) (hp : pc + 1 = pc')
    (kk : G p l e R s m args below meth c D A nL wf cells slots Q u pc' L (.long (f k) :: st)) : G p l e R s m args below meth c D A nL wf cells slots Q u pc L (.int i :: .ref b :: st) := by
  subst hp; subst hk; exact fun H locs ls hP hS hl => va_lald C.1 C.2.1 C.2.2.2.2.2.1 hP q0 t0 he ht hin hdg (kk H locs ls hP hS hl)
end GH
theorem ent_WH {S : Type} {l : Launch} {D : va_G} {tys : List (ClassId × FieldType)} {wf : S → va_W} {u : S} {As : List Value} {L0 : List (Nat × Value)} {tx : List (Nat × String)} {y : MethodName} {ws ws' : List Cond} {rm : Room} {maxL : Nat} {cc : ByteArray} {ty : FieldType} {hh : List (Nat × Nat × Nat × Nat)} {posti : Int32 → S → Prop} {xp : String → Prop} {own : String}
    (hy : plainName y.cls = true) (hw : ws = Cond.codeWith y cc maxL (some ty) hh :: ws') (hwf : WfOk wf) (hown : y.cls = own) (hlen : (lg_sl As).length ≤ maxL) (hL0 : lv_args 0 As = L0)
    (body : ∀ (p : Program) (e : Env) (s : State) (m : MethodId) (args : Array Value) (below : List Frame) (meth : Method) (c : Code) (A : Nat → Prop), CX p s m args meth c D tys A own cc ws maxL wf → meth.sig.returnType = some ty → EV A s s.heap tx → c.exceptionTable.toList = tableOf hh → G p l e rm s m args below meth c D A maxL wf 0 0 (vx_MQ below (va_Qi posti (KE D tys wf) A) (KX D tys wf u xp A) args s rm.cells rm.slots A) u 0 L0 []) : XI l y ws rm D tys tx wf As u posti xp := by
  intro sz
  refine vx_ofWH (cc := cc) (maxL := maxL) (ret := some ty) hy hw ?_
  intro p e s m args below meth c s₁ B hml hv
  obtain ⟨rfl, ⟨hsz, hP, hK, hD⟩, hE⟩ := hv
  subst hsz; subst hL0
  rw [lg_entry_eq]
  exact body p e s m _ below meth c _ (cx_ent hwf hown B hml ⟨rfl, hP, hK, hD⟩) B.returns hE (vx_table (x := y) B (atoms_spec (ws := ws) B.pre _ (by rw [hw]; exact List.mem_cons_self))) s.heap [] _ hP va_S.rf (lv_entry As hlen)
