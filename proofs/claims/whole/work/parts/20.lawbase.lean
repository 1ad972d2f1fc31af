/-! the law's world and rows -/
def wAll (cI cZ cQ cL : ClassId) (ax am : Nat → Nat) (o : Nat) (q : LU × LU × (Nat → Int64)) : va_W := wL cI cZ cQ cL ax o (q.1, q.2.2) ++ wM cI cZ am q.2.1
theorem wL_len (cI cZ cQ cL : ClassId) (a : Nat → Nat) (o : Nat) (q : LU × (Nat → Int64)) : (wL cI cZ cQ cL a o q).length = 76 := by simp [wL, wX_len]
theorem wA_ok (cI cZ cQ cL : ClassId) (ax am : Nat → Nat) (o : Nat) : WfOk (wAll cI cZ cQ cL ax am o) := fun q q' => by
  simp only [wAll, List.map_append]
  rw [wL_ok cI cZ cQ cL ax o (q.1, q.2.2) (q'.1, q'.2.2), wM_ok cI cZ am q.2.1 q'.2.1]
theorem wA_out (cI cZ cQ cL : ClassId) (ax am : Nat → Nat) (o : Nat) (q : LU × LU × (Nat → Int64)) : (wAll cI cZ cQ cL ax am o q)[75]? = some (o, .inl (cL, 1, .inr (.inl q.2.2))) := by
  unfold wAll
  rw [List.getElem?_append_left (by rw [wL_len]; omega)]
  exact wL_out cI cZ cQ cL ax o (q.1, q.2.2)
theorem wA_M (cI cZ cQ cL : ClassId) (ax am : Nat → Nat) (o : Nat) (q : LU × LU × (Nat → Int64)) : (wAll cI cZ cQ cL ax am o q)[76]? = some (am 0, .inr (1, flM am (q.2.1 0))) := by
  unfold wAll
  rw [List.getElem?_append_right (by rw [wL_len]; omega), wL_len]
  rfl
theorem wA_X (cI cZ cQ cL : ClassId) (ax am : Nat → Nat) (o : Nat) (q : LU × LU × (Nat → Int64)) : (wAll cI cZ cQ cL ax am o q)[0]? = some (ax 0, .inr (0, flX ax (q.1 0))) := rfl
section GLW
variable {S : Type} {p : Program} {l : Launch} {e : Env} {R : Room} {s : State} {m : MethodId} {args : Array Value} {below : List Frame} {meth : Method} {c : Code} {D : va_G} {tys : List (ClassId × FieldType)} {A : Nat → Prop} {own : String} {cc : ByteArray} {Ts : List Cond} {nL : Nat} {wf : S → va_W} {cells slots cells' slots' : Nat} {Q : State → Prop} {u : S} {pc pc' : Nat} {L : List (Nat × Value)} {st st0 As : List Value} {tx : List (Nat × String)}
variable {y : MethodName} {ws ws' : List Cond} {rm : Room} {index maxL n b : Nat} {bytes : ByteArray} {ret9 : Option FieldType} {hh : List (Nat × Nat × Nat × Nat)} {posti : Int32 → S → Prop}
theorem g_callW (C : CX p s m args meth c D tys A own cc Ts nL wf) (hE : EV A s s.heap tx) (hM : XI l y ws rm D tys tx wf As u posti (fun _ => False)) (gd : GoodIn Ts (va_wsS own index y ws)) (hw : ws = Cond.codeWith y bytes maxL ret9 hh :: ws') (hd : y.cls ≠ "java/lang/invoke/MethodHandle" ∧ y.cls ≠ "java/lang/invoke/VarHandle" ∧ (parseMethodDescriptor y.desc).map (fun d => d.parameters.length) = some n) (hR : rm.frames + 1 ≤ R.frames ∧ 8 + (maxL + 11) + rm.locals ≤ R.locals)
    (hn : As.length = n) (hst : st0 = As.reverse ++ st) (hW : (st.map fun v => v.category).sum ≤ 8) (hdg : decode cc pc = .ok (.invokestatic index, 3)) (hp : pc + 3 = pc') (hcl : cells + rm.cells = cells') (hsl : slots + rm.slots = slots') (hf : cells' ≤ R.cells ∧ slots' ≤ R.slots)
    (kk : ∀ (r : Int32) (u' : S), posti r u' → G p l e R s m args below meth c D A nL wf cells' slots' Q u' pc' L (.int r :: st)) : G p l e R s m args below meth c D A nL wf cells slots Q u pc L st0 := by
  subst hp; subst hcl; subst hsl
  intro H locs ls hP hS hl
  refine vx_calli (vx_runSX (As := As) (rest := st) (cx_fix C) (hM H.size) (vx_cwSW n C.2.2.2.2.1 gd hw rfl rfl hd hR) ⟨KB.blindX, fun U hU hW => ⟨rfl, cx_KB C hP hU hW, cx_EV C hE hS hU hW⟩⟩ rfl hn hl.1 hst (lv_room hW) hdg hf) hS (fun q _ h => cx_A C hS q h) (cx_A C hS) (fun q _ h => cx_A C hS q h) (fun E ce q9 u' t H1 locs1 ht9 hvm hpx hBX hz hk hS1 hcell hcv hcl => hBX.1.elim) (fun r u' t H1 locs1 ht9 hvm hw9 hB hz hk hS1 => ?_)
  exact kk r u' hw9 H1 locs1 ls (ht9 ▸ hB.1) hS1 hl
theorem g_sld (C : CX p s m args meth c D tys A own cc Ts nL wf) {b L9 k : Nat} {xs : Nat → Int32} (hX : va_X b L9 xs s s.heap) (hbl : b < s.heap.size) (hbA : ¬ A b) {i : Int32} (hin : vp_in i L9) (hk : i.toNatClampNeg = k) (hdg : decode cc pc = .ok (.iaload, 1)) (hp : pc + 1 = pc')
    (kk : G p l e R s m args below meth c D A nL wf cells slots Q u pc' L (.int (xs k) :: st)) : G p l e R s m args below meth c D A nL wf cells slots Q u pc L (.int i :: .ref b :: st) := by
  subst hp; subst hk; exact fun H locs ls hP hS hl => va_sld C.1 C.2.1 hX hbl hbA hS hin hdg (kk H locs ls hP hS hl)
theorem g_slen (C : CX p s m args meth c D tys A own cc Ts nL wf) {b L9 : Nat} {xs : Nat → Int32} (hX : va_X b L9 xs s s.heap) (hbl : b < s.heap.size) (hbA : ¬ A b) (hdg : decode cc pc = .ok (.arraylength, 1)) (hp : pc + 1 = pc')
    (kk : G p l e R s m args below meth c D A nL wf cells slots Q u pc' L (.int (nI L9) :: st)) : G p l e R s m args below meth c D A nL wf cells slots Q u pc L (.ref b :: st) := by
  subst hp; exact fun H locs ls hP hS hl => va_slen C.1 C.2.1 hX hbl hbA hS hdg (kk H locs ls hP hS hl)
theorem g_tabOut (C : CX p s m args meth c D tys A own cc Ts nL wf) {dflt lo hi : Int} {offs : Array Int} {len : Nat} {x : Int32} {tgt : Nat} (hdg : decode cc pc = .ok (.tableswitch dflt lo hi offs, len)) (h : x.toInt < lo ∨ hi < x.toInt) (ht : (pc : Int) + dflt = (tgt : Int))
    (kk : G p l e R s m args below meth c D A nL wf cells slots Q u tgt L st) : G p l e R s m args below meth c D A nL wf cells slots Q u pc L (.int x :: st) :=
  fun H locs ls hP hS hl => lv_tableOut C.1 C.2.1 hdg h ht (kk H locs ls hP hS hl)
theorem g_tabIn (C : CX p s m args meth c D tys A own cc Ts nL wf) {dflt lo hi : Int} {offs : Array Int} {len : Nat} {x : Int32} {off : Int} {tgt : Nat} (hdg : decode cc pc = .ok (.tableswitch dflt lo hi offs, len)) (h1 : ¬ x.toInt < lo) (h2 : ¬ hi < x.toInt) (ho : offs[(x.toInt - lo).toNat]? = some off) (ht : (pc : Int) + off = (tgt : Int))
    (kk : G p l e R s m args below meth c D A nL wf cells slots Q u tgt L st) : G p l e R s m args below meth c D A nL wf cells slots Q u pc L (.int x :: st) :=
  fun H locs ls hP hS hl => lv_tableIn C.1 C.2.1 hdg h1 h2 ho ht (kk H locs ls hP hS hl)
theorem g_lcmp (C : CX p s m args meth c D tys A own cc Ts nL wf) {x y : Int64} (hdg : decode cc pc = .ok (.lcmp, 1)) (hp : pc + 1 = pc') (kk : G p l e R s m args below meth c D A nL wf cells slots Q u pc' L (.int (lg_cmp x y) :: st)) : G p l e R s m args below meth c D A nL wf cells slots Q u pc L (.long y :: .long x :: st) := by
  subst hp; exact fun H locs ls hP hS hl => W.lcmp C.1 C.2.1 hdg (kk H locs ls hP hS hl)
theorem g_convL {x y : Int64} (h : x = y) (kk : G p l e R s m args below meth c D A nL wf cells slots Q u pc L (.long y :: st)) : G p l e R s m args below meth c D A nL wf cells slots Q u pc L (.long x :: st) := h ▸ kk
theorem lg_self {x y : Int64} (h : x = y) : (lg_cmp x y).toInt = 0 := by
  rw [(lg_cmp_eq x y).mpr h]
  rfl
end GLW
section GLR
variable {S : Type} {p : Program} {l : Launch} {e : Env} {s : State} {m : MethodId} {below : List Frame} {meth : Method} {c : Code} {D : va_G} {tys : List (ClassId × FieldType)} {own : String} {Ts : List Cond} {nL : Nat} {wf : S → va_W} {cells slots : Nat} {u : S} {pc b : Nat} {L : List (Nat × Value)}
theorem g_lawret (C : CX p s m #[.ref b] meth c D tys (fun q => s.heap.size ≤ q) own cL_law Ts nL wf) (hr : meth.sig.returnType = ret) (hc : cells ≤ 601024) (hs : slots ≤ 7293034) (hdg : decode cL_law pc = .ok (.ireturn, 1)) : G p l e room_1 s m #[.ref b] below meth c D (fun q => s.heap.size ≤ q) nL wf cells slots (lw_Z below #[.ref b] s) u pc L [.int 1] :=
  fun H locs ls hP hS hl => va_forget (fun q hq => hS.2.2 q hq) (W.widen hc hs (lw_ret C.1 C.2.1 hr C.2.2.2.2.2.2.2.2 hdg))
end GLR
