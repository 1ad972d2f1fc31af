section
-- ===== PART A: goes FIRST, ahead of the names: the tables' words, and 'selects' of the private methods out of them =====
/-- a private method of a class that the tables say can be made, by its rows of tables_1 -/
def lw_okq (q : MethodName × Nat) : Prop := (q.1.cls ≠ "java/lang/invoke/MethodHandle" ∧ q.1.cls ≠ "java/lang/invoke/VarHandle") ∧ Cond.instantiable q.1.cls q.2 ∈ tables_1 ∧ Cond.privateMethod q.1 ∈ tables_1 ∧ Cond.instanceMethod q.1 ∈ tables_1
theorem lw_p0 : lw_okq (⟨"java/lang/Throwable", "fillInStackTrace", "(I)Ljava/lang/Throwable;"⟩, 6) := ⟨⟨by decide +kernel, by decide +kernel⟩, List.mem_of_getElem? (i := 124) (by decide +kernel), List.mem_of_getElem? (i := 122) (by decide +kernel), List.mem_of_getElem? (i := 123) (by decide +kernel)⟩
theorem lw_p1 : lw_okq (⟨"LotTracker", "makeLot", "(IIZII)I"⟩, 18) := ⟨⟨by decide +kernel, by decide +kernel⟩, List.mem_of_getElem? (i := 9) (by decide +kernel), List.mem_of_getElem? (i := 192) (by decide +kernel), List.mem_of_getElem? (i := 193) (by decide +kernel)⟩
theorem lw_p2 : lw_okq (⟨"LotTracker", "makeWafer", "(I)V"⟩, 18) := ⟨⟨by decide +kernel, by decide +kernel⟩, List.mem_of_getElem? (i := 9) (by decide +kernel), List.mem_of_getElem? (i := 196) (by decide +kernel), List.mem_of_getElem? (i := 197) (by decide +kernel)⟩
theorem lw_p3 : lw_okq (⟨"LotTracker", "putInto", "(II)V"⟩, 18) := ⟨⟨by decide +kernel, by decide +kernel⟩, List.mem_of_getElem? (i := 9) (by decide +kernel), List.mem_of_getElem? (i := 200) (by decide +kernel), List.mem_of_getElem? (i := 201) (by decide +kernel)⟩
theorem lw_p4 : lw_okq (⟨"LotTracker", "checkLot", "(I)V"⟩, 18) := ⟨⟨by decide +kernel, by decide +kernel⟩, List.mem_of_getElem? (i := 9) (by decide +kernel), List.mem_of_getElem? (i := 208) (by decide +kernel), List.mem_of_getElem? (i := 209) (by decide +kernel)⟩
theorem lw_p5 : lw_okq (⟨"LotTracker", "isLot", "(I)Z"⟩, 18) := ⟨⟨by decide +kernel, by decide +kernel⟩, List.mem_of_getElem? (i := 9) (by decide +kernel), List.mem_of_getElem? (i := 212) (by decide +kernel), List.mem_of_getElem? (i := 213) (by decide +kernel)⟩
theorem lw_p6 : lw_okq (⟨"LotTracker", "isReady", "(I)Z"⟩, 18) := ⟨⟨by decide +kernel, by decide +kernel⟩, List.mem_of_getElem? (i := 9) (by decide +kernel), List.mem_of_getElem? (i := 217) (by decide +kernel), List.mem_of_getElem? (i := 218) (by decide +kernel)⟩
theorem lw_p7 : lw_okq (⟨"LotTracker", "isFree", "(I)Z"⟩, 18) := ⟨⟨by decide +kernel, by decide +kernel⟩, List.mem_of_getElem? (i := 9) (by decide +kernel), List.mem_of_getElem? (i := 221) (by decide +kernel), List.mem_of_getElem? (i := 222) (by decide +kernel)⟩
theorem lw_p8 : lw_okq (⟨"LotTracker", "waitingLeft", "(I)I"⟩, 18) := ⟨⟨by decide +kernel, by decide +kernel⟩, List.mem_of_getElem? (i := 9) (by decide +kernel), List.mem_of_getElem? (i := 225) (by decide +kernel), List.mem_of_getElem? (i := 226) (by decide +kernel)⟩
theorem lw_p9 : lw_okq (⟨"LotTracker", "isStep", "(I)Z"⟩, 18) := ⟨⟨by decide +kernel, by decide +kernel⟩, List.mem_of_getElem? (i := 9) (by decide +kernel), List.mem_of_getElem? (i := 229) (by decide +kernel), List.mem_of_getElem? (i := 230) (by decide +kernel)⟩
theorem lw_p10 : lw_okq (⟨"LotTracker", "isBusy", "(I)Z"⟩, 18) := ⟨⟨by decide +kernel, by decide +kernel⟩, List.mem_of_getElem? (i := 9) (by decide +kernel), List.mem_of_getElem? (i := 235) (by decide +kernel), List.mem_of_getElem? (i := 236) (by decide +kernel)⟩
theorem lw_p11 : lw_okq (⟨"LotTracker", "usesTool", "(II)Z"⟩, 18) := ⟨⟨by decide +kernel, by decide +kernel⟩, List.mem_of_getElem? (i := 9) (by decide +kernel), List.mem_of_getElem? (i := 239) (by decide +kernel), List.mem_of_getElem? (i := 240) (by decide +kernel)⟩
theorem lw_p12 : lw_okq (⟨"LotTracker", "moveWafers", "(III)V"⟩, 18) := ⟨⟨by decide +kernel, by decide +kernel⟩, List.mem_of_getElem? (i := 9) (by decide +kernel), List.mem_of_getElem? (i := 249) (by decide +kernel), List.mem_of_getElem? (i := 250) (by decide +kernel)⟩
theorem lw_p13 : lw_okq (⟨"LotTracker", "checkWafer", "(I)V"⟩, 18) := ⟨⟨by decide +kernel, by decide +kernel⟩, List.mem_of_getElem? (i := 9) (by decide +kernel), List.mem_of_getElem? (i := 262) (by decide +kernel), List.mem_of_getElem? (i := 263) (by decide +kernel)⟩
theorem lw_p14 : lw_okq (⟨"LotTracker", "leaveRoute", "(II)V"⟩, 18) := ⟨⟨by decide +kernel, by decide +kernel⟩, List.mem_of_getElem? (i := 9) (by decide +kernel), List.mem_of_getElem? (i := 268) (by decide +kernel), List.mem_of_getElem? (i := 269) (by decide +kernel)⟩
theorem lw_p15 : lw_okq (⟨"LotTracker", "endProcessing", "(I)V"⟩, 18) := ⟨⟨by decide +kernel, by decide +kernel⟩, List.mem_of_getElem? (i := 9) (by decide +kernel), List.mem_of_getElem? (i := 277) (by decide +kernel), List.mem_of_getElem? (i := 278) (by decide +kernel)⟩
def lw_privs_1 : List (MethodName × Nat) := [(⟨"java/lang/Throwable", "fillInStackTrace", "(I)Ljava/lang/Throwable;"⟩, 6), (⟨"LotTracker", "makeLot", "(IIZII)I"⟩, 18), (⟨"LotTracker", "makeWafer", "(I)V"⟩, 18), (⟨"LotTracker", "putInto", "(II)V"⟩, 18), (⟨"LotTracker", "checkLot", "(I)V"⟩, 18), (⟨"LotTracker", "isLot", "(I)Z"⟩, 18), (⟨"LotTracker", "isReady", "(I)Z"⟩, 18), (⟨"LotTracker", "isFree", "(I)Z"⟩, 18), (⟨"LotTracker", "waitingLeft", "(I)I"⟩, 18), (⟨"LotTracker", "isStep", "(I)Z"⟩, 18), (⟨"LotTracker", "isBusy", "(I)Z"⟩, 18), (⟨"LotTracker", "usesTool", "(II)Z"⟩, 18), (⟨"LotTracker", "moveWafers", "(III)V"⟩, 18), (⟨"LotTracker", "checkWafer", "(I)V"⟩, 18), (⟨"LotTracker", "leaveRoute", "(II)V"⟩, 18), (⟨"LotTracker", "endProcessing", "(I)V"⟩, 18)]
theorem lw_r1 : ∀ q ∈ lw_privs_1, lw_okq q := List.forall_mem_cons.mpr ⟨lw_p0, List.forall_mem_cons.mpr ⟨lw_p1, List.forall_mem_cons.mpr ⟨lw_p2, List.forall_mem_cons.mpr ⟨lw_p3, List.forall_mem_cons.mpr ⟨lw_p4, List.forall_mem_cons.mpr ⟨lw_p5, List.forall_mem_cons.mpr ⟨lw_p6, List.forall_mem_cons.mpr ⟨lw_p7, List.forall_mem_cons.mpr ⟨lw_p8, List.forall_mem_cons.mpr ⟨lw_p9, List.forall_mem_cons.mpr ⟨lw_p10, List.forall_mem_cons.mpr ⟨lw_p11, List.forall_mem_cons.mpr ⟨lw_p12, List.forall_mem_cons.mpr ⟨lw_p13, List.forall_mem_cons.mpr ⟨lw_p14, List.forall_mem_cons.mpr ⟨lw_p15, fun _ h => absurd h List.not_mem_nil⟩⟩⟩⟩⟩⟩⟩⟩⟩⟩⟩⟩⟩⟩⟩⟩
theorem lw_p16 : lw_okq (⟨"LotTracker", "checkStep", "(I)V"⟩, 18) := ⟨⟨by decide +kernel, by decide +kernel⟩, List.mem_of_getElem? (i := 9) (by decide +kernel), List.mem_of_getElem? (i := 359) (by decide +kernel), List.mem_of_getElem? (i := 360) (by decide +kernel)⟩
theorem lw_p17 : lw_okq (⟨"LotTracker", "parentOrNone", "(I)I"⟩, 18) := ⟨⟨by decide +kernel, by decide +kernel⟩, List.mem_of_getElem? (i := 9) (by decide +kernel), List.mem_of_getElem? (i := 375) (by decide +kernel), List.mem_of_getElem? (i := 376) (by decide +kernel)⟩
def lw_privs_2 : List (MethodName × Nat) := [(⟨"LotTracker", "checkStep", "(I)V"⟩, 18), (⟨"LotTracker", "parentOrNone", "(I)I"⟩, 18)]
theorem lw_r2 : ∀ q ∈ lw_privs_2, lw_okq q := List.forall_mem_cons.mpr ⟨lw_p16, List.forall_mem_cons.mpr ⟨lw_p17, fun _ h => absurd h List.not_mem_nil⟩⟩
def lw_privs : List (MethodName × Nat) := lw_privs_1 ++ (lw_privs_2)
def lw_tbl : List Cond := k2_sels lw_privs ++ tables_1
theorem lw_privs_ok : ∀ q ∈ lw_privs, lw_okq q := by
  show ∀ q ∈ lw_privs_1 ++ (lw_privs_2), lw_okq q
  exact List.forall_mem_append.mpr ⟨lw_r1, lw_r2⟩
-- ===== end of PART A; then your names; then what follows =====
/-- wanting in this claim's worlds: the word that an array class over an array type is known -/
def va_AOA (ty : FieldType) (U : State) : Prop := (Cond.arrayOver (.array ty)).before #[] U = true
theorem va_AOA.of {ty : FieldType} {A : Array Value} {U : State} (h : (Cond.arrayOver (.array ty)).before A U = true) : va_AOA ty U := h
theorem va_AOA.use {ty : FieldType} {A : Array Value} {U : State} (h : va_AOA ty U) : (Cond.arrayOver (.array ty)).before A U = true := h
theorem mem_r {big ws : List Cond} (ps : List Nat) (hp : ws = ps.filterMap (fun i => big[i]?)) : ∀ w ∈ ws, w ∈ big := by
  intro w hw
  rw [hp] at hw
  obtain ⟨i, -, hi⟩ := List.mem_filterMap.mp hw
  exact List.mem_of_getElem? hi

/-! ===== BEGIN words of one list among another's, by their places ===== -/
theorem goodIn_r {big : List Cond} (ws : List Cond) (ps : List Nat) (hp : ws = ps.filterMap (fun i => big[i]?)) (h : ws.all goodWord = true) : GoodIn big ws := by
  intro w hw
  have h1 := List.all_eq_true.mp h w hw
  rw [hp] at hw
  obtain ⟨i, -, hi⟩ := List.mem_filterMap.mp hw
  have hm : w ∈ big := by first | exact List.mem_of_getElem? hi | exact List.getElem?_mem hi
  exact ⟨hm, good_of_word h1⟩
theorem goodIn_app {big a b : List Cond} (ha : GoodIn big a) (hb : GoodIn big b) : GoodIn big (a ++ b) := fun w h => (List.mem_append.mp h).elim (ha w) (hb w)
theorem goodIn_ca {big a b : List Cond} {c : Cond} (ha : GoodIn big (c :: a)) (hb : GoodIn big b) : GoodIn big (c :: (a ++ b)) := fun w h => (List.mem_cons.mp h).elim (fun e => ha w (List.mem_cons.mpr (Or.inl e))) (fun h => (List.mem_append.mp h).elim (fun h => ha w (List.mem_cons.mpr (Or.inr h))) (hb w))
theorem goodIn_sub {big ws : List Cond} (hm : ∀ w ∈ ws, w ∈ big) (h : ws.all goodWord = true) : GoodIn big ws := fun w hw => ⟨hm w hw, good_of_word (List.all_eq_true.mp h w hw)⟩
/-! ===== END ===== -/

/-! ===== BEGIN new T[n][m]: the outer array a place, the inner ones among the pooled ===== -/
/-- f, but v at every address of l -/
def vr_up {α : Type} (f : Nat → α) (l : List Nat) (v : α) : Nat → α := fun a => if a ∈ l then v else f a
theorem vr_up_in {α : Type} {f : Nat → α} {l : List Nat} {v : α} {a : Nat} (h : a ∈ l) : vr_up f l v a = v := if_pos h
theorem vr_up_ne {α : Type} {f : Nat → α} {l : List Nat} {v : α} {a : Nat} (h : a ∉ l) : vr_up f l v a = f a := if_neg h
theorem vr_rows {L l : List Nat} {f : Nat → va_E} {e : va_E} (h : ∀ a, a ∈ l → a ∉ L) : va_pl L f ++ l.map (fun a => (a, e)) = va_pl (L ++ l) (vr_up f l e) := by
  unfold va_pl
  rw [List.map_append]
  congr 1
  · apply List.map_congr_left
    intro a ha
    rw [vr_up_ne (fun q => h a q ha)]
  · apply List.map_congr_left
    intro a ha
    rw [vr_up_in ha]
theorem vr_lay {X rows : va_W} {x : Nat × va_E} {pl : va_W} {D : va_G} {cl : List vw_C} {H : Heap} (hP : va_P D cl (((X ++ pl) ++ [x]) ++ rows) H) : va_P D cl ((X ++ [x]) ++ (pl ++ rows)) H := by
  rw [List.append_assoc (X ++ pl)] at hP
  have h := va_P.swap hP
  rw [← List.append_assoc X] at h
  have h2 := va_P.swap h
  rw [List.append_assoc (X ++ [x])] at h2
  exact h2
theorem vr_layD {X rows : va_W} {x : Nat × va_E} {pl : va_W} {A : Nat → Prop} (hD : va_D A (((X ++ pl) ++ [x]) ++ rows)) : va_D A ((X ++ [x]) ++ (pl ++ rows)) := by
  rw [List.append_assoc (X ++ pl)] at hD
  have h := va_D.swap hD
  rw [← List.append_assoc X] at h
  have h2 := va_D.swap h
  rw [List.append_assoc (X ++ [x])] at h2
  exact h2
theorem vr_outer (c : ClassId) (N h0 : Nat) : ∀ i : Nat, Jvm.Free.Multi.outerC c N h0 i = arrV c N (fun j => va_rf (if j < i then some (h0 + 1 + j) else none))
  | 0 => by
    show ({ cls := c, slots := Array.replicate N .null, vm := .none } : Cell) = _
    rw [arrV_new]
    refine congrArg (arrV c N) (funext fun j => ?_)
    simp [va_rf]
  | i + 1 => by
    show (Jvm.Free.Multi.outerC c N h0 i).setSlot i (.ref (h0 + 1 + i)) = _
    rw [vr_outer c N h0 i, arrV_store]
    refine congrArg (arrV c N) (funext fun j => ?_)
    by_cases e : j = i
    · subst e
      simp [updV, va_rf]
    · by_cases h : j < i
      · simp [updV, e, h, Nat.lt_succ_of_lt h]
      · simp [updV, e, h, show ¬ j < i + 1 by omega]
section VGM
variable {p : Program} {l : Launch} {e : Env} {R : Room} {s : State} {m : MethodId} {args : Array Value} {below : List Frame} {meth : Method} {c : Code} {H : Heap} {locs : List Loc} {cells slots : Nat} {Q : State → Prop}
variable {cc : ByteArray} {pc : Nat} {ls : Array Slot} {rest : List Value} {D : va_G} {cl : List vw_C} {A : Nat → Prop} {a : Nat} {tys : List (ClassId × FieldType)} {ws : va_W} {H0 : Heap}
theorem va_mna {X : va_W} {L : List Nat} {f : Nat → va_E} {cc : ByteArray} (hexec : p.tables.exec = Jvm.exec) (hb : c.code = cc) {own : String} {index : Nat} {ty : FieldType} {cy : ClassId} (hown : s.vm.findClass own = some m.cls) (hclink : (Cond.classLink own index ("[" ++ (FieldType.array ty).toString)).before args s = true) (hover : va_AOA ty s) (harr : (Cond.arrayClass ty).before args s = true) (hcy : s.vm.findClass (FieldType.array ty).toString = some cy)
    (hK : va_K D cl tys s) (hP : va_P D cl (X ++ va_pl L f) H) (hD : va_D A (X ++ va_pl L f)) (hS : va_S A H0 H locs) (hA : ∀ q, H0.size ≤ q → A q) {n k : Int32} {N' K' : Nat} {z : vp_A} (hn : ¬ n < 0) (hk : ¬ k < 0) (hN : n.toNatClampNeg = N') (hM : k.toNatClampNeg = K')
    (hb1 : N' * 4 ≤ 536870912) (hb2 : K' * componentBytes ty ≤ 536870912) (hb3 : K' ≤ 536870912) (hdf : fits ty (defaultValue ty) = true) (hdd : (defaultValue ty).isDefault = true) (hcells : cells + (1 + N') ≤ R.cells) (hslots : slots + (N' + N' * K') ≤ R.slots) (hz : ∀ c : ClassId, Jvm.Free.Multi.innerC c K' (defaultValue ty) = vp_cell c z) (hdg : decode cc pc = .ok (.multianewarray index 2, 4))
    (kk : ∀ (q : Nat) (r : Nat → Nat) (cA : ClassId) (H1 : Heap), (∀ i j : Nat, i < N' → j < N' → r i = r j → i = j) → (∀ i : Nat, i < N' → r i ∉ L) → va_K D cl (tys ++ [(cA, .array ty)]) s →
      va_P D cl ((X ++ [(q, .inl (cA, N', .inr (.inr (.inr (.inr (fun i => if i < N' then some (r i) else none))))))]) ++ va_pl (L ++ (List.range N').map r) (vr_up f ((List.range N').map r) (.inl (cy, z)))) H1 → va_D A ((X ++ [(q, .inl (cA, N', .inr (.inr (.inr (.inr (fun i => if i < N' then some (r i) else none))))))]) ++ va_pl (L ++ (List.range N').map r) (vr_up f ((List.range N').map r) (.inl (cy, z)))) → va_S A H0 H1 locs →
      W p l e R s m args below meth c H1 locs (cells + 1 + N') (slots + N' + N' * K') Q (F0 m (pc + 4) ls (.ref q :: rest))) : W p l e R s m args below meth c H locs cells slots Q (F0 m pc ls (.int k :: .int n :: rest)) := by
  subst hN
  subst hM
  intro T hT Xs
  obtain ⟨vm₁, cA, comp, -, fA, fC, hO, -, X', step⟩ := Xs.multianewarray2F hexec hown hclink (va_AOA.use hover) harr (g := F0 m pc ls (.int k :: .int n :: rest)) rfl (by rw [hb]; exact hdg) rfl hn hk hb1 hb2 hb3 hdf hdd hcells hslots
  have ec : some cy = some comp := hcy.symm.trans fC
  cases ec
  generalize hF : Jvm.Free.Multi.fill (T.setVm vm₁) cA cy n.toNatClampNeg k.toNatClampNeg (defaultValue ty) n.toNatClampNeg = F at X' step
  have hTh : (T.setVm vm₁).heap = H := hT
  obtain ⟨f1, f2, -, -⟩ := Jvm.Free.Multi.fill_facts (T.setVm vm₁) cA cy n.toNatClampNeg k.toNatClampNeg (defaultValue ty) n.toNatClampNeg
  rw [hF, hTh] at f1 f2
  have hold : ∀ x : Nat, x < H.size → F.heap[x]? = H[x]? := fun x hx => by
    have := Jvm.Free.Multi.fill_old (T.setVm vm₁) cA cy n.toNatClampNeg k.toNatClampNeg (defaultValue ty) (a := x) (by rw [hTh]; exact hx) n.toNatClampNeg
    rw [hF, hTh] at this
    exact this
  have hrow : ∀ j : Nat, j < n.toNatClampNeg → F.heap[H.size + 1 + j]? = some (vp_cell cy z) := fun j hj => by
    have := Jvm.Free.Multi.fill_inner (T.setVm vm₁) cA cy n.toNatClampNeg k.toNatClampNeg (defaultValue ty) n.toNatClampNeg j hj
    rw [hF, hTh, hz] at this
    exact this
  have hout : Jvm.Free.Multi.outerC cA n.toNatClampNeg H.size n.toNatClampNeg = vp_cell cA (n.toNatClampNeg, .inr (.inr (.inr (.inr (fun i => if i < n.toNatClampNeg then some (H.size + 1 + i) else none))))) := by
    rw [vp_cell_q]
    exact vr_outer cA n.toNatClampNeg H.size n.toNatClampNeg
  rw [hout] at f2
  have hlt : ∀ a, a ∈ L → a < H.size := fun a ha => by
    obtain ⟨k9, hk9⟩ := va_pl_get (X := X) (f := f) ha
    exact (hP k9 _ hk9).lt
  have hnl : ∀ i : Nat, i < n.toNatClampNeg → H.size + 1 + i ∉ L := fun i _ h => by
    have := hlt _ h
    omega
  have hnm : ∀ a, a ∈ (List.range n.toNatClampNeg).map (fun i => H.size + 1 + i) → a ∉ L := fun a ha h => by
    obtain ⟨i, -, rfl⟩ := List.mem_map.mp ha
    have := hlt _ h
    omega
  have hP0 : va_P D cl (X ++ va_pl L f) F.heap := hP.kept (fun k9 x hx => hold x.1 ((hP k9 x hx).lt))
  have hP1 : va_P D cl ((X ++ va_pl L f) ++ [(H.size, .inl (cA, n.toNatClampNeg, .inr (.inr (.inr (.inr (fun i => if i < n.toNatClampNeg then some (H.size + 1 + i) else none))))))]) F.heap := hP0.app (fun k9 x hx => by
    have h0 : k9 < 1 := (List.getElem?_eq_some_iff.mp hx).1
    rw [show k9 = 0 by omega] at hx
    cases hx
    exact f2)
  have hP2 : va_P D cl (((X ++ va_pl L f) ++ [(H.size, .inl (cA, n.toNatClampNeg, .inr (.inr (.inr (.inr (fun i => if i < n.toNatClampNeg then some (H.size + 1 + i) else none))))))]) ++ ((List.range n.toNatClampNeg).map (fun i => H.size + 1 + i)).map (fun a => (a, .inl (cy, z)))) F.heap := hP1.app (fun k9 x hx => by
    obtain ⟨a, ha, rfl⟩ := List.mem_map.mp (List.mem_of_getElem? hx)
    obtain ⟨i, hi, rfl⟩ := List.mem_map.mp ha
    exact hrow i (List.mem_range.mp hi))
  have hD2 : va_D A (((X ++ va_pl L f) ++ [(H.size, .inl (cA, n.toNatClampNeg, .inr (.inr (.inr (.inr (fun i => if i < n.toNatClampNeg then some (H.size + 1 + i) else none))))))]) ++ ((List.range n.toNatClampNeg).map (fun i => H.size + 1 + i)).map (fun a => (a, .inl (cy, z)))) := by
    have hD1 := hD.push (e := .inl (cA, n.toNatClampNeg, .inr (.inr (.inr (.inr (fun i => if i < n.toNatClampNeg then some (H.size + 1 + i) else none)))))) hP rfl (hA _ hS.1)
    generalize hW1 : (X ++ va_pl L f) ++ [(H.size, .inl (cA, n.toNatClampNeg, .inr (.inr (.inr (.inr (fun i => if i < n.toNatClampNeg then some (H.size + 1 + i) else none))))))] = W1 at hD1 hP1 ⊢
    have hle : ∀ (k9 : Nat) (x : Nat × va_E), W1[k9]? = some x → x.1 ≤ H.size := fun k9 x hx => by
      rw [← hW1] at hx
      by_cases hl : k9 < (X ++ va_pl L f).length
      · rw [List.getElem?_append_left hl] at hx
        exact Nat.le_of_lt ((hP k9 x hx).lt)
      · rw [List.getElem?_append_right (by omega)] at hx
        have h0 : k9 - (X ++ va_pl L f).length < 1 := (List.getElem?_eq_some_iff.mp hx).1
        rw [show k9 - (X ++ va_pl L f).length = 0 by omega] at hx
        cases hx
        exact Nat.le_refl _
    have hr : ∀ (k9 : Nat) (x : Nat × va_E), (((List.range n.toNatClampNeg).map (fun i => H.size + 1 + i)).map (fun a => ((a, .inl (cy, z)) : Nat × va_E)))[k9]? = some x → x.1 = H.size + 1 + k9 := fun k9 x hx => by
      rw [List.getElem?_map, List.getElem?_map] at hx
      by_cases h9 : k9 < n.toNatClampNeg
      · rw [List.getElem?_range h9] at hx
        cases hx
        rfl
      · have hn0 : (List.range n.toNatClampNeg)[k9]? = none := List.getElem?_eq_none (by rw [List.length_range]; omega)
        rw [hn0] at hx
        cases hx
    refine ⟨fun i j x y hi hj hxy => ?_, fun k9 x hx => ?_⟩
    · by_cases h1 : i < W1.length <;> by_cases h2 : j < W1.length
      · rw [List.getElem?_append_left h1] at hi
        rw [List.getElem?_append_left h2] at hj
        exact hD1.1 i j x y hi hj hxy
      · rw [List.getElem?_append_left h1] at hi
        rw [List.getElem?_append_right (by omega)] at hj
        have := hle _ _ hi
        have := hr _ _ hj
        omega
      · rw [List.getElem?_append_right (by omega)] at hi
        rw [List.getElem?_append_left h2] at hj
        have := hle _ _ hj
        have := hr _ _ hi
        omega
      · rw [List.getElem?_append_right (by omega)] at hi hj
        have := hr _ _ hi
        have := hr _ _ hj
        omega
    · by_cases h1 : k9 < W1.length
      · rw [List.getElem?_append_left h1] at hx
        exact hD1.2 k9 x hx
      · rw [List.getElem?_append_right (by omega)] at hx
        have := hr _ _ hx
        exact hA _ (by have := hS.1; omega)
  have hAr : ArrOfT s cA (.array ty) := fun N9 z9 => by
    obtain ⟨-, k9, hk9, cm9, hkk9⟩ := (hO 0 0 0).1
    exact ⟨(fun q hq => by cases hq), k9, hk9, cm9, hkk9⟩
  have hK2 : va_K D cl (tys ++ [(cA, .array ty)]) s := ⟨hK.1, fun k9 x hx => by
    by_cases hl : k9 < tys.length
    · rw [List.getElem?_append_left hl] at hx
      exact hK.2 k9 x hx
    · rw [List.getElem?_append_right (by omega)] at hx
      have h0 : k9 - tys.length < 1 := (List.getElem?_eq_some_iff.mp hx).1
      rw [show k9 - tys.length = 0 by omega] at hx
      cases hx
      exact ⟨hAr, fA⟩⟩
  obtain ⟨t, a1, b1⟩ := kk H.size (fun i => H.size + 1 + i) cA F.heap (fun i j _ _ h => by have h9 : H.size + 1 + i = H.size + 1 + j := h; omega) hnl hK2 (by rw [← vr_rows hnm]; exact vr_lay hP2) (by rw [← vr_rows hnm]; exact vr_layD hD2) ⟨by rw [f1]; have := hS.1; omega, fun x h1 h2 => (hold x (Nat.lt_of_lt_of_le h1 hS.1)).trans (hS.2.1 x h1 h2), hS.2.2⟩ F rfl X'
  refine ⟨t, step t ?_, b1⟩
  have e : T.heap.size = H.size := by rw [hT]
  rw [e]
  exact a1
end VGM
/-! ===== END ===== -/

/-! ===== BEGIN exceptions that leave a method, and their catching by the caller (launches without stack traces) ===== -/
section VXA
/-! The laws vx_back, vx_callV, vx_callS, vx_callSW, vx_throw0, vx_throwS follow proofs of the library, with one case more: JvmDerived/Free/Laws.lean (Back.of_free), Shelf42/LK1.lean (callV, callS), Shelf/KitTraced.lean (throwNew0V, throwNewS). -/
/-- where a method has thrown q: the class by its name, the cell, what was written, the world -/
def vx_T (XC : String → State → State → Prop) (st : State) (q : Addr) (t : State) (mc ms : Nat) (free : Addr → Prop) : Prop :=
  ∃ (E : String) (ce : Cell) (L : List Loc), XC E st t ∧ t.heap[q]? = some ce ∧ ce.vm = .none ∧ st.vm.findClass E = some ce.cls ∧ st.WarmedH t.vm ∧ st.sameButNew ({ t with vm := st.vm } : State) L mc ms ∧ ∀ z ∈ L, free z.base
def vx_Q (Qc : Array Value → State → Outcome → State → Prop) (XC : String → State → State → Prop) (mc ms : Nat) (free : Addr → Prop) : Array Value → State → Outcome → State → Prop := fun a st o t =>
  (Qc a st o t ∧ ∃ L, FrameEnd st o t L mc ms ∧ ∀ q ∈ L, free q.base) ∨ ∃ q, o = .threw q ∧ vx_T XC st q t mc ms free
/-- a callee that returns or throws -/
def vx_Met (l : Launch) (y : MethodName) (ws : List Cond) (rm : Room) (Pc : Array Value → State → Prop) (Qc : Array Value → State → Outcome → State → Prop) (XC : String → State → State → Prop) (mc ms : Nat) (free : Addr → Prop) : Prop :=
  MetFree l y (headSpec ws rm) Pc (fun _ _ _ _ _ => True) (vx_Q Qc XC mc ms free)
def vx_Post (XC : String → State → State → Prop) (mc ms : Nat) (free : Addr → Prop) : Pt → Array Value → Addr → Pt → Prop := fun A a q B =>
  ∃ (g : JFrame) (mk : MethodId) (t : State) (L : List Loc) (E : String) (ce : Cell), B.U.heap = t.heap ∧ B.U.vm = t.vm ∧ XC E (A.U.calling g mk a) t ∧ t.heap[q]? = some ce ∧ ce.vm = .none ∧ A.U.vm.findClass E = some ce.cls ∧ B.locs = A.locs ++ L ∧ (∀ z ∈ L, free z.base) ∧ B.cells = A.cells + mc ∧ B.slots = A.slots + ms
def vx_Back (l : Launch) (R : Room) (p : Program) (e : Env) (below : List Frame) (s : State) (sargs : Array Value) (y : MethodName) (len W9 : Nat)
    (Pre : Pt → Array Value → Prop) (Post : Pt → Array Value → Option Value → Pt → Prop) (PostX : Pt → Array Value → Addr → Pt → Prop) : Prop :=
  ∀ (m : MethodId) (meth : Method) (c : Code) (A : Pt) (g : JFrame) (ig : Instr) (mk : MethodId) (a : Array Value),
    Stand p l e R s m sargs below meth c A.U A.locs A.cells A.slots → g.method = m → g.locals.size = c.maxLocals → decode c.code g.pc = .ok (ig, len) →
    2 * g.monitorRoom + (g.stack.map fun v => v.category).sum ≤ W9 → A.U.methodNamed? y = some mk → Pre A a →
    (∃ (v : Option Value) (B : Pt), Stand p l e R s m sargs below meth c B.U B.locs B.cells B.slots ∧ Post A a v B ∧
      Steps p.tables e below (doInvoke e (A.U.setTop g) [] mk a).1 (B.U.setTop { g with pc := g.pc + len, stack := v.toList ++ g.stack })) ∨
    (∃ (q : Addr) (B : Pt), Stand p l e R s m sargs below meth c B.U B.locs B.cells B.slots ∧ PostX A a q B ∧
      Steps p.tables e below (doInvoke e (A.U.setTop g) [] mk a).1 ((B.U.setTop g).pushFrame (.throwing q)))
section Payer
variable {l : Launch} {R : Room} {p : Program} {e : Env} {below : List Frame} {s : State} {sargs : Array Value} {y : MethodName} {len W9 : Nat}
theorem vx_back {ws : List Cond} {rm : Room} {Pc : Array Value → State → Prop} {Qc : Array Value → State → Outcome → State → Prop} {XC : String → State → State → Prop} {mc ms : Nat} {free : Addr → Prop} {bytes : ByteArray} {maxL : Nat} {ret : Option FieldType}
    (hM : vx_Met l y ws rm Pc Qc XC mc ms free) (hblind : FrameBlind Pc) (hrc : rm.cells = mc) (hrs : rm.slots = ms)
    (hframes : rm.frames + 1 ≤ R.frames) (hlocals : W9 + (maxL + 11) + rm.locals ≤ R.locals)
    (hws : ∀ w ∈ ws, ∀ a' U, s.WarmedH U.vm → w.before a' U = true) (hcode : Cond.code y bytes maxL ret ∈ ws) (hinit : ∀ a' U, s.WarmedH U.vm → (Cond.initialized y.cls).before a' U = true) :
    vx_Back l R p e below s sargs y len W9 (PreOf R mc ms Pc) (PostOf Qc mc ms free) (vx_Post XC mc ms free) := by
  intro m meth c A g ig mk a X hg hsize hdg hW hn hp
  have h1 : (headSpec ws rm).pre.before a A.U = true := atoms_intro fun w hw => hws w hw _ _ X.warmed
  have h2 : (Cond.code y bytes maxL ret).before a A.U = true := hws _ hcode _ _ X.warmed
  have h3 : (Cond.initialized y.cls).before a A.U = true := hinit _ _ X.warmed
  have h4 : A.cells + (headSpec ws rm).room.cells ≤ R.cells := by rw [show (headSpec ws rm).room.cells = mc from hrc]; exact hp.1
  have h5 : A.slots + (headSpec ws rm).room.slots ≤ R.slots := by rw [show (headSpec ws rm).room.slots = ms from hrs]; exact hp.2.1
  have hPc : Pc a (A.U.calling g mk a) := hblind _ _ _ _ hp.2.2
  obtain ⟨U, Ls, c0, s0⟩ := A
  dsimp only [Pt.U, Pt.locs, Pt.cells, Pt.slots] at h1 h2 h3 h4 h5 X hn hPc ⊢
  obtain ⟨methY, cY, hmY, hcY, -, hlY, -, -, -, -⟩ := Cond.code_spec hn h2
  obtain ⟨kY, hkY, -⟩ := className_of_methodNamed hn
  have hinitY : kY.init = .initialized := Cond.initialized_spec (findClass_of_methodNamed hn) hkY h3
  have h : At U g.method c below := by rw [hg]; exact X.here
  have hlocals9 : W9 + (maxL + 11) + (headSpec ws rm).room.locals ≤ R.locals := hlocals
  have happ : (headSpec ws rm).appliesLoose y e.platform (U.calling g mk a) = true :=
    Spec.appliesLoose_calling (g := g) h hdg hn hkY hinitY
      (X.room_calling (g := g) (R' := (headSpec ws rm).room) hsize hmY hcY hframes (by rw [hlY]; omega) h4 h5) h1
  obtain ⟨mid, hmid⟩ := h.above
  have hfr : (U.setTop g).frames = (.java g :: mid) ++ below := by rw [State.frames_setTop' g h.top, hmid]; rfl
  obtain ⟨o, s₂, hsteps, -, hend, hq⟩ := Steps.callFree hM p X.admits X.cas X.clock (acts := []) hfr happ hPc trivial
  have hq' : vx_Q Qc XC mc ms free a (U.calling g mk a) o s₂ := hq
  rw [State.frames_setTop' g h.top] at hend
  obtain ⟨g₀, hg0⟩ := Option.isSome_iff_exists.mp h.top
  obtain ⟨r, hr⟩ := State.topJava?_eq_some.mp hg0
  have hr' : (({ U with heap := s₂.heap, slotsUsed := s₂.slotsUsed } : State).setVm s₂.vm).frames = .java g₀ :: r := hr
  rcases hq' with ⟨hqc, L, hfe, hL⟩ | ⟨q, rfl, E, ce, L, hx, hce, hcv, hcl, hW₂, hsm, hL⟩
  · obtain ⟨⟨v, rfl⟩, hW₂, e2, q2, q3, q4, q5, q6⟩ := id hfe
    have e3 : s₂ = ({ (U.calling g mk a).setFrames s₂.frames with heap := s₂.heap, slotsUsed := s₂.slotsUsed } : State).setVm s₂.vm := by
      have : s₂ = ({ s₂ with vm := (U.calling g mk a).vm } : State).setVm s₂.vm := rfl
      rw [e2] at this
      exact this
    obtain ⟨c₂, i₂, len₂, hc₂, hd₂, hf₂⟩ := hend
    have hW' : U.WarmedH s₂.vm := hW₂
    have hcc : c₂ = c := by
      have h1 : s₂.code? g.method = U.code? g.method := by
        rw [State.code?_eq, State.code?_eq, hW'.alike.method?]
      exact Option.some.inj (hc₂.symm.trans (h1.trans h.code))
    subst hcc
    have hlen : len₂ = len := by rw [hdg] at hd₂; cases hd₂; rfl
    subst hlen
    have hs₂ : s₂ = (({ U with heap := s₂.heap, slotsUsed := s₂.slotsUsed } : State).setVm s₂.vm).setTop { g with pc := g.pc + len₂, stack := v.toList ++ g.stack } := by
      refine e3.trans ?_
      rw [hf₂, State.calling_eq h.top, State.setFrames_setFrames, State.setTop_of_frames _ hr', hr]
      rfl
    have hsame : U.sameButNew ({ U with heap := s₂.heap, slotsUsed := s₂.slotsUsed } : State) L mc ms := by
      refine ⟨?_, q2, q3, q4, q5, q6⟩
      obtain ⟨t, ht, -⟩ := State.frames_cons hr
      show ({ U with heap := s₂.heap, slotsUsed := s₂.slotsUsed } : State) = { U.setFrames U.frames with heap := s₂.heap, slotsUsed := s₂.slotsUsed }
      rw [State.setFrames_self ht]
    subst hg
    refine Or.inl ⟨v, ⟨(({ U with heap := s₂.heap, slotsUsed := s₂.slotsUsed } : State).setVm s₂.vm), Ls ++ L, c0 + mc, s0 + ms⟩,
      ⟨X.admits, X.cas, X.clock, X.frames, X.room, X.hears, X.method, X.code, (X.here.setHeapUsed s₂.heap s₂.slotsUsed).setVm hW'.alike, X.tail, State.WarmedH.trans X.warmed hW', X.limits, X.bytes, X.same.trans (hsame.setVm s.vm)⟩,
      ⟨g, mk, s₂, L, rfl, rfl, hqc, rfl, hL, rfl, rfl⟩, ?_⟩
    show Steps p.tables e below _ ((({ U with heap := s₂.heap, slotsUsed := s₂.slotsUsed } : State).setVm s₂.vm).setTop { g with pc := g.pc + len₂, stack := v.toList ++ g.stack })
    rw [← hs₂]
    exact hsteps
  · obtain ⟨e2, q2, q3, q4, q5, q6⟩ := id hsm
    have e3 : s₂ = ({ (U.calling g mk a).setFrames s₂.frames with heap := s₂.heap, slotsUsed := s₂.slotsUsed } : State).setVm s₂.vm := by
      have : s₂ = ({ s₂ with vm := (U.calling g mk a).vm } : State).setVm s₂.vm := rfl
      rw [e2] at this
      exact this
    have hf₂ : s₂.frames = .throwing q :: .java g :: U.frames.tail := hend
    have hW' : U.WarmedH s₂.vm := hW₂
    have hs₂ : s₂ = ((({ U with heap := s₂.heap, slotsUsed := s₂.slotsUsed } : State).setVm s₂.vm).setTop g).pushFrame (.throwing q) := by
      refine e3.trans ?_
      rw [hf₂, State.calling_eq h.top, State.setFrames_setFrames, State.pushFrame, State.frames_setTop _ hr', State.setTop_of_frames _ hr', State.setFrames_setFrames, hr]
      rfl
    have hsame : U.sameButNew ({ U with heap := s₂.heap, slotsUsed := s₂.slotsUsed } : State) L mc ms := by
      refine ⟨?_, q2, q3, q4, q5, q6⟩
      obtain ⟨t, ht, -⟩ := State.frames_cons hr
      show ({ U with heap := s₂.heap, slotsUsed := s₂.slotsUsed } : State) = { U.setFrames U.frames with heap := s₂.heap, slotsUsed := s₂.slotsUsed }
      rw [State.setFrames_self ht]
    subst hg
    refine Or.inr ⟨q, ⟨(({ U with heap := s₂.heap, slotsUsed := s₂.slotsUsed } : State).setVm s₂.vm), Ls ++ L, c0 + mc, s0 + ms⟩,
      ⟨X.admits, X.cas, X.clock, X.frames, X.room, X.hears, X.method, X.code, (X.here.setHeapUsed s₂.heap s₂.slotsUsed).setVm hW'.alike, X.tail, State.WarmedH.trans X.warmed hW', X.limits, X.bytes, X.same.trans (hsame.setVm s.vm)⟩,
      ⟨g, mk, s₂, L, E, ce, rfl, rfl, hx, hce, hcv, hcl, rfl, hL, rfl, rfl⟩, ?_⟩
    show Steps p.tables e below _ (((({ U with heap := s₂.heap, slotsUsed := s₂.slotsUsed } : State).setVm s₂.vm).setTop g).pushFrame (.throwing q))
    rw [← hs₂]
    exact hsteps
end Payer
section Calls
variable {p : Program} {l : Launch} {e : Env} {R : Room} {s : State} {m : MethodId} {args : Array Value} {below : List Frame} {meth : Method} {c : Code} {T : State} {locs : List Loc} {cells slots : Nat}
theorem vx_callV (X : Stand p l e R s m args below meth c T locs cells slots) (hexec : p.tables.exec = Jvm.exec) {own C : String} {index : Nat} {y : MethodName} {bytes : ByteArray} {maxL : Nat} {ret : Option FieldType}
    (hown : s.vm.findClass own = some m.cls) (hlink : (Cond.methodLink own index y).before args s = true) (hinst : (Cond.instanceMethod y).before args s = true) (hsel : (Cond.selects C y y).before args s = true)
    (hcode : (Cond.code y bytes maxL ret).before args s = true) (hy : y.cls ≠ "java/lang/invoke/MethodHandle" ∧ y.cls ≠ "java/lang/invoke/VarHandle")
    {W9 : Nat} {Pre : Pt → Array Value → Prop} {Post : Pt → Array Value → Option Value → Pt → Prop} {PostX : Pt → Array Value → Addr → Pt → Prop} (hK : vx_Back l R p e below s args y 3 W9 Pre Post PostX)
    {b : Addr} {cellB : Cell} (hcell : T.heap[b]? = some cellB) (hobj : cellB.vm.isStatics = false) (hcls : s.vm.findClass C = some cellB.cls)
    {g : JFrame} (hg : g.method = m) (hsize : g.locals.size = c.maxLocals) {argsL rest : List Value} (hlen : ∀ sig, parseMethodDescriptor y.desc = some sig → argsL.length = sig.parameters.length)
    (hstack : g.stack = argsL.reverse ++ .ref b :: rest) (hW : 2 * g.monitorRoom + (rest.map fun v => v.category).sum ≤ W9) (hdg : decode c.code g.pc = .ok (.invokevirtual index, 3))
    (hpre : ∀ vm₁, s.WarmedH vm₁ → Pre ⟨T.setVm vm₁, locs, cells, slots⟩ (Value.ref b :: argsL).toArray) :
    (∃ (v : Option Value) (vm₁ : Vm) (B : Pt), s.WarmedH vm₁ ∧ Stand p l e R s m args below meth c B.U B.locs B.cells B.slots ∧ Post ⟨T.setVm vm₁, locs, cells, slots⟩ (Value.ref b :: argsL).toArray v B ∧
      ∀ target, Steps p.tables e below (B.U.setTop { g with pc := g.pc + 3, stack := v.toList ++ rest }) target → Steps p.tables e below (T.setTop g) target) ∨
    (∃ (q : Addr) (vm₁ : Vm) (B : Pt), s.WarmedH vm₁ ∧ Stand p l e R s m args below meth c B.U B.locs B.cells B.slots ∧ PostX ⟨T.setVm vm₁, locs, cells, slots⟩ (Value.ref b :: argsL).toArray q B ∧
      Steps p.tables e below (T.setTop g) ((B.U.setTop { g with stack := rest }).pushFrame (.throwing q))) := by
  obtain ⟨mk, methM, hnamed, hmethM, hstM, habM⟩ := Cond.instanceMethod_spec hinst
  obtain ⟨methM', cM, hmethM', -, -, -, -, -, -, hsigM⟩ := Cond.code_spec hnamed hcode
  cases hmethM.symm.trans hmethM'
  obtain ⟨c2, r2, m2, q1, q2, q3, q4, kP, hkP, hkPi⟩ := Cond.selects_spec hsel
  cases hcls.symm.trans q1
  cases (State.methodFound?_of_named hnamed hy).symm.trans q2
  cases hnamed.symm.trans q3
  have hselP : selectMethod e.platform s.vm cellB.cls mk = .method mk := by rw [Launch.admits_selectMethod X.admits]; exact q4
  obtain ⟨vm₁, X₁, hstep₁⟩ := X.invokevirtual hexec hown hlink hnamed hmethM hstM hkP hkPi hy (a := b) (cell := cellB) hcell
    (fun z h => by rw [h] at hobj; cases hobj) hselP hmethM habM hkP hkPi (g := g) hg (argsL := argsL) (rest := rest) (hlen _ hsigM) hstack hdg
  rcases hK m meth c ⟨T.setVm vm₁, locs, cells, slots⟩ { g with stack := rest } (.invokevirtual index) mk (Value.ref b :: argsL).toArray X₁ hg hsize hdg hW (X₁.named hnamed) (hpre vm₁ X₁.warmed) with ⟨v, B, X', hpost, hsteps⟩ | ⟨q, B, X', hpost, hsteps⟩
  · exact Or.inl ⟨v, vm₁, B, X₁.warmed, X', hpost, fun target h => hstep₁ _ fun acts => by rw [doInvoke_state]; exact hsteps.trans h⟩
  · exact Or.inr ⟨q, vm₁, B, X₁.warmed, X', hpost, hstep₁ _ fun acts => by rw [doInvoke_state]; exact hsteps⟩
theorem vx_callS (X : Stand p l e R s m args below meth c T locs cells slots) (hexec : p.tables.exec = Jvm.exec) {own : String} {index : Nat} {y : MethodName} {bytes : ByteArray} {maxL : Nat} {ret : Option FieldType}
    (hown : s.vm.findClass own = some m.cls) (hlink : (Cond.methodLink own index y).before args s = true) (hstat : (Cond.static y).before args s = true) (hinit : (Cond.initialized y.cls).before args s = true)
    (hcode : (Cond.code y bytes maxL ret).before args s = true) (hy : y.cls ≠ "java/lang/invoke/MethodHandle" ∧ y.cls ≠ "java/lang/invoke/VarHandle")
    {W9 : Nat} {Pre : Pt → Array Value → Prop} {Post : Pt → Array Value → Option Value → Pt → Prop} {PostX : Pt → Array Value → Addr → Pt → Prop} (hK : vx_Back l R p e below s args y 3 W9 Pre Post PostX)
    {g : JFrame} (hg : g.method = m) (hsize : g.locals.size = c.maxLocals) {argsL rest : List Value} (hlen : ∀ sig, parseMethodDescriptor y.desc = some sig → argsL.length = sig.parameters.length)
    (hstack : g.stack = argsL.reverse ++ rest) (hW : 2 * g.monitorRoom + (rest.map fun v => v.category).sum ≤ W9) (hdg : decode c.code g.pc = .ok (.invokestatic index, 3))
    (hpre : ∀ vm₁, s.WarmedH vm₁ → Pre ⟨T.setVm vm₁, locs, cells, slots⟩ argsL.toArray) :
    (∃ (v : Option Value) (vm₁ : Vm) (B : Pt), s.WarmedH vm₁ ∧ Stand p l e R s m args below meth c B.U B.locs B.cells B.slots ∧ Post ⟨T.setVm vm₁, locs, cells, slots⟩ argsL.toArray v B ∧
      ∀ target, Steps p.tables e below (B.U.setTop { g with pc := g.pc + 3, stack := v.toList ++ rest }) target → Steps p.tables e below (T.setTop g) target) ∨
    (∃ (q : Addr) (vm₁ : Vm) (B : Pt), s.WarmedH vm₁ ∧ Stand p l e R s m args below meth c B.U B.locs B.cells B.slots ∧ PostX ⟨T.setVm vm₁, locs, cells, slots⟩ argsL.toArray q B ∧
      Steps p.tables e below (T.setTop g) ((B.U.setTop { g with stack := rest }).pushFrame (.throwing q))) := by
  obtain ⟨mk, hnamed⟩ := Cond.code_named hcode
  obtain ⟨methM, cM, hmethM, -, -, -, -, -, -, hsigM⟩ := Cond.code_spec hnamed hcode
  have hstatic : methM.isStatic = true := Cond.static_spec hnamed hmethM hstat
  obtain ⟨kP, hkP, -⟩ := className_of_methodNamed hnamed
  have hinitP : kP.init = .initialized := Cond.initialized_spec (findClass_of_methodNamed hnamed) hkP hinit
  obtain ⟨vm₁, X₁, hstep₁⟩ := X.invokestatic hexec hown hlink hnamed hmethM hstatic hkP hinitP hy (g := g) hg (argsL := argsL) (rest := rest) (hlen _ hsigM) hstack hdg
  rcases hK m meth c ⟨T.setVm vm₁, locs, cells, slots⟩ { g with stack := rest } (.invokestatic index) mk argsL.toArray X₁ hg hsize hdg hW (X₁.named hnamed) (hpre vm₁ X₁.warmed) with ⟨v, B, X', hpost, hsteps⟩ | ⟨q, B, X', hpost, hsteps⟩
  · exact Or.inl ⟨v, vm₁, B, X₁.warmed, X', hpost, fun target h => hstep₁ _ fun acts => by rw [doInvoke_state]; exact hsteps.trans h⟩
  · exact Or.inr ⟨q, vm₁, B, X₁.warmed, X', hpost, hstep₁ _ fun acts => by rw [doInvoke_state]; exact hsteps⟩
end Calls
theorem vx_cls {s : State} {T : State} {vm₁ : Vm} {E : String} {k : ClassId} (hW : s.WarmedH vm₁) (h : (T.setVm vm₁).vm.findClass E = some k) : s.vm.findClass E = some k := by
  have h1 : vm₁.findClass E = some k := h
  rw [hW.alike.findClass] at h1
  exact h1
/-- the method's frame g, with q thrown over it -/
def vx_W (p : Program) (l : Launch) (e : Env) (R : Room) (s : State) (m : MethodId) (args : Array Value) (below : List Frame) (meth : Method) (c : Code) (H : Heap) (locs : List Loc) (cells slots : Nat) (Q : State → Prop) (g : JFrame) (q : Addr) : Prop :=
  ∀ T : State, T.heap = H → Stand p l e R s m args below meth c T locs cells slots → ∃ t, Steps p.tables e below ((T.setTop g).pushFrame (.throwing q)) t ∧ Q t
def vx_Run (p : Program) (l : Launch) (e : Env) (R : Room) (s : State) (m : MethodId) (args : Array Value) (below : List Frame) (meth : Method) (c : Code) (H : Heap) (locs : List Loc) (cells slots mc ms : Nat) (g : JFrame) (rest : List Value) (Qa : State → Outcome → State → Prop) (XC : String → State → State → Prop) (free : Addr → Prop) : Prop :=
  ∀ T : State, T.heap = H → Stand p l e R s m args below meth c T locs cells slots →
    (∃ (v : Option Value) (st₀ t T' : State) (L : List Loc), st₀.heap = H ∧ Stand p l e R s m args below meth c T' (locs ++ L) (cells + mc) (slots + ms) ∧ (∀ q ∈ L, free q.base) ∧ T'.heap = t.heap ∧ T'.vm = t.vm ∧ Qa st₀ (.returned v) t ∧
      Goes p e below T g T' { g with pc := g.pc + 3, stack := v.toList ++ rest }) ∨
    (∃ (q : Addr) (st₀ t T' : State) (L : List Loc) (E : String) (ce : Cell), st₀.heap = H ∧ Stand p l e R s m args below meth c T' (locs ++ L) (cells + mc) (slots + ms) ∧ (∀ z ∈ L, free z.base) ∧ T'.heap = t.heap ∧ T'.vm = t.vm ∧ XC E st₀ t ∧ t.heap[q]? = some ce ∧ ce.vm = .none ∧ s.vm.findClass E = some ce.cls ∧
      Steps p.tables e below (T.setTop g) ((T'.setTop { g with stack := rest }).pushFrame (.throwing q)))
def vx_X {S : Type} (px : S → Prop) (B : String → S → State → Prop) (A : Nat → Prop) : String → State → State → Prop := fun E st t => ∃ u : S, px u ∧ B E u t ∧ va_F A st t
section Runs
variable {p : Program} {l : Launch} {e : Env} {R : Room} {s : State} {m : MethodId} {args : Array Value} {below : List Frame} {meth : Method} {c : Code} {H : Heap} {locs : List Loc} {cells slots : Nat}
variable {y : MethodName} {bytes cc : ByteArray} {maxL nL mc ms n index : Nat} {ret : Option FieldType} {ws : List Cond} {rm : Room} {Pc : Array Value → State → Prop} {Qc : Array Value → State → Outcome → State → Prop} {XC : String → State → State → Prop} {free : Addr → Prop} {Ts : List Cond} {own C : String} {b : Addr} {As rest : List Value} {g : JFrame}
theorem vx_callBack (cb : CallB R s args own index y bytes maxL ret ws rm mc ms n) (hM : vx_Met l y ws rm Pc Qc XC mc ms free) (hbl : FrameBlind Pc) : vx_Back l R p e below s args y 3 8 (PreOf R mc ms Pc) (PostOf Qc mc ms free) (vx_Post XC mc ms free) := by
  obtain ⟨hrc, hrs, hfr, hlo, hws, hcw, -, hini, -⟩ := cb
  exact vx_back (bytes := bytes) (maxL := maxL) (ret := ret) hM hbl hrc hrs hfr hlo hws hcw (fun a' U hW => word_at hW (Or.inl (by first | rfl | simp [Cond.onTables, Cond.keeps, Cond.steady])) hini)
theorem vx_runV (S : CallFix p m c cc nL s args Ts own) (hM : vx_Met l y ws rm Pc Qc XC mc ms free) (cw : CallW R s args own C index y bytes maxL ret ws rm mc ms n) (hp : PreV s H C b Pc As)
    (hg : g.method = m) (hn : As.length = n) (hsize : g.locals.size = nL) (hstack : g.stack = As.reverse ++ .ref b :: rest) (hW : 2 * g.monitorRoom + (rest.map fun v => v.category).sum ≤ 8) (hdg : decode cc g.pc = .ok (.invokevirtual index, 3)) (hf : cells + mc ≤ R.cells ∧ slots + ms ≤ R.slots) :
    vx_Run p l e R s m args below meth c H locs cells slots mc ms g rest (Qc (Value.ref b :: As).toArray) XC free := by
  have hK : vx_Back l R p e below s args y 3 8 (PreOf R mc ms Pc) (PostOf Qc mc ms free) (vx_Post XC mc ms free) := vx_callBack cw.1 hM hp.1
  obtain ⟨⟨-, -, -, -, -, -, hcode, -, hy, hlen, hl⟩, hin, hse⟩ := cw
  obtain ⟨hx, hb, hml, ho, -⟩ := S
  obtain ⟨-, ⟨cellB, hcB, hoB, hclB⟩, hPc⟩ := hp
  intro T hT X
  rcases vx_callV X hx (C := C) (bytes := bytes) (maxL := maxL) (ret := ret) ho hl hin hse hcode hy hK (by rw [hT]; exact hcB) hoB hclB hg (hsize.trans hml.symm) (argsL := As) (rest := rest) (fun sig h => hn.trans (hlen sig h)) hstack hW (by rw [hb]; exact hdg)
    (fun vm₁ hW₁ => ⟨hf.1, hf.2, hPc (T.setVm vm₁) hT hW₁⟩) with ⟨v, vm₁, ⟨U', l2, c2, s2⟩, hW₁, X', ⟨g', mk, t, L, e1, e2, hq, h1, hL, h2, h3⟩, st⟩ | ⟨q, vm₁, ⟨U', l2, c2, s2⟩, hW₁, X', ⟨g', mk, t, L, E, ce, e1, e2, hq, hce, hcv, hcl, h1, hL, h2, h3⟩, st⟩
  · dsimp only [Pt.U, Pt.locs, Pt.cells, Pt.slots] at X' e1 e2 h1 h2 h3 st
    subst h1; subst h2; subst h3
    exact Or.inl ⟨v, (T.setVm vm₁).calling g' mk (Value.ref b :: As).toArray, t, U', L, hT, X', hL, e1, e2, hq, st⟩
  · dsimp only [Pt.U, Pt.locs, Pt.cells, Pt.slots] at X' e1 e2 h1 h2 h3 st hcl
    subst h1; subst h2; subst h3
    exact Or.inr ⟨q, (T.setVm vm₁).calling g' mk (Value.ref b :: As).toArray, t, U', L, E, ce, hT, X', hL, e1, e2, hq, hce, hcv, vx_cls hW₁ hcl, st⟩
theorem vx_runS (S : CallFix p m c cc nL s args Ts own) (hM : vx_Met l y ws rm Pc Qc XC mc ms free) (cw : CallB R s args own index y bytes maxL ret ws rm mc ms n ∧ (Cond.static y).before args s = true) (hp : PreS s H Pc As)
    (hg : g.method = m) (hn : As.length = n) (hsize : g.locals.size = nL) (hstack : g.stack = As.reverse ++ rest) (hW : 2 * g.monitorRoom + (rest.map fun v => v.category).sum ≤ 8) (hdg : decode cc g.pc = .ok (.invokestatic index, 3)) (hf : cells + mc ≤ R.cells ∧ slots + ms ≤ R.slots) :
    vx_Run p l e R s m args below meth c H locs cells slots mc ms g rest (Qc As.toArray) XC free := by
  have hK : vx_Back l R p e below s args y 3 8 (PreOf R mc ms Pc) (PostOf Qc mc ms free) (vx_Post XC mc ms free) := vx_callBack cw.1 hM hp.1
  obtain ⟨⟨-, -, -, -, -, -, hcode, hini, hy, hlen, hl⟩, hstt⟩ := cw
  obtain ⟨hx, hb, hml, ho, -⟩ := S
  intro T hT X
  rcases vx_callS X hx (bytes := bytes) (maxL := maxL) (ret := ret) ho hl hstt hini hcode hy hK hg (hsize.trans hml.symm) (argsL := As) (rest := rest) (fun sig h => hn.trans (hlen sig h)) hstack hW (by rw [hb]; exact hdg)
    (fun vm₁ hW₁ => ⟨hf.1, hf.2, hp.2 (T.setVm vm₁) hT hW₁⟩) with ⟨v, vm₁, ⟨U', l2, c2, s2⟩, hW₁, X', ⟨g', mk, t, L, e1, e2, hq, h1, hL, h2, h3⟩, st⟩ | ⟨q, vm₁, ⟨U', l2, c2, s2⟩, hW₁, X', ⟨g', mk, t, L, E, ce, e1, e2, hq, hce, hcv, hcl, h1, hL, h2, h3⟩, st⟩
  · dsimp only [Pt.U, Pt.locs, Pt.cells, Pt.slots] at X' e1 e2 h1 h2 h3 st
    subst h1; subst h2; subst h3
    exact Or.inl ⟨v, (T.setVm vm₁).calling g' mk As.toArray, t, U', L, hT, X', hL, e1, e2, hq, st⟩
  · dsimp only [Pt.U, Pt.locs, Pt.cells, Pt.slots] at X' e1 e2 h1 h2 h3 st hcl
    subst h1; subst h2; subst h3
    exact Or.inr ⟨q, (T.setVm vm₁).calling g' mk As.toArray, t, U', L, E, ce, hT, X', hL, e1, e2, hq, hce, hcv, vx_cls hW₁ hcl, st⟩
end Runs
section Rows
variable {p : Program} {l : Launch} {e : Env} {R : Room} {s : State} {m : MethodId} {args : Array Value} {below : List Frame} {meth : Method} {c : Code} {H : Heap} {locs : List Loc} {cells slots : Nat} {Q : State → Prop}
variable {mc ms : Nat} {free : Addr → Prop} {A0 A1 : Nat → Prop} {H0 : Heap} {a : Array Value} {pc : Nat} {ls : Array Slot} {st0 rest : List Value}
theorem vx_keep {st₀ t T' : State} {L : List Loc} (h0 : st₀.heap = H) (e1 : T'.heap = t.heap) (hS : va_S A0 H0 H locs) (hA : ∀ q, q < H.size → A1 q → A0 q) (hf : ∀ q, free q → A0 q) (hL : ∀ q ∈ L, free q.base) (hF : va_F A1 st₀ t) :
    H.size ≤ T'.heap.size ∧ (∀ q : Nat, q < H.size → ¬ A1 q → T'.heap[q]? = H[q]?) ∧ va_S A0 H0 T'.heap (locs ++ L) := by
  obtain ⟨hz, hk⟩ := hF
  rw [h0] at hz hk
  exact ⟨by rw [e1]; exact hz, fun q h1 h2 => by rw [e1]; exact hk q h1 h2,
    ⟨Nat.le_trans hS.1 (by rw [e1]; exact hz), fun q h1 h2 => by rw [e1, hk q (Nat.lt_of_lt_of_le h1 hS.1) (fun z => h2 (hA q (Nat.lt_of_lt_of_le h1 hS.1) z))]; exact hS.2.1 q h1 h2, fun q hq => by
      rcases List.mem_append.mp hq with h | h
      · exact hS.2.2 q h
      · exact hf _ (hL q h)⟩⟩
theorem vx_calli {S SX : Type} {post : Int32 → S → Prop} {px : SX → Prop} {B : S → State → Prop} {BX : String → SX → State → Prop} {AX : Nat → Prop} (hr : vx_Run p l e R s m args below meth c H locs cells slots mc ms (F0 m pc ls st0) rest (va_Qi post B A1 a) (vx_X px BX AX) free) (hS : va_S A0 H0 H locs) (hA : ∀ q, q < H.size → A1 q → A0 q) (hf : ∀ q, free q → A0 q) (hAX : ∀ q, q < H.size → AX q → A0 q)
    (kx : ∀ (E : String) (ce : Cell) (q9 : Addr) (u : SX) (t : State) (H1 : Heap) (locs1 : List Loc), t.heap = H1 → s.vm.Alike t.vm → px u → BX E u t → H.size ≤ H1.size → (∀ q : Nat, q < H.size → ¬ AX q → H1[q]? = H[q]?) → va_S A0 H0 H1 locs1 → H1[q9]? = some ce → ce.vm = .none → s.vm.findClass E = some ce.cls → vx_W p l e R s m args below meth c H1 locs1 (cells + mc) (slots + ms) Q (F0 m pc ls rest) q9)
    (kk : ∀ (r : Int32) (u : S) (t : State) (H1 : Heap) (locs1 : List Loc), t.heap = H1 → s.vm.Alike t.vm → post r u → B u t → H.size ≤ H1.size → (∀ q : Nat, q < H.size → ¬ A1 q → H1[q]? = H[q]?) → va_S A0 H0 H1 locs1 → W p l e R s m args below meth c H1 locs1 (cells + mc) (slots + ms) Q (F0 m (pc + 3) ls (.int r :: rest))) : W p l e R s m args below meth c H locs cells slots Q (F0 m pc ls st0) := by
  intro T hT X
  rcases hr T hT X with ⟨v, st₀, t, T', L, h0, X', hL, e1, e2, ⟨⟨r, u, hv, hp, hb⟩, hF⟩, st⟩ | ⟨q, st₀, t, T', L, E, ce, h0, X', hL, e1, e2, ⟨u, hp, hb, hF⟩, hce, hcv, hcl, st⟩
  · cases hv
    obtain ⟨k1, k2, k3⟩ := vx_keep h0 e1 hS hA hf hL hF
    obtain ⟨t2, a1, b1⟩ := kk r u t T'.heap (locs ++ L) e1.symm (by rw [← e2]; exact X'.warmed.alike) hp hb k1 k2 k3 T' rfl X'
    exact ⟨t2, st t2 a1, b1⟩
  · obtain ⟨k1, k2, k3⟩ := vx_keep h0 e1 hS hAX hf hL hF
    obtain ⟨t2, a1, b1⟩ := kx E ce q u t T'.heap (locs ++ L) e1.symm (by rw [← e2]; exact X'.warmed.alike) hp hb k1 k2 k3 (by rw [e1]; exact hce) hcv hcl T' rfl X'
    exact ⟨t2, st.trans a1, b1⟩
theorem vx_calll {S SX : Type} {post : Int64 → S → Prop} {px : SX → Prop} {B : S → State → Prop} {BX : String → SX → State → Prop} {AX : Nat → Prop} (hr : vx_Run p l e R s m args below meth c H locs cells slots mc ms (F0 m pc ls st0) rest (va_Ql post B A1 a) (vx_X px BX AX) free) (hS : va_S A0 H0 H locs) (hA : ∀ q, q < H.size → A1 q → A0 q) (hf : ∀ q, free q → A0 q) (hAX : ∀ q, q < H.size → AX q → A0 q)
    (kx : ∀ (E : String) (ce : Cell) (q9 : Addr) (u : SX) (t : State) (H1 : Heap) (locs1 : List Loc), t.heap = H1 → s.vm.Alike t.vm → px u → BX E u t → H.size ≤ H1.size → (∀ q : Nat, q < H.size → ¬ AX q → H1[q]? = H[q]?) → va_S A0 H0 H1 locs1 → H1[q9]? = some ce → ce.vm = .none → s.vm.findClass E = some ce.cls → vx_W p l e R s m args below meth c H1 locs1 (cells + mc) (slots + ms) Q (F0 m pc ls rest) q9)
    (kk : ∀ (r : Int64) (u : S) (t : State) (H1 : Heap) (locs1 : List Loc), t.heap = H1 → s.vm.Alike t.vm → post r u → B u t → H.size ≤ H1.size → (∀ q : Nat, q < H.size → ¬ A1 q → H1[q]? = H[q]?) → va_S A0 H0 H1 locs1 → W p l e R s m args below meth c H1 locs1 (cells + mc) (slots + ms) Q (F0 m (pc + 3) ls (.long r :: rest))) : W p l e R s m args below meth c H locs cells slots Q (F0 m pc ls st0) := by
  intro T hT X
  rcases hr T hT X with ⟨v, st₀, t, T', L, h0, X', hL, e1, e2, ⟨⟨r, u, hv, hp, hb⟩, hF⟩, st⟩ | ⟨q, st₀, t, T', L, E, ce, h0, X', hL, e1, e2, ⟨u, hp, hb, hF⟩, hce, hcv, hcl, st⟩
  · cases hv
    obtain ⟨k1, k2, k3⟩ := vx_keep h0 e1 hS hA hf hL hF
    obtain ⟨t2, a1, b1⟩ := kk r u t T'.heap (locs ++ L) e1.symm (by rw [← e2]; exact X'.warmed.alike) hp hb k1 k2 k3 T' rfl X'
    exact ⟨t2, st t2 a1, b1⟩
  · obtain ⟨k1, k2, k3⟩ := vx_keep h0 e1 hS hAX hf hL hF
    obtain ⟨t2, a1, b1⟩ := kx E ce q u t T'.heap (locs ++ L) e1.symm (by rw [← e2]; exact X'.warmed.alike) hp hb k1 k2 k3 (by rw [e1]; exact hce) hcv hcl T' rfl X'
    exact ⟨t2, st.trans a1, b1⟩
theorem vx_callf {S SX : Type} {post : UInt32 → S → Prop} {px : SX → Prop} {B : S → State → Prop} {BX : String → SX → State → Prop} {AX : Nat → Prop} (hr : vx_Run p l e R s m args below meth c H locs cells slots mc ms (F0 m pc ls st0) rest (va_Qf post B A1 a) (vx_X px BX AX) free) (hS : va_S A0 H0 H locs) (hA : ∀ q, q < H.size → A1 q → A0 q) (hf : ∀ q, free q → A0 q) (hAX : ∀ q, q < H.size → AX q → A0 q)
    (kx : ∀ (E : String) (ce : Cell) (q9 : Addr) (u : SX) (t : State) (H1 : Heap) (locs1 : List Loc), t.heap = H1 → s.vm.Alike t.vm → px u → BX E u t → H.size ≤ H1.size → (∀ q : Nat, q < H.size → ¬ AX q → H1[q]? = H[q]?) → va_S A0 H0 H1 locs1 → H1[q9]? = some ce → ce.vm = .none → s.vm.findClass E = some ce.cls → vx_W p l e R s m args below meth c H1 locs1 (cells + mc) (slots + ms) Q (F0 m pc ls rest) q9)
    (kk : ∀ (r : UInt32) (u : S) (t : State) (H1 : Heap) (locs1 : List Loc), t.heap = H1 → s.vm.Alike t.vm → post r u → B u t → H.size ≤ H1.size → (∀ q : Nat, q < H.size → ¬ A1 q → H1[q]? = H[q]?) → va_S A0 H0 H1 locs1 → W p l e R s m args below meth c H1 locs1 (cells + mc) (slots + ms) Q (F0 m (pc + 3) ls (.float r :: rest))) : W p l e R s m args below meth c H locs cells slots Q (F0 m pc ls st0) := by
  intro T hT X
  rcases hr T hT X with ⟨v, st₀, t, T', L, h0, X', hL, e1, e2, ⟨⟨r, u, hv, hp, hb⟩, hF⟩, st⟩ | ⟨q, st₀, t, T', L, E, ce, h0, X', hL, e1, e2, ⟨u, hp, hb, hF⟩, hce, hcv, hcl, st⟩
  · cases hv
    obtain ⟨k1, k2, k3⟩ := vx_keep h0 e1 hS hA hf hL hF
    obtain ⟨t2, a1, b1⟩ := kk r u t T'.heap (locs ++ L) e1.symm (by rw [← e2]; exact X'.warmed.alike) hp hb k1 k2 k3 T' rfl X'
    exact ⟨t2, st t2 a1, b1⟩
  · obtain ⟨k1, k2, k3⟩ := vx_keep h0 e1 hS hAX hf hL hF
    obtain ⟨t2, a1, b1⟩ := kx E ce q u t T'.heap (locs ++ L) e1.symm (by rw [← e2]; exact X'.warmed.alike) hp hb k1 k2 k3 (by rw [e1]; exact hce) hcv hcl T' rfl X'
    exact ⟨t2, st.trans a1, b1⟩
theorem vx_calld {S SX : Type} {post : UInt64 → S → Prop} {px : SX → Prop} {B : S → State → Prop} {BX : String → SX → State → Prop} {AX : Nat → Prop} (hr : vx_Run p l e R s m args below meth c H locs cells slots mc ms (F0 m pc ls st0) rest (va_Qd post B A1 a) (vx_X px BX AX) free) (hS : va_S A0 H0 H locs) (hA : ∀ q, q < H.size → A1 q → A0 q) (hf : ∀ q, free q → A0 q) (hAX : ∀ q, q < H.size → AX q → A0 q)
    (kx : ∀ (E : String) (ce : Cell) (q9 : Addr) (u : SX) (t : State) (H1 : Heap) (locs1 : List Loc), t.heap = H1 → s.vm.Alike t.vm → px u → BX E u t → H.size ≤ H1.size → (∀ q : Nat, q < H.size → ¬ AX q → H1[q]? = H[q]?) → va_S A0 H0 H1 locs1 → H1[q9]? = some ce → ce.vm = .none → s.vm.findClass E = some ce.cls → vx_W p l e R s m args below meth c H1 locs1 (cells + mc) (slots + ms) Q (F0 m pc ls rest) q9)
    (kk : ∀ (r : UInt64) (u : S) (t : State) (H1 : Heap) (locs1 : List Loc), t.heap = H1 → s.vm.Alike t.vm → post r u → B u t → H.size ≤ H1.size → (∀ q : Nat, q < H.size → ¬ A1 q → H1[q]? = H[q]?) → va_S A0 H0 H1 locs1 → W p l e R s m args below meth c H1 locs1 (cells + mc) (slots + ms) Q (F0 m (pc + 3) ls (.double r :: rest))) : W p l e R s m args below meth c H locs cells slots Q (F0 m pc ls st0) := by
  intro T hT X
  rcases hr T hT X with ⟨v, st₀, t, T', L, h0, X', hL, e1, e2, ⟨⟨r, u, hv, hp, hb⟩, hF⟩, st⟩ | ⟨q, st₀, t, T', L, E, ce, h0, X', hL, e1, e2, ⟨u, hp, hb, hF⟩, hce, hcv, hcl, st⟩
  · cases hv
    obtain ⟨k1, k2, k3⟩ := vx_keep h0 e1 hS hA hf hL hF
    obtain ⟨t2, a1, b1⟩ := kk r u t T'.heap (locs ++ L) e1.symm (by rw [← e2]; exact X'.warmed.alike) hp hb k1 k2 k3 T' rfl X'
    exact ⟨t2, st t2 a1, b1⟩
  · obtain ⟨k1, k2, k3⟩ := vx_keep h0 e1 hS hAX hf hL hF
    obtain ⟨t2, a1, b1⟩ := kx E ce q u t T'.heap (locs ++ L) e1.symm (by rw [← e2]; exact X'.warmed.alike) hp hb k1 k2 k3 (by rw [e1]; exact hce) hcv hcl T' rfl X'
    exact ⟨t2, st.trans a1, b1⟩
theorem vx_callv {S SX : Type} {post : S → Prop} {px : SX → Prop} {B : S → State → Prop} {BX : String → SX → State → Prop} {AX : Nat → Prop} (hr : vx_Run p l e R s m args below meth c H locs cells slots mc ms (F0 m pc ls st0) rest (va_Qv post B A1 a) (vx_X px BX AX) free) (hS : va_S A0 H0 H locs) (hA : ∀ q, q < H.size → A1 q → A0 q) (hf : ∀ q, free q → A0 q) (hAX : ∀ q, q < H.size → AX q → A0 q)
    (kx : ∀ (E : String) (ce : Cell) (q9 : Addr) (u : SX) (t : State) (H1 : Heap) (locs1 : List Loc), t.heap = H1 → s.vm.Alike t.vm → px u → BX E u t → H.size ≤ H1.size → (∀ q : Nat, q < H.size → ¬ AX q → H1[q]? = H[q]?) → va_S A0 H0 H1 locs1 → H1[q9]? = some ce → ce.vm = .none → s.vm.findClass E = some ce.cls → vx_W p l e R s m args below meth c H1 locs1 (cells + mc) (slots + ms) Q (F0 m pc ls rest) q9)
    (kk : ∀ (u : S) (t : State) (H1 : Heap) (locs1 : List Loc), t.heap = H1 → s.vm.Alike t.vm → post u → B u t → H.size ≤ H1.size → (∀ q : Nat, q < H.size → ¬ A1 q → H1[q]? = H[q]?) → va_S A0 H0 H1 locs1 → W p l e R s m args below meth c H1 locs1 (cells + mc) (slots + ms) Q (F0 m (pc + 3) ls (rest))) : W p l e R s m args below meth c H locs cells slots Q (F0 m pc ls st0) := by
  intro T hT X
  rcases hr T hT X with ⟨v, st₀, t, T', L, h0, X', hL, e1, e2, ⟨⟨u, hv, hp, hb⟩, hF⟩, st⟩ | ⟨q, st₀, t, T', L, E, ce, h0, X', hL, e1, e2, ⟨u, hp, hb, hF⟩, hce, hcv, hcl, st⟩
  · cases hv
    obtain ⟨k1, k2, k3⟩ := vx_keep h0 e1 hS hA hf hL hF
    obtain ⟨t2, a1, b1⟩ := kk u t T'.heap (locs ++ L) e1.symm (by rw [← e2]; exact X'.warmed.alike) hp hb k1 k2 k3 T' rfl X'
    exact ⟨t2, st t2 a1, b1⟩
  · obtain ⟨k1, k2, k3⟩ := vx_keep h0 e1 hS hAX hf hL hF
    obtain ⟨t2, a1, b1⟩ := kx E ce q u t T'.heap (locs ++ L) e1.symm (by rw [← e2]; exact X'.warmed.alike) hp hb k1 k2 k3 (by rw [e1]; exact hce) hcv hcl T' rfl X'
    exact ⟨t2, st.trans a1, b1⟩
/-- caught by the row x of this method's table; the rows ahead don't take it -/
theorem vx_catch {own name : String} {E : String} {ce : Cell} {q : Addr} (hown : s.vm.findClass own = some m.cls) (pre : List ExceptionTableEntry) (x : ExceptionTableEntry) (suf : List ExceptionTableEntry) (hsplit : c.exceptionTable.toList = pre ++ x :: suf)
    (hpass : ∀ z ∈ pre, covers z pc = false ∨ (z.catchType ≠ 0 ∧ ∃ nm : String, (Cond.classLink own z.catchType nm).before args s = true ∧ va_Nc E nm s)) (hx : covers x pc = true) (h0 : x.catchType ≠ 0)
    (hlink : (Cond.classLink own x.catchType name).before args s = true) (hcast : (Cond.castable E name).before args s = true) (hcell : H[q]? = some ce) (hv : ce.vm = .none) (hcl : s.vm.findClass E = some ce.cls)
    (kk : W p l e R s m args below meth c H locs cells slots Q (F0 m x.handlerPc ls [.ref q])) : vx_W p l e R s m args below meth c H locs cells slots Q (F0 m pc ls rest) q := by
  intro T hT X
  have hpl : e.platform.magicAccessors = ({} : Platform).magicAccessors := by rw [X.admits.platform]
  obtain ⟨c3, c4, hc3, hc4, hasg⟩ := Cond.castable_spec hcast
  cases Option.some.inj (hc3.symm.trans hcl)
  obtain ⟨c5, hc5, hcl5⟩ := Cond.classLink_spec hown hlink e.platform hpl
  cases Option.some.inj (hc4.symm.trans hc5)
  obtain ⟨vm', X', st⟩ := X.thenCaughtThrough q (g := F0 m pc ls rest) rfl (Steps.refl _) (by rw [hT]; exact hcell) (by rw [hv]; rfl) (by obtain ⟨k9, h9, -⟩ := Vm.findClass_spec hcl; exact ⟨k9, h9⟩) pre x suf hsplit
    (fun z hz => by
      rcases hpass z hz with h | ⟨hz0, nm, hl1, hn1⟩
      · exact Or.inl h
      · obtain ⟨c6, hc6, hcl6⟩ := Cond.classLink_spec hown hl1 e.platform hpl
        obtain ⟨a8, b8, h1, h2, h3⟩ := hn1
        cases Option.some.inj (h1.symm.trans hcl)
        cases Option.some.inj (h2.symm.trans hc6)
        exact Or.inr ⟨hz0, _, hcl6, h3⟩) hx (Or.inr ⟨h0, c4, hcl5, hasg⟩)
  obtain ⟨t, a1, b1⟩ := kk (T.setVm vm') hT X'
  exact ⟨t, st.trans a1, b1⟩
end Rows
section Ends
variable {p : Program} {l : Launch} {e : Env} {R : Room} {s : State} {m : MethodId} {args : Array Value} {below : List Frame} {meth : Method} {c : Code} {H : Heap} {locs : List Loc} {cells slots : Nat} {Q : State → Prop}
variable {mc ms : Nat} {free : Addr → Prop} {A0 A1 : Nat → Prop} {H0 : Heap} {a : Array Value} {ls : Array Slot} {st0 rest : List Value}
variable {Qc : Array Value → State → Outcome → State → Prop} {XC : String → State → State → Prop}
/-- what a body that may throw owes at its end -/
def vx_MQ (below : List Frame) (Qc : Array Value → State → Outcome → State → Prop) (XC : String → State → State → Prop) (a : Array Value) (s : State) (mc ms : Nat) (free : Addr → Prop) : State → Prop := fun t =>
  ∃ o, t.status = .running ∧ Ended t below o ∧ vx_Q Qc XC mc ms free a s o t
theorem vx_ret {g : JFrame} {mc ms : Nat} (k : W p l e R s m args below meth c H locs cells slots (MQ below Qc args s mc ms free) g) : W p l e R s m args below meth c H locs cells slots (vx_MQ below Qc XC args s mc ms free) g := by
  intro T hT X
  obtain ⟨t, a1, o, b1, b2, b3, b4⟩ := k T hT X
  exact ⟨t, a1, o, b1, b2, Or.inl ⟨b3, b4⟩⟩
/-- not caught here: it goes on to the caller -/
theorem vx_widen {g : JFrame} {q : Addr} {k n : Nat} (h1 : cells ≤ k) (h2 : slots ≤ n) (kk : vx_W p l e R s m args below meth c H locs k n Q g q) : vx_W p l e R s m args below meth c H locs cells slots Q g q := fun T hT X => kk T hT (stand_widen X h1 h2)
theorem vx_out {pc : Nat} {E : String} {ce : Cell} {q : Addr} {mc ms : Nat} (hout : ∀ x ∈ c.exceptionTable.toList, covers x pc = false) (hlocks : meth.locks = false) (hcell : H[q]? = some ce) (hv : ce.vm = .none) (hcl : s.vm.findClass E = some ce.cls)
    (hx : ∀ t : State, t.heap = H → s.vm.Alike t.vm → XC E s t) (hf : ∀ z ∈ locs, free z.base) (hc : cells ≤ mc) (hs : slots ≤ ms) :
    vx_W p l e R s m args below meth c H locs cells slots (vx_MQ below Qc XC args s mc ms free) (F0 m pc ls rest) q := by
  intro T hT X
  obtain ⟨st1, hrun, hend, hW, hsm⟩ := X.leaveThrown q (g := F0 m pc ls rest) rfl rfl rfl hout hlocks
  have hcell9 : (T.setFrames (.throwing q :: below)).heap[q]? = some ce := by
    show T.heap[q]? = some ce
    rw [hT]; exact hcell
  exact ⟨_, st1, .threw q, hrun, hend, Or.inr ⟨q, rfl, E, ce, locs, hx _ hT hW.alike, hcell9, hv, hcl, hW, hsm.mono hc hs, hf⟩⟩
theorem vx_frame {U : State} {k n : Nat} (h : s.sameButNew ({ U with vm := s.vm } : State) locs k n) : s.heap.size ≤ U.heap.size ∧ ∀ q : Nat, q < s.heap.size → (∀ z ∈ locs, z.base ≠ q) → U.heap[q]? = s.heap[q]? := by
  obtain ⟨-, h2, -, -, -, h6⟩ := h
  refine ⟨h2, fun q hq hz => ?_⟩
  obtain ⟨c9, e1, e2, e3, e4⟩ := h6 q _ (Array.getElem?_eq_getElem hq)
  have hs : c9.slots = (s.heap[q]).slots := Array.ext_getElem? fun i => e4 i fun hm => hz _ hm rfl
  have h9 : c9 = s.heap[q] := by
    rw [hs] at e2
    exact e2
  have e5 : U.heap[q]? = some c9 := e1
  rw [e5, h9, Array.getElem?_eq_getElem hq]
/-- the words of a throw but the four that speak of the heap -/
def vx_no (w : Cond) : Bool := decide (w ≠ .isRef (.static Bundle.tN "UNASSIGNED_STACK" Bundle.steD)) && decide (w ≠ .isRef (.static Bundle.tN "SUPPRESSED_SENTINEL" Bundle.listD)) && decide (w ≠ .laysStatic Bundle.tN "UNASSIGNED_STACK" Bundle.steD) && decide (w ≠ .laysStatic Bundle.tN "SUPPRESSED_SENTINEL" Bundle.listD)
def vx_at0 (own : String) (ic : Nat) (X : String) (names : List String) : List Cond := (Bundle.ownAtoms0 own ic X names).filter vx_no
def vx_atS (own : String) (ic : Nat) (X : String) (names : List String) : List Cond := (Bundle.ownAtoms own ic X names).filter vx_no
/-- a word that the tables alone decide, or a good one -/
def vx_ot (w : Cond) : Bool := w.onTables || goodWord w
theorem vx_ot_at {args a' : Array Value} {s U : State} {w : Cond} (hW : s.WarmedH U.vm) (hvm : s.vm = U.vm) (hg : vx_ot w = true) (h : w.before args s = true) : w.before a' U = true := by
  simp only [vx_ot, Bool.or_eq_true] at hg
  rcases hg with hg | hg
  · exact va_tabs hg hvm h
  · exact word_at hW (good_of_word hg) h
/-- a list's words: the good ones out of the method's own list, the others by premises of their own -/
theorem vx_hat {args : Array Value} {s : State} {L B : List Cond} (h1 : ∀ w ∈ L.filter goodWord, w.before args s = true) (h2 : ∀ w ∈ L.filter (fun w => !goodWord w), w ∈ B) (h3 : ∀ w ∈ B, w.before args s = true) : ∀ w ∈ L, w.before args s = true := by
  intro w hw
  by_cases g : goodWord w = true
  · exact h1 w (List.mem_filter.mpr ⟨hw, g⟩)
  · refine h3 w (h2 w (List.mem_filter.mpr ⟨hw, ?_⟩))
    show (!goodWord w) = true
    cases hgw : goodWord w
    · rfl
    · exact absurd hgw g
theorem vx_c {args : Array Value} {s : State} {w : Cond} {B : List Cond} (h : w.before args s = true) (t : ∀ w ∈ B, w.before args s = true) : ∀ w' ∈ w :: B, w'.before args s = true := fun w' h' => (List.mem_cons.mp h').elim (fun e => by rw [e]; exact h) (t w')
theorem vx_n {args : Array Value} {s : State} : ∀ w ∈ ([] : List Cond), w.before args s = true := fun _ h => nomatch h
theorem vx_own {args : Array Value} {s : State} {L : List Cond} (h1 : ∀ w ∈ L.filter vx_no, w.before args s = true)
    (hU : (Cond.isRef (.static Bundle.tN "UNASSIGNED_STACK" Bundle.steD)).before args s = true) (hN : (Cond.isRef (.static Bundle.tN "SUPPRESSED_SENTINEL" Bundle.listD)).before args s = true)
    (lU : (Cond.laysStatic Bundle.tN "UNASSIGNED_STACK" Bundle.steD).before args s = true) (lN : (Cond.laysStatic Bundle.tN "SUPPRESSED_SENTINEL" Bundle.listD).before args s = true) : ∀ w ∈ L, w.before args s = true := by
  intro w hw
  by_cases e1 : w = .isRef (.static Bundle.tN "UNASSIGNED_STACK" Bundle.steD)
  · rw [e1]; exact hU
  · by_cases e2 : w = .isRef (.static Bundle.tN "SUPPRESSED_SENTINEL" Bundle.listD)
    · rw [e2]; exact hN
    · by_cases e3 : w = .laysStatic Bundle.tN "UNASSIGNED_STACK" Bundle.steD
      · rw [e3]; exact lU
      · by_cases e4 : w = .laysStatic Bundle.tN "SUPPRESSED_SENTINEL" Bundle.listD
        · rw [e4]; exact lN
        · exact h1 w (List.mem_filter.mpr ⟨hw, by unfold vx_no; rw [decide_eq_true e1, decide_eq_true e2, decide_eq_true e3, decide_eq_true e4]; rfl⟩)
/-- where a static field lies, its class's statics cell in H -/
def vx_L (C n d : String) (A : Nat → Prop) (U : State) (H : Heap) : Prop := ∃ (c : ClassId) (k : Class) (i : Nat) (f : Field) (a : Nat) (cell : Cell), U.vm.findClass C = some c ∧ U.fieldFound? C n d = some (c, k, i, f) ∧ f.isStatic = true ∧ k.statics = some a ∧ H[a]? = some cell ∧ cell.vm.isStatics = true ∧ cell.cls = c ∧ f.slot < cell.slots.size ∧ k.staticTypes[f.slot]? = some f.type ∧ ¬ A a
theorem vx_L.moved {C n d : String} {A : Nat → Prop} {u U : State} {H : Heap} (hvm : u.vm.Alike U.vm) (h : vx_L C n d A u H) : vx_L C n d A U H := by
  obtain ⟨c, k, i, f, a, cell, h1, h2, h3, h4, h5, h6, h7, h8, h9, h10⟩ := h
  obtain ⟨k', hi', he⟩ := State.fieldFound?_setVm hvm h2
  exact ⟨c, k', i, f, a, cell, by rw [hvm.findClass]; exact h1, hi', h3, by rw [he]; exact h4, h5, h6, h7, h8, by rw [he]; exact h9, h10⟩
theorem vx_L.kept {C n d : String} {A : Nat → Prop} {U : State} {H H1 : Heap} (h : vx_L C n d A U H) (hq : ∀ a : Nat, a < H.size → ¬ A a → H1[a]? = H[a]?) : vx_L C n d A U H1 := by
  obtain ⟨c, k, i, f, a, cell, h1, h2, h3, h4, h5, h6, h7, h8, h9, h10⟩ := h
  exact ⟨c, k, i, f, a, cell, h1, h2, h3, h4, by rw [hq a (Array.getElem?_eq_some_iff.mp h5).1 h10]; exact h5, h6, h7, h8, h9, h10⟩
theorem vx_L.narrow {C n d : String} {A B : Nat → Prop} {U : State} {H : Heap} (h : vx_L C n d A U H) (hAB : ∀ q, B q → A q) : vx_L C n d B U H := by
  obtain ⟨c, k, i, f, a, cell, h1, h2, h3, h4, h5, h6, h7, h8, h9, h10⟩ := h
  exact ⟨c, k, i, f, a, cell, h1, h2, h3, h4, h5, h6, h7, h8, h9, fun z => h10 (hAB _ z)⟩
theorem vx_L.word {C n d : String} {A : Nat → Prop} {s : State} {args : Array Value} (h : vx_L C n d A s s.heap) : (Cond.laysStatic C n d).before args s = true := by
  obtain ⟨c, k, i, f, a, cell, h1, h2, h3, h4, h5, h6, h7, h8, h9, -⟩ := h
  show (Cond.laysStatic C n d).holds args s none s [] = true
  exact Cond.laysStatic_of h1 h2 h3 h4 h5 h6 h7 h8 h9
/-- .. and what it holds: null or some reference -/
def vx_Zq (C n d : String) (A : Nat → Prop) (U : State) (H : Heap) : Prop := va_Zq C n d A U H ∧ vx_L C n d A U H
theorem vx_Zq.moved {C n d : String} {A : Nat → Prop} {u U : State} {H : Heap} (hvm : u.vm.Alike U.vm) (h : vx_Zq C n d A u H) : vx_Zq C n d A U H := ⟨va_Zq.moved hvm h.1, vx_L.moved hvm h.2⟩
theorem vx_Zq.kept {C n d : String} {A : Nat → Prop} {U : State} {H H1 : Heap} (h : vx_Zq C n d A U H) (hq : ∀ a : Nat, a < H.size → ¬ A a → H1[a]? = H[a]?) : vx_Zq C n d A U H1 := ⟨va_Zq.kept h.1 hq, vx_L.kept h.2 hq⟩
theorem vx_Zq.narrow {C n d : String} {A B : Nat → Prop} {U : State} {H : Heap} (h : vx_Zq C n d A U H) (hAB : ∀ q, B q → A q) : vx_Zq C n d B U H := ⟨va_Zq.narrow h.1 hAB, vx_L.narrow h.2 hAB⟩
theorem vx_Zqof {args : Array Value} {s : State} {C n d : String} {A : Nat → Prop} (hl : (Cond.laysStatic C n d).before args s = true) (hini : (Cond.initialized C).before args s = true) (h : (Cond.isRef (.static C n d)).before args s = true) (hA : ∀ a : Nat, a < s.heap.size → ¬ A a) : vx_Zq C n d A s s.heap := by
  refine ⟨va_Zqof hl hini h hA, ?_⟩
  obtain ⟨c, k, i, f, a, cell, h1, h2, h3, h4, h5, h6, h7, h8, h9⟩ := Cond.laysStatic_spec hl
  exact ⟨c, k, i, f, a, cell, h1, h2, h3, h4, h5, h6, h7, h8, h9, hA a (Array.getElem?_eq_some_iff.mp h5).1⟩
theorem vx_isRef {C n d : String} {v : Value} {A : Nat → Prop} {s : State} {args : Array Value} (h : va_Z C n d v A s s.heap) (hv : v.isRef = true) : (Cond.isRef (.static C n d)).before args s = true := by
  obtain ⟨cf, kf, fi, f, a, cell, h1, h2, h3, h4, h5, h6, h7, -⟩ := h
  have he : (Term.static C n d).eval args s none [] s = some v := by
    simp [Term.eval, State.fieldNamed?, h1, h2, h4, h5, h6, h7]
  simp only [Cond.before, Cond.holds, Cond.value, he]
  cases v <;> simp_all [Value.isRef]
theorem vx_isRefq {C n d : String} {A : Nat → Prop} {s : State} {args : Array Value} (h : va_Zq C n d A s s.heap) : (Cond.isRef (.static C n d)).before args s = true := by
  rcases h with h | ⟨t, h⟩
  · exact vx_isRef h rfl
  · exact vx_isRef h rfl
/-- the same frame, seen from here: as if the method were called anew in this heap -/
theorem vx_rebase {T : State} (X : Stand p l e R s m args below meth c T locs cells slots) {R' : Room} (hf : R'.frames ≤ R.frames) (hl : R'.locals ≤ R.locals) (hc : cells + R'.cells ≤ R.cells) (hs : slots + R'.slots ≤ R.slots) :
    Stand p l e R' ((T.setVm s.vm).setFrames (.invoking m args :: below)) m args below meth c T [] 0 0 := by
  have htop : (T.setVm s.vm).topJava?.isSome := X.here.top
  have hF : ((T.setVm s.vm).setFrames (.invoking m args :: below)).frames = .invoking m args :: below := State.frames_setFrames _ (State.cur_lt_of_top htop)
  obtain ⟨g₀, hg0⟩ := Option.isSome_iff_exists.mp htop
  obtain ⟨r, hr⟩ := State.topJava?_eq_some.mp hg0
  have hl9 : e.platform.stackLimits (T.setVm s.vm).me = e.platform.stackLimits s.me := X.limits
  have hb9 : (T.setVm s.vm).me.stackBytes = s.me.stackBytes := X.bytes
  refine ⟨X.admits, X.cas, X.clock, hF, ?_, X.hears, X.method, X.code, X.here, X.tail, X.warmed, ?_, ?_, ?_⟩
  · have h := X.room
    have hU : ((T.setVm s.vm).setFrames (.invoking m args :: below)).localsInUse = s.localsInUse := by
      rw [State.localsInUse_invoking hF (meth := meth) (c := c) X.method X.code, State.localsInUse_invoking X.frames X.method X.code]
    simp only [State.hasRoom, Bool.and_eq_true, decide_eq_true_eq] at h ⊢
    obtain ⟨⟨⟨⟨h1, h2, h3, h4, h5, h6⟩, h7⟩, h8⟩, h9⟩ := h
    rw [X.frames, List.length_cons] at h2 h3
    have q1 := X.heapSize
    have q2 := X.used
    simp only [hF, hU, List.length_cons, State.stackLimits_setFrames, State.stackBytes_setFrames, hl9, hb9]
    refine ⟨⟨⟨⟨by omega, by omega, by omega, by omega, by omega, h6⟩, ?_⟩, ?_⟩, X.book⟩
    · show T.heap.size + R'.cells ≤ e.platform.maxCells
      omega
    · show T.slotsUsed + R'.slots ≤ e.platform.maxSlots
      omega
  · rw [State.stackLimits_setFrames]; rfl
  · rw [State.stackBytes_setFrames]; rfl
  · refine ⟨?_, Nat.le_refl _, Nat.le_refl _, ?_, ?_, fun a c9 h9 => ⟨c9, h9, rfl, rfl, fun _ _ => rfl⟩⟩
    · obtain ⟨t, ht, -⟩ := State.frames_cons hr
      show T.setVm s.vm = { ((T.setVm s.vm).setFrames (.invoking m args :: below)).setFrames (T.setVm s.vm).frames with heap := T.heap, slotsUsed := T.slotsUsed }
      rw [State.setFrames_setFrames, State.setFrames_self ht]
      rfl
    · show T.slotsUsed = T.slotsUsed + ((T.heap.toList.drop T.heap.size).map (·.slots.size)).sum
      rw [List.drop_eq_nil_of_le (Nat.le_of_eq Array.length_toList)]
      rfl
    · show ((T.heap.toList.drop T.heap.size).map (·.slots.size)).sum ≤ 0
      rw [List.drop_eq_nil_of_le (Nat.le_of_eq Array.length_toList)]
      exact Nat.le_refl _
/-- 'throw new E()': new; dup; invokespecial; athrow -/
theorem vx_throw0 {cc : ByteArray} {pc : Nat} (hexec : p.tables.exec = Jvm.exec) (hb : c.code = cc) (hl : l.stackTraces = false) {own cls : String} {names : List String} {ik ic mc ms : Nat} {A : Nat → Prop}
    (hown : s.vm.findClass own = some m.cls) (hcls : Bundle.fit cls = true) (hnames : ∀ n ∈ names, Bundle.fit n = true)
    (hk : (Cond.classLink own ik cls).before args s = true) (hini : (Cond.initialized cls).before args s = true) (hat : ∀ w ∈ vx_at0 own ic cls names, w.before args s = true)
    (hgood : ∀ w ∈ Cond.classLink own ik cls :: Cond.initialized cls :: vx_at0 own ic cls names, vx_ot w = true)
    (hU : vx_Zq Bundle.tN "UNASSIGNED_STACK" Bundle.steD A s s.heap) (hN : vx_Zq Bundle.tN "SUPPRESSED_SENTINEL" Bundle.listD A s s.heap) (hS : va_S A s.heap H locs) (hsize : ls.size = c.maxLocals)
    (d0 : decode cc pc = .ok (.new ik, 3)) (d3 : decode cc (pc + 3) = .ok (.dup, 1)) (d4 : decode cc (pc + 4) = .ok (.invokespecial ic, 3)) (d7 : decode cc (pc + 7) = .ok (.athrow, 1))
    (hout : ∀ x ∈ c.exceptionTable.toList, covers x (pc + 7) = false)
    (hRframes : names.length + 3 < R.frames) (hRlocals : (rest.map fun v => v.category).sum + (13 * (names.length + 1) + 42) ≤ R.locals) (hRcells : cells + 1 ≤ R.cells) (hRslots : slots + 6 ≤ R.slots) (hlocks : meth.locks = false)
    (hx : ∀ t : State, s.vm.Alike t.vm → H.size ≤ t.heap.size → (∀ q : Nat, q < H.size → t.heap[q]? = H[q]?) → XC cls s t)
    (hf : ∀ z ∈ locs, free z.base) (hc : cells + 1 ≤ mc) (hs : slots + 6 ≤ ms) :
    W p l e R s m args below meth c H locs cells slots (vx_MQ below Qc XC args s mc ms free) (F0 m pc ls rest) := by
  intro T hT X
  have htr : e.platform.stackTraces = false := (show e.platform.stackTraces = l.stackTraces by rw [X.admits.platform]).trans hl
  have Y := vx_rebase X (R' := { frames := R.frames, locals := R.locals, cells := 1, slots := 6 }) (Nat.le_refl _) (Nat.le_refl _) hRcells hRslots
  obtain ⟨s', hA⟩ : ∃ z, z = (T.setVm s.vm).setFrames (.invoking m args :: below) := ⟨_, rfl⟩
  rw [← hA] at Y
  have hvm : s'.vm = s.vm := by rw [hA]; rfl
  have hhp : s'.heap = H := by rw [hA]; exact hT
  have hW0 : s.WarmedH s'.vm := by rw [hvm]; exact State.WarmedH.refl s
  have hat' : ∀ w ∈ vx_at0 own ic cls names, w.before args s' = true := fun w hw => vx_ot_at hW0 hvm.symm (hgood w (List.mem_cons_of_mem _ (List.mem_cons_of_mem _ hw))) (hat w hw)
  have hk' : (Cond.classLink own ik cls).before args s' = true := vx_ot_at hW0 hvm.symm (hgood _ List.mem_cons_self) hk
  have hini' : (Cond.initialized cls).before args s' = true := vx_ot_at hW0 hvm.symm (hgood _ (List.mem_cons_of_mem _ List.mem_cons_self)) hini
  have hU' : vx_Zq Bundle.tN "UNASSIGNED_STACK" Bundle.steD A s' s'.heap := by rw [hhp]; exact vx_Zq.moved hW0.alike (hU.kept hS.2.1)
  have hN' : vx_Zq Bundle.tN "SUPPRESSED_SENTINEL" Bundle.listD A s' s'.heap := by rw [hhp]; exact vx_Zq.moved hW0.alike (hN.kept hS.2.1)
  have h : ∀ w ∈ Bundle.ownAtoms0 own ic cls names, w.before args s' = true := vx_own hat' (vx_isRefq hU'.1) (vx_isRefq hN'.1) hU'.2.word hN'.2.word
  have hown' : s'.vm.findClass own = some m.cls := by rw [hvm]; exact hown
  have hins : (Cond.instantiable cls 6).before args s' = true := h _ (by simp [Bundle.ownAtoms0])
  obtain ⟨vm₁, cX, kX, hfX, hkX, -, -, X₁, st1⟩ := Y.newCold hexec (own := own) (C := cls) (index := ik) (n := 6) hown' hk' hins hini'
    (g := F0 m pc ls rest) rfl (by rw [hb]; exact d0) (Nat.le_refl _) (Nat.le_refl _)
  generalize hT1 : (T.setVm vm₁).pushCell { cls := cX, slots := kX.instanceTypes.map defaultValue, vm := .none } = T1 at X₁ st1
  have hcat : (Value.ref T.heap.size).category = 1 := rfl
  have hcellA : T1.heap[T.heap.size]? = some (freshCell cX kX) := by rw [← hT1]; exact State.heap_pushCell_size _ _
  have d3' : decode c.code (pc + 3) = .ok (.dup, 1) := by rw [hb]; exact d3
  obtain ⟨U, hsteps, hrun, hend, hW, hsame, ce, hce, hO⟩ := X₁.ctorThrow0 hexec htr (own := own) (cls := cls) (names := names) (ic := ic) hown' hcls hnames h (fun x hx => nomatch hx) hfX hkX hcellA (by rw [hhp, hT]; exact Nat.le_refl _)
    (g := { method := m, pc := pc + 4, locals := ls, stack := .ref T.heap.size :: .ref T.heap.size :: rest, locked := none }) rfl hsize rfl rfl (rest := rest) rfl
    (by rw [hb]; exact d4) (by rw [hb]; exact d7) hout hRframes (by simp only [List.map_cons, List.sum_cons, hcat]; omega) hlocks
  obtain ⟨f1, f2⟩ := vx_frame hsame
  rw [hhp] at f1 f2
  have hWs : s.WarmedH U.vm := State.WarmedH.trans hW0 hW
  have hcl : s.vm.findClass cls = some ce.cls := by
    have h9 := hO.cls
    rw [hvm] at h9
    exact h9
  have hall : s.sameButNew ({ U with vm := s.vm } : State) locs mc ms := by
    subst hA
    obtain ⟨e1, e2⟩ := hsame
    rw [State.setFrames_setFrames] at e1
    have h2 : (T.setVm s.vm).sameButNew ({ U with vm := s.vm } : State) [] (0 + 1) (0 + 6) := ⟨e1, e2⟩
    have h3 := X.same.trans h2
    rw [List.append_nil] at h3
    exact h3.mono hc hs
  refine ⟨U, ?_, .threw T.heap.size, hrun, hend, Or.inr ⟨T.heap.size, rfl, cls, ce, locs, hx U hWs.alike f1 (fun q hq => f2 q hq (fun z hz => nomatch hz)), hce, hO.vm, hcl, hWs, hall, hf⟩⟩
  refine st1 _ ?_
  show Steps p.tables e below (T1.setTop { method := m, pc := pc + 3, locals := ls, stack := .ref T.heap.size :: rest, locked := none }) _
  jvm_step X₁.here [X₁.here.top, hexec, d3', Value.category]
  exact hsteps
/-- 'throw new E("text")': new; dup; ldc; invokespecial; athrow -/
theorem vx_throwS {cc : ByteArray} {pc : Nat} (hexec : p.tables.exec = Jvm.exec) (hb : c.code = cc) (hl : l.stackTraces = false) {own cls text : String} {names : List String} {ik is ic mc ms sa : Nat} {A : Nat → Prop}
    (hown : s.vm.findClass own = some m.cls) (hcls : Bundle.fit cls = true) (hnames : ∀ n ∈ names, Bundle.fit n = true)
    (hk : (Cond.classLink own ik cls).before args s = true) (hini : (Cond.initialized cls).before args s = true) (hstr : vk_R own is text sa s) (hat : ∀ w ∈ vx_atS own ic cls names, w.before args s = true)
    (hgood : ∀ w ∈ Cond.classLink own ik cls :: Cond.initialized cls :: vx_atS own ic cls names, vx_ot w = true)
    (hU : vx_Zq Bundle.tN "UNASSIGNED_STACK" Bundle.steD A s s.heap) (hN : vx_Zq Bundle.tN "SUPPRESSED_SENTINEL" Bundle.listD A s s.heap) (hS : va_S A s.heap H locs) (hsize : ls.size = c.maxLocals)
    (d0 : decode cc pc = .ok (.new ik, 3)) (d3 : decode cc (pc + 3) = .ok (.dup, 1)) (d4 : decode cc (pc + 4) = .ok (.ldc is, 2)) (d6 : decode cc (pc + 6) = .ok (.invokespecial ic, 3)) (d9 : decode cc (pc + 9) = .ok (.athrow, 1))
    (hout : ∀ x ∈ c.exceptionTable.toList, covers x (pc + 9) = false)
    (hRframes : names.length + 3 < R.frames) (hRlocals : (rest.map fun v => v.category).sum + (13 * (names.length + 1) + 43) ≤ R.locals) (hRcells : cells + 1 ≤ R.cells) (hRslots : slots + 6 ≤ R.slots) (hlocks : meth.locks = false)
    (hx : ∀ t : State, s.vm.Alike t.vm → H.size ≤ t.heap.size → (∀ q : Nat, q < H.size → t.heap[q]? = H[q]?) → XC cls s t)
    (hf : ∀ z ∈ locs, free z.base) (hc : cells + 1 ≤ mc) (hs : slots + 6 ≤ ms) :
    W p l e R s m args below meth c H locs cells slots (vx_MQ below Qc XC args s mc ms free) (F0 m pc ls rest) := by
  intro T hT X
  have htr : e.platform.stackTraces = false := (show e.platform.stackTraces = l.stackTraces by rw [X.admits.platform]).trans hl
  have Y := vx_rebase X (R' := { frames := R.frames, locals := R.locals, cells := 1, slots := 6 }) (Nat.le_refl _) (Nat.le_refl _) hRcells hRslots
  obtain ⟨s', hA⟩ : ∃ z, z = (T.setVm s.vm).setFrames (.invoking m args :: below) := ⟨_, rfl⟩
  rw [← hA] at Y
  have hvm : s'.vm = s.vm := by rw [hA]; rfl
  have hhp : s'.heap = H := by rw [hA]; exact hT
  have hW0 : s.WarmedH s'.vm := by rw [hvm]; exact State.WarmedH.refl s
  have hat' : ∀ w ∈ vx_atS own ic cls names, w.before args s' = true := fun w hw => vx_ot_at hW0 hvm.symm (hgood w (List.mem_cons_of_mem _ (List.mem_cons_of_mem _ hw))) (hat w hw)
  have hk' : (Cond.classLink own ik cls).before args s' = true := vx_ot_at hW0 hvm.symm (hgood _ List.mem_cons_self) hk
  have hini' : (Cond.initialized cls).before args s' = true := vx_ot_at hW0 hvm.symm (hgood _ (List.mem_cons_of_mem _ List.mem_cons_self)) hini
  have hU' : vx_Zq Bundle.tN "UNASSIGNED_STACK" Bundle.steD A s' s'.heap := by rw [hhp]; exact vx_Zq.moved hW0.alike (hU.kept hS.2.1)
  have hN' : vx_Zq Bundle.tN "SUPPRESSED_SENTINEL" Bundle.listD A s' s'.heap := by rw [hhp]; exact vx_Zq.moved hW0.alike (hN.kept hS.2.1)
  have h : ∀ w ∈ Bundle.ownAtoms own ic cls names, w.before args s' = true := vx_own hat' (vx_isRefq hU'.1) (vx_isRefq hN'.1) hU'.2.word hN'.2.word
  have hown' : s'.vm.findClass own = some m.cls := by rw [hvm]; exact hown
  have hins : (Cond.instantiable cls 6).before args s' = true := h _ (by simp [Bundle.ownAtoms])
  obtain ⟨vm₁, cX, kX, hfX, hkX, -, -, X₁, st1⟩ := Y.newCold hexec (own := own) (C := cls) (index := ik) (n := 6) hown' hk' hins hini'
    (g := F0 m pc ls rest) rfl (by rw [hb]; exact d0) (Nat.le_refl _) (Nat.le_refl _)
  generalize hT1 : (T.setVm vm₁).pushCell { cls := cX, slots := kX.instanceTypes.map defaultValue, vm := .none } = T1 at X₁ st1
  have hcat : (Value.ref T.heap.size).category = 1 := rfl
  have hcellA : T1.heap[T.heap.size]? = some (freshCell cX kX) := by rw [← hT1]; exact State.heap_pushCell_size _ _
  have d3' : decode c.code (pc + 3) = .ok (.dup, 1) := by rw [hb]; exact d3
  have d4' : decode c.code (pc + 4) = .ok (.ldc is, 2) := by rw [hb]; exact d4
  have hstr' : vk_R own is text sa s' := vk_R.warm hW0 hstr
  obtain ⟨U, hsteps, hrun, hend, hW, hsame, ce, hce, hO⟩ := X₁.ctorThrowS hexec htr (own := own) (cls := cls) (names := names) (ic := ic) hown' hcls hnames h (fun x hx => nomatch hx) hfX hkX hcellA (by rw [hhp, hT]; exact Nat.le_refl _) (msg := .ref sa) rfl
    (g := { method := m, pc := pc + 6, locals := ls, stack := .ref sa :: .ref T.heap.size :: .ref T.heap.size :: rest, locked := none }) rfl hsize rfl rfl (rest := rest) rfl
    (by rw [hb]; exact d6) (by rw [hb]; exact d9) hout hRframes (by simp only [List.map_cons, List.sum_cons, hcat]; omega) hlocks
  obtain ⟨f1, f2⟩ := vx_frame hsame
  rw [hhp] at f1 f2
  have hWs : s.WarmedH U.vm := State.WarmedH.trans hW0 hW
  have hcl : s.vm.findClass cls = some ce.cls := by
    have h9 := hO.cls
    rw [hvm] at h9
    exact h9
  have hall : s.sameButNew ({ U with vm := s.vm } : State) locs mc ms := by
    subst hA
    obtain ⟨e1, e2⟩ := hsame
    rw [State.setFrames_setFrames] at e1
    have h2 : (T.setVm s.vm).sameButNew ({ U with vm := s.vm } : State) [] (0 + 1) (0 + 6) := ⟨e1, e2⟩
    have h3 := X.same.trans h2
    rw [List.append_nil] at h3
    exact h3.mono hc hs
  refine ⟨U, ?_, .threw T.heap.size, hrun, hend, Or.inr ⟨T.heap.size, rfl, cls, ce, locs, hx U hWs.alike f1 (fun q hq => f2 q hq (fun z hz => nomatch hz)), hce, hO.vm, hcl, hWs, hall, hf⟩⟩
  refine st1 _ ?_
  show Steps p.tables e below (T1.setTop { method := m, pc := pc + 3, locals := ls, stack := .ref T.heap.size :: rest, locked := none }) _
  jvm_step X₁.here [X₁.here.top, hexec, d3', Value.category]
  exact X₁.ldcString hexec (own := own) (text := text) (index := is) (a := sa) hown' hstr'.1 hstr'.2
    (g := { method := m, pc := pc + 4, locals := ls, stack := .ref T.heap.size :: .ref T.heap.size :: rest, locked := none }) rfl d4' _ hsteps
/-- 'throw new E("text")', the text by a wide index -/
theorem vx_throwSW {cc : ByteArray} {pc : Nat} (hexec : p.tables.exec = Jvm.exec) (hb : c.code = cc) (hl : l.stackTraces = false) {own cls text : String} {names : List String} {ik is ic mc ms sa : Nat} {A : Nat → Prop}
    (hown : s.vm.findClass own = some m.cls) (hcls : Bundle.fit cls = true) (hnames : ∀ n ∈ names, Bundle.fit n = true)
    (hk : (Cond.classLink own ik cls).before args s = true) (hini : (Cond.initialized cls).before args s = true) (hstr : vk_R own is text sa s) (hat : ∀ w ∈ vx_atS own ic cls names, w.before args s = true)
    (hgood : ∀ w ∈ Cond.classLink own ik cls :: Cond.initialized cls :: vx_atS own ic cls names, vx_ot w = true)
    (hU : vx_Zq Bundle.tN "UNASSIGNED_STACK" Bundle.steD A s s.heap) (hN : vx_Zq Bundle.tN "SUPPRESSED_SENTINEL" Bundle.listD A s s.heap) (hS : va_S A s.heap H locs) (hsize : ls.size = c.maxLocals)
    (d0 : decode cc pc = .ok (.new ik, 3)) (d3 : decode cc (pc + 3) = .ok (.dup, 1)) (d4 : decode cc (pc + 4) = .ok (.ldc_w is, 3)) (d7 : decode cc (pc + 7) = .ok (.invokespecial ic, 3)) (d10 : decode cc (pc + 10) = .ok (.athrow, 1))
    (hout : ∀ x ∈ c.exceptionTable.toList, covers x (pc + 10) = false)
    (hRframes : names.length + 3 < R.frames) (hRlocals : (rest.map fun v => v.category).sum + (13 * (names.length + 1) + 43) ≤ R.locals) (hRcells : cells + 1 ≤ R.cells) (hRslots : slots + 6 ≤ R.slots) (hlocks : meth.locks = false)
    (hx : ∀ t : State, s.vm.Alike t.vm → H.size ≤ t.heap.size → (∀ q : Nat, q < H.size → t.heap[q]? = H[q]?) → XC cls s t)
    (hf : ∀ z ∈ locs, free z.base) (hc : cells + 1 ≤ mc) (hs : slots + 6 ≤ ms) :
    W p l e R s m args below meth c H locs cells slots (vx_MQ below Qc XC args s mc ms free) (F0 m pc ls rest) := by
  intro T hT X
  have htr : e.platform.stackTraces = false := (show e.platform.stackTraces = l.stackTraces by rw [X.admits.platform]).trans hl
  have Y := vx_rebase X (R' := { frames := R.frames, locals := R.locals, cells := 1, slots := 6 }) (Nat.le_refl _) (Nat.le_refl _) hRcells hRslots
  obtain ⟨s', hA⟩ : ∃ z, z = (T.setVm s.vm).setFrames (.invoking m args :: below) := ⟨_, rfl⟩
  rw [← hA] at Y
  have hvm : s'.vm = s.vm := by rw [hA]; rfl
  have hhp : s'.heap = H := by rw [hA]; exact hT
  have hW0 : s.WarmedH s'.vm := by rw [hvm]; exact State.WarmedH.refl s
  have hat' : ∀ w ∈ vx_atS own ic cls names, w.before args s' = true := fun w hw => vx_ot_at hW0 hvm.symm (hgood w (List.mem_cons_of_mem _ (List.mem_cons_of_mem _ hw))) (hat w hw)
  have hk' : (Cond.classLink own ik cls).before args s' = true := vx_ot_at hW0 hvm.symm (hgood _ List.mem_cons_self) hk
  have hini' : (Cond.initialized cls).before args s' = true := vx_ot_at hW0 hvm.symm (hgood _ (List.mem_cons_of_mem _ List.mem_cons_self)) hini
  have hU' : vx_Zq Bundle.tN "UNASSIGNED_STACK" Bundle.steD A s' s'.heap := by rw [hhp]; exact vx_Zq.moved hW0.alike (hU.kept hS.2.1)
  have hN' : vx_Zq Bundle.tN "SUPPRESSED_SENTINEL" Bundle.listD A s' s'.heap := by rw [hhp]; exact vx_Zq.moved hW0.alike (hN.kept hS.2.1)
  have h : ∀ w ∈ Bundle.ownAtoms own ic cls names, w.before args s' = true := vx_own hat' (vx_isRefq hU'.1) (vx_isRefq hN'.1) hU'.2.word hN'.2.word
  have hown' : s'.vm.findClass own = some m.cls := by rw [hvm]; exact hown
  have hins : (Cond.instantiable cls 6).before args s' = true := h _ (by simp [Bundle.ownAtoms])
  obtain ⟨vm₁, cX, kX, hfX, hkX, -, -, X₁, st1⟩ := Y.newCold hexec (own := own) (C := cls) (index := ik) (n := 6) hown' hk' hins hini'
    (g := F0 m pc ls rest) rfl (by rw [hb]; exact d0) (Nat.le_refl _) (Nat.le_refl _)
  generalize hT1 : (T.setVm vm₁).pushCell { cls := cX, slots := kX.instanceTypes.map defaultValue, vm := .none } = T1 at X₁ st1
  have hcat : (Value.ref T.heap.size).category = 1 := rfl
  have hcellA : T1.heap[T.heap.size]? = some (freshCell cX kX) := by rw [← hT1]; exact State.heap_pushCell_size _ _
  have d3' : decode c.code (pc + 3) = .ok (.dup, 1) := by rw [hb]; exact d3
  have d4' : decode c.code (pc + 4) = .ok (.ldc_w is, 3) := by rw [hb]; exact d4
  have hstr' : vk_R own is text sa s' := vk_R.warm hW0 hstr
  obtain ⟨U, hsteps, hrun, hend, hW, hsame, ce, hce, hO⟩ := X₁.ctorThrowS hexec htr (own := own) (cls := cls) (names := names) (ic := ic) hown' hcls hnames h (fun x hx => nomatch hx) hfX hkX hcellA (by rw [hhp, hT]; exact Nat.le_refl _) (msg := .ref sa) rfl
    (g := { method := m, pc := pc + 7, locals := ls, stack := .ref sa :: .ref T.heap.size :: .ref T.heap.size :: rest, locked := none }) rfl hsize rfl rfl (rest := rest) rfl
    (by rw [hb]; exact d7) (by rw [hb]; exact d10) hout hRframes (by simp only [List.map_cons, List.sum_cons, hcat]; omega) hlocks
  obtain ⟨f1, f2⟩ := vx_frame hsame
  rw [hhp] at f1 f2
  have hWs : s.WarmedH U.vm := State.WarmedH.trans hW0 hW
  have hcl : s.vm.findClass cls = some ce.cls := by
    have h9 := hO.cls
    rw [hvm] at h9
    exact h9
  have hall : s.sameButNew ({ U with vm := s.vm } : State) locs mc ms := by
    subst hA
    obtain ⟨e1, e2⟩ := hsame
    rw [State.setFrames_setFrames] at e1
    have h2 : (T.setVm s.vm).sameButNew ({ U with vm := s.vm } : State) [] (0 + 1) (0 + 6) := ⟨e1, e2⟩
    have h3 := X.same.trans h2
    rw [List.append_nil] at h3
    exact h3.mono hc hs
  refine ⟨U, ?_, .threw T.heap.size, hrun, hend, Or.inr ⟨T.heap.size, rfl, cls, ce, locs, hx U hWs.alike f1 (fun q hq => f2 q hq (fun z hz => nomatch hz)), hce, hO.vm, hcl, hWs, hall, hf⟩⟩
  refine st1 _ ?_
  show Steps p.tables e below (T1.setTop { method := m, pc := pc + 3, locals := ls, stack := .ref T.heap.size :: rest, locked := none }) _
  jvm_step X₁.here [X₁.here.top, hexec, d3', Value.category]
  exact X₁.ldcStringW hexec (own := own) (text := text) (index := is) (a := sa) hown' hstr'.1 hstr'.2
    (g := { method := m, pc := pc + 4, locals := ls, stack := .ref T.heap.size :: .ref T.heap.size :: rest, locked := none }) rfl d4' _ hsteps
end Ends
section Bodies
variable {l : Launch}
theorem vx_ofW {y : MethodName} {ws ws' : List Cond} {rm : Room} {Pc : Array Value → State → Prop} {Qc : Array Value → State → Outcome → State → Prop} {XC : String → State → State → Prop} {mc ms : Nat} {free : Addr → Prop} {cc : ByteArray} {maxL : Nat} {ret : Option FieldType}
    (hy : plainName y.cls = true) (hw : ws = Cond.code y cc maxL ret :: ws')
    (body : ∀ p e s m args below meth c s₁, BodyLoose p l y (headSpec ws rm) cc maxL ret e s m args below meth c s₁ → c.maxLocals = maxL → (∀ x ∈ c.exceptionTable.toList, False) → Pc args s →
      W p l e (headSpec ws rm).room s m args below meth c s.heap [] 0 0 (vx_MQ below Qc XC args s mc ms free) (entryFrame m args maxL)) : vx_Met l y ws rm Pc Qc XC mc ms free := by
  refine MetFree.of_bodyS (code := cc) (maxLocals := maxL) (ret := ret) hy ?_ ?_
  · intro args s m h hn
    obtain ⟨meth, c, h1, h2, h3, h4, h5, h6, -, -⟩ := Cond.code_spec hn (atoms_spec (ws := ws) h _ (by rw [hw]; exact List.mem_cons_self))
    exact ⟨meth, c, h1, h2, h3, h4, h5, h6⟩
  · intro p e s m args below meth c s₁ B hml hP _
    have hh0 : s₁.heap = s.heap := by rw [B.state]; rfl
    have ht : ∀ x ∈ c.exceptionTable.toList, False := by
      obtain ⟨meth9, c9, h1, h2, -, -, -, -, h7, -⟩ := Cond.code_spec B.named (atoms_spec (ws := ws) B.pre _ (by rw [hw]; exact List.mem_cons_self))
      cases Option.some.inj (h1.symm.trans B.method)
      cases Option.some.inj (h2.symm.trans (Stand.of_body B).code)
      intro x hx
      rw [Array.isEmpty_iff.mp h7] at hx
      cases hx
    obtain ⟨t, a1, o, b1, b2, b3⟩ := body p e s m args below meth c s₁ B hml ht hP s₁ hh0 (Stand.of_body B)
    exact ⟨t, o, a1, b1, b2, b3⟩
/-- the table of a body with handlers -/
theorem vx_table {p : Program} {x y : MethodName} {S : Spec} {cc bytes : ByteArray} {maxL maxL' : Nat} {ret ret' : Option FieldType} {e : Env} {s s₁ : State} {m : MethodId} {args : Array Value} {below : List Frame} {meth : Method} {c : Code} {hh : List (Nat × Nat × Nat × Nat)}
    (B : BodyLoose p l y S cc maxL ret e s m args below meth c s₁) (h : (Cond.codeWith y bytes maxL' ret' hh).before args s = true) : c.exceptionTable.toList = tableOf hh := by
  obtain ⟨m9, meth9, c9, hn9, h1, h2, -, -, h6, -⟩ := Cond.codeWith_spec h
  cases Option.some.inj (hn9.symm.trans B.named)
  cases Option.some.inj (h1.symm.trans B.method)
  cases Option.some.inj (h2.symm.trans (Stand.of_body B).code)
  rw [← h6, table_eq]
end Bodies
end VXA
/-! ===== END ===== -/
/-! ===== BEGIN a static call of a method with an exception table ===== -/
section VXS
variable {p : Program} {l : Launch} {e : Env} {R : Room} {s : State} {m : MethodId} {args : Array Value} {below : List Frame} {meth : Method} {c : Code} {T : State} {H : Heap} {locs : List Loc} {cells slots : Nat}
abbrev vx_CSW (R : Room) (s : State) (args : Array Value) (own : String) (index : Nat) (y : MethodName) (bytes : ByteArray) (maxL : Nat) (ret : Option FieldType) (hh : List (Nat × Nat × Nat × Nat)) (ws : List Cond) (rm : Room) (mc ms n : Nat) : Prop :=
  (rm.cells = mc ∧ rm.slots = ms ∧ rm.frames + 1 ≤ R.frames ∧ 8 + (maxL + 11) + rm.locals ≤ R.locals ∧ (∀ w ∈ ws, ∀ (a' : Array Value) (U : State), s.WarmedH U.vm → w.before a' U = true) ∧ Cond.codeWith y bytes maxL ret hh ∈ ws) ∧
  (Cond.codeWith y bytes maxL ret hh).before args s = true ∧ (Cond.initialized y.cls).before args s = true ∧ (y.cls ≠ "java/lang/invoke/MethodHandle" ∧ y.cls ≠ "java/lang/invoke/VarHandle") ∧
  (∀ sig, parseMethodDescriptor y.desc = some sig → n = sig.parameters.length) ∧ (Cond.methodLink own index y).before args s = true ∧ (Cond.static y).before args s = true
theorem vx_cwSW {own : String} {index maxL mc ms : Nat} {y : MethodName} {bytes : ByteArray} {ret : Option FieldType} {hh : List (Nat × Nat × Nat × Nat)} {Ts ws ws' : List Cond} {rm : Room} (n : Nat) (ht : ∀ w ∈ Ts, w.before args s = true) (hT : GoodIn Ts (va_wsS own index y ws)) (hw : ws = Cond.codeWith y bytes maxL ret hh :: ws') (hrc : rm.cells = mc) (hrs : rm.slots = ms)
    (hd : y.cls ≠ "java/lang/invoke/MethodHandle" ∧ y.cls ≠ "java/lang/invoke/VarHandle" ∧ (parseMethodDescriptor y.desc).map (fun d => d.parameters.length) = some n) (hR : rm.frames + 1 ≤ R.frames ∧ 8 + (maxL + 11) + rm.locals ≤ R.locals) :
    vx_CSW R s args own index y bytes maxL ret hh ws rm mc ms n := by
  have ok : ∀ w ∈ va_wsS own index y ws, w.before args s = true := fun w h => ht w (hT w h).1
  have hG : GoodIn Ts ws := fun w h => hT w (by unfold va_wsS; exact List.mem_append_right _ h)
  have hc : Cond.codeWith y bytes maxL ret hh ∈ ws := by rw [hw]; exact List.mem_cons_self
  refine ⟨⟨hrc, hrs, hR.1, hR.2, pay_in ht hG, hc⟩, ht _ (hG _ hc).1, ok _ (by simp [va_wsS]), ⟨hd.1, hd.2.1⟩, fun sig h => ?_, ok _ (by simp [va_wsS]), ok _ (by simp [va_wsS])⟩
  have h2 := hd.2.2
  rw [h] at h2
  exact (Option.some.inj h2).symm
theorem vx_callSW (X : Stand p l e R s m args below meth c T locs cells slots) (hexec : p.tables.exec = Jvm.exec) {own : String} {index : Nat} {y : MethodName} {bytes : ByteArray} {maxL : Nat} {ret : Option FieldType} {hh : List (Nat × Nat × Nat × Nat)}
    (hown : s.vm.findClass own = some m.cls) (hlink : (Cond.methodLink own index y).before args s = true) (hstat : (Cond.static y).before args s = true) (hinit : (Cond.initialized y.cls).before args s = true)
    (hcode : (Cond.codeWith y bytes maxL ret hh).before args s = true) (hy : y.cls ≠ "java/lang/invoke/MethodHandle" ∧ y.cls ≠ "java/lang/invoke/VarHandle")
    {W9 : Nat} {Pre : Pt → Array Value → Prop} {Post : Pt → Array Value → Option Value → Pt → Prop} (hK : Back l R p e below s args y 3 W9 Pre Post)
    {g : JFrame} (hg : g.method = m) (hsize : g.locals.size = c.maxLocals) {argsL rest : List Value} (hlen : ∀ sig, parseMethodDescriptor y.desc = some sig → argsL.length = sig.parameters.length)
    (hstack : g.stack = argsL.reverse ++ rest) (hW : 2 * g.monitorRoom + (rest.map fun v => v.category).sum ≤ W9) (hdg : decode c.code g.pc = .ok (.invokestatic index, 3))
    (hpre : ∀ vm₁, s.WarmedH vm₁ → Pre ⟨T.setVm vm₁, locs, cells, slots⟩ argsL.toArray) :
    ∃ (v : Option Value) (vm₁ : Vm) (B : Pt), s.WarmedH vm₁ ∧ Stand p l e R s m args below meth c B.U B.locs B.cells B.slots ∧ Post ⟨T.setVm vm₁, locs, cells, slots⟩ argsL.toArray v B ∧
      ∀ target, Steps p.tables e below (B.U.setTop { g with pc := g.pc + 3, stack := v.toList ++ rest }) target → Steps p.tables e below (T.setTop g) target := by
  obtain ⟨mk, methM, cM, hnamed, hmethM, -, -, -, -, -, -, hsigM⟩ := Cond.codeWith_spec hcode
  have hstatic : methM.isStatic = true := Cond.static_spec hnamed hmethM hstat
  obtain ⟨kP, hkP, -⟩ := className_of_methodNamed hnamed
  have hinitP : kP.init = .initialized := Cond.initialized_spec (findClass_of_methodNamed hnamed) hkP hinit
  obtain ⟨vm₁, X₁, hstep₁⟩ := X.invokestatic hexec hown hlink hnamed hmethM hstatic hkP hinitP hy (g := g) hg (argsL := argsL) (rest := rest) (hlen _ hsigM) hstack hdg
  obtain ⟨v, B, X', hpost, hsteps⟩ := hK m meth c ⟨T.setVm vm₁, locs, cells, slots⟩ { g with stack := rest } (.invokestatic index) mk argsL.toArray X₁ hg hsize hdg hW (X₁.named hnamed) (hpre vm₁ X₁.warmed)
  exact ⟨v, vm₁, B, X₁.warmed, X', hpost, fun target h => hstep₁ _ fun acts => by rw [doInvoke_state]; exact hsteps.trans h⟩
theorem vx_runSW {y : MethodName} {bytes cc : ByteArray} {maxL nL mc ms n index : Nat} {ret : Option FieldType} {hh : List (Nat × Nat × Nat × Nat)} {ws : List Cond} {rm : Room} {Pc : Array Value → State → Prop} {Qc : Array Value → State → Outcome → State → Prop} {free : Addr → Prop} {Ts : List Cond} {own : String} {As rest : List Value} {g : JFrame}
    (S : CallFix p m c cc nL s args Ts own) (hM : Met l y ws rm Pc Qc mc ms free) (cw : vx_CSW R s args own index y bytes maxL ret hh ws rm mc ms n) (hp : PreS s H Pc As)
    (hg : g.method = m) (hn : As.length = n) (hsize : g.locals.size = nL) (hstack : g.stack = As.reverse ++ rest) (hW : 2 * g.monitorRoom + (rest.map fun v => v.category).sum ≤ 8) (hdg : decode cc g.pc = .ok (.invokestatic index, 3)) (hf : cells + mc ≤ R.cells ∧ slots + ms ≤ R.slots) :
    va_Run p l e R s m args below meth c H locs cells slots mc ms g rest (Qc As.toArray) (free) := by
  obtain ⟨⟨hrc, hrs, hfr, hlo, hws, hcw⟩, hcode, hini, hy, hlen, hl, hstt⟩ := cw
  have hK : Back l R p e below s args y 3 8 (PreOf R mc ms Pc) (PostOf Qc mc ms free) := va_backW (hh := hh) (bytes := bytes) (maxL := maxL) (ret := ret) hM hp.1 hrc hrs hfr hlo hws hcw (fun a' U hW => word_at hW (Or.inl (by first | rfl | simp [Cond.onTables, Cond.keeps, Cond.steady])) hini)
  obtain ⟨hx, hb, hml, ho, -⟩ := S
  intro T hT X
  obtain ⟨v, vm₁, ⟨U', l2, c2, s2⟩, hW₁, X', ⟨g', mk, t, L, e1, e2, hq, h1, hL, h2, h3⟩, st⟩ := vx_callSW X hx (hh := hh) (bytes := bytes) (maxL := maxL) (ret := ret) ho hl hstt hini hcode hy hK hg (hsize.trans hml.symm) (argsL := As) (rest := rest) (fun sig h => hn.trans (hlen sig h)) hstack hW (by rw [hb]; exact hdg)
    (fun vm₁ hW₁ => ⟨hf.1, hf.2, hp.2 (T.setVm vm₁) hT hW₁⟩)
  dsimp only [Pt.U, Pt.locs, Pt.cells, Pt.slots] at X' e1 e2 h1 h2 h3 st
  subst h1; subst h2; subst h3
  exact ⟨v, (T.setVm vm₁).calling g' mk As.toArray, t, U', L, hT, X', hL, e1, e2, hq, st⟩
/-- not caught here, past rows that name other classes: it goes on to the caller -/
theorem vx_outP {p : Program} {l : Launch} {e : Env} {R : Room} {s : State} {m : MethodId} {args : Array Value} {below : List Frame} {meth : Method} {c : Code} {H : Heap} {locs : List Loc} {cells slots : Nat} {free : Addr → Prop} {ls : Array Slot} {rest : List Value} {Qc : Array Value → State → Outcome → State → Prop} {XC : String → State → State → Prop}
    {pc : Nat} {own E : String} {ce : Cell} {q : Addr} {mc ms : Nat} (hown : s.vm.findClass own = some m.cls) (hlocks : meth.locks = false)
    (hpass : ∀ z ∈ c.exceptionTable.toList, covers z pc = false ∨ (z.catchType ≠ 0 ∧ ∃ nm : String, (Cond.classLink own z.catchType nm).before args s = true ∧ va_Nc E nm s)) (hcell : H[q]? = some ce) (hv : ce.vm = .none) (hcl : s.vm.findClass E = some ce.cls)
    (hx : ∀ t : State, t.heap = H → s.vm.Alike t.vm → XC E s t) (hf : ∀ z ∈ locs, free z.base) (hc : cells ≤ mc) (hs : slots ≤ ms) :
    vx_W p l e R s m args below meth c H locs cells slots (vx_MQ below Qc XC args s mc ms free) (F0 m pc ls rest) q := by
  intro T hT X
  have hpl : e.platform.magicAccessors = ({} : Platform).magicAccessors := by rw [X.admits.platform]
  obtain ⟨vm', hW', X', st⟩ := X.outThrough hlocks q (g := F0 m pc ls rest) rfl rfl rfl (cell := ce) (by rw [hT]; exact hcell) (by rw [hv]; rfl)
    (by obtain ⟨k9, h9, -⟩ := Vm.findClass_spec hcl; exact ⟨k9, h9⟩) (fun z hz => by
      rcases hpass z hz with h | ⟨hz0, nm, hl1, hn1⟩
      · exact Or.inl h
      · obtain ⟨c6, hc6, hcl6⟩ := Cond.classLink_spec hown hl1 e.platform hpl
        obtain ⟨a8, b8, h1, h2, h3⟩ := hn1
        cases Option.some.inj (h1.symm.trans hcl)
        cases Option.some.inj (h2.symm.trans hc6)
        exact Or.inr ⟨hz0, _, hcl6, h3⟩)
  obtain ⟨g₀, hfr⟩ := X'.frames_eq
  have hcell9 : ((T.setVm vm').setFrames (.throwing q :: below)).heap[q]? = some ce := by
    show T.heap[q]? = some ce
    rw [hT]; exact hcell
  have hend : Ended ((T.setVm vm').setFrames (.throwing q :: below)) below (.threw q) := State.frames_setFrames _ (State.cur_lt_of_frames hfr)
  refine ⟨(T.setVm vm').setFrames (.throwing q :: below), ?_, .threw q, X'.here.running, hend, Or.inr ⟨q, rfl, E, ce, locs, hx _ hT (X'.ends _).1.alike, hcell9, hv, hcl, (X'.ends _).1, (X'.ends _).2.mono hc hs, hf⟩⟩
  rw [X.pushThrowing_eq]
  exact st
/-- a thing of a world lies in the heap -/
theorem vx_lt {D : va_G} {cl : List vw_C} {ws : va_W} {H1 : Heap} (h : va_P D cl ws H1) {k : Nat} {q : Nat × va_E} (hk : ws[k]? = some q) : q.1 < H1.size := (h k q hk).lt
end VXS
/-! ===== END ===== -/
/-! ===== BEGIN methods with a table of their own: called by a name, returning or throwing ===== -/
section VXH
/-! vx_backW, vx_callVX, vx_callSX, vx_callVW, vx_runVW, vx_runVX, vx_runSX, vx_ofWH follow the same proofs as their sisters above (Free/Laws.lean, Shelf42/LK1.lean); vx_outP calls Shelf42/NT130.lean (outThrough). -/
section
variable {l : Launch} {R : Room} {p : Program} {e : Env} {below : List Frame} {s : State} {sargs : Array Value} {y : MethodName} {len W9 : Nat}
theorem vx_backW {ws : List Cond} {rm : Room} {Pc : Array Value → State → Prop} {Qc : Array Value → State → Outcome → State → Prop} {XC : String → State → State → Prop} {mc ms : Nat} {free : Addr → Prop} {bytes : ByteArray} {maxL : Nat} {ret : Option FieldType} {hh : List (Nat × Nat × Nat × Nat)}
    (hM : vx_Met l y ws rm Pc Qc XC mc ms free) (hblind : FrameBlind Pc) (hrc : rm.cells = mc) (hrs : rm.slots = ms)
    (hframes : rm.frames + 1 ≤ R.frames) (hlocals : W9 + (maxL + 11) + rm.locals ≤ R.locals)
    (hws : ∀ w ∈ ws, ∀ a' U, s.WarmedH U.vm → w.before a' U = true) (hcode : Cond.codeWith y bytes maxL ret hh ∈ ws) (hinit : ∀ a' U, s.WarmedH U.vm → (Cond.initialized y.cls).before a' U = true) :
    vx_Back l R p e below s sargs y len W9 (PreOf R mc ms Pc) (PostOf Qc mc ms free) (vx_Post XC mc ms free) := by
  intro m meth c A g ig mk a X hg hsize hdg hW hn hp
  have h1 : (headSpec ws rm).pre.before a A.U = true := atoms_intro fun w hw => hws w hw _ _ X.warmed
  have h2 : (Cond.codeWith y bytes maxL ret hh).before a A.U = true := hws _ hcode _ _ X.warmed
  have h3 : (Cond.initialized y.cls).before a A.U = true := hinit _ _ X.warmed
  have h4 : A.cells + (headSpec ws rm).room.cells ≤ R.cells := by rw [show (headSpec ws rm).room.cells = mc from hrc]; exact hp.1
  have h5 : A.slots + (headSpec ws rm).room.slots ≤ R.slots := by rw [show (headSpec ws rm).room.slots = ms from hrs]; exact hp.2.1
  have hPc : Pc a (A.U.calling g mk a) := hblind _ _ _ _ hp.2.2
  obtain ⟨U, Ls, c0, s0⟩ := A
  dsimp only [Pt.U, Pt.locs, Pt.cells, Pt.slots] at h1 h2 h3 h4 h5 X hn hPc ⊢
  obtain ⟨m9, methY, cY, hn9, hmY, hcY, -, hlY, -⟩ := Cond.codeWith_spec h2
  cases Option.some.inj (hn9.symm.trans hn)
  obtain ⟨kY, hkY, -⟩ := className_of_methodNamed hn
  have hinitY : kY.init = .initialized := Cond.initialized_spec (findClass_of_methodNamed hn) hkY h3
  have h : At U g.method c below := by rw [hg]; exact X.here
  have hlocals9 : W9 + (maxL + 11) + (headSpec ws rm).room.locals ≤ R.locals := hlocals
  have happ : (headSpec ws rm).appliesLoose y e.platform (U.calling g mk a) = true :=
    Spec.appliesLoose_calling (g := g) h hdg hn hkY hinitY
      (X.room_calling (g := g) (R' := (headSpec ws rm).room) hsize hmY hcY hframes (by rw [hlY]; omega) h4 h5) h1
  obtain ⟨mid, hmid⟩ := h.above
  have hfr : (U.setTop g).frames = (.java g :: mid) ++ below := by rw [State.frames_setTop' g h.top, hmid]; rfl
  obtain ⟨o, s₂, hsteps, -, hend, hq⟩ := Steps.callFree hM p X.admits X.cas X.clock (acts := []) hfr happ hPc trivial
  have hq' : vx_Q Qc XC mc ms free a (U.calling g mk a) o s₂ := hq
  rw [State.frames_setTop' g h.top] at hend
  obtain ⟨g₀, hg0⟩ := Option.isSome_iff_exists.mp h.top
  obtain ⟨r, hr⟩ := State.topJava?_eq_some.mp hg0
  have hr' : (({ U with heap := s₂.heap, slotsUsed := s₂.slotsUsed } : State).setVm s₂.vm).frames = .java g₀ :: r := hr
  rcases hq' with ⟨hqc, L, hfe, hL⟩ | ⟨q, rfl, E, ce, L, hx, hce, hcv, hcl, hW₂, hsm, hL⟩
  · obtain ⟨⟨v, rfl⟩, hW₂, e2, q2, q3, q4, q5, q6⟩ := id hfe
    have e3 : s₂ = ({ (U.calling g mk a).setFrames s₂.frames with heap := s₂.heap, slotsUsed := s₂.slotsUsed } : State).setVm s₂.vm := by
      have : s₂ = ({ s₂ with vm := (U.calling g mk a).vm } : State).setVm s₂.vm := rfl
      rw [e2] at this
      exact this
    obtain ⟨c₂, i₂, len₂, hc₂, hd₂, hf₂⟩ := hend
    have hW' : U.WarmedH s₂.vm := hW₂
    have hcc : c₂ = c := by
      have h1 : s₂.code? g.method = U.code? g.method := by
        rw [State.code?_eq, State.code?_eq, hW'.alike.method?]
      exact Option.some.inj (hc₂.symm.trans (h1.trans h.code))
    subst hcc
    have hlen : len₂ = len := by rw [hdg] at hd₂; cases hd₂; rfl
    subst hlen
    have hs₂ : s₂ = (({ U with heap := s₂.heap, slotsUsed := s₂.slotsUsed } : State).setVm s₂.vm).setTop { g with pc := g.pc + len₂, stack := v.toList ++ g.stack } := by
      refine e3.trans ?_
      rw [hf₂, State.calling_eq h.top, State.setFrames_setFrames, State.setTop_of_frames _ hr', hr]
      rfl
    have hsame : U.sameButNew ({ U with heap := s₂.heap, slotsUsed := s₂.slotsUsed } : State) L mc ms := by
      refine ⟨?_, q2, q3, q4, q5, q6⟩
      obtain ⟨t, ht, -⟩ := State.frames_cons hr
      show ({ U with heap := s₂.heap, slotsUsed := s₂.slotsUsed } : State) = { U.setFrames U.frames with heap := s₂.heap, slotsUsed := s₂.slotsUsed }
      rw [State.setFrames_self ht]
    subst hg
    refine Or.inl ⟨v, ⟨(({ U with heap := s₂.heap, slotsUsed := s₂.slotsUsed } : State).setVm s₂.vm), Ls ++ L, c0 + mc, s0 + ms⟩,
      ⟨X.admits, X.cas, X.clock, X.frames, X.room, X.hears, X.method, X.code, (X.here.setHeapUsed s₂.heap s₂.slotsUsed).setVm hW'.alike, X.tail, State.WarmedH.trans X.warmed hW', X.limits, X.bytes, X.same.trans (hsame.setVm s.vm)⟩,
      ⟨g, mk, s₂, L, rfl, rfl, hqc, rfl, hL, rfl, rfl⟩, ?_⟩
    show Steps p.tables e below _ ((({ U with heap := s₂.heap, slotsUsed := s₂.slotsUsed } : State).setVm s₂.vm).setTop { g with pc := g.pc + len₂, stack := v.toList ++ g.stack })
    rw [← hs₂]
    exact hsteps
  · obtain ⟨e2, q2, q3, q4, q5, q6⟩ := id hsm
    have e3 : s₂ = ({ (U.calling g mk a).setFrames s₂.frames with heap := s₂.heap, slotsUsed := s₂.slotsUsed } : State).setVm s₂.vm := by
      have : s₂ = ({ s₂ with vm := (U.calling g mk a).vm } : State).setVm s₂.vm := rfl
      rw [e2] at this
      exact this
    have hf₂ : s₂.frames = .throwing q :: .java g :: U.frames.tail := hend
    have hW' : U.WarmedH s₂.vm := hW₂
    have hs₂ : s₂ = ((({ U with heap := s₂.heap, slotsUsed := s₂.slotsUsed } : State).setVm s₂.vm).setTop g).pushFrame (.throwing q) := by
      refine e3.trans ?_
      rw [hf₂, State.calling_eq h.top, State.setFrames_setFrames, State.pushFrame, State.frames_setTop _ hr', State.setTop_of_frames _ hr', State.setFrames_setFrames, hr]
      rfl
    have hsame : U.sameButNew ({ U with heap := s₂.heap, slotsUsed := s₂.slotsUsed } : State) L mc ms := by
      refine ⟨?_, q2, q3, q4, q5, q6⟩
      obtain ⟨t, ht, -⟩ := State.frames_cons hr
      show ({ U with heap := s₂.heap, slotsUsed := s₂.slotsUsed } : State) = { U.setFrames U.frames with heap := s₂.heap, slotsUsed := s₂.slotsUsed }
      rw [State.setFrames_self ht]
    subst hg
    refine Or.inr ⟨q, ⟨(({ U with heap := s₂.heap, slotsUsed := s₂.slotsUsed } : State).setVm s₂.vm), Ls ++ L, c0 + mc, s0 + ms⟩,
      ⟨X.admits, X.cas, X.clock, X.frames, X.room, X.hears, X.method, X.code, (X.here.setHeapUsed s₂.heap s₂.slotsUsed).setVm hW'.alike, X.tail, State.WarmedH.trans X.warmed hW', X.limits, X.bytes, X.same.trans (hsame.setVm s.vm)⟩,
      ⟨g, mk, s₂, L, E, ce, rfl, rfl, hx, hce, hcv, hcl, rfl, hL, rfl, rfl⟩, ?_⟩
    show Steps p.tables e below _ (((({ U with heap := s₂.heap, slotsUsed := s₂.slotsUsed } : State).setVm s₂.vm).setTop g).pushFrame (.throwing q))
    rw [← hs₂]
    exact hsteps
end
variable {p : Program} {l : Launch} {e : Env} {R : Room} {s : State} {m : MethodId} {args : Array Value} {below : List Frame} {meth : Method} {c : Code} {T : State} {H : Heap} {locs : List Loc} {cells slots : Nat}
theorem vx_callVX (X : Stand p l e R s m args below meth c T locs cells slots) (hexec : p.tables.exec = Jvm.exec) {own C : String} {index : Nat} {y : MethodName} {bytes : ByteArray} {maxL : Nat} {ret : Option FieldType} {hh : List (Nat × Nat × Nat × Nat)}
    (hown : s.vm.findClass own = some m.cls) (hlink : (Cond.methodLink own index y).before args s = true) (hinst : (Cond.instanceMethod y).before args s = true) (hsel : (Cond.selects C y y).before args s = true)
    (hcode : (Cond.codeWith y bytes maxL ret hh).before args s = true) (hy : y.cls ≠ "java/lang/invoke/MethodHandle" ∧ y.cls ≠ "java/lang/invoke/VarHandle")
    {W9 : Nat} {Pre : Pt → Array Value → Prop} {Post : Pt → Array Value → Option Value → Pt → Prop} {PostX : Pt → Array Value → Addr → Pt → Prop} (hK : vx_Back l R p e below s args y 3 W9 Pre Post PostX)
    {b : Addr} {cellB : Cell} (hcell : T.heap[b]? = some cellB) (hobj : cellB.vm.isStatics = false) (hcls : s.vm.findClass C = some cellB.cls)
    {g : JFrame} (hg : g.method = m) (hsize : g.locals.size = c.maxLocals) {argsL rest : List Value} (hlen : ∀ sig, parseMethodDescriptor y.desc = some sig → argsL.length = sig.parameters.length)
    (hstack : g.stack = argsL.reverse ++ .ref b :: rest) (hW : 2 * g.monitorRoom + (rest.map fun v => v.category).sum ≤ W9) (hdg : decode c.code g.pc = .ok (.invokevirtual index, 3))
    (hpre : ∀ vm₁, s.WarmedH vm₁ → Pre ⟨T.setVm vm₁, locs, cells, slots⟩ (Value.ref b :: argsL).toArray) :
    (∃ (v : Option Value) (vm₁ : Vm) (B : Pt), s.WarmedH vm₁ ∧ Stand p l e R s m args below meth c B.U B.locs B.cells B.slots ∧ Post ⟨T.setVm vm₁, locs, cells, slots⟩ (Value.ref b :: argsL).toArray v B ∧
      ∀ target, Steps p.tables e below (B.U.setTop { g with pc := g.pc + 3, stack := v.toList ++ rest }) target → Steps p.tables e below (T.setTop g) target) ∨
    (∃ (q : Addr) (vm₁ : Vm) (B : Pt), s.WarmedH vm₁ ∧ Stand p l e R s m args below meth c B.U B.locs B.cells B.slots ∧ PostX ⟨T.setVm vm₁, locs, cells, slots⟩ (Value.ref b :: argsL).toArray q B ∧
      Steps p.tables e below (T.setTop g) ((B.U.setTop { g with stack := rest }).pushFrame (.throwing q))) := by
  obtain ⟨mk, methM, hnamed, hmethM, hstM, habM⟩ := Cond.instanceMethod_spec hinst
  obtain ⟨m8, methM', cM, hn8, hmethM', -, -, -, -, -, -, hsigM⟩ := Cond.codeWith_spec hcode
  cases Option.some.inj (hn8.symm.trans hnamed)
  cases hmethM.symm.trans hmethM'
  obtain ⟨c2, r2, m2, q1, q2, q3, q4, kP, hkP, hkPi⟩ := Cond.selects_spec hsel
  cases hcls.symm.trans q1
  cases (State.methodFound?_of_named hnamed hy).symm.trans q2
  cases hnamed.symm.trans q3
  have hselP : selectMethod e.platform s.vm cellB.cls mk = .method mk := by rw [Launch.admits_selectMethod X.admits]; exact q4
  obtain ⟨vm₁, X₁, hstep₁⟩ := X.invokevirtual hexec hown hlink hnamed hmethM hstM hkP hkPi hy (a := b) (cell := cellB) hcell
    (fun z h => by rw [h] at hobj; cases hobj) hselP hmethM habM hkP hkPi (g := g) hg (argsL := argsL) (rest := rest) (hlen _ hsigM) hstack hdg
  rcases hK m meth c ⟨T.setVm vm₁, locs, cells, slots⟩ { g with stack := rest } (.invokevirtual index) mk (Value.ref b :: argsL).toArray X₁ hg hsize hdg hW (X₁.named hnamed) (hpre vm₁ X₁.warmed) with ⟨v, B, X', hpost, hsteps⟩ | ⟨q, B, X', hpost, hsteps⟩
  · exact Or.inl ⟨v, vm₁, B, X₁.warmed, X', hpost, fun target h => hstep₁ _ fun acts => by rw [doInvoke_state]; exact hsteps.trans h⟩
  · exact Or.inr ⟨q, vm₁, B, X₁.warmed, X', hpost, hstep₁ _ fun acts => by rw [doInvoke_state]; exact hsteps⟩
theorem vx_callSX (X : Stand p l e R s m args below meth c T locs cells slots) (hexec : p.tables.exec = Jvm.exec) {own : String} {index : Nat} {y : MethodName} {bytes : ByteArray} {maxL : Nat} {ret : Option FieldType} {hh : List (Nat × Nat × Nat × Nat)}
    (hown : s.vm.findClass own = some m.cls) (hlink : (Cond.methodLink own index y).before args s = true) (hstat : (Cond.static y).before args s = true) (hinit : (Cond.initialized y.cls).before args s = true)
    (hcode : (Cond.codeWith y bytes maxL ret hh).before args s = true) (hy : y.cls ≠ "java/lang/invoke/MethodHandle" ∧ y.cls ≠ "java/lang/invoke/VarHandle")
    {W9 : Nat} {Pre : Pt → Array Value → Prop} {Post : Pt → Array Value → Option Value → Pt → Prop} {PostX : Pt → Array Value → Addr → Pt → Prop} (hK : vx_Back l R p e below s args y 3 W9 Pre Post PostX)
    {g : JFrame} (hg : g.method = m) (hsize : g.locals.size = c.maxLocals) {argsL rest : List Value} (hlen : ∀ sig, parseMethodDescriptor y.desc = some sig → argsL.length = sig.parameters.length)
    (hstack : g.stack = argsL.reverse ++ rest) (hW : 2 * g.monitorRoom + (rest.map fun v => v.category).sum ≤ W9) (hdg : decode c.code g.pc = .ok (.invokestatic index, 3))
    (hpre : ∀ vm₁, s.WarmedH vm₁ → Pre ⟨T.setVm vm₁, locs, cells, slots⟩ argsL.toArray) :
    (∃ (v : Option Value) (vm₁ : Vm) (B : Pt), s.WarmedH vm₁ ∧ Stand p l e R s m args below meth c B.U B.locs B.cells B.slots ∧ Post ⟨T.setVm vm₁, locs, cells, slots⟩ argsL.toArray v B ∧
      ∀ target, Steps p.tables e below (B.U.setTop { g with pc := g.pc + 3, stack := v.toList ++ rest }) target → Steps p.tables e below (T.setTop g) target) ∨
    (∃ (q : Addr) (vm₁ : Vm) (B : Pt), s.WarmedH vm₁ ∧ Stand p l e R s m args below meth c B.U B.locs B.cells B.slots ∧ PostX ⟨T.setVm vm₁, locs, cells, slots⟩ argsL.toArray q B ∧
      Steps p.tables e below (T.setTop g) ((B.U.setTop { g with stack := rest }).pushFrame (.throwing q))) := by
  obtain ⟨mk, methM, cM, hnamed, hmethM, -, -, -, -, -, -, hsigM⟩ := Cond.codeWith_spec hcode
  have hstatic : methM.isStatic = true := Cond.static_spec hnamed hmethM hstat
  obtain ⟨kP, hkP, -⟩ := className_of_methodNamed hnamed
  have hinitP : kP.init = .initialized := Cond.initialized_spec (findClass_of_methodNamed hnamed) hkP hinit
  obtain ⟨vm₁, X₁, hstep₁⟩ := X.invokestatic hexec hown hlink hnamed hmethM hstatic hkP hinitP hy (g := g) hg (argsL := argsL) (rest := rest) (hlen _ hsigM) hstack hdg
  rcases hK m meth c ⟨T.setVm vm₁, locs, cells, slots⟩ { g with stack := rest } (.invokestatic index) mk argsL.toArray X₁ hg hsize hdg hW (X₁.named hnamed) (hpre vm₁ X₁.warmed) with ⟨v, B, X', hpost, hsteps⟩ | ⟨q, B, X', hpost, hsteps⟩
  · exact Or.inl ⟨v, vm₁, B, X₁.warmed, X', hpost, fun target h => hstep₁ _ fun acts => by rw [doInvoke_state]; exact hsteps.trans h⟩
  · exact Or.inr ⟨q, vm₁, B, X₁.warmed, X', hpost, hstep₁ _ fun acts => by rw [doInvoke_state]; exact hsteps⟩
theorem vx_callVW (X : Stand p l e R s m args below meth c T locs cells slots) (hexec : p.tables.exec = Jvm.exec) {own C : String} {index : Nat} {y : MethodName} {bytes : ByteArray} {maxL : Nat} {ret : Option FieldType} {hh : List (Nat × Nat × Nat × Nat)}
    (hown : s.vm.findClass own = some m.cls) (hlink : (Cond.methodLink own index y).before args s = true) (hinst : (Cond.instanceMethod y).before args s = true) (hsel : (Cond.selects C y y).before args s = true)
    (hcode : (Cond.codeWith y bytes maxL ret hh).before args s = true) (hy : y.cls ≠ "java/lang/invoke/MethodHandle" ∧ y.cls ≠ "java/lang/invoke/VarHandle")
    {W9 : Nat} {Pre : Pt → Array Value → Prop} {Post : Pt → Array Value → Option Value → Pt → Prop} (hK : Back l R p e below s args y 3 W9 Pre Post)
    {b : Addr} {cellB : Cell} (hcell : T.heap[b]? = some cellB) (hobj : cellB.vm.isStatics = false) (hcls : s.vm.findClass C = some cellB.cls)
    {g : JFrame} (hg : g.method = m) (hsize : g.locals.size = c.maxLocals) {argsL rest : List Value} (hlen : ∀ sig, parseMethodDescriptor y.desc = some sig → argsL.length = sig.parameters.length)
    (hstack : g.stack = argsL.reverse ++ .ref b :: rest) (hW : 2 * g.monitorRoom + (rest.map fun v => v.category).sum ≤ W9) (hdg : decode c.code g.pc = .ok (.invokevirtual index, 3))
    (hpre : ∀ vm₁, s.WarmedH vm₁ → Pre ⟨T.setVm vm₁, locs, cells, slots⟩ (Value.ref b :: argsL).toArray) :
    ∃ (v : Option Value) (vm₁ : Vm) (B : Pt), s.WarmedH vm₁ ∧ Stand p l e R s m args below meth c B.U B.locs B.cells B.slots ∧ Post ⟨T.setVm vm₁, locs, cells, slots⟩ (Value.ref b :: argsL).toArray v B ∧
      ∀ target, Steps p.tables e below (B.U.setTop { g with pc := g.pc + 3, stack := v.toList ++ rest }) target → Steps p.tables e below (T.setTop g) target := by
  obtain ⟨mk, methM, hnamed, hmethM, hstM, habM⟩ := Cond.instanceMethod_spec hinst
  obtain ⟨m8, methM', cM, hn8, hmethM', -, -, -, -, -, -, hsigM⟩ := Cond.codeWith_spec hcode
  cases Option.some.inj (hn8.symm.trans hnamed)
  cases hmethM.symm.trans hmethM'
  obtain ⟨c2, r2, m2, q1, q2, q3, q4, kP, hkP, hkPi⟩ := Cond.selects_spec hsel
  cases hcls.symm.trans q1
  cases (State.methodFound?_of_named hnamed hy).symm.trans q2
  cases hnamed.symm.trans q3
  have hselP : selectMethod e.platform s.vm cellB.cls mk = .method mk := by rw [Launch.admits_selectMethod X.admits]; exact q4
  obtain ⟨vm₁, X₁, hstep₁⟩ := X.invokevirtual hexec hown hlink hnamed hmethM hstM hkP hkPi hy (a := b) (cell := cellB) hcell
    (fun z h => by rw [h] at hobj; cases hobj) hselP hmethM habM hkP hkPi (g := g) hg (argsL := argsL) (rest := rest) (hlen _ hsigM) hstack hdg
  obtain ⟨v, B, X', hpost, hsteps⟩ := hK m meth c ⟨T.setVm vm₁, locs, cells, slots⟩ { g with stack := rest } (.invokevirtual index) mk (Value.ref b :: argsL).toArray X₁ hg hsize hdg hW (X₁.named hnamed) (hpre vm₁ X₁.warmed)
  exact ⟨v, vm₁, B, X₁.warmed, X', hpost, fun target h => hstep₁ _ fun acts => by rw [doInvoke_state]; exact hsteps.trans h⟩
abbrev vx_CVW (R : Room) (s : State) (args : Array Value) (own C : String) (index : Nat) (y : MethodName) (bytes : ByteArray) (maxL : Nat) (ret : Option FieldType) (hh : List (Nat × Nat × Nat × Nat)) (ws : List Cond) (rm : Room) (mc ms n : Nat) : Prop :=
  (rm.cells = mc ∧ rm.slots = ms ∧ rm.frames + 1 ≤ R.frames ∧ 8 + (maxL + 11) + rm.locals ≤ R.locals ∧ (∀ w ∈ ws, ∀ (a' : Array Value) (U : State), s.WarmedH U.vm → w.before a' U = true) ∧ Cond.codeWith y bytes maxL ret hh ∈ ws) ∧
  (Cond.codeWith y bytes maxL ret hh).before args s = true ∧ (Cond.initialized y.cls).before args s = true ∧ (y.cls ≠ "java/lang/invoke/MethodHandle" ∧ y.cls ≠ "java/lang/invoke/VarHandle") ∧
  (∀ sig, parseMethodDescriptor y.desc = some sig → n = sig.parameters.length) ∧ (Cond.methodLink own index y).before args s = true ∧ (Cond.instanceMethod y).before args s = true ∧ (Cond.selects C y y).before args s = true
theorem vx_cwVW {own C : String} {index maxL mc ms : Nat} {y : MethodName} {bytes : ByteArray} {ret : Option FieldType} {hh : List (Nat × Nat × Nat × Nat)} {Ts ws ws' : List Cond} {rm : Room} (n : Nat) (ht : ∀ w ∈ Ts, w.before args s = true) (hT : GoodIn Ts (wsV own index C y ws)) (hw : ws = Cond.codeWith y bytes maxL ret hh :: ws') (hrc : rm.cells = mc) (hrs : rm.slots = ms)
    (hd : y.cls = C ∧ y.cls ≠ "java/lang/invoke/MethodHandle" ∧ y.cls ≠ "java/lang/invoke/VarHandle" ∧ (parseMethodDescriptor y.desc).map (fun d => d.parameters.length) = some n) (hR : rm.frames + 1 ≤ R.frames ∧ 8 + (maxL + 11) + rm.locals ≤ R.locals) :
    vx_CVW R s args own C index y bytes maxL ret hh ws rm mc ms n := by
  obtain ⟨hC, hd⟩ := hd
  subst hC
  have ok : ∀ w ∈ wsV own index y.cls y ws, w.before args s = true := fun w h => ht w (hT w h).1
  have hG : GoodIn Ts ws := fun w h => hT w (by unfold wsV; exact List.mem_append_right _ h)
  have hc : Cond.codeWith y bytes maxL ret hh ∈ ws := by rw [hw]; exact List.mem_cons_self
  refine ⟨⟨hrc, hrs, hR.1, hR.2, pay_in ht hG, hc⟩, ht _ (hG _ hc).1, ok _ (by simp [wsV]), ⟨hd.1, hd.2.1⟩, fun sig h => ?_, ok _ (by simp [wsV]), ok _ (by simp [wsV]), ok _ (by simp [wsV])⟩
  have h2 := hd.2.2
  rw [h] at h2
  exact (Option.some.inj h2).symm
theorem vx_runVW {y : MethodName} {bytes cc : ByteArray} {maxL nL mc ms n index : Nat} {ret : Option FieldType} {hh : List (Nat × Nat × Nat × Nat)} {ws : List Cond} {rm : Room} {Pc : Array Value → State → Prop} {Qc : Array Value → State → Outcome → State → Prop} {free : Addr → Prop} {Ts : List Cond} {own C : String} {b : Addr} {As rest : List Value} {g : JFrame}
    (S : CallFix p m c cc nL s args Ts own) (hM : Met l y ws rm Pc Qc mc ms free) (cw : vx_CVW R s args own C index y bytes maxL ret hh ws rm mc ms n) (hp : PreV s H C b Pc As)
    (hg : g.method = m) (hn : As.length = n) (hsize : g.locals.size = nL) (hstack : g.stack = As.reverse ++ .ref b :: rest) (hW : 2 * g.monitorRoom + (rest.map fun v => v.category).sum ≤ 8) (hdg : decode cc g.pc = .ok (.invokevirtual index, 3)) (hf : cells + mc ≤ R.cells ∧ slots + ms ≤ R.slots) :
    va_Run p l e R s m args below meth c H locs cells slots mc ms g rest (Qc (Value.ref b :: As).toArray) free := by
  obtain ⟨⟨hrc, hrs, hfr, hlo, hws, hcw⟩, hcode, hini, hy, hlen, hl, hin, hse⟩ := cw
  have hK : Back l R p e below s args y 3 8 (PreOf R mc ms Pc) (PostOf Qc mc ms free) := va_backW (hh := hh) (bytes := bytes) (maxL := maxL) (ret := ret) hM hp.1 hrc hrs hfr hlo hws hcw (fun a' U hW => word_at hW (Or.inl (by first | rfl | simp [Cond.onTables, Cond.keeps, Cond.steady])) hini)
  obtain ⟨hx, hb, hml, ho, -⟩ := S
  obtain ⟨-, ⟨cellB, hcB, hoB, hclB⟩, hPc⟩ := hp
  intro T hT X
  obtain ⟨v, vm₁, ⟨U', l2, c2, s2⟩, hW₁, X', ⟨g', mk, t, L, e1, e2, hq, h1, hL, h2, h3⟩, st⟩ := vx_callVW X hx (C := C) (hh := hh) (bytes := bytes) (maxL := maxL) (ret := ret) ho hl hin hse hcode hy hK (by rw [hT]; exact hcB) hoB hclB hg (hsize.trans hml.symm) (argsL := As) (rest := rest) (fun sig h => hn.trans (hlen sig h)) hstack hW (by rw [hb]; exact hdg)
    (fun vm₁ hW₁ => ⟨hf.1, hf.2, hPc (T.setVm vm₁) hT hW₁⟩)
  dsimp only [Pt.U, Pt.locs, Pt.cells, Pt.slots] at X' e1 e2 h1 h2 h3 st
  subst h1; subst h2; subst h3
  exact ⟨v, (T.setVm vm₁).calling g' mk (Value.ref b :: As).toArray, t, U', L, hT, X', hL, e1, e2, hq, st⟩
section
variable {y : MethodName} {bytes cc : ByteArray} {maxL nL mc ms n index : Nat} {ret : Option FieldType} {ws : List Cond} {rm : Room} {Pc : Array Value → State → Prop} {Qc : Array Value → State → Outcome → State → Prop} {XC : String → State → State → Prop} {free : Addr → Prop} {Ts : List Cond} {own C : String} {b : Addr} {As rest : List Value} {g : JFrame}
theorem vx_runVX {hh : List (Nat × Nat × Nat × Nat)} (S : CallFix p m c cc nL s args Ts own) (hM : vx_Met l y ws rm Pc Qc XC mc ms free) (cw : vx_CVW R s args own C index y bytes maxL ret hh ws rm mc ms n) (hp : PreV s H C b Pc As)
    (hg : g.method = m) (hn : As.length = n) (hsize : g.locals.size = nL) (hstack : g.stack = As.reverse ++ .ref b :: rest) (hW : 2 * g.monitorRoom + (rest.map fun v => v.category).sum ≤ 8) (hdg : decode cc g.pc = .ok (.invokevirtual index, 3)) (hf : cells + mc ≤ R.cells ∧ slots + ms ≤ R.slots) :
    vx_Run p l e R s m args below meth c H locs cells slots mc ms g rest (Qc (Value.ref b :: As).toArray) XC free := by
  obtain ⟨⟨hrc, hrs, hfr, hlo, hws, hcw⟩, hcode, hini, hy, hlen, hl, hin, hse⟩ := cw
  have hK : vx_Back l R p e below s args y 3 8 (PreOf R mc ms Pc) (PostOf Qc mc ms free) (vx_Post XC mc ms free) := vx_backW (hh := hh) (bytes := bytes) (maxL := maxL) (ret := ret) hM hp.1 hrc hrs hfr hlo hws hcw (fun a' U hW => word_at hW (Or.inl (by first | rfl | simp [Cond.onTables, Cond.keeps, Cond.steady])) hini)
  obtain ⟨hx, hb, hml, ho, -⟩ := S
  obtain ⟨-, ⟨cellB, hcB, hoB, hclB⟩, hPc⟩ := hp
  intro T hT X
  rcases vx_callVX X hx (C := C) (hh := hh) (bytes := bytes) (maxL := maxL) (ret := ret) ho hl hin hse hcode hy hK (by rw [hT]; exact hcB) hoB hclB hg (hsize.trans hml.symm) (argsL := As) (rest := rest) (fun sig h => hn.trans (hlen sig h)) hstack hW (by rw [hb]; exact hdg)
    (fun vm₁ hW₁ => ⟨hf.1, hf.2, hPc (T.setVm vm₁) hT hW₁⟩) with ⟨v, vm₁, ⟨U', l2, c2, s2⟩, hW₁, X', ⟨g', mk, t, L, e1, e2, hq, h1, hL, h2, h3⟩, st⟩ | ⟨q, vm₁, ⟨U', l2, c2, s2⟩, hW₁, X', ⟨g', mk, t, L, E, ce, e1, e2, hq, hce, hcv, hcl, h1, hL, h2, h3⟩, st⟩
  · dsimp only [Pt.U, Pt.locs, Pt.cells, Pt.slots] at X' e1 e2 h1 h2 h3 st
    subst h1; subst h2; subst h3
    exact Or.inl ⟨v, (T.setVm vm₁).calling g' mk (Value.ref b :: As).toArray, t, U', L, hT, X', hL, e1, e2, hq, st⟩
  · dsimp only [Pt.U, Pt.locs, Pt.cells, Pt.slots] at X' e1 e2 h1 h2 h3 st hcl
    subst h1; subst h2; subst h3
    exact Or.inr ⟨q, (T.setVm vm₁).calling g' mk (Value.ref b :: As).toArray, t, U', L, E, ce, hT, X', hL, e1, e2, hq, hce, hcv, vx_cls hW₁ hcl, st⟩
theorem vx_runSX {hh : List (Nat × Nat × Nat × Nat)} (S : CallFix p m c cc nL s args Ts own) (hM : vx_Met l y ws rm Pc Qc XC mc ms free) (cw : vx_CSW R s args own index y bytes maxL ret hh ws rm mc ms n) (hp : PreS s H Pc As)
    (hg : g.method = m) (hn : As.length = n) (hsize : g.locals.size = nL) (hstack : g.stack = As.reverse ++ rest) (hW : 2 * g.monitorRoom + (rest.map fun v => v.category).sum ≤ 8) (hdg : decode cc g.pc = .ok (.invokestatic index, 3)) (hf : cells + mc ≤ R.cells ∧ slots + ms ≤ R.slots) :
    vx_Run p l e R s m args below meth c H locs cells slots mc ms g rest (Qc As.toArray) XC free := by
  obtain ⟨⟨hrc, hrs, hfr, hlo, hws, hcw⟩, hcode, hini, hy, hlen, hl, hstt⟩ := cw
  have hK : vx_Back l R p e below s args y 3 8 (PreOf R mc ms Pc) (PostOf Qc mc ms free) (vx_Post XC mc ms free) := vx_backW (hh := hh) (bytes := bytes) (maxL := maxL) (ret := ret) hM hp.1 hrc hrs hfr hlo hws hcw (fun a' U hW => word_at hW (Or.inl (by first | rfl | simp [Cond.onTables, Cond.keeps, Cond.steady])) hini)
  obtain ⟨hx, hb, hml, ho, -⟩ := S
  intro T hT X
  rcases vx_callSX X hx (hh := hh) (bytes := bytes) (maxL := maxL) (ret := ret) ho hl hstt hini hcode hy hK hg (hsize.trans hml.symm) (argsL := As) (rest := rest) (fun sig h => hn.trans (hlen sig h)) hstack hW (by rw [hb]; exact hdg)
    (fun vm₁ hW₁ => ⟨hf.1, hf.2, hp.2 (T.setVm vm₁) hT hW₁⟩) with ⟨v, vm₁, ⟨U', l2, c2, s2⟩, hW₁, X', ⟨g', mk, t, L, e1, e2, hq, h1, hL, h2, h3⟩, st⟩ | ⟨q, vm₁, ⟨U', l2, c2, s2⟩, hW₁, X', ⟨g', mk, t, L, E, ce, e1, e2, hq, hce, hcv, hcl, h1, hL, h2, h3⟩, st⟩
  · dsimp only [Pt.U, Pt.locs, Pt.cells, Pt.slots] at X' e1 e2 h1 h2 h3 st
    subst h1; subst h2; subst h3
    exact Or.inl ⟨v, (T.setVm vm₁).calling g' mk As.toArray, t, U', L, hT, X', hL, e1, e2, hq, st⟩
  · dsimp only [Pt.U, Pt.locs, Pt.cells, Pt.slots] at X' e1 e2 h1 h2 h3 st hcl
    subst h1; subst h2; subst h3
    exact Or.inr ⟨q, (T.setVm vm₁).calling g' mk As.toArray, t, U', L, E, ce, hT, X', hL, e1, e2, hq, hce, hcv, vx_cls hW₁ hcl, st⟩
end
end VXH
theorem vx_ofWH {l : Launch} {y : MethodName} {ws ws' : List Cond} {rm : Room} {Pc : Array Value → State → Prop} {Qc : Array Value → State → Outcome → State → Prop} {XC : String → State → State → Prop} {mc ms : Nat} {free : Addr → Prop} {cc : ByteArray} {maxL : Nat} {ret : Option FieldType} {hh : List (Nat × Nat × Nat × Nat)}
    (hy : plainName y.cls = true) (hw : ws = Cond.codeWith y cc maxL ret hh :: ws')
    (body : ∀ p e s m args below meth c s₁, BodyLoose p l y (headSpec ws rm) cc maxL ret e s m args below meth c s₁ → c.maxLocals = maxL → Pc args s →
      W p l e (headSpec ws rm).room s m args below meth c s.heap [] 0 0 (vx_MQ below Qc XC args s mc ms free) (entryFrame m args maxL)) : vx_Met l y ws rm Pc Qc XC mc ms free := by
  refine MetFree.of_bodyS (code := cc) (maxLocals := maxL) (ret := ret) hy ?_ ?_
  · intro args s m h hn
    obtain ⟨m9, meth, c, hn9, h1, h2, h3, h4, -, h5, h6, -⟩ := Cond.codeWith_spec (atoms_spec (ws := ws) h _ (by rw [hw]; exact List.mem_cons_self))
    cases hn.symm.trans hn9
    exact ⟨meth, c, h1, h2, h3, h4, h5, h6⟩
  · intro p e s m args below meth c s₁ B hml hP _
    have hh0 : s₁.heap = s.heap := by rw [B.state]; rfl
    obtain ⟨t, a1, o, b1, b2, b3⟩ := body p e s m args below meth c s₁ B hml hP s₁ hh0 (Stand.of_body B)
    exact ⟨t, o, a1, b1, b2, b3⟩
/-! ===== END ===== -/
end
section
/-! ===== BEGIN printed: names, fields, word lists, decode rows ===== -/
def RX0 : String := "LotTracker"
def TX0 : u_T := fun k => match k with
  | 0 => ("LotTracker", "stepTool", "[I", true)
  | 1 => ("LotTracker", "stepMinutes", "[I", true)
  | 2 => ("LotTracker", "stepLimit", "[I", true)
  | 3 => ("LotTracker", "stepBack", "[I", true)
  | 4 => ("LotTracker", "stepCount", "I", false)
  | 5 => ("LotTracker", "lotState", "[I", true)
  | 6 => ("LotTracker", "lotStep", "[I", true)
  | 7 => ("LotTracker", "lotMoment", "[I", true)
  | 8 => ("LotTracker", "lotHeld", "[Z", true)
  | 9 => ("LotTracker", "lotReworks", "[I", true)
  | 10 => ("LotTracker", "lotParent", "[I", true)
  | 11 => ("LotTracker", "lotSize", "[I", true)
  | 12 => ("LotTracker", "lotCount", "I", false)
  | 13 => ("LotTracker", "waferLot", "[I", true)
  | 14 => ("LotTracker", "waferPath", "[[I", true)
  | 15 => ("LotTracker", "waferPathLength", "[I", true)
  | 16 => ("LotTracker", "waferCount", "I", false)
  | _ => ("LotTracker", "now", "I", false)
def tyX0 : Nat → FieldType := fun k => match k with
  | 0 => .array .int
  | 1 => .array .int
  | 2 => .array .int
  | 3 => .array .int
  | 4 => .int
  | 5 => .array .int
  | 6 => .array .int
  | 7 => .array .int
  | 8 => .array .boolean
  | 9 => .array .int
  | 10 => .array .int
  | 11 => .array .int
  | 12 => .int
  | 13 => .array .int
  | 14 => .array (.array .int)
  | 15 => .array .int
  | 16 => .int
  | _ => .int
abbrev wsX00 : List Cond := u_ws RX0 TX0 18
theorem nmX0 : ∀ a, a < 18 → ∀ b, b < 18 → a ≠ b → (TX0 a).2.1 ≠ (TX0 b).2.1 := by decide +kernel
theorem tyX0_ok : ∀ k, k < 18 → parseFieldDescriptor (TX0 k).2.2.1 = some (tyX0 k) := by decide +kernel
abbrev cX0_init : ByteArray := prog_1_method_1_code
def yX0_init : MethodName := ⟨RX0, "<init>", "()V"⟩
abbrev cX0_addStep : ByteArray := prog_1_method_2_code
def yX0_addStep : MethodName := ⟨RX0, "addStep", "(IIII)I"⟩
abbrev cX0_enter : ByteArray := prog_1_method_3_code
def yX0_enter : MethodName := ⟨RX0, "enter", "(I)I"⟩
abbrev cX0_start : ByteArray := prog_1_method_4_code
def yX0_start : MethodName := ⟨RX0, "start", "(I)I"⟩
abbrev cX0_split : ByteArray := prog_1_method_6_code
def yX0_split : MethodName := ⟨RX0, "split", "(II)I"⟩
abbrev cX0_hold : ByteArray := prog_1_method_8_code
def yX0_hold : MethodName := ⟨RX0, "hold", "(IZ)Z"⟩
abbrev cX0_scrap : ByteArray := prog_1_method_9_code
def yX0_scrap : MethodName := ⟨RX0, "scrap", "(I)I"⟩
abbrev cX0_advance : ByteArray := prog_1_method_10_code
def yX0_advance : MethodName := ⟨RX0, "advance", "(I)I"⟩
abbrev cX0_time : ByteArray := prog_1_method_11_code
def yX0_time : MethodName := ⟨RX0, "time", "()I"⟩
abbrev cX0_lots : ByteArray := prog_1_method_12_code
def yX0_lots : MethodName := ⟨RX0, "lots", "()I"⟩
abbrev cX0_wafers : ByteArray := prog_1_method_13_code
def yX0_wafers : MethodName := ⟨RX0, "wafers", "()I"⟩
abbrev cX0_state : ByteArray := prog_1_method_14_code
def yX0_state : MethodName := ⟨RX0, "state", "(I)I"⟩
abbrev cX0_stepOf : ByteArray := prog_1_method_15_code
def yX0_stepOf : MethodName := ⟨RX0, "stepOf", "(I)I"⟩
abbrev cX0_size : ByteArray := prog_1_method_16_code
def yX0_size : MethodName := ⟨RX0, "size", "(I)I"⟩
abbrev cX0_slack : ByteArray := prog_1_method_17_code
def yX0_slack : MethodName := ⟨RX0, "slack", "(I)I"⟩
abbrev cX0_isLate : ByteArray := prog_1_method_18_code
def yX0_isLate : MethodName := ⟨RX0, "isLate", "(I)Z"⟩
abbrev cX0_reworks : ByteArray := prog_1_method_19_code
def yX0_reworks : MethodName := ⟨RX0, "reworks", "(I)I"⟩
abbrev cX0_nextFor : ByteArray := prog_1_method_20_code
def yX0_nextFor : MethodName := ⟨RX0, "nextFor", "(I)I"⟩
abbrev cX0_wafersAt : ByteArray := prog_1_method_21_code
def yX0_wafersAt : MethodName := ⟨RX0, "wafersAt", "(I)I"⟩
abbrev cX0_wafersAtByWafers : ByteArray := prog_1_method_22_code
def yX0_wafersAtByWafers : MethodName := ⟨RX0, "wafersAtByWafers", "(I)I"⟩
abbrev cX0_lotOf : ByteArray := prog_1_method_23_code
def yX0_lotOf : MethodName := ⟨RX0, "lotOf", "(I)I"⟩
abbrev cX0_parentOf : ByteArray := prog_1_method_24_code
def yX0_parentOf : MethodName := ⟨RX0, "parentOf", "(I)I"⟩
abbrev cX0_common : ByteArray := prog_1_method_25_code
def yX0_common : MethodName := ⟨RX0, "common", "(II)I"⟩
abbrev cX0_path : ByteArray := prog_1_method_26_code
def yX0_path : MethodName := ⟨RX0, "path", "(I)I"⟩
abbrev cX0_pathAt : ByteArray := prog_1_method_27_code
def yX0_pathAt : MethodName := ⟨RX0, "pathAt", "(II)I"⟩
abbrev cX0_isWithin : ByteArray := prog_1_method_28_code
def yX0_isWithin : MethodName := ⟨RX0, "isWithin", "(III)Z"⟩
abbrev cX0_isStep : ByteArray := prog_1_method_29_code
def yX0_isStep : MethodName := ⟨RX0, "isStep", "(I)Z"⟩
abbrev cX0_isLot : ByteArray := prog_1_method_30_code
def yX0_isLot : MethodName := ⟨RX0, "isLot", "(I)Z"⟩
abbrev cX0_checkTool : ByteArray := prog_1_method_31_code
def yX0_checkTool : MethodName := ⟨RX0, "checkTool", "(I)V"⟩
abbrev cX0_checkStep : ByteArray := prog_1_method_32_code
def yX0_checkStep : MethodName := ⟨RX0, "checkStep", "(I)V"⟩
abbrev cX0_checkLot : ByteArray := prog_1_method_33_code
def yX0_checkLot : MethodName := ⟨RX0, "checkLot", "(I)V"⟩
abbrev cX0_checkWafer : ByteArray := prog_1_method_34_code
def yX0_checkWafer : MethodName := ⟨RX0, "checkWafer", "(I)V"⟩
abbrev cX0_isFree : ByteArray := prog_1_method_35_code
def yX0_isFree : MethodName := ⟨RX0, "isFree", "(I)Z"⟩
abbrev cX0_isReady : ByteArray := prog_1_method_36_code
def yX0_isReady : MethodName := ⟨RX0, "isReady", "(I)Z"⟩
abbrev cX0_usesTool : ByteArray := prog_1_method_37_code
def yX0_usesTool : MethodName := ⟨RX0, "usesTool", "(II)Z"⟩
abbrev cX0_isBusy : ByteArray := prog_1_method_38_code
def yX0_isBusy : MethodName := ⟨RX0, "isBusy", "(I)Z"⟩
abbrev cX0_waitingLeft : ByteArray := prog_1_method_39_code
def yX0_waitingLeft : MethodName := ⟨RX0, "waitingLeft", "(I)I"⟩
abbrev cX0_parentOrNone : ByteArray := prog_1_method_40_code
def yX0_parentOrNone : MethodName := ⟨RX0, "parentOrNone", "(I)I"⟩
abbrev cX0_makeLot : ByteArray := prog_1_method_41_code
def yX0_makeLot : MethodName := ⟨RX0, "makeLot", "(IIZII)I"⟩
abbrev cX0_makeWafer : ByteArray := prog_1_method_42_code
def yX0_makeWafer : MethodName := ⟨RX0, "makeWafer", "(I)V"⟩
abbrev cX0_putInto : ByteArray := prog_1_method_43_code
def yX0_putInto : MethodName := ⟨RX0, "putInto", "(II)V"⟩
abbrev cX0_moveWafers : ByteArray := prog_1_method_44_code
def yX0_moveWafers : MethodName := ⟨RX0, "moveWafers", "(III)V"⟩
abbrev cX0_leaveRoute : ByteArray := prog_1_method_45_code
def yX0_leaveRoute : MethodName := ⟨RX0, "leaveRoute", "(II)V"⟩
abbrev cX0_endProcessing : ByteArray := prog_1_method_46_code
def yX0_endProcessing : MethodName := ⟨RX0, "endProcessing", "(I)V"⟩
def RX1 : String := "LotTrackerModel"
def TX1 : u_T := fun k => match k with
  | _ => ("", "", "", false)
def tyX1 : Nat → FieldType := fun k => match k with
  | _ => .int
abbrev wsX10 : List Cond := u_ws RX1 TX1 0
theorem nmX1 : ∀ a, a < 0 → ∀ b, b < 0 → a ≠ b → (TX1 a).2.1 ≠ (TX1 b).2.1 := by decide +kernel
theorem tyX1_ok : ∀ k, k < 0 → parseFieldDescriptor (TX1 k).2.2.1 = some (tyX1 k) := by decide +kernel
def RJ0 : String := "java/lang/String"
def TJ0 : u_T := fun k => match k with
  | _ => ("", "", "", false)
def tyJ0 : Nat → FieldType := fun k => match k with
  | _ => .int
abbrev wsJ00 : List Cond := u_ws RJ0 TJ0 0
theorem nmJ0 : ∀ a, a < 0 → ∀ b, b < 0 → a ≠ b → (TJ0 a).2.1 ≠ (TJ0 b).2.1 := by decide +kernel
theorem tyJ0_ok : ∀ k, k < 0 → parseFieldDescriptor (TJ0 k).2.2.1 = some (tyJ0 k) := by decide +kernel
def RL : String := "LotTrackerLaw"
abbrev cL_cell : ByteArray := method_2_code
def yL_cell : MethodName := ⟨RL, "cell", "([II)I"⟩
abbrev cL_low : ByteArray := method_3_code
def yL_low : MethodName := ⟨RL, "low", "(II)I"⟩
abbrev cL_isWafer : ByteArray := method_4_code
def yL_isWafer : MethodName := ⟨RL, "isWafer", "(LLotTracker;I)Z"⟩
abbrev cL_isLot : ByteArray := method_5_code
def yL_isLot : MethodName := ⟨RL, "isLot", "(LLotTracker;I)Z"⟩
abbrev cL_areSteps : ByteArray := method_6_code
def yL_areSteps : MethodName := ⟨RL, "areSteps", "(LLotTracker;I)Z"⟩
abbrev cL_isCommon : ByteArray := method_7_code
def yL_isCommon : MethodName := ⟨RL, "isCommon", "(LLotTracker;II)Z"⟩
abbrev cL_law : ByteArray := code
def yL_law : MethodName := ⟨RL, "law", "([I)Z"⟩
def wsX0_init : List Cond := .code yX0_init cX0_init 1 none :: ([.methodLink RX0 3 objectInit, .instanceMethod objectInit, .code objectInit ⟨#[0xb1]⟩ 1 none, .arrayClass .int, .fieldLink RX0 9 "LotTracker" "stepTool" "[I", .fieldLink RX0 13 "LotTracker" "stepMinutes" "[I", .fieldLink RX0 16 "LotTracker" "stepLimit" "[I", .fieldLink RX0 19 "LotTracker" "stepBack" "[I", .fieldLink RX0 22 "LotTracker" "stepCount" "I", .fieldLink RX0 26 "LotTracker" "lotState" "[I", .fieldLink RX0 29 "LotTracker" "lotStep" "[I", .fieldLink RX0 32 "LotTracker" "lotMoment" "[I", .arrayClass .boolean, .fieldLink RX0 35 "LotTracker" "lotHeld" "[Z", .fieldLink RX0 39 "LotTracker" "lotReworks" "[I", .fieldLink RX0 42 "LotTracker" "lotParent" "[I", .fieldLink RX0 45 "LotTracker" "lotSize" "[I", .fieldLink RX0 48 "LotTracker" "lotCount" "I", .fieldLink RX0 51 "LotTracker" "waferLot" "[I", .classLink RX0 54 "[[I", .fieldLink RX0 56 "LotTracker" "waferPath" "[[I", .fieldLink RX0 59 "LotTracker" "waferPathLength" "[I", .fieldLink RX0 62 "LotTracker" "waferCount" "I", .fieldLink RX0 65 "LotTracker" "now" "I"] ++ wsX00)
def wsX0_isWithin : List Cond := .code yX0_isWithin cX0_isWithin 3 (some .boolean) :: ([])
def wsX0_checkTool : List Cond := .code yX0_checkTool cX0_checkTool 1 none :: ([.classLink RX0 172 "java/lang/IndexOutOfBoundsException", .initialized "java/lang/IndexOutOfBoundsException", .methodLink RX0 72 yX0_isWithin, .static yX0_isWithin, .initialized RX0, .code yX0_isWithin cX0_isWithin 3 (some .boolean)] ++ (vx_atS RX0 176 "java/lang/IndexOutOfBoundsException" ["java/lang/RuntimeException", "java/lang/Exception"]).filter goodWord)
def wsX0_addStep : List Cond := .code yX0_addStep cX0_addStep 6 (some .int) :: ([.classLink RX0 76 "java/lang/IllegalArgumentException", .initialized "java/lang/IllegalArgumentException", .classLink RX0 83 "java/lang/IllegalStateException", .initialized "java/lang/IllegalStateException", .fieldLink RX0 22 "LotTracker" "stepCount" "I", .fieldLink RX0 48 "LotTracker" "lotCount" "I", .fieldLink RX0 9 "LotTracker" "stepTool" "[I", .fieldLink RX0 13 "LotTracker" "stepMinutes" "[I", .fieldLink RX0 16 "LotTracker" "stepLimit" "[I", .fieldLink RX0 19 "LotTracker" "stepBack" "[I", .methodLink RX0 68 yX0_checkTool, .static yX0_checkTool, .initialized RX0, .code yX0_checkTool cX0_checkTool 1 none, .classLink RX0 172 "java/lang/IndexOutOfBoundsException", .initialized "java/lang/IndexOutOfBoundsException", .methodLink RX0 72 yX0_isWithin, .static yX0_isWithin, .code yX0_isWithin cX0_isWithin 3 (some .boolean)] ++ wsX00 ++ (vx_atS RX0 80 "java/lang/IllegalArgumentException" ["java/lang/RuntimeException", "java/lang/Exception"]).filter goodWord ++ (vx_atS RX0 87 "java/lang/IllegalStateException" ["java/lang/RuntimeException", "java/lang/Exception"]).filter goodWord ++ (vx_atS RX0 176 "java/lang/IndexOutOfBoundsException" ["java/lang/RuntimeException", "java/lang/Exception"]).filter goodWord)
def wsX0_makeLot : List Cond := .code yX0_makeLot cX0_makeLot 7 (some .int) :: ([.fieldLink RX0 48 "LotTracker" "lotCount" "I", .fieldLink RX0 26 "LotTracker" "lotState" "[I", .fieldLink RX0 29 "LotTracker" "lotStep" "[I", .fieldLink RX0 32 "LotTracker" "lotMoment" "[I", .fieldLink RX0 35 "LotTracker" "lotHeld" "[Z", .fieldLink RX0 39 "LotTracker" "lotReworks" "[I", .fieldLink RX0 42 "LotTracker" "lotParent" "[I", .fieldLink RX0 45 "LotTracker" "lotSize" "[I"] ++ wsX00)
def wsX0_putInto : List Cond := .code yX0_putInto cX0_putInto 4 none :: ([.fieldLink RX0 51 "LotTracker" "waferLot" "[I", .fieldLink RX0 45 "LotTracker" "lotSize" "[I", .fieldLink RX0 59 "LotTracker" "waferPathLength" "[I", .fieldLink RX0 56 "LotTracker" "waferPath" "[[I"] ++ wsX00)
def wsX0_makeWafer : List Cond := .code yX0_makeWafer cX0_makeWafer 3 none :: ([.fieldLink RX0 62 "LotTracker" "waferCount" "I", .fieldLink RX0 59 "LotTracker" "waferPathLength" "[I", .methodLink RX0 186 yX0_putInto, .instanceMethod yX0_putInto, .selects RX0 yX0_putInto yX0_putInto, .initialized RX0, .code yX0_putInto cX0_putInto 4 none, .fieldLink RX0 51 "LotTracker" "waferLot" "[I", .fieldLink RX0 45 "LotTracker" "lotSize" "[I", .fieldLink RX0 56 "LotTracker" "waferPath" "[[I"] ++ wsX00)
def wsX0_enter_r1 : List Cond := [Cond.classLink RX0 76 "java/lang/IllegalArgumentException", Cond.initialized "java/lang/IllegalArgumentException", Cond.classLink RX0 83 "java/lang/IllegalStateException", Cond.initialized "java/lang/IllegalStateException", Cond.fieldLink RX0 22 "LotTracker" "stepCount" "I", Cond.fieldLink RX0 48 "LotTracker" "lotCount" "I", Cond.fieldLink RX0 62 "LotTracker" "waferCount" "I", Cond.fieldLink RX0 65 "LotTracker" "now" "I", Cond.methodLink RX0 72 yX0_isWithin, Cond.static yX0_isWithin, Cond.initialized RX0, Cond.code yX0_isWithin cX0_isWithin 3 (some .boolean), Cond.methodLink RX0 92 yX0_makeLot, Cond.instanceMethod yX0_makeLot, Cond.selects RX0 yX0_makeLot yX0_makeLot, Cond.code yX0_makeLot cX0_makeLot 7 (some .int), Cond.fieldLink RX0 26 "LotTracker" "lotState" "[I", Cond.fieldLink RX0 29 "LotTracker" "lotStep" "[I", Cond.fieldLink RX0 32 "LotTracker" "lotMoment" "[I", Cond.fieldLink RX0 35 "LotTracker" "lotHeld" "[Z", Cond.fieldLink RX0 39 "LotTracker" "lotReworks" "[I", Cond.fieldLink RX0 42 "LotTracker" "lotParent" "[I", Cond.fieldLink RX0 45 "LotTracker" "lotSize" "[I", Cond.methodLink RX0 96 yX0_makeWafer]
def wsX0_enter_r2 : List Cond := [Cond.instanceMethod yX0_makeWafer, Cond.selects RX0 yX0_makeWafer yX0_makeWafer, Cond.code yX0_makeWafer cX0_makeWafer 3 none, Cond.fieldLink RX0 59 "LotTracker" "waferPathLength" "[I", Cond.methodLink RX0 186 yX0_putInto, Cond.instanceMethod yX0_putInto, Cond.selects RX0 yX0_putInto yX0_putInto, Cond.code yX0_putInto cX0_putInto 4 none, Cond.fieldLink RX0 51 "LotTracker" "waferLot" "[I", Cond.fieldLink RX0 56 "LotTracker" "waferPath" "[[I"]
def wsX0_enter : List Cond := .code yX0_enter cX0_enter 4 (some .int) :: ((wsX0_enter_r1 ++ wsX0_enter_r2) ++ wsX00 ++ (vx_atS RX0 80 "java/lang/IllegalArgumentException" ["java/lang/RuntimeException", "java/lang/Exception"]).filter goodWord ++ (vx_atS RX0 87 "java/lang/IllegalStateException" ["java/lang/RuntimeException", "java/lang/Exception"]).filter goodWord)
def wsX0_isLot : List Cond := .code yX0_isLot cX0_isLot 2 (some .boolean) :: ([.fieldLink RX0 48 "LotTracker" "lotCount" "I"] ++ wsX00)
def wsX0_checkLot : List Cond := .code yX0_checkLot cX0_checkLot 2 none :: ([.classLink RX0 172 "java/lang/IndexOutOfBoundsException", .initialized "java/lang/IndexOutOfBoundsException", .methodLink RX0 147 yX0_isLot, .instanceMethod yX0_isLot, .selects RX0 yX0_isLot yX0_isLot, .initialized RX0, .code yX0_isLot cX0_isLot 2 (some .boolean), .fieldLink RX0 48 "LotTracker" "lotCount" "I"] ++ wsX00 ++ (vx_atS RX0 176 "java/lang/IndexOutOfBoundsException" ["java/lang/RuntimeException", "java/lang/Exception"]).filter goodWord)
def wsX0_isFree : List Cond := .code yX0_isFree cX0_isFree 2 (some .boolean) :: ([.fieldLink RX0 26 "LotTracker" "lotState" "[I", .fieldLink RX0 35 "LotTracker" "lotHeld" "[Z"] ++ wsX00)
def wsX0_isStep : List Cond := .code yX0_isStep cX0_isStep 2 (some .boolean) :: ([.fieldLink RX0 22 "LotTracker" "stepCount" "I"] ++ wsX00)
def wsX0_waitingLeft : List Cond := .code yX0_waitingLeft cX0_waitingLeft 3 (some .int) :: ([.fieldLink RX0 29 "LotTracker" "lotStep" "[I", .fieldLink RX0 26 "LotTracker" "lotState" "[I", .constant RX0 161 (2000000), .fieldLink RX0 16 "LotTracker" "stepLimit" "[I", .constant RX0 185 (1000000), .fieldLink RX0 65 "LotTracker" "now" "I", .fieldLink RX0 32 "LotTracker" "lotMoment" "[I", .methodLink RX0 106 yX0_isStep, .instanceMethod yX0_isStep, .selects RX0 yX0_isStep yX0_isStep, .initialized RX0, .code yX0_isStep cX0_isStep 2 (some .boolean), .fieldLink RX0 22 "LotTracker" "stepCount" "I"] ++ wsX00)
def wsX0_isReady : List Cond := .code yX0_isReady cX0_isReady 2 (some .boolean) :: ([.methodLink RX0 114 yX0_isFree, .instanceMethod yX0_isFree, .selects RX0 yX0_isFree yX0_isFree, .initialized RX0, .code yX0_isFree cX0_isFree 2 (some .boolean), .fieldLink RX0 26 "LotTracker" "lotState" "[I", .fieldLink RX0 35 "LotTracker" "lotHeld" "[Z", .methodLink RX0 157 yX0_waitingLeft, .instanceMethod yX0_waitingLeft, .selects RX0 yX0_waitingLeft yX0_waitingLeft, .code yX0_waitingLeft cX0_waitingLeft 3 (some .int), .fieldLink RX0 29 "LotTracker" "lotStep" "[I", .constant RX0 161 (2000000), .fieldLink RX0 16 "LotTracker" "stepLimit" "[I", .constant RX0 185 (1000000), .fieldLink RX0 65 "LotTracker" "now" "I", .fieldLink RX0 32 "LotTracker" "lotMoment" "[I", .methodLink RX0 106 yX0_isStep, .instanceMethod yX0_isStep, .selects RX0 yX0_isStep yX0_isStep, .code yX0_isStep cX0_isStep 2 (some .boolean), .fieldLink RX0 22 "LotTracker" "stepCount" "I"] ++ wsX00)
def wsX0_usesTool : List Cond := .code yX0_usesTool cX0_usesTool 4 (some .boolean) :: ([.fieldLink RX0 29 "LotTracker" "lotStep" "[I", .fieldLink RX0 9 "LotTracker" "stepTool" "[I", .methodLink RX0 106 yX0_isStep, .instanceMethod yX0_isStep, .selects RX0 yX0_isStep yX0_isStep, .initialized RX0, .code yX0_isStep cX0_isStep 2 (some .boolean), .fieldLink RX0 22 "LotTracker" "stepCount" "I"] ++ wsX00)
def wsX0_isBusy : List Cond := .code yX0_isBusy cX0_isBusy 3 (some .boolean) :: ([.fieldLink RX0 48 "LotTracker" "lotCount" "I", .fieldLink RX0 26 "LotTracker" "lotState" "[I", .methodLink RX0 162 yX0_usesTool, .instanceMethod yX0_usesTool, .selects RX0 yX0_usesTool yX0_usesTool, .initialized RX0, .code yX0_usesTool cX0_usesTool 4 (some .boolean), .fieldLink RX0 29 "LotTracker" "lotStep" "[I", .fieldLink RX0 9 "LotTracker" "stepTool" "[I", .methodLink RX0 106 yX0_isStep, .instanceMethod yX0_isStep, .selects RX0 yX0_isStep yX0_isStep, .code yX0_isStep cX0_isStep 2 (some .boolean), .fieldLink RX0 22 "LotTracker" "stepCount" "I"] ++ wsX00)
def wsX0_start_r1 : List Cond := [Cond.classLink RX0 83 "java/lang/IllegalStateException", Cond.initialized "java/lang/IllegalStateException", Cond.fieldLink RX0 29 "LotTracker" "lotStep" "[I", Cond.fieldLink RX0 9 "LotTracker" "stepTool" "[I", Cond.fieldLink RX0 26 "LotTracker" "lotState" "[I", Cond.fieldLink RX0 32 "LotTracker" "lotMoment" "[I", Cond.fieldLink RX0 65 "LotTracker" "now" "I", Cond.fieldLink RX0 13 "LotTracker" "stepMinutes" "[I", Cond.methodLink RX0 99 yX0_checkLot, Cond.instanceMethod yX0_checkLot, Cond.selects RX0 yX0_checkLot yX0_checkLot, Cond.initialized RX0, Cond.code yX0_checkLot cX0_checkLot 2 none, Cond.classLink RX0 172 "java/lang/IndexOutOfBoundsException", Cond.initialized "java/lang/IndexOutOfBoundsException", Cond.methodLink RX0 147 yX0_isLot, Cond.instanceMethod yX0_isLot, Cond.selects RX0 yX0_isLot yX0_isLot, Cond.code yX0_isLot cX0_isLot 2 (some .boolean), Cond.fieldLink RX0 48 "LotTracker" "lotCount" "I", Cond.methodLink RX0 102 yX0_isReady, Cond.instanceMethod yX0_isReady, Cond.selects RX0 yX0_isReady yX0_isReady, Cond.code yX0_isReady cX0_isReady 2 (some .boolean)]
def wsX0_start_r2 : List Cond := [Cond.methodLink RX0 114 yX0_isFree, Cond.instanceMethod yX0_isFree, Cond.selects RX0 yX0_isFree yX0_isFree, Cond.code yX0_isFree cX0_isFree 2 (some .boolean), Cond.fieldLink RX0 35 "LotTracker" "lotHeld" "[Z", Cond.methodLink RX0 157 yX0_waitingLeft, Cond.instanceMethod yX0_waitingLeft, Cond.selects RX0 yX0_waitingLeft yX0_waitingLeft, Cond.code yX0_waitingLeft cX0_waitingLeft 3 (some .int), Cond.constant RX0 161 (2000000), Cond.fieldLink RX0 16 "LotTracker" "stepLimit" "[I", Cond.constant RX0 185 (1000000), Cond.methodLink RX0 106 yX0_isStep, Cond.instanceMethod yX0_isStep, Cond.selects RX0 yX0_isStep yX0_isStep, Cond.code yX0_isStep cX0_isStep 2 (some .boolean), Cond.fieldLink RX0 22 "LotTracker" "stepCount" "I", Cond.methodLink RX0 109 yX0_isBusy, Cond.instanceMethod yX0_isBusy, Cond.selects RX0 yX0_isBusy yX0_isBusy, Cond.code yX0_isBusy cX0_isBusy 3 (some .boolean), Cond.methodLink RX0 162 yX0_usesTool, Cond.instanceMethod yX0_usesTool, Cond.selects RX0 yX0_usesTool yX0_usesTool]
def wsX0_start_r3 : List Cond := [Cond.code yX0_usesTool cX0_usesTool 4 (some .boolean)]
def wsX0_start : List Cond := .code yX0_start cX0_start 3 (some .int) :: ((wsX0_start_r1 ++ (wsX0_start_r2 ++ wsX0_start_r3)) ++ wsX00 ++ (vx_atS RX0 87 "java/lang/IllegalStateException" ["java/lang/RuntimeException", "java/lang/Exception"]).filter goodWord ++ (vx_atS RX0 176 "java/lang/IndexOutOfBoundsException" ["java/lang/RuntimeException", "java/lang/Exception"]).filter goodWord)
def wsX0_moveWafers : List Cond := .code yX0_moveWafers cX0_moveWafers 6 none :: ([.fieldLink RX0 62 "LotTracker" "waferCount" "I", .fieldLink RX0 51 "LotTracker" "waferLot" "[I", .fieldLink RX0 45 "LotTracker" "lotSize" "[I", .methodLink RX0 186 yX0_putInto, .instanceMethod yX0_putInto, .selects RX0 yX0_putInto yX0_putInto, .initialized RX0, .code yX0_putInto cX0_putInto 4 none, .fieldLink RX0 59 "LotTracker" "waferPathLength" "[I", .fieldLink RX0 56 "LotTracker" "waferPath" "[[I"] ++ wsX00)
def wsX0_split_r1 : List Cond := [Cond.classLink RX0 76 "java/lang/IllegalArgumentException", Cond.initialized "java/lang/IllegalArgumentException", Cond.classLink RX0 83 "java/lang/IllegalStateException", Cond.initialized "java/lang/IllegalStateException", Cond.fieldLink RX0 45 "LotTracker" "lotSize" "[I", Cond.fieldLink RX0 26 "LotTracker" "lotState" "[I", Cond.fieldLink RX0 48 "LotTracker" "lotCount" "I", Cond.fieldLink RX0 29 "LotTracker" "lotStep" "[I", Cond.fieldLink RX0 32 "LotTracker" "lotMoment" "[I", Cond.fieldLink RX0 35 "LotTracker" "lotHeld" "[Z", Cond.fieldLink RX0 39 "LotTracker" "lotReworks" "[I", Cond.methodLink RX0 99 yX0_checkLot, Cond.instanceMethod yX0_checkLot, Cond.selects RX0 yX0_checkLot yX0_checkLot, Cond.initialized RX0, Cond.code yX0_checkLot cX0_checkLot 2 none, Cond.classLink RX0 172 "java/lang/IndexOutOfBoundsException", Cond.initialized "java/lang/IndexOutOfBoundsException", Cond.methodLink RX0 147 yX0_isLot, Cond.instanceMethod yX0_isLot, Cond.selects RX0 yX0_isLot yX0_isLot, Cond.code yX0_isLot cX0_isLot 2 (some .boolean), Cond.methodLink RX0 72 yX0_isWithin, Cond.static yX0_isWithin]
def wsX0_split_r2 : List Cond := [Cond.code yX0_isWithin cX0_isWithin 3 (some .boolean), Cond.methodLink RX0 92 yX0_makeLot, Cond.instanceMethod yX0_makeLot, Cond.selects RX0 yX0_makeLot yX0_makeLot, Cond.code yX0_makeLot cX0_makeLot 7 (some .int), Cond.fieldLink RX0 42 "LotTracker" "lotParent" "[I", Cond.methodLink RX0 121 yX0_moveWafers, Cond.instanceMethod yX0_moveWafers, Cond.selects RX0 yX0_moveWafers yX0_moveWafers, Cond.code yX0_moveWafers cX0_moveWafers 6 none, Cond.fieldLink RX0 62 "LotTracker" "waferCount" "I", Cond.fieldLink RX0 51 "LotTracker" "waferLot" "[I", Cond.methodLink RX0 186 yX0_putInto, Cond.instanceMethod yX0_putInto, Cond.selects RX0 yX0_putInto yX0_putInto, Cond.code yX0_putInto cX0_putInto 4 none, Cond.fieldLink RX0 59 "LotTracker" "waferPathLength" "[I", Cond.fieldLink RX0 56 "LotTracker" "waferPath" "[[I"]
def wsX0_split : List Cond := .code yX0_split cX0_split 4 (some .int) :: ((wsX0_split_r1 ++ wsX0_split_r2) ++ wsX00 ++ (vx_atS RX0 80 "java/lang/IllegalArgumentException" ["java/lang/RuntimeException", "java/lang/Exception"]).filter goodWord ++ (vx_atS RX0 87 "java/lang/IllegalStateException" ["java/lang/RuntimeException", "java/lang/Exception"]).filter goodWord ++ (vx_atS RX0 176 "java/lang/IndexOutOfBoundsException" ["java/lang/RuntimeException", "java/lang/Exception"]).filter goodWord)
def wsX0_hold : List Cond := .code yX0_hold cX0_hold 4 (some .boolean) :: ([.classLink RX0 83 "java/lang/IllegalStateException", .initialized "java/lang/IllegalStateException", .fieldLink RX0 26 "LotTracker" "lotState" "[I", .fieldLink RX0 35 "LotTracker" "lotHeld" "[Z", .methodLink RX0 99 yX0_checkLot, .instanceMethod yX0_checkLot, .selects RX0 yX0_checkLot yX0_checkLot, .initialized RX0, .code yX0_checkLot cX0_checkLot 2 none, .classLink RX0 172 "java/lang/IndexOutOfBoundsException", .initialized "java/lang/IndexOutOfBoundsException", .methodLink RX0 147 yX0_isLot, .instanceMethod yX0_isLot, .selects RX0 yX0_isLot yX0_isLot, .code yX0_isLot cX0_isLot 2 (some .boolean), .fieldLink RX0 48 "LotTracker" "lotCount" "I"] ++ wsX00 ++ (vx_atS RX0 87 "java/lang/IllegalStateException" ["java/lang/RuntimeException", "java/lang/Exception"]).filter goodWord ++ (vx_atS RX0 176 "java/lang/IndexOutOfBoundsException" ["java/lang/RuntimeException", "java/lang/Exception"]).filter goodWord)
def wsX0_checkWafer : List Cond := .code yX0_checkWafer cX0_checkWafer 2 none :: ([.classLink RX0 172 "java/lang/IndexOutOfBoundsException", .initialized "java/lang/IndexOutOfBoundsException", .fieldLink RX0 62 "LotTracker" "waferCount" "I"] ++ wsX00 ++ (vx_atS RX0 176 "java/lang/IndexOutOfBoundsException" ["java/lang/RuntimeException", "java/lang/Exception"]).filter goodWord)
def wsX0_leaveRoute : List Cond := .code yX0_leaveRoute cX0_leaveRoute 3 none :: ([.fieldLink RX0 26 "LotTracker" "lotState" "[I", .fieldLink RX0 29 "LotTracker" "lotStep" "[I"] ++ wsX00)
def wsX0_scrap : List Cond := .code yX0_scrap cX0_scrap 3 (some .int) :: ([.classLink RX0 83 "java/lang/IllegalStateException", .initialized "java/lang/IllegalStateException", .fieldLink RX0 51 "LotTracker" "waferLot" "[I", .fieldLink RX0 26 "LotTracker" "lotState" "[I", .fieldLink RX0 45 "LotTracker" "lotSize" "[I", .methodLink RX0 144 yX0_checkWafer, .instanceMethod yX0_checkWafer, .selects RX0 yX0_checkWafer yX0_checkWafer, .initialized RX0, .code yX0_checkWafer cX0_checkWafer 2 none, .classLink RX0 172 "java/lang/IndexOutOfBoundsException", .initialized "java/lang/IndexOutOfBoundsException", .fieldLink RX0 62 "LotTracker" "waferCount" "I", .methodLink RX0 147 yX0_isLot, .instanceMethod yX0_isLot, .selects RX0 yX0_isLot yX0_isLot, .code yX0_isLot cX0_isLot 2 (some .boolean), .fieldLink RX0 48 "LotTracker" "lotCount" "I", .methodLink RX0 138 yX0_leaveRoute, .instanceMethod yX0_leaveRoute, .selects RX0 yX0_leaveRoute yX0_leaveRoute, .code yX0_leaveRoute cX0_leaveRoute 3 none, .fieldLink RX0 29 "LotTracker" "lotStep" "[I"] ++ wsX00 ++ (vx_atS RX0 87 "java/lang/IllegalStateException" ["java/lang/RuntimeException", "java/lang/Exception"]).filter goodWord ++ (vx_atS RX0 176 "java/lang/IndexOutOfBoundsException" ["java/lang/RuntimeException", "java/lang/Exception"]).filter goodWord)
def wsX0_endProcessing : List Cond := .code yX0_endProcessing cX0_endProcessing 3 none :: ([.fieldLink RX0 29 "LotTracker" "lotStep" "[I", .fieldLink RX0 26 "LotTracker" "lotState" "[I", .methodLink RX0 106 yX0_isStep, .instanceMethod yX0_isStep, .selects RX0 yX0_isStep yX0_isStep, .initialized RX0, .code yX0_isStep cX0_isStep 2 (some .boolean), .fieldLink RX0 22 "LotTracker" "stepCount" "I", .methodLink RX0 138 yX0_leaveRoute, .instanceMethod yX0_leaveRoute, .selects RX0 yX0_leaveRoute yX0_leaveRoute, .code yX0_leaveRoute cX0_leaveRoute 3 none] ++ wsX00)
def wsX0_advance : List Cond := .code yX0_advance cX0_advance 4 (some .int) :: ([.classLink RX0 76 "java/lang/IllegalArgumentException", .initialized "java/lang/IllegalArgumentException", .fieldLink RX0 65 "LotTracker" "now" "I", .fieldLink RX0 48 "LotTracker" "lotCount" "I", .fieldLink RX0 26 "LotTracker" "lotState" "[I", .fieldLink RX0 32 "LotTracker" "lotMoment" "[I", .methodLink RX0 72 yX0_isWithin, .static yX0_isWithin, .initialized RX0, .code yX0_isWithin cX0_isWithin 3 (some .boolean), .methodLink RX0 154 yX0_endProcessing, .instanceMethod yX0_endProcessing, .selects RX0 yX0_endProcessing yX0_endProcessing, .code yX0_endProcessing cX0_endProcessing 3 none, .fieldLink RX0 29 "LotTracker" "lotStep" "[I", .methodLink RX0 106 yX0_isStep, .instanceMethod yX0_isStep, .selects RX0 yX0_isStep yX0_isStep, .code yX0_isStep cX0_isStep 2 (some .boolean), .fieldLink RX0 22 "LotTracker" "stepCount" "I", .methodLink RX0 138 yX0_leaveRoute, .instanceMethod yX0_leaveRoute, .selects RX0 yX0_leaveRoute yX0_leaveRoute, .code yX0_leaveRoute cX0_leaveRoute 3 none] ++ wsX00 ++ (vx_atS RX0 80 "java/lang/IllegalArgumentException" ["java/lang/RuntimeException", "java/lang/Exception"]).filter goodWord)
def wsX0_time : List Cond := .code yX0_time cX0_time 1 (some .int) :: ([.fieldLink RX0 65 "LotTracker" "now" "I"] ++ wsX00)
def wsX0_lots : List Cond := .code yX0_lots cX0_lots 1 (some .int) :: ([.fieldLink RX0 48 "LotTracker" "lotCount" "I"] ++ wsX00)
def wsX0_wafers : List Cond := .code yX0_wafers cX0_wafers 1 (some .int) :: ([.fieldLink RX0 62 "LotTracker" "waferCount" "I"] ++ wsX00)
def wsX0_state : List Cond := .code yX0_state cX0_state 2 (some .int) :: ([.fieldLink RX0 26 "LotTracker" "lotState" "[I", .methodLink RX0 99 yX0_checkLot, .instanceMethod yX0_checkLot, .selects RX0 yX0_checkLot yX0_checkLot, .initialized RX0, .code yX0_checkLot cX0_checkLot 2 none, .classLink RX0 172 "java/lang/IndexOutOfBoundsException", .initialized "java/lang/IndexOutOfBoundsException", .methodLink RX0 147 yX0_isLot, .instanceMethod yX0_isLot, .selects RX0 yX0_isLot yX0_isLot, .code yX0_isLot cX0_isLot 2 (some .boolean), .fieldLink RX0 48 "LotTracker" "lotCount" "I"] ++ wsX00 ++ (vx_atS RX0 176 "java/lang/IndexOutOfBoundsException" ["java/lang/RuntimeException", "java/lang/Exception"]).filter goodWord)
def wsX0_stepOf : List Cond := .code yX0_stepOf cX0_stepOf 2 (some .int) :: ([.fieldLink RX0 29 "LotTracker" "lotStep" "[I", .methodLink RX0 99 yX0_checkLot, .instanceMethod yX0_checkLot, .selects RX0 yX0_checkLot yX0_checkLot, .initialized RX0, .code yX0_checkLot cX0_checkLot 2 none, .classLink RX0 172 "java/lang/IndexOutOfBoundsException", .initialized "java/lang/IndexOutOfBoundsException", .methodLink RX0 147 yX0_isLot, .instanceMethod yX0_isLot, .selects RX0 yX0_isLot yX0_isLot, .code yX0_isLot cX0_isLot 2 (some .boolean), .fieldLink RX0 48 "LotTracker" "lotCount" "I"] ++ wsX00 ++ (vx_atS RX0 176 "java/lang/IndexOutOfBoundsException" ["java/lang/RuntimeException", "java/lang/Exception"]).filter goodWord)
def wsX0_size : List Cond := .code yX0_size cX0_size 2 (some .int) :: ([.fieldLink RX0 45 "LotTracker" "lotSize" "[I", .methodLink RX0 99 yX0_checkLot, .instanceMethod yX0_checkLot, .selects RX0 yX0_checkLot yX0_checkLot, .initialized RX0, .code yX0_checkLot cX0_checkLot 2 none, .classLink RX0 172 "java/lang/IndexOutOfBoundsException", .initialized "java/lang/IndexOutOfBoundsException", .methodLink RX0 147 yX0_isLot, .instanceMethod yX0_isLot, .selects RX0 yX0_isLot yX0_isLot, .code yX0_isLot cX0_isLot 2 (some .boolean), .fieldLink RX0 48 "LotTracker" "lotCount" "I"] ++ wsX00 ++ (vx_atS RX0 176 "java/lang/IndexOutOfBoundsException" ["java/lang/RuntimeException", "java/lang/Exception"]).filter goodWord)
def wsX0_slack_r1 : List Cond := [Cond.methodLink RX0 99 yX0_checkLot, Cond.instanceMethod yX0_checkLot, Cond.selects RX0 yX0_checkLot yX0_checkLot, Cond.initialized RX0, Cond.code yX0_checkLot cX0_checkLot 2 none, Cond.classLink RX0 172 "java/lang/IndexOutOfBoundsException", Cond.initialized "java/lang/IndexOutOfBoundsException", Cond.methodLink RX0 147 yX0_isLot, Cond.instanceMethod yX0_isLot, Cond.selects RX0 yX0_isLot yX0_isLot, Cond.code yX0_isLot cX0_isLot 2 (some .boolean), Cond.fieldLink RX0 48 "LotTracker" "lotCount" "I", Cond.methodLink RX0 157 yX0_waitingLeft, Cond.instanceMethod yX0_waitingLeft, Cond.selects RX0 yX0_waitingLeft yX0_waitingLeft, Cond.code yX0_waitingLeft cX0_waitingLeft 3 (some .int), Cond.fieldLink RX0 29 "LotTracker" "lotStep" "[I", Cond.fieldLink RX0 26 "LotTracker" "lotState" "[I", Cond.constant RX0 161 (2000000), Cond.fieldLink RX0 16 "LotTracker" "stepLimit" "[I", Cond.constant RX0 185 (1000000), Cond.fieldLink RX0 65 "LotTracker" "now" "I", Cond.fieldLink RX0 32 "LotTracker" "lotMoment" "[I", Cond.methodLink RX0 106 yX0_isStep]
def wsX0_slack_r2 : List Cond := [Cond.instanceMethod yX0_isStep, Cond.selects RX0 yX0_isStep yX0_isStep, Cond.code yX0_isStep cX0_isStep 2 (some .boolean), Cond.fieldLink RX0 22 "LotTracker" "stepCount" "I"]
def wsX0_slack : List Cond := .code yX0_slack cX0_slack 2 (some .int) :: ((wsX0_slack_r1 ++ wsX0_slack_r2) ++ wsX00 ++ (vx_atS RX0 176 "java/lang/IndexOutOfBoundsException" ["java/lang/RuntimeException", "java/lang/Exception"]).filter goodWord)
def wsX0_isLate_r1 : List Cond := [Cond.methodLink RX0 99 yX0_checkLot, Cond.instanceMethod yX0_checkLot, Cond.selects RX0 yX0_checkLot yX0_checkLot, Cond.initialized RX0, Cond.code yX0_checkLot cX0_checkLot 2 none, Cond.classLink RX0 172 "java/lang/IndexOutOfBoundsException", Cond.initialized "java/lang/IndexOutOfBoundsException", Cond.methodLink RX0 147 yX0_isLot, Cond.instanceMethod yX0_isLot, Cond.selects RX0 yX0_isLot yX0_isLot, Cond.code yX0_isLot cX0_isLot 2 (some .boolean), Cond.fieldLink RX0 48 "LotTracker" "lotCount" "I", Cond.methodLink RX0 157 yX0_waitingLeft, Cond.instanceMethod yX0_waitingLeft, Cond.selects RX0 yX0_waitingLeft yX0_waitingLeft, Cond.code yX0_waitingLeft cX0_waitingLeft 3 (some .int), Cond.fieldLink RX0 29 "LotTracker" "lotStep" "[I", Cond.fieldLink RX0 26 "LotTracker" "lotState" "[I", Cond.constant RX0 161 (2000000), Cond.fieldLink RX0 16 "LotTracker" "stepLimit" "[I", Cond.constant RX0 185 (1000000), Cond.fieldLink RX0 65 "LotTracker" "now" "I", Cond.fieldLink RX0 32 "LotTracker" "lotMoment" "[I", Cond.methodLink RX0 106 yX0_isStep]
def wsX0_isLate_r2 : List Cond := [Cond.instanceMethod yX0_isStep, Cond.selects RX0 yX0_isStep yX0_isStep, Cond.code yX0_isStep cX0_isStep 2 (some .boolean), Cond.fieldLink RX0 22 "LotTracker" "stepCount" "I"]
def wsX0_isLate : List Cond := .code yX0_isLate cX0_isLate 2 (some .boolean) :: ((wsX0_isLate_r1 ++ wsX0_isLate_r2) ++ wsX00 ++ (vx_atS RX0 176 "java/lang/IndexOutOfBoundsException" ["java/lang/RuntimeException", "java/lang/Exception"]).filter goodWord)
def wsX0_reworks : List Cond := .code yX0_reworks cX0_reworks 2 (some .int) :: ([.fieldLink RX0 39 "LotTracker" "lotReworks" "[I", .methodLink RX0 99 yX0_checkLot, .instanceMethod yX0_checkLot, .selects RX0 yX0_checkLot yX0_checkLot, .initialized RX0, .code yX0_checkLot cX0_checkLot 2 none, .classLink RX0 172 "java/lang/IndexOutOfBoundsException", .initialized "java/lang/IndexOutOfBoundsException", .methodLink RX0 147 yX0_isLot, .instanceMethod yX0_isLot, .selects RX0 yX0_isLot yX0_isLot, .code yX0_isLot cX0_isLot 2 (some .boolean), .fieldLink RX0 48 "LotTracker" "lotCount" "I"] ++ wsX00 ++ (vx_atS RX0 176 "java/lang/IndexOutOfBoundsException" ["java/lang/RuntimeException", "java/lang/Exception"]).filter goodWord)
def wsX0_nextFor_r1 : List Cond := [Cond.constant RX0 161 (2000000), Cond.fieldLink RX0 48 "LotTracker" "lotCount" "I", Cond.methodLink RX0 68 yX0_checkTool, Cond.static yX0_checkTool, Cond.initialized RX0, Cond.code yX0_checkTool cX0_checkTool 1 none, Cond.classLink RX0 172 "java/lang/IndexOutOfBoundsException", Cond.initialized "java/lang/IndexOutOfBoundsException", Cond.methodLink RX0 72 yX0_isWithin, Cond.static yX0_isWithin, Cond.code yX0_isWithin cX0_isWithin 3 (some .boolean), Cond.methodLink RX0 109 yX0_isBusy, Cond.instanceMethod yX0_isBusy, Cond.selects RX0 yX0_isBusy yX0_isBusy, Cond.code yX0_isBusy cX0_isBusy 3 (some .boolean), Cond.fieldLink RX0 26 "LotTracker" "lotState" "[I", Cond.methodLink RX0 162 yX0_usesTool, Cond.instanceMethod yX0_usesTool, Cond.selects RX0 yX0_usesTool yX0_usesTool, Cond.code yX0_usesTool cX0_usesTool 4 (some .boolean), Cond.fieldLink RX0 29 "LotTracker" "lotStep" "[I", Cond.fieldLink RX0 9 "LotTracker" "stepTool" "[I", Cond.methodLink RX0 106 yX0_isStep, Cond.instanceMethod yX0_isStep]
def wsX0_nextFor_r2 : List Cond := [Cond.selects RX0 yX0_isStep yX0_isStep, Cond.code yX0_isStep cX0_isStep 2 (some .boolean), Cond.fieldLink RX0 22 "LotTracker" "stepCount" "I", Cond.methodLink RX0 102 yX0_isReady, Cond.instanceMethod yX0_isReady, Cond.selects RX0 yX0_isReady yX0_isReady, Cond.code yX0_isReady cX0_isReady 2 (some .boolean), Cond.methodLink RX0 114 yX0_isFree, Cond.instanceMethod yX0_isFree, Cond.selects RX0 yX0_isFree yX0_isFree, Cond.code yX0_isFree cX0_isFree 2 (some .boolean), Cond.fieldLink RX0 35 "LotTracker" "lotHeld" "[Z", Cond.methodLink RX0 157 yX0_waitingLeft, Cond.instanceMethod yX0_waitingLeft, Cond.selects RX0 yX0_waitingLeft yX0_waitingLeft, Cond.code yX0_waitingLeft cX0_waitingLeft 3 (some .int), Cond.fieldLink RX0 16 "LotTracker" "stepLimit" "[I", Cond.constant RX0 185 (1000000), Cond.fieldLink RX0 65 "LotTracker" "now" "I", Cond.fieldLink RX0 32 "LotTracker" "lotMoment" "[I"]
def wsX0_nextFor : List Cond := .code yX0_nextFor cX0_nextFor 5 (some .int) :: ((wsX0_nextFor_r1 ++ wsX0_nextFor_r2) ++ wsX00 ++ (vx_atS RX0 176 "java/lang/IndexOutOfBoundsException" ["java/lang/RuntimeException", "java/lang/Exception"]).filter goodWord)
def wsX0_checkStep : List Cond := .code yX0_checkStep cX0_checkStep 2 none :: ([.classLink RX0 172 "java/lang/IndexOutOfBoundsException", .initialized "java/lang/IndexOutOfBoundsException", .methodLink RX0 106 yX0_isStep, .instanceMethod yX0_isStep, .selects RX0 yX0_isStep yX0_isStep, .initialized RX0, .code yX0_isStep cX0_isStep 2 (some .boolean), .fieldLink RX0 22 "LotTracker" "stepCount" "I"] ++ wsX00 ++ (vx_atS RX0 176 "java/lang/IndexOutOfBoundsException" ["java/lang/RuntimeException", "java/lang/Exception"]).filter goodWord)
def wsX0_wafersAt : List Cond := .code yX0_wafersAt cX0_wafersAt 4 (some .int) :: ([.fieldLink RX0 48 "LotTracker" "lotCount" "I", .fieldLink RX0 29 "LotTracker" "lotStep" "[I", .fieldLink RX0 45 "LotTracker" "lotSize" "[I", .methodLink RX0 166 yX0_checkStep, .instanceMethod yX0_checkStep, .selects RX0 yX0_checkStep yX0_checkStep, .initialized RX0, .code yX0_checkStep cX0_checkStep 2 none, .classLink RX0 172 "java/lang/IndexOutOfBoundsException", .initialized "java/lang/IndexOutOfBoundsException", .methodLink RX0 106 yX0_isStep, .instanceMethod yX0_isStep, .selects RX0 yX0_isStep yX0_isStep, .code yX0_isStep cX0_isStep 2 (some .boolean), .fieldLink RX0 22 "LotTracker" "stepCount" "I"] ++ wsX00 ++ (vx_atS RX0 176 "java/lang/IndexOutOfBoundsException" ["java/lang/RuntimeException", "java/lang/Exception"]).filter goodWord)
def wsX0_wafersAtByWafers : List Cond := .code yX0_wafersAtByWafers cX0_wafersAtByWafers 5 (some .int) :: ([.fieldLink RX0 62 "LotTracker" "waferCount" "I", .fieldLink RX0 51 "LotTracker" "waferLot" "[I", .fieldLink RX0 29 "LotTracker" "lotStep" "[I", .methodLink RX0 166 yX0_checkStep, .instanceMethod yX0_checkStep, .selects RX0 yX0_checkStep yX0_checkStep, .initialized RX0, .code yX0_checkStep cX0_checkStep 2 none, .classLink RX0 172 "java/lang/IndexOutOfBoundsException", .initialized "java/lang/IndexOutOfBoundsException", .methodLink RX0 106 yX0_isStep, .instanceMethod yX0_isStep, .selects RX0 yX0_isStep yX0_isStep, .code yX0_isStep cX0_isStep 2 (some .boolean), .fieldLink RX0 22 "LotTracker" "stepCount" "I", .methodLink RX0 147 yX0_isLot, .instanceMethod yX0_isLot, .selects RX0 yX0_isLot yX0_isLot, .code yX0_isLot cX0_isLot 2 (some .boolean), .fieldLink RX0 48 "LotTracker" "lotCount" "I"] ++ wsX00 ++ (vx_atS RX0 176 "java/lang/IndexOutOfBoundsException" ["java/lang/RuntimeException", "java/lang/Exception"]).filter goodWord)
def wsX0_lotOf : List Cond := .code yX0_lotOf cX0_lotOf 2 (some .int) :: ([.fieldLink RX0 51 "LotTracker" "waferLot" "[I", .methodLink RX0 144 yX0_checkWafer, .instanceMethod yX0_checkWafer, .selects RX0 yX0_checkWafer yX0_checkWafer, .initialized RX0, .code yX0_checkWafer cX0_checkWafer 2 none, .classLink RX0 172 "java/lang/IndexOutOfBoundsException", .initialized "java/lang/IndexOutOfBoundsException", .fieldLink RX0 62 "LotTracker" "waferCount" "I"] ++ wsX00 ++ (vx_atS RX0 176 "java/lang/IndexOutOfBoundsException" ["java/lang/RuntimeException", "java/lang/Exception"]).filter goodWord)
def wsX0_parentOf : List Cond := .code yX0_parentOf cX0_parentOf 2 (some .int) :: ([.fieldLink RX0 42 "LotTracker" "lotParent" "[I", .methodLink RX0 99 yX0_checkLot, .instanceMethod yX0_checkLot, .selects RX0 yX0_checkLot yX0_checkLot, .initialized RX0, .code yX0_checkLot cX0_checkLot 2 none, .classLink RX0 172 "java/lang/IndexOutOfBoundsException", .initialized "java/lang/IndexOutOfBoundsException", .methodLink RX0 147 yX0_isLot, .instanceMethod yX0_isLot, .selects RX0 yX0_isLot yX0_isLot, .code yX0_isLot cX0_isLot 2 (some .boolean), .fieldLink RX0 48 "LotTracker" "lotCount" "I"] ++ wsX00 ++ (vx_atS RX0 176 "java/lang/IndexOutOfBoundsException" ["java/lang/RuntimeException", "java/lang/Exception"]).filter goodWord)
def wsX0_parentOrNone : List Cond := .code yX0_parentOrNone cX0_parentOrNone 2 (some .int) :: ([.fieldLink RX0 42 "LotTracker" "lotParent" "[I", .methodLink RX0 147 yX0_isLot, .instanceMethod yX0_isLot, .selects RX0 yX0_isLot yX0_isLot, .initialized RX0, .code yX0_isLot cX0_isLot 2 (some .boolean), .fieldLink RX0 48 "LotTracker" "lotCount" "I"] ++ wsX00)
def wsX0_common : List Cond := .code yX0_common cX0_common 6 (some .int) :: ([.methodLink RX0 99 yX0_checkLot, .instanceMethod yX0_checkLot, .selects RX0 yX0_checkLot yX0_checkLot, .initialized RX0, .code yX0_checkLot cX0_checkLot 2 none, .classLink RX0 172 "java/lang/IndexOutOfBoundsException", .initialized "java/lang/IndexOutOfBoundsException", .methodLink RX0 147 yX0_isLot, .instanceMethod yX0_isLot, .selects RX0 yX0_isLot yX0_isLot, .code yX0_isLot cX0_isLot 2 (some .boolean), .fieldLink RX0 48 "LotTracker" "lotCount" "I", .methodLink RX0 169 yX0_parentOrNone, .instanceMethod yX0_parentOrNone, .selects RX0 yX0_parentOrNone yX0_parentOrNone, .code yX0_parentOrNone cX0_parentOrNone 2 (some .int), .fieldLink RX0 42 "LotTracker" "lotParent" "[I"] ++ wsX00 ++ (vx_atS RX0 176 "java/lang/IndexOutOfBoundsException" ["java/lang/RuntimeException", "java/lang/Exception"]).filter goodWord)
def wsX0_path : List Cond := .code yX0_path cX0_path 2 (some .int) :: ([.fieldLink RX0 59 "LotTracker" "waferPathLength" "[I", .methodLink RX0 144 yX0_checkWafer, .instanceMethod yX0_checkWafer, .selects RX0 yX0_checkWafer yX0_checkWafer, .initialized RX0, .code yX0_checkWafer cX0_checkWafer 2 none, .classLink RX0 172 "java/lang/IndexOutOfBoundsException", .initialized "java/lang/IndexOutOfBoundsException", .fieldLink RX0 62 "LotTracker" "waferCount" "I"] ++ wsX00 ++ (vx_atS RX0 176 "java/lang/IndexOutOfBoundsException" ["java/lang/RuntimeException", "java/lang/Exception"]).filter goodWord)
def wsX0_pathAt : List Cond := .code yX0_pathAt cX0_pathAt 3 (some .int) :: ([.classLink RX0 172 "java/lang/IndexOutOfBoundsException", .initialized "java/lang/IndexOutOfBoundsException", .fieldLink RX0 59 "LotTracker" "waferPathLength" "[I", .fieldLink RX0 56 "LotTracker" "waferPath" "[[I", .methodLink RX0 144 yX0_checkWafer, .instanceMethod yX0_checkWafer, .selects RX0 yX0_checkWafer yX0_checkWafer, .initialized RX0, .code yX0_checkWafer cX0_checkWafer 2 none, .fieldLink RX0 62 "LotTracker" "waferCount" "I", .methodLink RX0 72 yX0_isWithin, .static yX0_isWithin, .code yX0_isWithin cX0_isWithin 3 (some .boolean)] ++ wsX00 ++ (vx_atS RX0 176 "java/lang/IndexOutOfBoundsException" ["java/lang/RuntimeException", "java/lang/Exception"]).filter goodWord)
def wsL_cell : List Cond := .code yL_cell cL_cell 2 (some .int) :: ([])
def wsL_low : List Cond := .code yL_low cL_low 2 (some .int) :: ([.constant RL 7 (2147483647)])
def wsL_isWafer_r1 : List Cond := [Cond.methodLink RL 8 yX0_lotOf, Cond.instanceMethod yX0_lotOf, Cond.selects RX0 yX0_lotOf yX0_lotOf, Cond.initialized RX0, Cond.code yX0_lotOf cX0_lotOf 2 (some .int), Cond.fieldLink RX0 51 "LotTracker" "waferLot" "[I", Cond.methodLink RX0 144 yX0_checkWafer, Cond.instanceMethod yX0_checkWafer, Cond.selects RX0 yX0_checkWafer yX0_checkWafer, Cond.code yX0_checkWafer cX0_checkWafer 2 none, Cond.classLink RX0 172 "java/lang/IndexOutOfBoundsException", Cond.initialized "java/lang/IndexOutOfBoundsException", Cond.fieldLink RX0 62 "LotTracker" "waferCount" "I", Cond.methodLink RL 14 yX0_path, Cond.instanceMethod yX0_path, Cond.selects RX0 yX0_path yX0_path, Cond.code yX0_path cX0_path 2 (some .int), Cond.fieldLink RX0 59 "LotTracker" "waferPathLength" "[I", Cond.methodLink RL 17 yX0_pathAt, Cond.instanceMethod yX0_pathAt, Cond.selects RX0 yX0_pathAt yX0_pathAt, Cond.code yX0_pathAt cX0_pathAt 3 (some .int), Cond.fieldLink RX0 56 "LotTracker" "waferPath" "[[I", Cond.methodLink RX0 72 yX0_isWithin]
def wsL_isWafer_r2 : List Cond := [Cond.static yX0_isWithin, Cond.code yX0_isWithin cX0_isWithin 3 (some .boolean), Cond.methodLink RL 21 yX0_parentOf, Cond.instanceMethod yX0_parentOf, Cond.selects RX0 yX0_parentOf yX0_parentOf, Cond.code yX0_parentOf cX0_parentOf 2 (some .int), Cond.fieldLink RX0 42 "LotTracker" "lotParent" "[I", Cond.methodLink RX0 99 yX0_checkLot, Cond.instanceMethod yX0_checkLot, Cond.selects RX0 yX0_checkLot yX0_checkLot, Cond.code yX0_checkLot cX0_checkLot 2 none, Cond.methodLink RX0 147 yX0_isLot, Cond.instanceMethod yX0_isLot, Cond.selects RX0 yX0_isLot yX0_isLot, Cond.code yX0_isLot cX0_isLot 2 (some .boolean), Cond.fieldLink RX0 48 "LotTracker" "lotCount" "I", Cond.methodLink RL 24 yX0_state, Cond.instanceMethod yX0_state, Cond.selects RX0 yX0_state yX0_state, Cond.code yX0_state cX0_state 2 (some .int), Cond.fieldLink RX0 26 "LotTracker" "lotState" "[I"]
def wsL_isWafer : List Cond := .code yL_isWafer cL_isWafer 8 (some .boolean) :: ((wsL_isWafer_r1 ++ wsL_isWafer_r2) ++ wsX00 ++ (vx_atS RX0 176 "java/lang/IndexOutOfBoundsException" ["java/lang/RuntimeException", "java/lang/Exception"]).filter goodWord)
def wsL_isLot_r1 : List Cond := [Cond.constant RL 44 (2000000), Cond.methodLink RL 27 yX0_wafers, Cond.instanceMethod yX0_wafers, Cond.selects RX0 yX0_wafers yX0_wafers, Cond.initialized RX0, Cond.code yX0_wafers cX0_wafers 1 (some .int), Cond.fieldLink RX0 62 "LotTracker" "waferCount" "I", Cond.methodLink RL 8 yX0_lotOf, Cond.instanceMethod yX0_lotOf, Cond.selects RX0 yX0_lotOf yX0_lotOf, Cond.code yX0_lotOf cX0_lotOf 2 (some .int), Cond.fieldLink RX0 51 "LotTracker" "waferLot" "[I", Cond.methodLink RX0 144 yX0_checkWafer, Cond.instanceMethod yX0_checkWafer, Cond.selects RX0 yX0_checkWafer yX0_checkWafer, Cond.code yX0_checkWafer cX0_checkWafer 2 none, Cond.classLink RX0 172 "java/lang/IndexOutOfBoundsException", Cond.initialized "java/lang/IndexOutOfBoundsException", Cond.methodLink RL 24 yX0_state, Cond.instanceMethod yX0_state, Cond.selects RX0 yX0_state yX0_state, Cond.code yX0_state cX0_state 2 (some .int), Cond.fieldLink RX0 26 "LotTracker" "lotState" "[I", Cond.methodLink RX0 99 yX0_checkLot]
def wsL_isLot_r2 : List Cond := [Cond.instanceMethod yX0_checkLot, Cond.selects RX0 yX0_checkLot yX0_checkLot, Cond.code yX0_checkLot cX0_checkLot 2 none, Cond.methodLink RX0 147 yX0_isLot, Cond.instanceMethod yX0_isLot, Cond.selects RX0 yX0_isLot yX0_isLot, Cond.code yX0_isLot cX0_isLot 2 (some .boolean), Cond.fieldLink RX0 48 "LotTracker" "lotCount" "I", Cond.methodLink RL 31 yX0_size, Cond.instanceMethod yX0_size, Cond.selects RX0 yX0_size yX0_size, Cond.code yX0_size cX0_size 2 (some .int), Cond.fieldLink RX0 45 "LotTracker" "lotSize" "[I", Cond.methodLink RL 34 yX0_stepOf, Cond.instanceMethod yX0_stepOf, Cond.selects RX0 yX0_stepOf yX0_stepOf, Cond.code yX0_stepOf cX0_stepOf 2 (some .int), Cond.fieldLink RX0 29 "LotTracker" "lotStep" "[I", Cond.methodLink RL 21 yX0_parentOf, Cond.instanceMethod yX0_parentOf, Cond.selects RX0 yX0_parentOf yX0_parentOf, Cond.code yX0_parentOf cX0_parentOf 2 (some .int), Cond.fieldLink RX0 42 "LotTracker" "lotParent" "[I", Cond.methodLink RL 37 yX0_isLate]
def wsL_isLot_r3 : List Cond := [Cond.instanceMethod yX0_isLate, Cond.selects RX0 yX0_isLate yX0_isLate, Cond.code yX0_isLate cX0_isLate 2 (some .boolean), Cond.methodLink RX0 157 yX0_waitingLeft, Cond.instanceMethod yX0_waitingLeft, Cond.selects RX0 yX0_waitingLeft yX0_waitingLeft, Cond.code yX0_waitingLeft cX0_waitingLeft 3 (some .int), Cond.constant RX0 161 (2000000), Cond.fieldLink RX0 16 "LotTracker" "stepLimit" "[I", Cond.constant RX0 185 (1000000), Cond.fieldLink RX0 65 "LotTracker" "now" "I", Cond.fieldLink RX0 32 "LotTracker" "lotMoment" "[I", Cond.methodLink RX0 106 yX0_isStep, Cond.instanceMethod yX0_isStep, Cond.selects RX0 yX0_isStep yX0_isStep, Cond.code yX0_isStep cX0_isStep 2 (some .boolean), Cond.fieldLink RX0 22 "LotTracker" "stepCount" "I", Cond.methodLink RL 41 yX0_slack, Cond.instanceMethod yX0_slack, Cond.selects RX0 yX0_slack yX0_slack, Cond.code yX0_slack cX0_slack 2 (some .int), Cond.methodLink RL 45 yX0_reworks, Cond.instanceMethod yX0_reworks, Cond.selects RX0 yX0_reworks yX0_reworks]
def wsL_isLot_r4 : List Cond := [Cond.code yX0_reworks cX0_reworks 2 (some .int), Cond.fieldLink RX0 39 "LotTracker" "lotReworks" "[I"]
def wsL_isLot : List Cond := .code yL_isLot cL_isLot 5 (some .boolean) :: ((wsL_isLot_r1 ++ (wsL_isLot_r2 ++ (wsL_isLot_r3 ++ wsL_isLot_r4))) ++ wsX00 ++ (vx_atS RX0 176 "java/lang/IndexOutOfBoundsException" ["java/lang/RuntimeException", "java/lang/Exception"]).filter goodWord)
def wsL_areSteps_r1 : List Cond := [Cond.methodLink RL 48 yX0_lots, Cond.instanceMethod yX0_lots, Cond.selects RX0 yX0_lots yX0_lots, Cond.initialized RX0, Cond.code yX0_lots cX0_lots 1 (some .int), Cond.fieldLink RX0 48 "LotTracker" "lotCount" "I", Cond.methodLink RL 34 yX0_stepOf, Cond.instanceMethod yX0_stepOf, Cond.selects RX0 yX0_stepOf yX0_stepOf, Cond.code yX0_stepOf cX0_stepOf 2 (some .int), Cond.fieldLink RX0 29 "LotTracker" "lotStep" "[I", Cond.methodLink RX0 99 yX0_checkLot, Cond.instanceMethod yX0_checkLot, Cond.selects RX0 yX0_checkLot yX0_checkLot, Cond.code yX0_checkLot cX0_checkLot 2 none, Cond.classLink RX0 172 "java/lang/IndexOutOfBoundsException", Cond.initialized "java/lang/IndexOutOfBoundsException", Cond.methodLink RX0 147 yX0_isLot, Cond.instanceMethod yX0_isLot, Cond.selects RX0 yX0_isLot yX0_isLot, Cond.code yX0_isLot cX0_isLot 2 (some .boolean), Cond.methodLink RL 31 yX0_size, Cond.instanceMethod yX0_size, Cond.selects RX0 yX0_size yX0_size]
def wsL_areSteps_r2 : List Cond := [Cond.code yX0_size cX0_size 2 (some .int), Cond.fieldLink RX0 45 "LotTracker" "lotSize" "[I", Cond.methodLink RL 51 yX0_wafersAt, Cond.instanceMethod yX0_wafersAt, Cond.selects RX0 yX0_wafersAt yX0_wafersAt, Cond.code yX0_wafersAt cX0_wafersAt 4 (some .int), Cond.methodLink RX0 166 yX0_checkStep, Cond.instanceMethod yX0_checkStep, Cond.selects RX0 yX0_checkStep yX0_checkStep, Cond.code yX0_checkStep cX0_checkStep 2 none, Cond.methodLink RX0 106 yX0_isStep, Cond.instanceMethod yX0_isStep, Cond.selects RX0 yX0_isStep yX0_isStep, Cond.code yX0_isStep cX0_isStep 2 (some .boolean), Cond.fieldLink RX0 22 "LotTracker" "stepCount" "I", Cond.methodLink RL 54 yX0_wafersAtByWafers, Cond.instanceMethod yX0_wafersAtByWafers, Cond.selects RX0 yX0_wafersAtByWafers yX0_wafersAtByWafers, Cond.code yX0_wafersAtByWafers cX0_wafersAtByWafers 5 (some .int), Cond.fieldLink RX0 62 "LotTracker" "waferCount" "I", Cond.fieldLink RX0 51 "LotTracker" "waferLot" "[I", Cond.methodLink RL 24 yX0_state, Cond.instanceMethod yX0_state, Cond.selects RX0 yX0_state yX0_state]
def wsL_areSteps_r3 : List Cond := [Cond.code yX0_state cX0_state 2 (some .int), Cond.fieldLink RX0 26 "LotTracker" "lotState" "[I"]
def wsL_areSteps : List Cond := .code yL_areSteps cL_areSteps 7 (some .boolean) :: ((wsL_areSteps_r1 ++ (wsL_areSteps_r2 ++ wsL_areSteps_r3)) ++ wsX00 ++ (vx_atS RX0 176 "java/lang/IndexOutOfBoundsException" ["java/lang/RuntimeException", "java/lang/Exception"]).filter goodWord)
def wsL_isCommon_r1 : List Cond := [Cond.methodLink RL 57 yX0_common, Cond.instanceMethod yX0_common, Cond.selects RX0 yX0_common yX0_common, Cond.initialized RX0, Cond.code yX0_common cX0_common 6 (some .int), Cond.methodLink RX0 99 yX0_checkLot, Cond.instanceMethod yX0_checkLot, Cond.selects RX0 yX0_checkLot yX0_checkLot, Cond.code yX0_checkLot cX0_checkLot 2 none, Cond.classLink RX0 172 "java/lang/IndexOutOfBoundsException", Cond.initialized "java/lang/IndexOutOfBoundsException", Cond.methodLink RX0 147 yX0_isLot, Cond.instanceMethod yX0_isLot, Cond.selects RX0 yX0_isLot yX0_isLot, Cond.code yX0_isLot cX0_isLot 2 (some .boolean), Cond.fieldLink RX0 48 "LotTracker" "lotCount" "I", Cond.methodLink RX0 169 yX0_parentOrNone, Cond.instanceMethod yX0_parentOrNone, Cond.selects RX0 yX0_parentOrNone yX0_parentOrNone, Cond.code yX0_parentOrNone cX0_parentOrNone 2 (some .int), Cond.fieldLink RX0 42 "LotTracker" "lotParent" "[I", Cond.methodLink RL 21 yX0_parentOf, Cond.instanceMethod yX0_parentOf, Cond.selects RX0 yX0_parentOf yX0_parentOf]
def wsL_isCommon_r2 : List Cond := [Cond.code yX0_parentOf cX0_parentOf 2 (some .int)]
def wsL_isCommon : List Cond := .code yL_isCommon cL_isCommon 7 (some .boolean) :: ((wsL_isCommon_r1 ++ wsL_isCommon_r2) ++ wsX00 ++ (vx_atS RX0 176 "java/lang/IndexOutOfBoundsException" ["java/lang/RuntimeException", "java/lang/Exception"]).filter goodWord)
def wsL_law0_r1 : List Cond := [Cond.classLink RL 9 RX0, Cond.instantiable RX0 18, Cond.initialized RX0, Cond.methodLink RL 60 yX0_init, Cond.instanceMethod yX0_init, Cond.code yX0_init cX0_init 1 none, Cond.methodLink RX0 3 objectInit, Cond.instanceMethod objectInit, Cond.code objectInit ⟨#[0xb1]⟩ 1 none, Cond.arrayClass .int, Cond.fieldLink RX0 9 "LotTracker" "stepTool" "[I", Cond.fieldLink RX0 13 "LotTracker" "stepMinutes" "[I", Cond.fieldLink RX0 16 "LotTracker" "stepLimit" "[I", Cond.fieldLink RX0 19 "LotTracker" "stepBack" "[I", Cond.fieldLink RX0 22 "LotTracker" "stepCount" "I", Cond.fieldLink RX0 26 "LotTracker" "lotState" "[I", Cond.fieldLink RX0 29 "LotTracker" "lotStep" "[I", Cond.fieldLink RX0 32 "LotTracker" "lotMoment" "[I", Cond.arrayClass .boolean, Cond.fieldLink RX0 35 "LotTracker" "lotHeld" "[Z", Cond.fieldLink RX0 39 "LotTracker" "lotReworks" "[I", Cond.fieldLink RX0 42 "LotTracker" "lotParent" "[I", Cond.fieldLink RX0 45 "LotTracker" "lotSize" "[I", Cond.fieldLink RX0 48 "LotTracker" "lotCount" "I"]
def wsL_law0_r2 : List Cond := [Cond.fieldLink RX0 51 "LotTracker" "waferLot" "[I", Cond.classLink RX0 54 "[[I", Cond.fieldLink RX0 56 "LotTracker" "waferPath" "[[I", Cond.fieldLink RX0 59 "LotTracker" "waferPathLength" "[I", Cond.fieldLink RX0 62 "LotTracker" "waferCount" "I", Cond.fieldLink RX0 65 "LotTracker" "now" "I", Cond.methodLink RL 61 yL_cell, Cond.static yL_cell, Cond.initialized RL, Cond.code yL_cell cL_cell 2 (some .int), Cond.methodLink RL 67 yL_low, Cond.static yL_low, Cond.code yL_low cL_low 2 (some .int), Cond.constant RL 7 (2147483647), Cond.methodLink RL 70 yX0_addStep, Cond.instanceMethod yX0_addStep, Cond.selects RX0 yX0_addStep yX0_addStep, Cond.code yX0_addStep cX0_addStep 6 (some .int), Cond.classLink RX0 76 "java/lang/IllegalArgumentException", Cond.initialized "java/lang/IllegalArgumentException", Cond.classLink RX0 83 "java/lang/IllegalStateException", Cond.initialized "java/lang/IllegalStateException", Cond.methodLink RX0 68 yX0_checkTool, Cond.static yX0_checkTool]
def wsL_law0_r3 : List Cond := [Cond.code yX0_checkTool cX0_checkTool 1 none, Cond.classLink RX0 172 "java/lang/IndexOutOfBoundsException", Cond.initialized "java/lang/IndexOutOfBoundsException", Cond.methodLink RX0 72 yX0_isWithin, Cond.static yX0_isWithin, Cond.code yX0_isWithin cX0_isWithin 3 (some .boolean), Cond.methodLink RL 48 yX0_lots, Cond.instanceMethod yX0_lots, Cond.selects RX0 yX0_lots yX0_lots, Cond.code yX0_lots cX0_lots 1 (some .int), Cond.methodLink RL 27 yX0_wafers, Cond.instanceMethod yX0_wafers, Cond.selects RX0 yX0_wafers yX0_wafers, Cond.code yX0_wafers cX0_wafers 1 (some .int), Cond.methodLink RL 74 yX0_enter, Cond.instanceMethod yX0_enter, Cond.selects RX0 yX0_enter yX0_enter, Cond.code yX0_enter cX0_enter 4 (some .int), Cond.methodLink RX0 92 yX0_makeLot, Cond.instanceMethod yX0_makeLot, Cond.selects RX0 yX0_makeLot yX0_makeLot, Cond.code yX0_makeLot cX0_makeLot 7 (some .int), Cond.methodLink RX0 96 yX0_makeWafer, Cond.instanceMethod yX0_makeWafer]
def wsL_law0_r4 : List Cond := [Cond.selects RX0 yX0_makeWafer yX0_makeWafer, Cond.code yX0_makeWafer cX0_makeWafer 3 none, Cond.methodLink RX0 186 yX0_putInto, Cond.instanceMethod yX0_putInto, Cond.selects RX0 yX0_putInto yX0_putInto, Cond.code yX0_putInto cX0_putInto 4 none, Cond.methodLink RL 77 yX0_nextFor, Cond.instanceMethod yX0_nextFor, Cond.selects RX0 yX0_nextFor yX0_nextFor, Cond.code yX0_nextFor cX0_nextFor 5 (some .int), Cond.constant RX0 161 (2000000), Cond.methodLink RX0 109 yX0_isBusy, Cond.instanceMethod yX0_isBusy, Cond.selects RX0 yX0_isBusy yX0_isBusy, Cond.code yX0_isBusy cX0_isBusy 3 (some .boolean), Cond.methodLink RX0 162 yX0_usesTool, Cond.instanceMethod yX0_usesTool, Cond.selects RX0 yX0_usesTool yX0_usesTool, Cond.code yX0_usesTool cX0_usesTool 4 (some .boolean), Cond.methodLink RX0 106 yX0_isStep, Cond.instanceMethod yX0_isStep, Cond.selects RX0 yX0_isStep yX0_isStep, Cond.code yX0_isStep cX0_isStep 2 (some .boolean), Cond.methodLink RX0 102 yX0_isReady]
def wsL_law0_r5 : List Cond := [Cond.instanceMethod yX0_isReady, Cond.selects RX0 yX0_isReady yX0_isReady, Cond.code yX0_isReady cX0_isReady 2 (some .boolean), Cond.methodLink RX0 114 yX0_isFree, Cond.instanceMethod yX0_isFree, Cond.selects RX0 yX0_isFree yX0_isFree, Cond.code yX0_isFree cX0_isFree 2 (some .boolean), Cond.methodLink RX0 157 yX0_waitingLeft, Cond.instanceMethod yX0_waitingLeft, Cond.selects RX0 yX0_waitingLeft yX0_waitingLeft, Cond.code yX0_waitingLeft cX0_waitingLeft 3 (some .int), Cond.constant RX0 185 (1000000), Cond.methodLink RL 80 yX0_start, Cond.instanceMethod yX0_start, Cond.selects RX0 yX0_start yX0_start, Cond.code yX0_start cX0_start 3 (some .int), Cond.methodLink RX0 99 yX0_checkLot, Cond.instanceMethod yX0_checkLot, Cond.selects RX0 yX0_checkLot yX0_checkLot, Cond.code yX0_checkLot cX0_checkLot 2 none, Cond.methodLink RX0 147 yX0_isLot, Cond.instanceMethod yX0_isLot, Cond.selects RX0 yX0_isLot yX0_isLot, Cond.code yX0_isLot cX0_isLot 2 (some .boolean)]
def wsL_law0_r6 : List Cond := [Cond.methodLink RL 83 yX0_time, Cond.instanceMethod yX0_time, Cond.selects RX0 yX0_time yX0_time, Cond.code yX0_time cX0_time 1 (some .int), Cond.methodLink RL 31 yX0_size, Cond.instanceMethod yX0_size, Cond.selects RX0 yX0_size yX0_size, Cond.code yX0_size cX0_size 2 (some .int), Cond.methodLink RL 24 yX0_state, Cond.instanceMethod yX0_state, Cond.selects RX0 yX0_state yX0_state, Cond.code yX0_state cX0_state 2 (some .int), Cond.methodLink RL 86 yX0_split, Cond.instanceMethod yX0_split, Cond.selects RX0 yX0_split yX0_split, Cond.code yX0_split cX0_split 4 (some .int), Cond.methodLink RX0 121 yX0_moveWafers, Cond.instanceMethod yX0_moveWafers, Cond.selects RX0 yX0_moveWafers yX0_moveWafers, Cond.code yX0_moveWafers cX0_moveWafers 6 none, Cond.methodLink RL 21 yX0_parentOf, Cond.instanceMethod yX0_parentOf, Cond.selects RX0 yX0_parentOf yX0_parentOf, Cond.code yX0_parentOf cX0_parentOf 2 (some .int)]
def wsL_law0_r7 : List Cond := [Cond.methodLink RL 41 yX0_slack, Cond.instanceMethod yX0_slack, Cond.selects RX0 yX0_slack yX0_slack, Cond.code yX0_slack cX0_slack 2 (some .int), Cond.methodLink RL 8 yX0_lotOf, Cond.instanceMethod yX0_lotOf, Cond.selects RX0 yX0_lotOf yX0_lotOf, Cond.code yX0_lotOf cX0_lotOf 2 (some .int), Cond.methodLink RX0 144 yX0_checkWafer, Cond.instanceMethod yX0_checkWafer, Cond.selects RX0 yX0_checkWafer yX0_checkWafer, Cond.code yX0_checkWafer cX0_checkWafer 2 none, Cond.methodLink RL 89 yX0_scrap, Cond.instanceMethod yX0_scrap, Cond.selects RX0 yX0_scrap yX0_scrap, Cond.code yX0_scrap cX0_scrap 3 (some .int), Cond.methodLink RX0 138 yX0_leaveRoute, Cond.instanceMethod yX0_leaveRoute, Cond.selects RX0 yX0_leaveRoute yX0_leaveRoute, Cond.code yX0_leaveRoute cX0_leaveRoute 3 none, Cond.methodLink RL 92 yX0_hold, Cond.instanceMethod yX0_hold, Cond.selects RX0 yX0_hold yX0_hold, Cond.code yX0_hold cX0_hold 4 (some .boolean)]
def wsL_law0_r8 : List Cond := [Cond.methodLink RL 96 yX0_advance, Cond.instanceMethod yX0_advance, Cond.selects RX0 yX0_advance yX0_advance, Cond.code yX0_advance cX0_advance 4 (some .int), Cond.methodLink RX0 154 yX0_endProcessing, Cond.instanceMethod yX0_endProcessing, Cond.selects RX0 yX0_endProcessing yX0_endProcessing, Cond.code yX0_endProcessing cX0_endProcessing 3 none, Cond.methodLink RL 99 yL_areSteps, Cond.static yL_areSteps, Cond.code yL_areSteps cL_areSteps 7 (some .boolean), Cond.methodLink RL 34 yX0_stepOf, Cond.instanceMethod yX0_stepOf, Cond.selects RX0 yX0_stepOf yX0_stepOf, Cond.code yX0_stepOf cX0_stepOf 2 (some .int), Cond.methodLink RL 51 yX0_wafersAt, Cond.instanceMethod yX0_wafersAt, Cond.selects RX0 yX0_wafersAt yX0_wafersAt, Cond.code yX0_wafersAt cX0_wafersAt 4 (some .int), Cond.methodLink RX0 166 yX0_checkStep, Cond.instanceMethod yX0_checkStep, Cond.selects RX0 yX0_checkStep yX0_checkStep, Cond.code yX0_checkStep cX0_checkStep 2 none, Cond.methodLink RL 54 yX0_wafersAtByWafers]
def wsL_law0_r9 : List Cond := [Cond.instanceMethod yX0_wafersAtByWafers, Cond.selects RX0 yX0_wafersAtByWafers yX0_wafersAtByWafers, Cond.code yX0_wafersAtByWafers cX0_wafersAtByWafers 5 (some .int), Cond.methodLink RL 103 yL_isCommon, Cond.static yL_isCommon, Cond.code yL_isCommon cL_isCommon 7 (some .boolean), Cond.methodLink RL 57 yX0_common, Cond.instanceMethod yX0_common, Cond.selects RX0 yX0_common yX0_common, Cond.code yX0_common cX0_common 6 (some .int), Cond.methodLink RX0 169 yX0_parentOrNone, Cond.instanceMethod yX0_parentOrNone, Cond.selects RX0 yX0_parentOrNone yX0_parentOrNone, Cond.code yX0_parentOrNone cX0_parentOrNone 2 (some .int), Cond.methodLink RL 107 yL_isLot, Cond.static yL_isLot, Cond.code yL_isLot cL_isLot 5 (some .boolean), Cond.constant RL 44 (2000000), Cond.methodLink RL 37 yX0_isLate, Cond.instanceMethod yX0_isLate, Cond.selects RX0 yX0_isLate yX0_isLate, Cond.code yX0_isLate cX0_isLate 2 (some .boolean), Cond.methodLink RL 45 yX0_reworks, Cond.instanceMethod yX0_reworks]
def wsL_law0_r10 : List Cond := [Cond.selects RX0 yX0_reworks yX0_reworks, Cond.code yX0_reworks cX0_reworks 2 (some .int), Cond.methodLink RL 110 yL_isWafer, Cond.static yL_isWafer, Cond.code yL_isWafer cL_isWafer 8 (some .boolean), Cond.methodLink RL 14 yX0_path, Cond.instanceMethod yX0_path, Cond.selects RX0 yX0_path yX0_path, Cond.code yX0_path cX0_path 2 (some .int), Cond.methodLink RL 17 yX0_pathAt, Cond.instanceMethod yX0_pathAt, Cond.selects RX0 yX0_pathAt yX0_pathAt, Cond.code yX0_pathAt cX0_pathAt 3 (some .int)]
def wsL_law0 : List Cond := (wsL_law0_r1 ++ (wsL_law0_r2 ++ (wsL_law0_r3 ++ (wsL_law0_r4 ++ (wsL_law0_r5 ++ (wsL_law0_r6 ++ (wsL_law0_r7 ++ (wsL_law0_r8 ++ (wsL_law0_r9 ++ wsL_law0_r10))))))))) ++ wsX00 ++ ([] : List Cond)
def wsL_law : List Cond := wsL_law0 ++ (vx_atS RX0 80 "java/lang/IllegalArgumentException" ["java/lang/RuntimeException", "java/lang/Exception"]).filter goodWord ++ (vx_atS RX0 87 "java/lang/IllegalStateException" ["java/lang/RuntimeException", "java/lang/Exception"]).filter goodWord ++ (vx_atS RX0 176 "java/lang/IndexOutOfBoundsException" ["java/lang/RuntimeException", "java/lang/Exception"]).filter goodWord
set_option maxRecDepth 20000 in
theorem wsL_law0_r1_in : ∀ w ∈ wsL_law0_r1, w ∈ lw_tbl := mem_r [26, 27, 19, 28, 29, 30, 31, 32, 33, 91, 36, 37, 38, 39, 40, 41, 42, 43, 92, 44, 45, 46, 47, 48] (by decide +kernel)
theorem wsL_law0_r2_in : ∀ w ∈ wsL_law0_r2, w ∈ lw_tbl := mem_r [49, 34, 50, 51, 52, 53, 334, 335, 18, 336, 337, 338, 339, 340, 93, 94, 95, 96, 171, 24, 187, 25, 97, 98] (by decide +kernel)
theorem wsL_law0_r3_in : ∀ w ∈ wsL_law0_r3, w ∈ lw_tbl := mem_r [99, 103, 23, 100, 101, 102, 302, 303, 304, 305, 306, 307, 308, 309, 203, 204, 205, 206, 209, 211, 1, 212, 213, 215] (by decide +kernel)
theorem wsL_law0_r4_in : ∀ w ∈ wsL_law0_r4, w ∈ lw_tbl := mem_r [2, 216, 217, 219, 3, 220, 322, 323, 324, 325, 250, 252, 254, 10, 255, 256, 258, 11, 259, 246, 248, 9, 249, 234] (by decide +kernel)
theorem wsL_law0_r5_in : ∀ w ∈ wsL_law0_r5, w ∈ lw_tbl := mem_r [236, 6, 237, 238, 240, 7, 241, 242, 244, 8, 245, 251, 221, 222, 223, 224, 225, 227, 4, 228, 229, 231, 5, 232] (by decide +kernel)
theorem wsL_law0_r6_in : ∀ w ∈ wsL_law0_r6, w ∈ lw_tbl := mem_r [298, 299, 300, 301, 314, 315, 316, 317, 310, 311, 312, 313, 261, 262, 263, 264, 266, 268, 12, 269, 330, 331, 332, 333] (by decide +kernel)
theorem wsL_law0_r7_in : ∀ w ∈ wsL_law0_r7, w ∈ lw_tbl := mem_r [318, 319, 320, 321, 326, 327, 328, 329, 279, 281, 13, 282, 275, 276, 277, 278, 285, 287, 14, 288, 270, 271, 272, 273] (by decide +kernel)
theorem wsL_law0_r8_in : ∀ w ∈ wsL_law0_r8, w ∈ lw_tbl := mem_r [289, 290, 291, 292, 294, 296, 15, 297, 369, 370, 371, 356, 357, 358, 359, 372, 373, 374, 375, 376, 378, 16, 379, 381] (by decide +kernel)
theorem wsL_law0_r9_in : ∀ w ∈ wsL_law0_r9, w ∈ lw_tbl := mem_r [382, 383, 384, 385, 386, 387, 388, 389, 390, 391, 392, 394, 17, 395, 353, 354, 355, 364, 360, 361, 362, 363, 365, 366] (by decide +kernel)
theorem wsL_law0_r10_in : ∀ w ∈ wsL_law0_r10, w ∈ lw_tbl := mem_r [367, 368, 341, 342, 343, 344, 345, 346, 347, 348, 349, 350, 351] (by decide +kernel)
theorem wsX00_in : ∀ w ∈ wsX00, w ∈ lw_tbl := by decide +kernel
theorem wsL_law_in0 : ∀ w ∈ wsL_law0, w ∈ lw_tbl := List.forall_mem_append.mpr ⟨List.forall_mem_append.mpr ⟨(List.forall_mem_append.mpr ⟨wsL_law0_r1_in, (List.forall_mem_append.mpr ⟨wsL_law0_r2_in, (List.forall_mem_append.mpr ⟨wsL_law0_r3_in, (List.forall_mem_append.mpr ⟨wsL_law0_r4_in, (List.forall_mem_append.mpr ⟨wsL_law0_r5_in, (List.forall_mem_append.mpr ⟨wsL_law0_r6_in, (List.forall_mem_append.mpr ⟨wsL_law0_r7_in, (List.forall_mem_append.mpr ⟨wsL_law0_r8_in, (List.forall_mem_append.mpr ⟨wsL_law0_r9_in, wsL_law0_r10_in⟩)⟩)⟩)⟩)⟩)⟩)⟩)⟩)⟩), wsX00_in⟩, fun _ h => nomatch h⟩
theorem wsL_law_x0 : ∀ w ∈ (vx_atS RX0 80 "java/lang/IllegalArgumentException" ["java/lang/RuntimeException", "java/lang/Exception"]).filter goodWord, w ∈ lw_tbl := by decide +kernel
theorem wsL_law_x1 : ∀ w ∈ (vx_atS RX0 87 "java/lang/IllegalStateException" ["java/lang/RuntimeException", "java/lang/Exception"]).filter goodWord, w ∈ lw_tbl := by decide +kernel
theorem wsL_law_x2 : ∀ w ∈ (vx_atS RX0 176 "java/lang/IndexOutOfBoundsException" ["java/lang/RuntimeException", "java/lang/Exception"]).filter goodWord, w ∈ lw_tbl := by decide +kernel
theorem wsL_law_in : ∀ w ∈ wsL_law, w ∈ lw_tbl := fun w h => (List.mem_append.mp h).elim (fun h => (List.mem_append.mp h).elim (fun h => (List.mem_append.mp h).elim (fun h => wsL_law_in0 w h) (fun h => wsL_law_x0 w h)) (fun h => wsL_law_x1 w h)) (fun h => wsL_law_x2 w h)
theorem inlX0 : ∀ w ∈ wsX00, w ∈ wsL_law := fun _ h => List.mem_append_left _ (List.mem_append_left _ (List.mem_append_left _ (List.mem_append_left _ (List.mem_append_right _ h))))
theorem inX0 : ∀ w ∈ wsX00, w ∈ lw_tbl := fun w h => wsL_law_in w (inlX0 w h)
theorem inX1 : ∀ w ∈ wsX10, w ∈ lw_tbl := by decide +kernel
theorem inJ0 : ∀ w ∈ wsJ00, w ∈ lw_tbl := by decide +kernel
abbrev vwCl : List vw_C := [(RX0, TX0, 18)]
end
section
theorem dL_cell_0 : decode cL_cell 0 = .ok (.iload_n 1, 1) := by decide +kernel
theorem dL_cell_1 : decode cL_cell 1 = .ok (.aload_n 0, 1) := by decide +kernel
theorem dL_cell_2 : decode cL_cell 2 = .ok (.arraylength, 1) := by decide +kernel
theorem dL_cell_3 : decode cL_cell 3 = .ok (.if_icmp .ge 9, 3) := by decide +kernel
theorem dL_cell_6 : decode cL_cell 6 = .ok (.aload_n 0, 1) := by decide +kernel
theorem dL_cell_7 : decode cL_cell 7 = .ok (.iload_n 1, 1) := by decide +kernel
theorem dL_cell_8 : decode cL_cell 8 = .ok (.iaload, 1) := by decide +kernel
theorem dL_cell_9 : decode cL_cell 9 = .ok (.goto 15, 3) := by decide +kernel
theorem dL_cell_12 : decode cL_cell 12 = .ok (.sipush 7919, 3) := by decide +kernel
theorem dL_cell_15 : decode cL_cell 15 = .ok (.iload_n 1, 1) := by decide +kernel
theorem dL_cell_16 : decode cL_cell 16 = .ok (.iconst 3, 1) := by decide +kernel
theorem dL_cell_17 : decode cL_cell 17 = .ok (.iadd, 1) := by decide +kernel
theorem dL_cell_18 : decode cL_cell 18 = .ok (.imul, 1) := by decide +kernel
theorem dL_cell_19 : decode cL_cell 19 = .ok (.iload_n 1, 1) := by decide +kernel
theorem dL_cell_20 : decode cL_cell 20 = .ok (.bipush 11, 2) := by decide +kernel
theorem dL_cell_22 : decode cL_cell 22 = .ok (.iadd, 1) := by decide +kernel
theorem dL_cell_23 : decode cL_cell 23 = .ok (.imul, 1) := by decide +kernel
theorem dL_cell_24 : decode cL_cell 24 = .ok (.ireturn, 1) := by decide +kernel
theorem dL_low_0 : decode cL_low 0 = .ok (.iload_n 0, 1) := by decide +kernel
theorem dL_low_1 : decode cL_low 1 = .ok (.ldc 7, 2) := by decide +kernel
theorem dL_low_3 : decode cL_low 3 = .ok (.iand, 1) := by decide +kernel
theorem dL_low_4 : decode cL_low 4 = .ok (.iload_n 1, 1) := by decide +kernel
theorem dL_low_5 : decode cL_low 5 = .ok (.irem, 1) := by decide +kernel
theorem dL_low_6 : decode cL_low 6 = .ok (.ireturn, 1) := by decide +kernel
set_option maxRecDepth 20000 in
theorem ggL_isWafer_X0_lotOf : GoodIn wsL_isWafer wsX0_lotOf := goodIn_ca (goodIn_r _ [5, 6, 7, 8, 9, 4, 10, 11, 12, 13, 46, 47, 48, 49, 50, 51, 52, 53, 54, 55, 56, 57, 58, 59, 60, 61, 62, 63] (by decide +kernel) (by decide +kernel)) (goodIn_sub (fun _ h => List.mem_cons_of_mem _ (List.mem_append_right _ h)) (by decide +kernel))
set_option maxRecDepth 20000 in
theorem gL_isWafer_X0_lotOf : GoodIn wsL_isWafer (wsV RL 8 RX0 yX0_lotOf wsX0_lotOf) := goodIn_app (goodIn_of _ (by decide +kernel)) ggL_isWafer_X0_lotOf
set_option maxRecDepth 20000 in
theorem ggL_isWafer_X0_path : GoodIn wsL_isWafer wsX0_path := goodIn_ca (goodIn_r _ [17, 18, 7, 8, 9, 4, 10, 11, 12, 13, 46, 47, 48, 49, 50, 51, 52, 53, 54, 55, 56, 57, 58, 59, 60, 61, 62, 63] (by decide +kernel) (by decide +kernel)) (goodIn_sub (fun _ h => List.mem_cons_of_mem _ (List.mem_append_right _ h)) (by decide +kernel))
set_option maxRecDepth 20000 in
theorem gL_isWafer_X0_path : GoodIn wsL_isWafer (wsV RL 14 RX0 yX0_path wsX0_path) := goodIn_app (goodIn_of _ (by decide +kernel)) ggL_isWafer_X0_path
set_option maxRecDepth 20000 in
theorem ggL_isWafer_X0_pathAt : GoodIn wsL_isWafer wsX0_pathAt := goodIn_ca (goodIn_r _ [22, 11, 12, 18, 23, 7, 8, 9, 4, 10, 13, 24, 25, 26, 46, 47, 48, 49, 50, 51, 52, 53, 54, 55, 56, 57, 58, 59, 60, 61, 62, 63] (by decide +kernel) (by decide +kernel)) (goodIn_sub (fun _ h => List.mem_cons_of_mem _ (List.mem_append_right _ h)) (by decide +kernel))
set_option maxRecDepth 20000 in
theorem gL_isWafer_X0_pathAt : GoodIn wsL_isWafer (wsV RL 17 RX0 yX0_pathAt wsX0_pathAt) := goodIn_app (goodIn_of _ (by decide +kernel)) ggL_isWafer_X0_pathAt
set_option maxRecDepth 20000 in
theorem ggL_isWafer_X0_parentOf : GoodIn wsL_isWafer wsX0_parentOf := goodIn_ca (goodIn_r _ [30, 31, 32, 33, 34, 4, 35, 11, 12, 36, 37, 38, 39, 40, 46, 47, 48, 49, 50, 51, 52, 53, 54, 55, 56, 57, 58, 59, 60, 61, 62, 63] (by decide +kernel) (by decide +kernel)) (goodIn_sub (fun _ h => List.mem_cons_of_mem _ (List.mem_append_right _ h)) (by decide +kernel))
set_option maxRecDepth 20000 in
theorem gL_isWafer_X0_parentOf : GoodIn wsL_isWafer (wsV RL 21 RX0 yX0_parentOf wsX0_parentOf) := goodIn_app (goodIn_of _ (by decide +kernel)) ggL_isWafer_X0_parentOf
set_option maxRecDepth 20000 in
theorem ggL_isWafer_X0_state : GoodIn wsL_isWafer wsX0_state := goodIn_ca (goodIn_r _ [44, 45, 32, 33, 34, 4, 35, 11, 12, 36, 37, 38, 39, 40, 46, 47, 48, 49, 50, 51, 52, 53, 54, 55, 56, 57, 58, 59, 60, 61, 62, 63] (by decide +kernel) (by decide +kernel)) (goodIn_sub (fun _ h => List.mem_cons_of_mem _ (List.mem_append_right _ h)) (by decide +kernel))
set_option maxRecDepth 20000 in
theorem gL_isWafer_X0_state : GoodIn wsL_isWafer (wsV RL 24 RX0 yX0_state wsX0_state) := goodIn_app (goodIn_of _ (by decide +kernel)) ggL_isWafer_X0_state
theorem dL_isWafer_0 : decode cL_isWafer 0 = .ok (.aload_n 0, 1) := by decide +kernel
theorem dL_isWafer_1 : decode cL_isWafer 1 = .ok (.iload_n 1, 1) := by decide +kernel
theorem dL_isWafer_2 : decode cL_isWafer 2 = .ok (.invokevirtual 8, 3) := by decide +kernel
theorem dL_isWafer_5 : decode cL_isWafer 5 = .ok (.istore_n 2, 1) := by decide +kernel
theorem dL_isWafer_6 : decode cL_isWafer 6 = .ok (.aload_n 0, 1) := by decide +kernel
theorem dL_isWafer_7 : decode cL_isWafer 7 = .ok (.iload_n 1, 1) := by decide +kernel
theorem dL_isWafer_8 : decode cL_isWafer 8 = .ok (.invokevirtual 14, 3) := by decide +kernel
theorem dL_isWafer_11 : decode cL_isWafer 11 = .ok (.istore_n 3, 1) := by decide +kernel
theorem dL_isWafer_12 : decode cL_isWafer 12 = .ok (.iload_n 3, 1) := by decide +kernel
theorem dL_isWafer_13 : decode cL_isWafer 13 = .ok (.iconst 1, 1) := by decide +kernel
theorem dL_isWafer_14 : decode cL_isWafer 14 = .ok (.if_icmp .lt 47, 3) := by decide +kernel
theorem dL_isWafer_17 : decode cL_isWafer 17 = .ok (.aload_n 0, 1) := by decide +kernel
theorem dL_isWafer_18 : decode cL_isWafer 18 = .ok (.aload_n 0, 1) := by decide +kernel
theorem dL_isWafer_19 : decode cL_isWafer 19 = .ok (.iload_n 1, 1) := by decide +kernel
theorem dL_isWafer_20 : decode cL_isWafer 20 = .ok (.iconst 0, 1) := by decide +kernel
theorem dL_isWafer_21 : decode cL_isWafer 21 = .ok (.invokevirtual 17, 3) := by decide +kernel
theorem dL_isWafer_24 : decode cL_isWafer 24 = .ok (.invokevirtual 21, 3) := by decide +kernel
theorem dL_isWafer_27 : decode cL_isWafer 27 = .ok (.iconst (-1), 1) := by decide +kernel
theorem dL_isWafer_28 : decode cL_isWafer 28 = .ok (.if_icmp .ne 33, 3) := by decide +kernel
theorem dL_isWafer_31 : decode cL_isWafer 31 = .ok (.iload_n 2, 1) := by decide +kernel
theorem dL_isWafer_32 : decode cL_isWafer 32 = .ok (.iconst (-1), 1) := by decide +kernel
theorem dL_isWafer_33 : decode cL_isWafer 33 = .ok (.if_icmp .eq 24, 3) := by decide +kernel
theorem dL_isWafer_36 : decode cL_isWafer 36 = .ok (.aload_n 0, 1) := by decide +kernel
theorem dL_isWafer_37 : decode cL_isWafer 37 = .ok (.iload_n 1, 1) := by decide +kernel
theorem dL_isWafer_38 : decode cL_isWafer 38 = .ok (.iload_n 3, 1) := by decide +kernel
theorem dL_isWafer_39 : decode cL_isWafer 39 = .ok (.iconst 1, 1) := by decide +kernel
theorem dL_isWafer_40 : decode cL_isWafer 40 = .ok (.isub, 1) := by decide +kernel
theorem dL_isWafer_41 : decode cL_isWafer 41 = .ok (.invokevirtual 17, 3) := by decide +kernel
theorem dL_isWafer_44 : decode cL_isWafer 44 = .ok (.iload_n 2, 1) := by decide +kernel
theorem dL_isWafer_45 : decode cL_isWafer 45 = .ok (.if_icmp .ne 16, 3) := by decide +kernel
theorem dL_isWafer_48 : decode cL_isWafer 48 = .ok (.aload_n 0, 1) := by decide +kernel
theorem dL_isWafer_49 : decode cL_isWafer 49 = .ok (.iload_n 2, 1) := by decide +kernel
theorem dL_isWafer_50 : decode cL_isWafer 50 = .ok (.invokevirtual 24, 3) := by decide +kernel
theorem dL_isWafer_53 : decode cL_isWafer 53 = .ok (.iconst 3, 1) := by decide +kernel
theorem dL_isWafer_54 : decode cL_isWafer 54 = .ok (.if_icmp .eq 7, 3) := by decide +kernel
theorem dL_isWafer_57 : decode cL_isWafer 57 = .ok (.iconst 1, 1) := by decide +kernel
theorem dL_isWafer_58 : decode cL_isWafer 58 = .ok (.goto 4, 3) := by decide +kernel
theorem dL_isWafer_61 : decode cL_isWafer 61 = .ok (.iconst 0, 1) := by decide +kernel
theorem dL_isWafer_62 : decode cL_isWafer 62 = .ok (.istore 4, 2) := by decide +kernel
theorem dL_isWafer_64 : decode cL_isWafer 64 = .ok (.iconst 1, 1) := by decide +kernel
theorem dL_isWafer_65 : decode cL_isWafer 65 = .ok (.istore 5, 2) := by decide +kernel
theorem dL_isWafer_67 : decode cL_isWafer 67 = .ok (.iload 5, 2) := by decide +kernel
theorem dL_isWafer_69 : decode cL_isWafer 69 = .ok (.iload_n 3, 1) := by decide +kernel
theorem dL_isWafer_70 : decode cL_isWafer 70 = .ok (.if_icmp .ge 69, 3) := by decide +kernel
theorem dL_isWafer_73 : decode cL_isWafer 73 = .ok (.iload 4, 2) := by decide +kernel
theorem dL_isWafer_75 : decode cL_isWafer 75 = .ok (.ifCond .eq 64, 3) := by decide +kernel
theorem dL_isWafer_78 : decode cL_isWafer 78 = .ok (.aload_n 0, 1) := by decide +kernel
theorem dL_isWafer_79 : decode cL_isWafer 79 = .ok (.iload_n 1, 1) := by decide +kernel
theorem dL_isWafer_80 : decode cL_isWafer 80 = .ok (.iload 5, 2) := by decide +kernel
theorem dL_isWafer_82 : decode cL_isWafer 82 = .ok (.iconst 1, 1) := by decide +kernel
theorem dL_isWafer_83 : decode cL_isWafer 83 = .ok (.isub, 1) := by decide +kernel
theorem dL_isWafer_84 : decode cL_isWafer 84 = .ok (.invokevirtual 17, 3) := by decide +kernel
theorem dL_isWafer_87 : decode cL_isWafer 87 = .ok (.istore 6, 2) := by decide +kernel
theorem dL_isWafer_89 : decode cL_isWafer 89 = .ok (.aload_n 0, 1) := by decide +kernel
theorem dL_isWafer_90 : decode cL_isWafer 90 = .ok (.iload_n 1, 1) := by decide +kernel
theorem dL_isWafer_91 : decode cL_isWafer 91 = .ok (.iload 5, 2) := by decide +kernel
theorem dL_isWafer_93 : decode cL_isWafer 93 = .ok (.invokevirtual 17, 3) := by decide +kernel
theorem dL_isWafer_96 : decode cL_isWafer 96 = .ok (.istore 7, 2) := by decide +kernel
theorem dL_isWafer_98 : decode cL_isWafer 98 = .ok (.iload 6, 2) := by decide +kernel
theorem dL_isWafer_100 : decode cL_isWafer 100 = .ok (.iload 7, 2) := by decide +kernel
theorem dL_isWafer_102 : decode cL_isWafer 102 = .ok (.if_icmp .eq 28, 3) := by decide +kernel
theorem dL_isWafer_105 : decode cL_isWafer 105 = .ok (.aload_n 0, 1) := by decide +kernel
theorem dL_isWafer_106 : decode cL_isWafer 106 = .ok (.iload 7, 2) := by decide +kernel
theorem dL_isWafer_108 : decode cL_isWafer 108 = .ok (.invokevirtual 21, 3) := by decide +kernel
theorem dL_isWafer_111 : decode cL_isWafer 111 = .ok (.iload 6, 2) := by decide +kernel
theorem dL_isWafer_113 : decode cL_isWafer 113 = .ok (.if_icmp .eq 13, 3) := by decide +kernel
theorem dL_isWafer_116 : decode cL_isWafer 116 = .ok (.aload_n 0, 1) := by decide +kernel
theorem dL_isWafer_117 : decode cL_isWafer 117 = .ok (.iload 6, 2) := by decide +kernel
theorem dL_isWafer_119 : decode cL_isWafer 119 = .ok (.invokevirtual 24, 3) := by decide +kernel
theorem dL_isWafer_122 : decode cL_isWafer 122 = .ok (.iconst 3, 1) := by decide +kernel
theorem dL_isWafer_123 : decode cL_isWafer 123 = .ok (.if_icmp .ne 7, 3) := by decide +kernel
theorem dL_isWafer_126 : decode cL_isWafer 126 = .ok (.iconst 1, 1) := by decide +kernel
theorem dL_isWafer_127 : decode cL_isWafer 127 = .ok (.goto 4, 3) := by decide +kernel
theorem dL_isWafer_130 : decode cL_isWafer 130 = .ok (.iconst 0, 1) := by decide +kernel
theorem dL_isWafer_131 : decode cL_isWafer 131 = .ok (.istore 4, 2) := by decide +kernel
theorem dL_isWafer_133 : decode cL_isWafer 133 = .ok (.iinc 5 1, 3) := by decide +kernel
theorem dL_isWafer_136 : decode cL_isWafer 136 = .ok (.goto (-69), 3) := by decide +kernel
theorem dL_isWafer_139 : decode cL_isWafer 139 = .ok (.iload 4, 2) := by decide +kernel
theorem dL_isWafer_141 : decode cL_isWafer 141 = .ok (.ireturn, 1) := by decide +kernel
set_option maxRecDepth 20000 in
theorem ggL_isLot_X0_wafers : GoodIn wsL_isLot wsX0_wafers := goodIn_r _ [6, 7, 75, 76, 77, 78, 79, 80, 81, 82, 83, 84, 85, 86, 87, 88, 89, 90, 91, 92] (by decide +kernel) (by decide +kernel)
set_option maxRecDepth 20000 in
theorem gL_isLot_X0_wafers : GoodIn wsL_isLot (wsV RL 27 RX0 yX0_wafers wsX0_wafers) := goodIn_app (goodIn_of _ (by decide +kernel)) ggL_isLot_X0_wafers
set_option maxRecDepth 20000 in
theorem ggL_isLot_X0_lotOf : GoodIn wsL_isLot wsX0_lotOf := goodIn_ca (goodIn_r _ [11, 12, 13, 14, 15, 5, 16, 17, 18, 7, 75, 76, 77, 78, 79, 80, 81, 82, 83, 84, 85, 86, 87, 88, 89, 90, 91, 92] (by decide +kernel) (by decide +kernel)) (goodIn_sub (fun _ h => List.mem_cons_of_mem _ (List.mem_append_right _ h)) (by decide +kernel))
set_option maxRecDepth 20000 in
theorem gL_isLot_X0_lotOf : GoodIn wsL_isLot (wsV RL 8 RX0 yX0_lotOf wsX0_lotOf) := goodIn_app (goodIn_of _ (by decide +kernel)) ggL_isLot_X0_lotOf
set_option maxRecDepth 20000 in
theorem ggL_isLot_X0_state : GoodIn wsL_isLot wsX0_state := goodIn_ca (goodIn_r _ [22, 23, 24, 25, 26, 5, 27, 17, 18, 28, 29, 30, 31, 32, 75, 76, 77, 78, 79, 80, 81, 82, 83, 84, 85, 86, 87, 88, 89, 90, 91, 92] (by decide +kernel) (by decide +kernel)) (goodIn_sub (fun _ h => List.mem_cons_of_mem _ (List.mem_append_right _ h)) (by decide +kernel))
set_option maxRecDepth 20000 in
theorem gL_isLot_X0_state : GoodIn wsL_isLot (wsV RL 24 RX0 yX0_state wsX0_state) := goodIn_app (goodIn_of _ (by decide +kernel)) ggL_isLot_X0_state
set_option maxRecDepth 20000 in
theorem ggL_isLot_X0_size : GoodIn wsL_isLot wsX0_size := goodIn_ca (goodIn_r _ [36, 37, 24, 25, 26, 5, 27, 17, 18, 28, 29, 30, 31, 32, 75, 76, 77, 78, 79, 80, 81, 82, 83, 84, 85, 86, 87, 88, 89, 90, 91, 92] (by decide +kernel) (by decide +kernel)) (goodIn_sub (fun _ h => List.mem_cons_of_mem _ (List.mem_append_right _ h)) (by decide +kernel))
set_option maxRecDepth 20000 in
theorem gL_isLot_X0_size : GoodIn wsL_isLot (wsV RL 31 RX0 yX0_size wsX0_size) := goodIn_app (goodIn_of _ (by decide +kernel)) ggL_isLot_X0_size
set_option maxRecDepth 20000 in
theorem ggL_isLot_X0_stepOf : GoodIn wsL_isLot wsX0_stepOf := goodIn_ca (goodIn_r _ [41, 42, 24, 25, 26, 5, 27, 17, 18, 28, 29, 30, 31, 32, 75, 76, 77, 78, 79, 80, 81, 82, 83, 84, 85, 86, 87, 88, 89, 90, 91, 92] (by decide +kernel) (by decide +kernel)) (goodIn_sub (fun _ h => List.mem_cons_of_mem _ (List.mem_append_right _ h)) (by decide +kernel))
set_option maxRecDepth 20000 in
theorem gL_isLot_X0_stepOf : GoodIn wsL_isLot (wsV RL 34 RX0 yX0_stepOf wsX0_stepOf) := goodIn_app (goodIn_of _ (by decide +kernel)) ggL_isLot_X0_stepOf
set_option maxRecDepth 20000 in
theorem ggL_isLot_X0_parentOf : GoodIn wsL_isLot wsX0_parentOf := goodIn_ca (goodIn_r _ [46, 47, 24, 25, 26, 5, 27, 17, 18, 28, 29, 30, 31, 32, 75, 76, 77, 78, 79, 80, 81, 82, 83, 84, 85, 86, 87, 88, 89, 90, 91, 92] (by decide +kernel) (by decide +kernel)) (goodIn_sub (fun _ h => List.mem_cons_of_mem _ (List.mem_append_right _ h)) (by decide +kernel))
set_option maxRecDepth 20000 in
theorem gL_isLot_X0_parentOf : GoodIn wsL_isLot (wsV RL 21 RX0 yX0_parentOf wsX0_parentOf) := goodIn_app (goodIn_of _ (by decide +kernel)) ggL_isLot_X0_parentOf
set_option maxRecDepth 20000 in
theorem ggL_isLot_X0_isLate : GoodIn wsL_isLot wsX0_isLate := goodIn_ca (goodIn_r _ [51, 24, 25, 26, 5, 27, 17, 18, 28, 29, 30, 31, 32, 52, 53, 54, 55, 42, 23, 56, 57, 58, 59, 60, 61, 62, 63, 64, 65, 75, 76, 77, 78, 79, 80, 81, 82, 83, 84, 85, 86, 87, 88, 89, 90, 91, 92] (by decide +kernel) (by decide +kernel)) (goodIn_sub (fun _ h => List.mem_cons_of_mem _ (List.mem_append_right _ h)) (by decide +kernel))
set_option maxRecDepth 20000 in
theorem gL_isLot_X0_isLate : GoodIn wsL_isLot (wsV RL 37 RX0 yX0_isLate wsX0_isLate) := goodIn_app (goodIn_of _ (by decide +kernel)) ggL_isLot_X0_isLate
set_option maxRecDepth 20000 in
theorem ggL_isLot_X0_slack : GoodIn wsL_isLot wsX0_slack := goodIn_ca (goodIn_r _ [69, 24, 25, 26, 5, 27, 17, 18, 28, 29, 30, 31, 32, 52, 53, 54, 55, 42, 23, 56, 57, 58, 59, 60, 61, 62, 63, 64, 65, 75, 76, 77, 78, 79, 80, 81, 82, 83, 84, 85, 86, 87, 88, 89, 90, 91, 92] (by decide +kernel) (by decide +kernel)) (goodIn_sub (fun _ h => List.mem_cons_of_mem _ (List.mem_append_right _ h)) (by decide +kernel))
set_option maxRecDepth 20000 in
theorem gL_isLot_X0_slack : GoodIn wsL_isLot (wsV RL 41 RX0 yX0_slack wsX0_slack) := goodIn_app (goodIn_of _ (by decide +kernel)) ggL_isLot_X0_slack
set_option maxRecDepth 20000 in
theorem ggL_isLot_X0_reworks : GoodIn wsL_isLot wsX0_reworks := goodIn_ca (goodIn_r _ [73, 74, 24, 25, 26, 5, 27, 17, 18, 28, 29, 30, 31, 32, 75, 76, 77, 78, 79, 80, 81, 82, 83, 84, 85, 86, 87, 88, 89, 90, 91, 92] (by decide +kernel) (by decide +kernel)) (goodIn_sub (fun _ h => List.mem_cons_of_mem _ (List.mem_append_right _ h)) (by decide +kernel))
set_option maxRecDepth 20000 in
theorem gL_isLot_X0_reworks : GoodIn wsL_isLot (wsV RL 45 RX0 yX0_reworks wsX0_reworks) := goodIn_app (goodIn_of _ (by decide +kernel)) ggL_isLot_X0_reworks
theorem dL_isLot_0 : decode cL_isLot 0 = .ok (.iconst 0, 1) := by decide +kernel
theorem dL_isLot_1 : decode cL_isLot 1 = .ok (.istore_n 2, 1) := by decide +kernel
theorem dL_isLot_2 : decode cL_isLot 2 = .ok (.iconst 0, 1) := by decide +kernel
theorem dL_isLot_3 : decode cL_isLot 3 = .ok (.istore_n 3, 1) := by decide +kernel
theorem dL_isLot_4 : decode cL_isLot 4 = .ok (.iload_n 3, 1) := by decide +kernel
theorem dL_isLot_5 : decode cL_isLot 5 = .ok (.aload_n 0, 1) := by decide +kernel
theorem dL_isLot_6 : decode cL_isLot 6 = .ok (.invokevirtual 27, 3) := by decide +kernel
theorem dL_isLot_9 : decode cL_isLot 9 = .ok (.if_icmp .ge 26, 3) := by decide +kernel
theorem dL_isLot_12 : decode cL_isLot 12 = .ok (.iload_n 2, 1) := by decide +kernel
theorem dL_isLot_13 : decode cL_isLot 13 = .ok (.aload_n 0, 1) := by decide +kernel
theorem dL_isLot_14 : decode cL_isLot 14 = .ok (.iload_n 3, 1) := by decide +kernel
theorem dL_isLot_15 : decode cL_isLot 15 = .ok (.invokevirtual 8, 3) := by decide +kernel
theorem dL_isLot_18 : decode cL_isLot 18 = .ok (.iload_n 1, 1) := by decide +kernel
theorem dL_isLot_19 : decode cL_isLot 19 = .ok (.if_icmp .ne 7, 3) := by decide +kernel
theorem dL_isLot_22 : decode cL_isLot 22 = .ok (.iconst 1, 1) := by decide +kernel
theorem dL_isLot_23 : decode cL_isLot 23 = .ok (.goto 4, 3) := by decide +kernel
theorem dL_isLot_26 : decode cL_isLot 26 = .ok (.iconst 0, 1) := by decide +kernel
theorem dL_isLot_27 : decode cL_isLot 27 = .ok (.iadd, 1) := by decide +kernel
theorem dL_isLot_28 : decode cL_isLot 28 = .ok (.istore_n 2, 1) := by decide +kernel
theorem dL_isLot_29 : decode cL_isLot 29 = .ok (.iinc 3 1, 3) := by decide +kernel
theorem dL_isLot_32 : decode cL_isLot 32 = .ok (.goto (-28), 3) := by decide +kernel
theorem dL_isLot_35 : decode cL_isLot 35 = .ok (.aload_n 0, 1) := by decide +kernel
theorem dL_isLot_36 : decode cL_isLot 36 = .ok (.iload_n 1, 1) := by decide +kernel
theorem dL_isLot_37 : decode cL_isLot 37 = .ok (.invokevirtual 24, 3) := by decide +kernel
theorem dL_isLot_40 : decode cL_isLot 40 = .ok (.istore_n 3, 1) := by decide +kernel
theorem dL_isLot_41 : decode cL_isLot 41 = .ok (.aload_n 0, 1) := by decide +kernel
theorem dL_isLot_42 : decode cL_isLot 42 = .ok (.iload_n 1, 1) := by decide +kernel
theorem dL_isLot_43 : decode cL_isLot 43 = .ok (.invokevirtual 31, 3) := by decide +kernel
theorem dL_isLot_46 : decode cL_isLot 46 = .ok (.iload_n 2, 1) := by decide +kernel
theorem dL_isLot_47 : decode cL_isLot 47 = .ok (.if_icmp .ne 65, 3) := by decide +kernel
theorem dL_isLot_50 : decode cL_isLot 50 = .ok (.iload_n 3, 1) := by decide +kernel
theorem dL_isLot_51 : decode cL_isLot 51 = .ok (.iconst 3, 1) := by decide +kernel
theorem dL_isLot_52 : decode cL_isLot 52 = .ok (.if_icmp .ne 7, 3) := by decide +kernel
theorem dL_isLot_55 : decode cL_isLot 55 = .ok (.iconst 1, 1) := by decide +kernel
theorem dL_isLot_56 : decode cL_isLot 56 = .ok (.goto 4, 3) := by decide +kernel
theorem dL_isLot_59 : decode cL_isLot 59 = .ok (.iconst 0, 1) := by decide +kernel
theorem dL_isLot_60 : decode cL_isLot 60 = .ok (.iload_n 2, 1) := by decide +kernel
theorem dL_isLot_61 : decode cL_isLot 61 = .ok (.ifCond .ne 7, 3) := by decide +kernel
theorem dL_isLot_64 : decode cL_isLot 64 = .ok (.iconst 1, 1) := by decide +kernel
theorem dL_isLot_65 : decode cL_isLot 65 = .ok (.goto 4, 3) := by decide +kernel
theorem dL_isLot_68 : decode cL_isLot 68 = .ok (.iconst 0, 1) := by decide +kernel
theorem dL_isLot_69 : decode cL_isLot 69 = .ok (.if_icmp .ne 43, 3) := by decide +kernel
theorem dL_isLot_72 : decode cL_isLot 72 = .ok (.iload_n 3, 1) := by decide +kernel
theorem dL_isLot_73 : decode cL_isLot 73 = .ok (.iconst 1, 1) := by decide +kernel
theorem dL_isLot_74 : decode cL_isLot 74 = .ok (.if_icmp .le 7, 3) := by decide +kernel
theorem dL_isLot_77 : decode cL_isLot 77 = .ok (.iconst 1, 1) := by decide +kernel
theorem dL_isLot_78 : decode cL_isLot 78 = .ok (.goto 4, 3) := by decide +kernel
theorem dL_isLot_81 : decode cL_isLot 81 = .ok (.iconst 0, 1) := by decide +kernel
theorem dL_isLot_82 : decode cL_isLot 82 = .ok (.aload_n 0, 1) := by decide +kernel
theorem dL_isLot_83 : decode cL_isLot 83 = .ok (.iload_n 1, 1) := by decide +kernel
theorem dL_isLot_84 : decode cL_isLot 84 = .ok (.invokevirtual 34, 3) := by decide +kernel
theorem dL_isLot_87 : decode cL_isLot 87 = .ok (.iconst (-1), 1) := by decide +kernel
theorem dL_isLot_88 : decode cL_isLot 88 = .ok (.if_icmp .ne 7, 3) := by decide +kernel
theorem dL_isLot_91 : decode cL_isLot 91 = .ok (.iconst 1, 1) := by decide +kernel
theorem dL_isLot_92 : decode cL_isLot 92 = .ok (.goto 4, 3) := by decide +kernel
theorem dL_isLot_95 : decode cL_isLot 95 = .ok (.iconst 0, 1) := by decide +kernel
theorem dL_isLot_96 : decode cL_isLot 96 = .ok (.if_icmp .ne 16, 3) := by decide +kernel
theorem dL_isLot_99 : decode cL_isLot 99 = .ok (.aload_n 0, 1) := by decide +kernel
theorem dL_isLot_100 : decode cL_isLot 100 = .ok (.iload_n 1, 1) := by decide +kernel
theorem dL_isLot_101 : decode cL_isLot 101 = .ok (.invokevirtual 21, 3) := by decide +kernel
theorem dL_isLot_104 : decode cL_isLot 104 = .ok (.iload_n 1, 1) := by decide +kernel
theorem dL_isLot_105 : decode cL_isLot 105 = .ok (.if_icmp .ge 7, 3) := by decide +kernel
theorem dL_isLot_108 : decode cL_isLot 108 = .ok (.iconst 1, 1) := by decide +kernel
theorem dL_isLot_109 : decode cL_isLot 109 = .ok (.goto 4, 3) := by decide +kernel
theorem dL_isLot_112 : decode cL_isLot 112 = .ok (.iconst 0, 1) := by decide +kernel
theorem dL_isLot_113 : decode cL_isLot 113 = .ok (.istore 4, 2) := by decide +kernel
theorem dL_isLot_115 : decode cL_isLot 115 = .ok (.iload 4, 2) := by decide +kernel
theorem dL_isLot_117 : decode cL_isLot 117 = .ok (.ifCond .eq 59, 3) := by decide +kernel
theorem dL_isLot_120 : decode cL_isLot 120 = .ok (.aload_n 0, 1) := by decide +kernel
theorem dL_isLot_121 : decode cL_isLot 121 = .ok (.iload_n 1, 1) := by decide +kernel
theorem dL_isLot_122 : decode cL_isLot 122 = .ok (.invokevirtual 37, 3) := by decide +kernel
theorem dL_isLot_125 : decode cL_isLot 125 = .ok (.aload_n 0, 1) := by decide +kernel
theorem dL_isLot_126 : decode cL_isLot 126 = .ok (.iload_n 1, 1) := by decide +kernel
theorem dL_isLot_127 : decode cL_isLot 127 = .ok (.invokevirtual 41, 3) := by decide +kernel
theorem dL_isLot_130 : decode cL_isLot 130 = .ok (.ifCond .ge 7, 3) := by decide +kernel
theorem dL_isLot_133 : decode cL_isLot 133 = .ok (.iconst 1, 1) := by decide +kernel
theorem dL_isLot_134 : decode cL_isLot 134 = .ok (.goto 4, 3) := by decide +kernel
theorem dL_isLot_137 : decode cL_isLot 137 = .ok (.iconst 0, 1) := by decide +kernel
theorem dL_isLot_138 : decode cL_isLot 138 = .ok (.if_icmp .ne 38, 3) := by decide +kernel
theorem dL_isLot_141 : decode cL_isLot 141 = .ok (.iload_n 3, 1) := by decide +kernel
theorem dL_isLot_142 : decode cL_isLot 142 = .ok (.ifCond .eq 13, 3) := by decide +kernel
theorem dL_isLot_145 : decode cL_isLot 145 = .ok (.aload_n 0, 1) := by decide +kernel
theorem dL_isLot_146 : decode cL_isLot 146 = .ok (.iload_n 1, 1) := by decide +kernel
theorem dL_isLot_147 : decode cL_isLot 147 = .ok (.invokevirtual 41, 3) := by decide +kernel
theorem dL_isLot_150 : decode cL_isLot 150 = .ok (.ldc 44, 2) := by decide +kernel
theorem dL_isLot_152 : decode cL_isLot 152 = .ok (.if_icmp .ne 24, 3) := by decide +kernel
theorem dL_isLot_155 : decode cL_isLot 155 = .ok (.aload_n 0, 1) := by decide +kernel
theorem dL_isLot_156 : decode cL_isLot 156 = .ok (.iload_n 1, 1) := by decide +kernel
theorem dL_isLot_157 : decode cL_isLot 157 = .ok (.invokevirtual 45, 3) := by decide +kernel
theorem dL_isLot_160 : decode cL_isLot 160 = .ok (.ifCond .lt 16, 3) := by decide +kernel
theorem dL_isLot_163 : decode cL_isLot 163 = .ok (.aload_n 0, 1) := by decide +kernel
theorem dL_isLot_164 : decode cL_isLot 164 = .ok (.iload_n 1, 1) := by decide +kernel
theorem dL_isLot_165 : decode cL_isLot 165 = .ok (.invokevirtual 45, 3) := by decide +kernel
theorem dL_isLot_168 : decode cL_isLot 168 = .ok (.iconst 2, 1) := by decide +kernel
theorem dL_isLot_169 : decode cL_isLot 169 = .ok (.if_icmp .gt 7, 3) := by decide +kernel
theorem dL_isLot_172 : decode cL_isLot 172 = .ok (.iconst 1, 1) := by decide +kernel
theorem dL_isLot_173 : decode cL_isLot 173 = .ok (.goto 4, 3) := by decide +kernel
theorem dL_isLot_176 : decode cL_isLot 176 = .ok (.iconst 0, 1) := by decide +kernel
theorem dL_isLot_177 : decode cL_isLot 177 = .ok (.ireturn, 1) := by decide +kernel
set_option maxRecDepth 20000 in
theorem ggL_areSteps_X0_lots : GoodIn wsL_areSteps wsX0_lots := goodIn_r _ [5, 6, 51, 52, 53, 54, 55, 56, 57, 58, 59, 60, 61, 62, 63, 64, 65, 66, 67, 68] (by decide +kernel) (by decide +kernel)
set_option maxRecDepth 20000 in
theorem gL_areSteps_X0_lots : GoodIn wsL_areSteps (wsV RL 48 RX0 yX0_lots wsX0_lots) := goodIn_app (goodIn_of _ (by decide +kernel)) ggL_areSteps_X0_lots
set_option maxRecDepth 20000 in
theorem ggL_areSteps_X0_stepOf : GoodIn wsL_areSteps wsX0_stepOf := goodIn_ca (goodIn_r _ [10, 11, 12, 13, 14, 4, 15, 16, 17, 18, 19, 20, 21, 6, 51, 52, 53, 54, 55, 56, 57, 58, 59, 60, 61, 62, 63, 64, 65, 66, 67, 68] (by decide +kernel) (by decide +kernel)) (goodIn_sub (fun _ h => List.mem_cons_of_mem _ (List.mem_append_right _ h)) (by decide +kernel))
set_option maxRecDepth 20000 in
theorem gL_areSteps_X0_stepOf : GoodIn wsL_areSteps (wsV RL 34 RX0 yX0_stepOf wsX0_stepOf) := goodIn_app (goodIn_of _ (by decide +kernel)) ggL_areSteps_X0_stepOf
set_option maxRecDepth 20000 in
theorem ggL_areSteps_X0_size : GoodIn wsL_areSteps wsX0_size := goodIn_ca (goodIn_r _ [25, 26, 12, 13, 14, 4, 15, 16, 17, 18, 19, 20, 21, 6, 51, 52, 53, 54, 55, 56, 57, 58, 59, 60, 61, 62, 63, 64, 65, 66, 67, 68] (by decide +kernel) (by decide +kernel)) (goodIn_sub (fun _ h => List.mem_cons_of_mem _ (List.mem_append_right _ h)) (by decide +kernel))
set_option maxRecDepth 20000 in
theorem gL_areSteps_X0_size : GoodIn wsL_areSteps (wsV RL 31 RX0 yX0_size wsX0_size) := goodIn_app (goodIn_of _ (by decide +kernel)) ggL_areSteps_X0_size
set_option maxRecDepth 20000 in
theorem ggL_areSteps_X0_wafersAt : GoodIn wsL_areSteps wsX0_wafersAt := goodIn_ca (goodIn_r _ [30, 6, 11, 26, 31, 32, 33, 4, 34, 16, 17, 35, 36, 37, 38, 39, 51, 52, 53, 54, 55, 56, 57, 58, 59, 60, 61, 62, 63, 64, 65, 66, 67, 68] (by decide +kernel) (by decide +kernel)) (goodIn_sub (fun _ h => List.mem_cons_of_mem _ (List.mem_append_right _ h)) (by decide +kernel))
set_option maxRecDepth 20000 in
theorem gL_areSteps_X0_wafersAt : GoodIn wsL_areSteps (wsV RL 51 RX0 yX0_wafersAt wsX0_wafersAt) := goodIn_app (goodIn_of _ (by decide +kernel)) ggL_areSteps_X0_wafersAt
set_option maxRecDepth 20000 in
theorem ggL_areSteps_X0_wafersAtByWafers : GoodIn wsL_areSteps wsX0_wafersAtByWafers := goodIn_ca (goodIn_r _ [43, 44, 45, 11, 31, 32, 33, 4, 34, 16, 17, 35, 36, 37, 38, 39, 18, 19, 20, 21, 6, 51, 52, 53, 54, 55, 56, 57, 58, 59, 60, 61, 62, 63, 64, 65, 66, 67, 68] (by decide +kernel) (by decide +kernel)) (goodIn_sub (fun _ h => List.mem_cons_of_mem _ (List.mem_append_right _ h)) (by decide +kernel))
set_option maxRecDepth 20000 in
theorem gL_areSteps_X0_wafersAtByWafers : GoodIn wsL_areSteps (wsV RL 54 RX0 yX0_wafersAtByWafers wsX0_wafersAtByWafers) := goodIn_app (goodIn_of _ (by decide +kernel)) ggL_areSteps_X0_wafersAtByWafers
set_option maxRecDepth 20000 in
theorem ggL_areSteps_X0_state : GoodIn wsL_areSteps wsX0_state := goodIn_ca (goodIn_r _ [49, 50, 12, 13, 14, 4, 15, 16, 17, 18, 19, 20, 21, 6, 51, 52, 53, 54, 55, 56, 57, 58, 59, 60, 61, 62, 63, 64, 65, 66, 67, 68] (by decide +kernel) (by decide +kernel)) (goodIn_sub (fun _ h => List.mem_cons_of_mem _ (List.mem_append_right _ h)) (by decide +kernel))
set_option maxRecDepth 20000 in
theorem gL_areSteps_X0_state : GoodIn wsL_areSteps (wsV RL 24 RX0 yX0_state wsX0_state) := goodIn_app (goodIn_of _ (by decide +kernel)) ggL_areSteps_X0_state
theorem dL_areSteps_0 : decode cL_areSteps 0 = .ok (.iconst 1, 1) := by decide +kernel
theorem dL_areSteps_1 : decode cL_areSteps 1 = .ok (.istore_n 2, 1) := by decide +kernel
theorem dL_areSteps_2 : decode cL_areSteps 2 = .ok (.iconst 0, 1) := by decide +kernel
theorem dL_areSteps_3 : decode cL_areSteps 3 = .ok (.istore_n 3, 1) := by decide +kernel
theorem dL_areSteps_4 : decode cL_areSteps 4 = .ok (.iconst 0, 1) := by decide +kernel
theorem dL_areSteps_5 : decode cL_areSteps 5 = .ok (.istore 4, 2) := by decide +kernel
theorem dL_areSteps_7 : decode cL_areSteps 7 = .ok (.iload 4, 2) := by decide +kernel
theorem dL_areSteps_9 : decode cL_areSteps 9 = .ok (.iload_n 1, 1) := by decide +kernel
theorem dL_areSteps_10 : decode cL_areSteps 10 = .ok (.if_icmp .ge 93, 3) := by decide +kernel
theorem dL_areSteps_13 : decode cL_areSteps 13 = .ok (.iload_n 2, 1) := by decide +kernel
theorem dL_areSteps_14 : decode cL_areSteps 14 = .ok (.ifCond .eq 89, 3) := by decide +kernel
theorem dL_areSteps_17 : decode cL_areSteps 17 = .ok (.iconst 0, 1) := by decide +kernel
theorem dL_areSteps_18 : decode cL_areSteps 18 = .ok (.istore 5, 2) := by decide +kernel
theorem dL_areSteps_20 : decode cL_areSteps 20 = .ok (.iconst 0, 1) := by decide +kernel
theorem dL_areSteps_21 : decode cL_areSteps 21 = .ok (.istore 6, 2) := by decide +kernel
theorem dL_areSteps_23 : decode cL_areSteps 23 = .ok (.iload 6, 2) := by decide +kernel
theorem dL_areSteps_25 : decode cL_areSteps 25 = .ok (.aload_n 0, 1) := by decide +kernel
theorem dL_areSteps_26 : decode cL_areSteps 26 = .ok (.invokevirtual 48, 3) := by decide +kernel
theorem dL_areSteps_29 : decode cL_areSteps 29 = .ok (.if_icmp .ge 35, 3) := by decide +kernel
theorem dL_areSteps_32 : decode cL_areSteps 32 = .ok (.iload 5, 2) := by decide +kernel
theorem dL_areSteps_34 : decode cL_areSteps 34 = .ok (.aload_n 0, 1) := by decide +kernel
theorem dL_areSteps_35 : decode cL_areSteps 35 = .ok (.iload 6, 2) := by decide +kernel
theorem dL_areSteps_37 : decode cL_areSteps 37 = .ok (.invokevirtual 34, 3) := by decide +kernel
theorem dL_areSteps_40 : decode cL_areSteps 40 = .ok (.iload 4, 2) := by decide +kernel
theorem dL_areSteps_42 : decode cL_areSteps 42 = .ok (.if_icmp .ne 12, 3) := by decide +kernel
theorem dL_areSteps_45 : decode cL_areSteps 45 = .ok (.aload_n 0, 1) := by decide +kernel
theorem dL_areSteps_46 : decode cL_areSteps 46 = .ok (.iload 6, 2) := by decide +kernel
theorem dL_areSteps_48 : decode cL_areSteps 48 = .ok (.invokevirtual 31, 3) := by decide +kernel
theorem dL_areSteps_51 : decode cL_areSteps 51 = .ok (.goto 4, 3) := by decide +kernel
theorem dL_areSteps_54 : decode cL_areSteps 54 = .ok (.iconst 0, 1) := by decide +kernel
theorem dL_areSteps_55 : decode cL_areSteps 55 = .ok (.iadd, 1) := by decide +kernel
theorem dL_areSteps_56 : decode cL_areSteps 56 = .ok (.istore 5, 2) := by decide +kernel
theorem dL_areSteps_58 : decode cL_areSteps 58 = .ok (.iinc 6 1, 3) := by decide +kernel
theorem dL_areSteps_61 : decode cL_areSteps 61 = .ok (.goto (-38), 3) := by decide +kernel
theorem dL_areSteps_64 : decode cL_areSteps 64 = .ok (.iload_n 3, 1) := by decide +kernel
theorem dL_areSteps_65 : decode cL_areSteps 65 = .ok (.iload 5, 2) := by decide +kernel
theorem dL_areSteps_67 : decode cL_areSteps 67 = .ok (.iadd, 1) := by decide +kernel
theorem dL_areSteps_68 : decode cL_areSteps 68 = .ok (.istore_n 3, 1) := by decide +kernel
theorem dL_areSteps_69 : decode cL_areSteps 69 = .ok (.aload_n 0, 1) := by decide +kernel
theorem dL_areSteps_70 : decode cL_areSteps 70 = .ok (.iload 4, 2) := by decide +kernel
theorem dL_areSteps_72 : decode cL_areSteps 72 = .ok (.invokevirtual 51, 3) := by decide +kernel
theorem dL_areSteps_75 : decode cL_areSteps 75 = .ok (.iload 5, 2) := by decide +kernel
theorem dL_areSteps_77 : decode cL_areSteps 77 = .ok (.if_icmp .ne 18, 3) := by decide +kernel
theorem dL_areSteps_80 : decode cL_areSteps 80 = .ok (.aload_n 0, 1) := by decide +kernel
theorem dL_areSteps_81 : decode cL_areSteps 81 = .ok (.iload 4, 2) := by decide +kernel
theorem dL_areSteps_83 : decode cL_areSteps 83 = .ok (.invokevirtual 54, 3) := by decide +kernel
theorem dL_areSteps_86 : decode cL_areSteps 86 = .ok (.iload 5, 2) := by decide +kernel
theorem dL_areSteps_88 : decode cL_areSteps 88 = .ok (.if_icmp .ne 7, 3) := by decide +kernel
theorem dL_areSteps_91 : decode cL_areSteps 91 = .ok (.iconst 1, 1) := by decide +kernel
theorem dL_areSteps_92 : decode cL_areSteps 92 = .ok (.goto 4, 3) := by decide +kernel
theorem dL_areSteps_95 : decode cL_areSteps 95 = .ok (.iconst 0, 1) := by decide +kernel
theorem dL_areSteps_96 : decode cL_areSteps 96 = .ok (.istore_n 2, 1) := by decide +kernel
theorem dL_areSteps_97 : decode cL_areSteps 97 = .ok (.iinc 4 1, 3) := by decide +kernel
theorem dL_areSteps_100 : decode cL_areSteps 100 = .ok (.goto (-93), 3) := by decide +kernel
theorem dL_areSteps_103 : decode cL_areSteps 103 = .ok (.iconst 0, 1) := by decide +kernel
theorem dL_areSteps_104 : decode cL_areSteps 104 = .ok (.istore 4, 2) := by decide +kernel
theorem dL_areSteps_106 : decode cL_areSteps 106 = .ok (.iconst 0, 1) := by decide +kernel
theorem dL_areSteps_107 : decode cL_areSteps 107 = .ok (.istore 5, 2) := by decide +kernel
theorem dL_areSteps_109 : decode cL_areSteps 109 = .ok (.iload 5, 2) := by decide +kernel
theorem dL_areSteps_111 : decode cL_areSteps 111 = .ok (.aload_n 0, 1) := by decide +kernel
theorem dL_areSteps_112 : decode cL_areSteps 112 = .ok (.invokevirtual 48, 3) := by decide +kernel
theorem dL_areSteps_115 : decode cL_areSteps 115 = .ok (.if_icmp .ge 34, 3) := by decide +kernel
theorem dL_areSteps_118 : decode cL_areSteps 118 = .ok (.iload 4, 2) := by decide +kernel
theorem dL_areSteps_120 : decode cL_areSteps 120 = .ok (.aload_n 0, 1) := by decide +kernel
theorem dL_areSteps_121 : decode cL_areSteps 121 = .ok (.iload 5, 2) := by decide +kernel
theorem dL_areSteps_123 : decode cL_areSteps 123 = .ok (.invokevirtual 24, 3) := by decide +kernel
theorem dL_areSteps_126 : decode cL_areSteps 126 = .ok (.iconst 2, 1) := by decide +kernel
theorem dL_areSteps_127 : decode cL_areSteps 127 = .ok (.if_icmp .ge 12, 3) := by decide +kernel
theorem dL_areSteps_130 : decode cL_areSteps 130 = .ok (.aload_n 0, 1) := by decide +kernel
theorem dL_areSteps_131 : decode cL_areSteps 131 = .ok (.iload 5, 2) := by decide +kernel
theorem dL_areSteps_133 : decode cL_areSteps 133 = .ok (.invokevirtual 31, 3) := by decide +kernel
theorem dL_areSteps_136 : decode cL_areSteps 136 = .ok (.goto 4, 3) := by decide +kernel
theorem dL_areSteps_139 : decode cL_areSteps 139 = .ok (.iconst 0, 1) := by decide +kernel
theorem dL_areSteps_140 : decode cL_areSteps 140 = .ok (.iadd, 1) := by decide +kernel
theorem dL_areSteps_141 : decode cL_areSteps 141 = .ok (.istore 4, 2) := by decide +kernel
theorem dL_areSteps_143 : decode cL_areSteps 143 = .ok (.iinc 5 1, 3) := by decide +kernel
theorem dL_areSteps_146 : decode cL_areSteps 146 = .ok (.goto (-37), 3) := by decide +kernel
theorem dL_areSteps_149 : decode cL_areSteps 149 = .ok (.iload_n 2, 1) := by decide +kernel
theorem dL_areSteps_150 : decode cL_areSteps 150 = .ok (.ifCond .eq 13, 3) := by decide +kernel
theorem dL_areSteps_153 : decode cL_areSteps 153 = .ok (.iload_n 3, 1) := by decide +kernel
theorem dL_areSteps_154 : decode cL_areSteps 154 = .ok (.iload 4, 2) := by decide +kernel
theorem dL_areSteps_156 : decode cL_areSteps 156 = .ok (.if_icmp .ne 7, 3) := by decide +kernel
theorem dL_areSteps_159 : decode cL_areSteps 159 = .ok (.iconst 1, 1) := by decide +kernel
theorem dL_areSteps_160 : decode cL_areSteps 160 = .ok (.goto 4, 3) := by decide +kernel
theorem dL_areSteps_163 : decode cL_areSteps 163 = .ok (.iconst 0, 1) := by decide +kernel
theorem dL_areSteps_164 : decode cL_areSteps 164 = .ok (.ireturn, 1) := by decide +kernel
set_option maxRecDepth 20000 in
theorem ggL_isCommon_X0_common : GoodIn wsL_isCommon wsX0_common := goodIn_ca (goodIn_r _ [5, 6, 7, 8, 4, 9, 10, 11, 12, 13, 14, 15, 16, 17, 18, 19, 20, 21, 26, 27, 28, 29, 30, 31, 32, 33, 34, 35, 36, 37, 38, 39, 40, 41, 42, 43] (by decide +kernel) (by decide +kernel)) (goodIn_sub (fun _ h => List.mem_cons_of_mem _ (List.mem_append_right _ h)) (by decide +kernel))
set_option maxRecDepth 20000 in
theorem gL_isCommon_X0_common : GoodIn wsL_isCommon (wsV RL 57 RX0 yX0_common wsX0_common) := goodIn_app (goodIn_of _ (by decide +kernel)) ggL_isCommon_X0_common
set_option maxRecDepth 20000 in
theorem ggL_isCommon_X0_parentOf : GoodIn wsL_isCommon wsX0_parentOf := goodIn_ca (goodIn_r _ [25, 21, 6, 7, 8, 4, 9, 10, 11, 12, 13, 14, 15, 16, 26, 27, 28, 29, 30, 31, 32, 33, 34, 35, 36, 37, 38, 39, 40, 41, 42, 43] (by decide +kernel) (by decide +kernel)) (goodIn_sub (fun _ h => List.mem_cons_of_mem _ (List.mem_append_right _ h)) (by decide +kernel))
set_option maxRecDepth 20000 in
theorem gL_isCommon_X0_parentOf : GoodIn wsL_isCommon (wsV RL 21 RX0 yX0_parentOf wsX0_parentOf) := goodIn_app (goodIn_of _ (by decide +kernel)) ggL_isCommon_X0_parentOf
theorem dL_isCommon_0 : decode cL_isCommon 0 = .ok (.aload_n 0, 1) := by decide +kernel
theorem dL_isCommon_1 : decode cL_isCommon 1 = .ok (.iload_n 1, 1) := by decide +kernel
theorem dL_isCommon_2 : decode cL_isCommon 2 = .ok (.iload_n 2, 1) := by decide +kernel
theorem dL_isCommon_3 : decode cL_isCommon 3 = .ok (.invokevirtual 57, 3) := by decide +kernel
theorem dL_isCommon_6 : decode cL_isCommon 6 = .ok (.istore_n 3, 1) := by decide +kernel
theorem dL_isCommon_7 : decode cL_isCommon 7 = .ok (.iload_n 3, 1) := by decide +kernel
theorem dL_isCommon_8 : decode cL_isCommon 8 = .ok (.aload_n 0, 1) := by decide +kernel
theorem dL_isCommon_9 : decode cL_isCommon 9 = .ok (.iload_n 2, 1) := by decide +kernel
theorem dL_isCommon_10 : decode cL_isCommon 10 = .ok (.iload_n 1, 1) := by decide +kernel
theorem dL_isCommon_11 : decode cL_isCommon 11 = .ok (.invokevirtual 57, 3) := by decide +kernel
theorem dL_isCommon_14 : decode cL_isCommon 14 = .ok (.if_icmp .ne 27, 3) := by decide +kernel
theorem dL_isCommon_17 : decode cL_isCommon 17 = .ok (.aload_n 0, 1) := by decide +kernel
theorem dL_isCommon_18 : decode cL_isCommon 18 = .ok (.iload_n 1, 1) := by decide +kernel
theorem dL_isCommon_19 : decode cL_isCommon 19 = .ok (.iload_n 1, 1) := by decide +kernel
theorem dL_isCommon_20 : decode cL_isCommon 20 = .ok (.invokevirtual 57, 3) := by decide +kernel
theorem dL_isCommon_23 : decode cL_isCommon 23 = .ok (.iload_n 1, 1) := by decide +kernel
theorem dL_isCommon_24 : decode cL_isCommon 24 = .ok (.if_icmp .ne 17, 3) := by decide +kernel
theorem dL_isCommon_27 : decode cL_isCommon 27 = .ok (.iload_n 3, 1) := by decide +kernel
theorem dL_isCommon_28 : decode cL_isCommon 28 = .ok (.iload_n 1, 1) := by decide +kernel
theorem dL_isCommon_29 : decode cL_isCommon 29 = .ok (.if_icmp .gt 12, 3) := by decide +kernel
theorem dL_isCommon_32 : decode cL_isCommon 32 = .ok (.iload_n 3, 1) := by decide +kernel
theorem dL_isCommon_33 : decode cL_isCommon 33 = .ok (.iload_n 2, 1) := by decide +kernel
theorem dL_isCommon_34 : decode cL_isCommon 34 = .ok (.if_icmp .gt 7, 3) := by decide +kernel
theorem dL_isCommon_37 : decode cL_isCommon 37 = .ok (.iconst 1, 1) := by decide +kernel
theorem dL_isCommon_38 : decode cL_isCommon 38 = .ok (.goto 4, 3) := by decide +kernel
theorem dL_isCommon_41 : decode cL_isCommon 41 = .ok (.iconst 0, 1) := by decide +kernel
theorem dL_isCommon_42 : decode cL_isCommon 42 = .ok (.istore 4, 2) := by decide +kernel
theorem dL_isCommon_44 : decode cL_isCommon 44 = .ok (.iload_n 1, 1) := by decide +kernel
theorem dL_isCommon_45 : decode cL_isCommon 45 = .ok (.istore 5, 2) := by decide +kernel
theorem dL_isCommon_47 : decode cL_isCommon 47 = .ok (.iload_n 3, 1) := by decide +kernel
theorem dL_isCommon_48 : decode cL_isCommon 48 = .ok (.iconst (-1), 1) := by decide +kernel
theorem dL_isCommon_49 : decode cL_isCommon 49 = .ok (.if_icmp .ne 7, 3) := by decide +kernel
theorem dL_isCommon_52 : decode cL_isCommon 52 = .ok (.iconst 1, 1) := by decide +kernel
theorem dL_isCommon_53 : decode cL_isCommon 53 = .ok (.goto 4, 3) := by decide +kernel
theorem dL_isCommon_56 : decode cL_isCommon 56 = .ok (.iconst 0, 1) := by decide +kernel
theorem dL_isCommon_57 : decode cL_isCommon 57 = .ok (.istore 6, 2) := by decide +kernel
theorem dL_isCommon_59 : decode cL_isCommon 59 = .ok (.iload 5, 2) := by decide +kernel
theorem dL_isCommon_61 : decode cL_isCommon 61 = .ok (.iconst (-1), 1) := by decide +kernel
theorem dL_isCommon_62 : decode cL_isCommon 62 = .ok (.if_icmp .eq 32, 3) := by decide +kernel
theorem dL_isCommon_65 : decode cL_isCommon 65 = .ok (.iload 6, 2) := by decide +kernel
theorem dL_isCommon_67 : decode cL_isCommon 67 = .ok (.ifCond .ne 27, 3) := by decide +kernel
theorem dL_isCommon_70 : decode cL_isCommon 70 = .ok (.iload 5, 2) := by decide +kernel
theorem dL_isCommon_72 : decode cL_isCommon 72 = .ok (.iload_n 3, 1) := by decide +kernel
theorem dL_isCommon_73 : decode cL_isCommon 73 = .ok (.if_icmp .ne 7, 3) := by decide +kernel
theorem dL_isCommon_76 : decode cL_isCommon 76 = .ok (.iconst 1, 1) := by decide +kernel
theorem dL_isCommon_77 : decode cL_isCommon 77 = .ok (.goto 4, 3) := by decide +kernel
theorem dL_isCommon_80 : decode cL_isCommon 80 = .ok (.iconst 0, 1) := by decide +kernel
theorem dL_isCommon_81 : decode cL_isCommon 81 = .ok (.istore 6, 2) := by decide +kernel
theorem dL_isCommon_83 : decode cL_isCommon 83 = .ok (.aload_n 0, 1) := by decide +kernel
theorem dL_isCommon_84 : decode cL_isCommon 84 = .ok (.iload 5, 2) := by decide +kernel
theorem dL_isCommon_86 : decode cL_isCommon 86 = .ok (.invokevirtual 21, 3) := by decide +kernel
theorem dL_isCommon_89 : decode cL_isCommon 89 = .ok (.istore 5, 2) := by decide +kernel
theorem dL_isCommon_91 : decode cL_isCommon 91 = .ok (.goto (-32), 3) := by decide +kernel
theorem dL_isCommon_94 : decode cL_isCommon 94 = .ok (.iload 4, 2) := by decide +kernel
theorem dL_isCommon_96 : decode cL_isCommon 96 = .ok (.ifCond .eq 12, 3) := by decide +kernel
theorem dL_isCommon_99 : decode cL_isCommon 99 = .ok (.iload 6, 2) := by decide +kernel
theorem dL_isCommon_101 : decode cL_isCommon 101 = .ok (.ifCond .eq 7, 3) := by decide +kernel
theorem dL_isCommon_104 : decode cL_isCommon 104 = .ok (.iconst 1, 1) := by decide +kernel
theorem dL_isCommon_105 : decode cL_isCommon 105 = .ok (.goto 4, 3) := by decide +kernel
theorem dL_isCommon_108 : decode cL_isCommon 108 = .ok (.iconst 0, 1) := by decide +kernel
theorem dL_isCommon_109 : decode cL_isCommon 109 = .ok (.ireturn, 1) := by decide +kernel
end
section
theorem dX0_init_0 : decode cX0_init 0 = .ok (.aload_n 0, 1) := by decide +kernel
theorem dX0_init_1 : decode cX0_init 1 = .ok (.invokespecial 3, 3) := by decide +kernel
theorem dX0_init_4 : decode cX0_init 4 = .ok (.aload_n 0, 1) := by decide +kernel
theorem dX0_init_5 : decode cX0_init 5 = .ok (.bipush 12, 2) := by decide +kernel
theorem dX0_init_7 : decode cX0_init 7 = .ok (.newarray .int, 2) := by decide +kernel
theorem dX0_init_9 : decode cX0_init 9 = .ok (.putfield 9, 3) := by decide +kernel
theorem dX0_init_12 : decode cX0_init 12 = .ok (.aload_n 0, 1) := by decide +kernel
theorem dX0_init_13 : decode cX0_init 13 = .ok (.bipush 12, 2) := by decide +kernel
theorem dX0_init_15 : decode cX0_init 15 = .ok (.newarray .int, 2) := by decide +kernel
theorem dX0_init_17 : decode cX0_init 17 = .ok (.putfield 13, 3) := by decide +kernel
theorem dX0_init_20 : decode cX0_init 20 = .ok (.aload_n 0, 1) := by decide +kernel
theorem dX0_init_21 : decode cX0_init 21 = .ok (.bipush 12, 2) := by decide +kernel
theorem dX0_init_23 : decode cX0_init 23 = .ok (.newarray .int, 2) := by decide +kernel
theorem dX0_init_25 : decode cX0_init 25 = .ok (.putfield 16, 3) := by decide +kernel
theorem dX0_init_28 : decode cX0_init 28 = .ok (.aload_n 0, 1) := by decide +kernel
theorem dX0_init_29 : decode cX0_init 29 = .ok (.bipush 12, 2) := by decide +kernel
theorem dX0_init_31 : decode cX0_init 31 = .ok (.newarray .int, 2) := by decide +kernel
theorem dX0_init_33 : decode cX0_init 33 = .ok (.putfield 19, 3) := by decide +kernel
theorem dX0_init_36 : decode cX0_init 36 = .ok (.aload_n 0, 1) := by decide +kernel
theorem dX0_init_37 : decode cX0_init 37 = .ok (.iconst 0, 1) := by decide +kernel
theorem dX0_init_38 : decode cX0_init 38 = .ok (.putfield 22, 3) := by decide +kernel
theorem dX0_init_41 : decode cX0_init 41 = .ok (.aload_n 0, 1) := by decide +kernel
theorem dX0_init_42 : decode cX0_init 42 = .ok (.bipush 24, 2) := by decide +kernel
theorem dX0_init_44 : decode cX0_init 44 = .ok (.newarray .int, 2) := by decide +kernel
theorem dX0_init_46 : decode cX0_init 46 = .ok (.putfield 26, 3) := by decide +kernel
theorem dX0_init_49 : decode cX0_init 49 = .ok (.aload_n 0, 1) := by decide +kernel
theorem dX0_init_50 : decode cX0_init 50 = .ok (.bipush 24, 2) := by decide +kernel
theorem dX0_init_52 : decode cX0_init 52 = .ok (.newarray .int, 2) := by decide +kernel
theorem dX0_init_54 : decode cX0_init 54 = .ok (.putfield 29, 3) := by decide +kernel
theorem dX0_init_57 : decode cX0_init 57 = .ok (.aload_n 0, 1) := by decide +kernel
theorem dX0_init_58 : decode cX0_init 58 = .ok (.bipush 24, 2) := by decide +kernel
theorem dX0_init_60 : decode cX0_init 60 = .ok (.newarray .int, 2) := by decide +kernel
theorem dX0_init_62 : decode cX0_init 62 = .ok (.putfield 32, 3) := by decide +kernel
theorem dX0_init_65 : decode cX0_init 65 = .ok (.aload_n 0, 1) := by decide +kernel
theorem dX0_init_66 : decode cX0_init 66 = .ok (.bipush 24, 2) := by decide +kernel
theorem dX0_init_68 : decode cX0_init 68 = .ok (.newarray .boolean, 2) := by decide +kernel
theorem dX0_init_70 : decode cX0_init 70 = .ok (.putfield 35, 3) := by decide +kernel
theorem dX0_init_73 : decode cX0_init 73 = .ok (.aload_n 0, 1) := by decide +kernel
theorem dX0_init_74 : decode cX0_init 74 = .ok (.bipush 24, 2) := by decide +kernel
theorem dX0_init_76 : decode cX0_init 76 = .ok (.newarray .int, 2) := by decide +kernel
theorem dX0_init_78 : decode cX0_init 78 = .ok (.putfield 39, 3) := by decide +kernel
theorem dX0_init_81 : decode cX0_init 81 = .ok (.aload_n 0, 1) := by decide +kernel
theorem dX0_init_82 : decode cX0_init 82 = .ok (.bipush 24, 2) := by decide +kernel
theorem dX0_init_84 : decode cX0_init 84 = .ok (.newarray .int, 2) := by decide +kernel
theorem dX0_init_86 : decode cX0_init 86 = .ok (.putfield 42, 3) := by decide +kernel
theorem dX0_init_89 : decode cX0_init 89 = .ok (.aload_n 0, 1) := by decide +kernel
theorem dX0_init_90 : decode cX0_init 90 = .ok (.bipush 24, 2) := by decide +kernel
theorem dX0_init_92 : decode cX0_init 92 = .ok (.newarray .int, 2) := by decide +kernel
theorem dX0_init_94 : decode cX0_init 94 = .ok (.putfield 45, 3) := by decide +kernel
theorem dX0_init_97 : decode cX0_init 97 = .ok (.aload_n 0, 1) := by decide +kernel
theorem dX0_init_98 : decode cX0_init 98 = .ok (.iconst 0, 1) := by decide +kernel
theorem dX0_init_99 : decode cX0_init 99 = .ok (.putfield 48, 3) := by decide +kernel
theorem dX0_init_102 : decode cX0_init 102 = .ok (.aload_n 0, 1) := by decide +kernel
theorem dX0_init_103 : decode cX0_init 103 = .ok (.bipush 60, 2) := by decide +kernel
theorem dX0_init_105 : decode cX0_init 105 = .ok (.newarray .int, 2) := by decide +kernel
theorem dX0_init_107 : decode cX0_init 107 = .ok (.putfield 51, 3) := by decide +kernel
theorem dX0_init_110 : decode cX0_init 110 = .ok (.aload_n 0, 1) := by decide +kernel
theorem dX0_init_111 : decode cX0_init 111 = .ok (.bipush 60, 2) := by decide +kernel
theorem dX0_init_113 : decode cX0_init 113 = .ok (.bipush 47, 2) := by decide +kernel
theorem dX0_init_115 : decode cX0_init 115 = .ok (.multianewarray 54 2, 4) := by decide +kernel
theorem dX0_init_119 : decode cX0_init 119 = .ok (.putfield 56, 3) := by decide +kernel
theorem dX0_init_122 : decode cX0_init 122 = .ok (.aload_n 0, 1) := by decide +kernel
theorem dX0_init_123 : decode cX0_init 123 = .ok (.bipush 60, 2) := by decide +kernel
theorem dX0_init_125 : decode cX0_init 125 = .ok (.newarray .int, 2) := by decide +kernel
theorem dX0_init_127 : decode cX0_init 127 = .ok (.putfield 59, 3) := by decide +kernel
theorem dX0_init_130 : decode cX0_init 130 = .ok (.aload_n 0, 1) := by decide +kernel
theorem dX0_init_131 : decode cX0_init 131 = .ok (.iconst 0, 1) := by decide +kernel
theorem dX0_init_132 : decode cX0_init 132 = .ok (.putfield 62, 3) := by decide +kernel
theorem dX0_init_135 : decode cX0_init 135 = .ok (.aload_n 0, 1) := by decide +kernel
theorem dX0_init_136 : decode cX0_init 136 = .ok (.iconst 0, 1) := by decide +kernel
theorem dX0_init_137 : decode cX0_init 137 = .ok (.putfield 65, 3) := by decide +kernel
theorem dX0_init_140 : decode cX0_init 140 = .ok (.return_, 1) := by decide +kernel
set_option maxRecDepth 20000 in
theorem ggX0_addStep_X0_checkTool : GoodIn wsX0_addStep wsX0_checkTool := goodIn_ca (goodIn_r _ [14, 15, 16, 17, 18, 13, 19] (by decide +kernel) (by decide +kernel)) (goodIn_sub (fun _ h => List.mem_cons_of_mem _ (List.mem_append_right _ h)) (by decide +kernel))
set_option maxRecDepth 20000 in
theorem gX0_addStep_X0_checkTool : GoodIn wsX0_addStep (va_wsS RX0 68 yX0_checkTool wsX0_checkTool) := goodIn_app (goodIn_of _ (by decide +kernel)) ggX0_addStep_X0_checkTool
set_option maxRecDepth 20000 in
theorem ggX0_addStep_X0_isWithin : GoodIn wsX0_addStep wsX0_isWithin := goodIn_r _ [19] (by decide +kernel) (by decide +kernel)
set_option maxRecDepth 20000 in
theorem gX0_addStep_X0_isWithin : GoodIn wsX0_addStep (va_wsS RX0 72 yX0_isWithin wsX0_isWithin) := goodIn_app (goodIn_of _ (by decide +kernel)) ggX0_addStep_X0_isWithin
theorem dX0_addStep_0 : decode cX0_addStep 0 = .ok (.iload_n 1, 1) := by decide +kernel
theorem dX0_addStep_1 : decode cX0_addStep 1 = .ok (.invokestatic 68, 3) := by decide +kernel
theorem dX0_addStep_4 : decode cX0_addStep 4 = .ok (.iload_n 2, 1) := by decide +kernel
theorem dX0_addStep_5 : decode cX0_addStep 5 = .ok (.iconst 1, 1) := by decide +kernel
theorem dX0_addStep_6 : decode cX0_addStep 6 = .ok (.sipush 1000, 3) := by decide +kernel
theorem dX0_addStep_9 : decode cX0_addStep 9 = .ok (.invokestatic 72, 3) := by decide +kernel
theorem dX0_addStep_12 : decode cX0_addStep 12 = .ok (.ifCond .eq 27, 3) := by decide +kernel
theorem dX0_addStep_15 : decode cX0_addStep 15 = .ok (.iload_n 3, 1) := by decide +kernel
theorem dX0_addStep_16 : decode cX0_addStep 16 = .ok (.iconst 0, 1) := by decide +kernel
theorem dX0_addStep_17 : decode cX0_addStep 17 = .ok (.sipush 10000, 3) := by decide +kernel
theorem dX0_addStep_20 : decode cX0_addStep 20 = .ok (.invokestatic 72, 3) := by decide +kernel
theorem dX0_addStep_23 : decode cX0_addStep 23 = .ok (.ifCond .eq 16, 3) := by decide +kernel
theorem dX0_addStep_26 : decode cX0_addStep 26 = .ok (.iload 4, 2) := by decide +kernel
theorem dX0_addStep_28 : decode cX0_addStep 28 = .ok (.iconst 0, 1) := by decide +kernel
theorem dX0_addStep_29 : decode cX0_addStep 29 = .ok (.aload_n 0, 1) := by decide +kernel
theorem dX0_addStep_30 : decode cX0_addStep 30 = .ok (.getfield 22, 3) := by decide +kernel
theorem dX0_addStep_33 : decode cX0_addStep 33 = .ok (.invokestatic 72, 3) := by decide +kernel
theorem dX0_addStep_36 : decode cX0_addStep 36 = .ok (.ifCond .ne 13, 3) := by decide +kernel
theorem dX0_addStep_39 : decode cX0_addStep 39 = .ok (.new 76, 3) := by decide +kernel
theorem dX0_addStep_42 : decode cX0_addStep 42 = .ok (.dup, 1) := by decide +kernel
theorem dX0_addStep_43 : decode cX0_addStep 43 = .ok (.ldc 78, 2) := by decide +kernel
theorem dX0_addStep_45 : decode cX0_addStep 45 = .ok (.invokespecial 80, 3) := by decide +kernel
theorem dX0_addStep_48 : decode cX0_addStep 48 = .ok (.athrow, 1) := by decide +kernel
theorem dX0_addStep_49 : decode cX0_addStep 49 = .ok (.aload_n 0, 1) := by decide +kernel
theorem dX0_addStep_50 : decode cX0_addStep 50 = .ok (.getfield 22, 3) := by decide +kernel
theorem dX0_addStep_53 : decode cX0_addStep 53 = .ok (.bipush 12, 2) := by decide +kernel
theorem dX0_addStep_55 : decode cX0_addStep 55 = .ok (.if_icmp .ge 10, 3) := by decide +kernel
theorem dX0_addStep_58 : decode cX0_addStep 58 = .ok (.aload_n 0, 1) := by decide +kernel
theorem dX0_addStep_59 : decode cX0_addStep 59 = .ok (.getfield 48, 3) := by decide +kernel
theorem dX0_addStep_62 : decode cX0_addStep 62 = .ok (.ifCond .le 13, 3) := by decide +kernel
theorem dX0_addStep_65 : decode cX0_addStep 65 = .ok (.new 83, 3) := by decide +kernel
theorem dX0_addStep_68 : decode cX0_addStep 68 = .ok (.dup, 1) := by decide +kernel
theorem dX0_addStep_69 : decode cX0_addStep 69 = .ok (.ldc 85, 2) := by decide +kernel
theorem dX0_addStep_71 : decode cX0_addStep 71 = .ok (.invokespecial 87, 3) := by decide +kernel
theorem dX0_addStep_74 : decode cX0_addStep 74 = .ok (.athrow, 1) := by decide +kernel
theorem dX0_addStep_75 : decode cX0_addStep 75 = .ok (.aload_n 0, 1) := by decide +kernel
theorem dX0_addStep_76 : decode cX0_addStep 76 = .ok (.getfield 22, 3) := by decide +kernel
theorem dX0_addStep_79 : decode cX0_addStep 79 = .ok (.istore 5, 2) := by decide +kernel
theorem dX0_addStep_81 : decode cX0_addStep 81 = .ok (.aload_n 0, 1) := by decide +kernel
theorem dX0_addStep_82 : decode cX0_addStep 82 = .ok (.getfield 9, 3) := by decide +kernel
theorem dX0_addStep_85 : decode cX0_addStep 85 = .ok (.iload 5, 2) := by decide +kernel
theorem dX0_addStep_87 : decode cX0_addStep 87 = .ok (.iload_n 1, 1) := by decide +kernel
theorem dX0_addStep_88 : decode cX0_addStep 88 = .ok (.iastore, 1) := by decide +kernel
theorem dX0_addStep_89 : decode cX0_addStep 89 = .ok (.aload_n 0, 1) := by decide +kernel
theorem dX0_addStep_90 : decode cX0_addStep 90 = .ok (.getfield 13, 3) := by decide +kernel
theorem dX0_addStep_93 : decode cX0_addStep 93 = .ok (.iload 5, 2) := by decide +kernel
theorem dX0_addStep_95 : decode cX0_addStep 95 = .ok (.iload_n 2, 1) := by decide +kernel
theorem dX0_addStep_96 : decode cX0_addStep 96 = .ok (.iastore, 1) := by decide +kernel
theorem dX0_addStep_97 : decode cX0_addStep 97 = .ok (.aload_n 0, 1) := by decide +kernel
theorem dX0_addStep_98 : decode cX0_addStep 98 = .ok (.getfield 16, 3) := by decide +kernel
theorem dX0_addStep_101 : decode cX0_addStep 101 = .ok (.iload 5, 2) := by decide +kernel
theorem dX0_addStep_103 : decode cX0_addStep 103 = .ok (.iload_n 3, 1) := by decide +kernel
theorem dX0_addStep_104 : decode cX0_addStep 104 = .ok (.iastore, 1) := by decide +kernel
theorem dX0_addStep_105 : decode cX0_addStep 105 = .ok (.aload_n 0, 1) := by decide +kernel
theorem dX0_addStep_106 : decode cX0_addStep 106 = .ok (.getfield 19, 3) := by decide +kernel
theorem dX0_addStep_109 : decode cX0_addStep 109 = .ok (.iload 5, 2) := by decide +kernel
theorem dX0_addStep_111 : decode cX0_addStep 111 = .ok (.iload 4, 2) := by decide +kernel
theorem dX0_addStep_113 : decode cX0_addStep 113 = .ok (.iastore, 1) := by decide +kernel
theorem dX0_addStep_114 : decode cX0_addStep 114 = .ok (.aload_n 0, 1) := by decide +kernel
theorem dX0_addStep_115 : decode cX0_addStep 115 = .ok (.iload 5, 2) := by decide +kernel
theorem dX0_addStep_117 : decode cX0_addStep 117 = .ok (.iconst 1, 1) := by decide +kernel
theorem dX0_addStep_118 : decode cX0_addStep 118 = .ok (.iadd, 1) := by decide +kernel
theorem dX0_addStep_119 : decode cX0_addStep 119 = .ok (.putfield 22, 3) := by decide +kernel
theorem dX0_addStep_122 : decode cX0_addStep 122 = .ok (.iload 5, 2) := by decide +kernel
theorem dX0_addStep_124 : decode cX0_addStep 124 = .ok (.ireturn, 1) := by decide +kernel
set_option maxRecDepth 20000 in
theorem ggX0_enter_X0_isWithin : GoodIn wsX0_enter wsX0_isWithin := goodIn_r _ [12] (by decide +kernel) (by decide +kernel)
set_option maxRecDepth 20000 in
theorem gX0_enter_X0_isWithin : GoodIn wsX0_enter (va_wsS RX0 72 yX0_isWithin wsX0_isWithin) := goodIn_app (goodIn_of _ (by decide +kernel)) ggX0_enter_X0_isWithin
set_option maxRecDepth 20000 in
theorem ggX0_enter_X0_makeLot : GoodIn wsX0_enter wsX0_makeLot := goodIn_r _ [16, 6, 17, 18, 19, 20, 21, 22, 23, 35, 36, 37, 38, 39, 40, 41, 42, 43, 44, 45, 46, 47, 48, 49, 50, 51, 52] (by decide +kernel) (by decide +kernel)
set_option maxRecDepth 20000 in
theorem gX0_enter_X0_makeLot : GoodIn wsX0_enter (wsV RX0 92 RX0 yX0_makeLot wsX0_makeLot) := goodIn_app (goodIn_of _ (by decide +kernel)) ggX0_enter_X0_makeLot
set_option maxRecDepth 20000 in
theorem ggX0_enter_X0_makeWafer : GoodIn wsX0_enter wsX0_makeWafer := goodIn_r _ [27, 7, 28, 29, 30, 31, 11, 32, 33, 23, 34, 35, 36, 37, 38, 39, 40, 41, 42, 43, 44, 45, 46, 47, 48, 49, 50, 51, 52] (by decide +kernel) (by decide +kernel)
set_option maxRecDepth 20000 in
theorem gX0_enter_X0_makeWafer : GoodIn wsX0_enter (wsV RX0 96 RX0 yX0_makeWafer wsX0_makeWafer) := goodIn_app (goodIn_of _ (by decide +kernel)) ggX0_enter_X0_makeWafer
theorem dX0_enter_0 : decode cX0_enter 0 = .ok (.iload_n 1, 1) := by decide +kernel
theorem dX0_enter_1 : decode cX0_enter 1 = .ok (.iconst 1, 1) := by decide +kernel
theorem dX0_enter_2 : decode cX0_enter 2 = .ok (.bipush 12, 2) := by decide +kernel
theorem dX0_enter_4 : decode cX0_enter 4 = .ok (.invokestatic 72, 3) := by decide +kernel
theorem dX0_enter_7 : decode cX0_enter 7 = .ok (.ifCond .ne 13, 3) := by decide +kernel
theorem dX0_enter_10 : decode cX0_enter 10 = .ok (.new 76, 3) := by decide +kernel
theorem dX0_enter_13 : decode cX0_enter 13 = .ok (.dup, 1) := by decide +kernel
theorem dX0_enter_14 : decode cX0_enter 14 = .ok (.ldc 88, 2) := by decide +kernel
theorem dX0_enter_16 : decode cX0_enter 16 = .ok (.invokespecial 80, 3) := by decide +kernel
theorem dX0_enter_19 : decode cX0_enter 19 = .ok (.athrow, 1) := by decide +kernel
theorem dX0_enter_20 : decode cX0_enter 20 = .ok (.aload_n 0, 1) := by decide +kernel
theorem dX0_enter_21 : decode cX0_enter 21 = .ok (.getfield 22, 3) := by decide +kernel
theorem dX0_enter_24 : decode cX0_enter 24 = .ok (.ifCond .eq 23, 3) := by decide +kernel
theorem dX0_enter_27 : decode cX0_enter 27 = .ok (.aload_n 0, 1) := by decide +kernel
theorem dX0_enter_28 : decode cX0_enter 28 = .ok (.getfield 48, 3) := by decide +kernel
theorem dX0_enter_31 : decode cX0_enter 31 = .ok (.bipush 24, 2) := by decide +kernel
theorem dX0_enter_33 : decode cX0_enter 33 = .ok (.if_icmp .ge 14, 3) := by decide +kernel
theorem dX0_enter_36 : decode cX0_enter 36 = .ok (.aload_n 0, 1) := by decide +kernel
theorem dX0_enter_37 : decode cX0_enter 37 = .ok (.getfield 62, 3) := by decide +kernel
theorem dX0_enter_40 : decode cX0_enter 40 = .ok (.iload_n 1, 1) := by decide +kernel
theorem dX0_enter_41 : decode cX0_enter 41 = .ok (.iadd, 1) := by decide +kernel
theorem dX0_enter_42 : decode cX0_enter 42 = .ok (.bipush 60, 2) := by decide +kernel
theorem dX0_enter_44 : decode cX0_enter 44 = .ok (.if_icmp .le 13, 3) := by decide +kernel
theorem dX0_enter_47 : decode cX0_enter 47 = .ok (.new 83, 3) := by decide +kernel
theorem dX0_enter_50 : decode cX0_enter 50 = .ok (.dup, 1) := by decide +kernel
theorem dX0_enter_51 : decode cX0_enter 51 = .ok (.ldc 90, 2) := by decide +kernel
theorem dX0_enter_53 : decode cX0_enter 53 = .ok (.invokespecial 87, 3) := by decide +kernel
theorem dX0_enter_56 : decode cX0_enter 56 = .ok (.athrow, 1) := by decide +kernel
theorem dX0_enter_57 : decode cX0_enter 57 = .ok (.aload_n 0, 1) := by decide +kernel
theorem dX0_enter_58 : decode cX0_enter 58 = .ok (.iconst 0, 1) := by decide +kernel
theorem dX0_enter_59 : decode cX0_enter 59 = .ok (.aload_n 0, 1) := by decide +kernel
theorem dX0_enter_60 : decode cX0_enter 60 = .ok (.getfield 65, 3) := by decide +kernel
theorem dX0_enter_63 : decode cX0_enter 63 = .ok (.iconst 0, 1) := by decide +kernel
theorem dX0_enter_64 : decode cX0_enter 64 = .ok (.iconst 0, 1) := by decide +kernel
theorem dX0_enter_65 : decode cX0_enter 65 = .ok (.iconst (-1), 1) := by decide +kernel
theorem dX0_enter_66 : decode cX0_enter 66 = .ok (.invokevirtual 92, 3) := by decide +kernel
theorem dX0_enter_69 : decode cX0_enter 69 = .ok (.istore_n 2, 1) := by decide +kernel
theorem dX0_enter_70 : decode cX0_enter 70 = .ok (.iconst 0, 1) := by decide +kernel
theorem dX0_enter_71 : decode cX0_enter 71 = .ok (.istore_n 3, 1) := by decide +kernel
theorem dX0_enter_72 : decode cX0_enter 72 = .ok (.iload_n 3, 1) := by decide +kernel
theorem dX0_enter_73 : decode cX0_enter 73 = .ok (.iload_n 1, 1) := by decide +kernel
theorem dX0_enter_74 : decode cX0_enter 74 = .ok (.if_icmp .ge 14, 3) := by decide +kernel
theorem dX0_enter_77 : decode cX0_enter 77 = .ok (.aload_n 0, 1) := by decide +kernel
theorem dX0_enter_78 : decode cX0_enter 78 = .ok (.iload_n 2, 1) := by decide +kernel
theorem dX0_enter_79 : decode cX0_enter 79 = .ok (.invokevirtual 96, 3) := by decide +kernel
theorem dX0_enter_82 : decode cX0_enter 82 = .ok (.iinc 3 1, 3) := by decide +kernel
theorem dX0_enter_85 : decode cX0_enter 85 = .ok (.goto (-13), 3) := by decide +kernel
theorem dX0_enter_88 : decode cX0_enter 88 = .ok (.iload_n 2, 1) := by decide +kernel
theorem dX0_enter_89 : decode cX0_enter 89 = .ok (.ireturn, 1) := by decide +kernel
set_option maxRecDepth 20000 in
theorem ggX0_start_X0_checkLot : GoodIn wsX0_start wsX0_checkLot := goodIn_ca (goodIn_r _ [13, 14, 15, 16, 17, 18, 12, 19, 20, 50, 51, 52, 53, 54, 55, 56, 57, 58, 59, 60, 61, 62, 63, 64, 65, 66, 67] (by decide +kernel) (by decide +kernel)) (goodIn_sub (fun _ h => List.mem_cons_of_mem _ (List.mem_append_right _ h)) (by decide +kernel))
set_option maxRecDepth 20000 in
theorem gX0_start_X0_checkLot : GoodIn wsX0_start (wsV RX0 99 RX0 yX0_checkLot wsX0_checkLot) := goodIn_app (goodIn_of _ (by decide +kernel)) ggX0_start_X0_checkLot
set_option maxRecDepth 20000 in
theorem ggX0_start_X0_isReady : GoodIn wsX0_start wsX0_isReady := goodIn_r _ [24, 25, 26, 27, 12, 28, 5, 29, 30, 31, 32, 33, 3, 34, 35, 36, 7, 6, 37, 38, 39, 40, 41, 50, 51, 52, 53, 54, 55, 56, 57, 58, 59, 60, 61, 62, 63, 64, 65, 66, 67] (by decide +kernel) (by decide +kernel)
set_option maxRecDepth 20000 in
theorem gX0_start_X0_isReady : GoodIn wsX0_start (wsV RX0 102 RX0 yX0_isReady wsX0_isReady) := goodIn_app (goodIn_of _ (by decide +kernel)) ggX0_start_X0_isReady
set_option maxRecDepth 20000 in
theorem ggX0_start_X0_isStep : GoodIn wsX0_start wsX0_isStep := goodIn_r _ [40, 41, 50, 51, 52, 53, 54, 55, 56, 57, 58, 59, 60, 61, 62, 63, 64, 65, 66, 67] (by decide +kernel) (by decide +kernel)
set_option maxRecDepth 20000 in
theorem gX0_start_X0_isStep : GoodIn wsX0_start (wsV RX0 106 RX0 yX0_isStep wsX0_isStep) := goodIn_app (goodIn_of _ (by decide +kernel)) ggX0_start_X0_isStep
set_option maxRecDepth 20000 in
theorem ggX0_start_X0_isBusy : GoodIn wsX0_start wsX0_isBusy := goodIn_r _ [45, 20, 5, 46, 47, 48, 12, 49, 3, 4, 37, 38, 39, 40, 41, 50, 51, 52, 53, 54, 55, 56, 57, 58, 59, 60, 61, 62, 63, 64, 65, 66, 67] (by decide +kernel) (by decide +kernel)
set_option maxRecDepth 20000 in
theorem gX0_start_X0_isBusy : GoodIn wsX0_start (wsV RX0 109 RX0 yX0_isBusy wsX0_isBusy) := goodIn_app (goodIn_of _ (by decide +kernel)) ggX0_start_X0_isBusy
theorem dX0_start_0 : decode cX0_start 0 = .ok (.aload_n 0, 1) := by decide +kernel
theorem dX0_start_1 : decode cX0_start 1 = .ok (.iload_n 1, 1) := by decide +kernel
theorem dX0_start_2 : decode cX0_start 2 = .ok (.invokevirtual 99, 3) := by decide +kernel
theorem dX0_start_5 : decode cX0_start 5 = .ok (.aload_n 0, 1) := by decide +kernel
theorem dX0_start_6 : decode cX0_start 6 = .ok (.getfield 29, 3) := by decide +kernel
theorem dX0_start_9 : decode cX0_start 9 = .ok (.iload_n 1, 1) := by decide +kernel
theorem dX0_start_10 : decode cX0_start 10 = .ok (.iaload, 1) := by decide +kernel
theorem dX0_start_11 : decode cX0_start 11 = .ok (.istore_n 2, 1) := by decide +kernel
theorem dX0_start_12 : decode cX0_start 12 = .ok (.aload_n 0, 1) := by decide +kernel
theorem dX0_start_13 : decode cX0_start 13 = .ok (.iload_n 1, 1) := by decide +kernel
theorem dX0_start_14 : decode cX0_start 14 = .ok (.invokevirtual 102, 3) := by decide +kernel
theorem dX0_start_17 : decode cX0_start 17 = .ok (.ifCond .eq 24, 3) := by decide +kernel
theorem dX0_start_20 : decode cX0_start 20 = .ok (.aload_n 0, 1) := by decide +kernel
theorem dX0_start_21 : decode cX0_start 21 = .ok (.iload_n 2, 1) := by decide +kernel
theorem dX0_start_22 : decode cX0_start 22 = .ok (.invokevirtual 106, 3) := by decide +kernel
theorem dX0_start_25 : decode cX0_start 25 = .ok (.ifCond .eq 16, 3) := by decide +kernel
theorem dX0_start_28 : decode cX0_start 28 = .ok (.aload_n 0, 1) := by decide +kernel
theorem dX0_start_29 : decode cX0_start 29 = .ok (.aload_n 0, 1) := by decide +kernel
theorem dX0_start_30 : decode cX0_start 30 = .ok (.getfield 9, 3) := by decide +kernel
theorem dX0_start_33 : decode cX0_start 33 = .ok (.iload_n 2, 1) := by decide +kernel
theorem dX0_start_34 : decode cX0_start 34 = .ok (.iaload, 1) := by decide +kernel
theorem dX0_start_35 : decode cX0_start 35 = .ok (.invokevirtual 109, 3) := by decide +kernel
theorem dX0_start_38 : decode cX0_start 38 = .ok (.ifCond .eq 13, 3) := by decide +kernel
theorem dX0_start_41 : decode cX0_start 41 = .ok (.new 83, 3) := by decide +kernel
theorem dX0_start_44 : decode cX0_start 44 = .ok (.dup, 1) := by decide +kernel
theorem dX0_start_45 : decode cX0_start 45 = .ok (.ldc 112, 2) := by decide +kernel
theorem dX0_start_47 : decode cX0_start 47 = .ok (.invokespecial 87, 3) := by decide +kernel
theorem dX0_start_50 : decode cX0_start 50 = .ok (.athrow, 1) := by decide +kernel
theorem dX0_start_51 : decode cX0_start 51 = .ok (.aload_n 0, 1) := by decide +kernel
theorem dX0_start_52 : decode cX0_start 52 = .ok (.getfield 26, 3) := by decide +kernel
theorem dX0_start_55 : decode cX0_start 55 = .ok (.iload_n 1, 1) := by decide +kernel
theorem dX0_start_56 : decode cX0_start 56 = .ok (.iconst 1, 1) := by decide +kernel
theorem dX0_start_57 : decode cX0_start 57 = .ok (.iastore, 1) := by decide +kernel
theorem dX0_start_58 : decode cX0_start 58 = .ok (.aload_n 0, 1) := by decide +kernel
theorem dX0_start_59 : decode cX0_start 59 = .ok (.getfield 32, 3) := by decide +kernel
theorem dX0_start_62 : decode cX0_start 62 = .ok (.iload_n 1, 1) := by decide +kernel
theorem dX0_start_63 : decode cX0_start 63 = .ok (.aload_n 0, 1) := by decide +kernel
theorem dX0_start_64 : decode cX0_start 64 = .ok (.getfield 65, 3) := by decide +kernel
theorem dX0_start_67 : decode cX0_start 67 = .ok (.aload_n 0, 1) := by decide +kernel
theorem dX0_start_68 : decode cX0_start 68 = .ok (.getfield 13, 3) := by decide +kernel
theorem dX0_start_71 : decode cX0_start 71 = .ok (.iload_n 2, 1) := by decide +kernel
theorem dX0_start_72 : decode cX0_start 72 = .ok (.iaload, 1) := by decide +kernel
theorem dX0_start_73 : decode cX0_start 73 = .ok (.iadd, 1) := by decide +kernel
theorem dX0_start_74 : decode cX0_start 74 = .ok (.iastore, 1) := by decide +kernel
theorem dX0_start_75 : decode cX0_start 75 = .ok (.aload_n 0, 1) := by decide +kernel
theorem dX0_start_76 : decode cX0_start 76 = .ok (.getfield 32, 3) := by decide +kernel
theorem dX0_start_79 : decode cX0_start 79 = .ok (.iload_n 1, 1) := by decide +kernel
theorem dX0_start_80 : decode cX0_start 80 = .ok (.iaload, 1) := by decide +kernel
theorem dX0_start_81 : decode cX0_start 81 = .ok (.ireturn, 1) := by decide +kernel
set_option maxRecDepth 20000 in
theorem ggX0_split_X0_checkLot : GoodIn wsX0_split wsX0_checkLot := goodIn_ca (goodIn_r _ [16, 17, 18, 19, 20, 21, 15, 22, 7, 43, 44, 45, 46, 47, 48, 49, 50, 51, 52, 53, 54, 55, 56, 57, 58, 59, 60] (by decide +kernel) (by decide +kernel)) (goodIn_sub (fun _ h => List.mem_cons_of_mem _ (List.mem_append_right _ h)) (by decide +kernel))
set_option maxRecDepth 20000 in
theorem gX0_split_X0_checkLot : GoodIn wsX0_split (wsV RX0 99 RX0 yX0_checkLot wsX0_checkLot) := goodIn_app (goodIn_of _ (by decide +kernel)) ggX0_split_X0_checkLot
set_option maxRecDepth 20000 in
theorem ggX0_split_X0_isWithin : GoodIn wsX0_split wsX0_isWithin := goodIn_r _ [25] (by decide +kernel) (by decide +kernel)
set_option maxRecDepth 20000 in
theorem gX0_split_X0_isWithin : GoodIn wsX0_split (va_wsS RX0 72 yX0_isWithin wsX0_isWithin) := goodIn_app (goodIn_of _ (by decide +kernel)) ggX0_split_X0_isWithin
set_option maxRecDepth 20000 in
theorem ggX0_split_X0_makeLot : GoodIn wsX0_split wsX0_makeLot := goodIn_r _ [29, 7, 6, 8, 9, 10, 11, 30, 5, 43, 44, 45, 46, 47, 48, 49, 50, 51, 52, 53, 54, 55, 56, 57, 58, 59, 60] (by decide +kernel) (by decide +kernel)
set_option maxRecDepth 20000 in
theorem gX0_split_X0_makeLot : GoodIn wsX0_split (wsV RX0 92 RX0 yX0_makeLot wsX0_makeLot) := goodIn_app (goodIn_of _ (by decide +kernel)) ggX0_split_X0_makeLot
set_option maxRecDepth 20000 in
theorem ggX0_split_X0_moveWafers : GoodIn wsX0_split wsX0_moveWafers := goodIn_r _ [34, 35, 36, 5, 37, 38, 39, 15, 40, 41, 42, 43, 44, 45, 46, 47, 48, 49, 50, 51, 52, 53, 54, 55, 56, 57, 58, 59, 60] (by decide +kernel) (by decide +kernel)
set_option maxRecDepth 20000 in
theorem gX0_split_X0_moveWafers : GoodIn wsX0_split (wsV RX0 121 RX0 yX0_moveWafers wsX0_moveWafers) := goodIn_app (goodIn_of _ (by decide +kernel)) ggX0_split_X0_moveWafers
theorem dX0_split_0 : decode cX0_split 0 = .ok (.aload_n 0, 1) := by decide +kernel
theorem dX0_split_1 : decode cX0_split 1 = .ok (.iload_n 1, 1) := by decide +kernel
theorem dX0_split_2 : decode cX0_split 2 = .ok (.invokevirtual 99, 3) := by decide +kernel
theorem dX0_split_5 : decode cX0_split 5 = .ok (.iload_n 2, 1) := by decide +kernel
theorem dX0_split_6 : decode cX0_split 6 = .ok (.iconst 1, 1) := by decide +kernel
theorem dX0_split_7 : decode cX0_split 7 = .ok (.aload_n 0, 1) := by decide +kernel
theorem dX0_split_8 : decode cX0_split 8 = .ok (.getfield 45, 3) := by decide +kernel
theorem dX0_split_11 : decode cX0_split 11 = .ok (.iload_n 1, 1) := by decide +kernel
theorem dX0_split_12 : decode cX0_split 12 = .ok (.iaload, 1) := by decide +kernel
theorem dX0_split_13 : decode cX0_split 13 = .ok (.iconst 1, 1) := by decide +kernel
theorem dX0_split_14 : decode cX0_split 14 = .ok (.isub, 1) := by decide +kernel
theorem dX0_split_15 : decode cX0_split 15 = .ok (.invokestatic 72, 3) := by decide +kernel
theorem dX0_split_18 : decode cX0_split 18 = .ok (.ifCond .ne 13, 3) := by decide +kernel
theorem dX0_split_21 : decode cX0_split 21 = .ok (.new 76, 3) := by decide +kernel
theorem dX0_split_24 : decode cX0_split 24 = .ok (.dup, 1) := by decide +kernel
theorem dX0_split_25 : decode cX0_split 25 = .ok (.ldc 88, 2) := by decide +kernel
theorem dX0_split_27 : decode cX0_split 27 = .ok (.invokespecial 80, 3) := by decide +kernel
theorem dX0_split_30 : decode cX0_split 30 = .ok (.athrow, 1) := by decide +kernel
theorem dX0_split_31 : decode cX0_split 31 = .ok (.aload_n 0, 1) := by decide +kernel
theorem dX0_split_32 : decode cX0_split 32 = .ok (.getfield 26, 3) := by decide +kernel
theorem dX0_split_35 : decode cX0_split 35 = .ok (.iload_n 1, 1) := by decide +kernel
theorem dX0_split_36 : decode cX0_split 36 = .ok (.iaload, 1) := by decide +kernel
theorem dX0_split_37 : decode cX0_split 37 = .ok (.ifCond .ne 12, 3) := by decide +kernel
theorem dX0_split_40 : decode cX0_split 40 = .ok (.aload_n 0, 1) := by decide +kernel
theorem dX0_split_41 : decode cX0_split 41 = .ok (.getfield 48, 3) := by decide +kernel
theorem dX0_split_44 : decode cX0_split 44 = .ok (.bipush 24, 2) := by decide +kernel
theorem dX0_split_46 : decode cX0_split 46 = .ok (.if_icmp .lt 13, 3) := by decide +kernel
theorem dX0_split_49 : decode cX0_split 49 = .ok (.new 83, 3) := by decide +kernel
theorem dX0_split_52 : decode cX0_split 52 = .ok (.dup, 1) := by decide +kernel
theorem dX0_split_53 : decode cX0_split 53 = .ok (.ldc 119, 2) := by decide +kernel
theorem dX0_split_55 : decode cX0_split 55 = .ok (.invokespecial 87, 3) := by decide +kernel
theorem dX0_split_58 : decode cX0_split 58 = .ok (.athrow, 1) := by decide +kernel
theorem dX0_split_59 : decode cX0_split 59 = .ok (.aload_n 0, 1) := by decide +kernel
theorem dX0_split_60 : decode cX0_split 60 = .ok (.aload_n 0, 1) := by decide +kernel
theorem dX0_split_61 : decode cX0_split 61 = .ok (.getfield 29, 3) := by decide +kernel
theorem dX0_split_64 : decode cX0_split 64 = .ok (.iload_n 1, 1) := by decide +kernel
theorem dX0_split_65 : decode cX0_split 65 = .ok (.iaload, 1) := by decide +kernel
theorem dX0_split_66 : decode cX0_split 66 = .ok (.aload_n 0, 1) := by decide +kernel
theorem dX0_split_67 : decode cX0_split 67 = .ok (.getfield 32, 3) := by decide +kernel
theorem dX0_split_70 : decode cX0_split 70 = .ok (.iload_n 1, 1) := by decide +kernel
theorem dX0_split_71 : decode cX0_split 71 = .ok (.iaload, 1) := by decide +kernel
theorem dX0_split_72 : decode cX0_split 72 = .ok (.aload_n 0, 1) := by decide +kernel
theorem dX0_split_73 : decode cX0_split 73 = .ok (.getfield 35, 3) := by decide +kernel
theorem dX0_split_76 : decode cX0_split 76 = .ok (.iload_n 1, 1) := by decide +kernel
theorem dX0_split_77 : decode cX0_split 77 = .ok (.baload, 1) := by decide +kernel
theorem dX0_split_78 : decode cX0_split 78 = .ok (.aload_n 0, 1) := by decide +kernel
theorem dX0_split_79 : decode cX0_split 79 = .ok (.getfield 39, 3) := by decide +kernel
theorem dX0_split_82 : decode cX0_split 82 = .ok (.iload_n 1, 1) := by decide +kernel
theorem dX0_split_83 : decode cX0_split 83 = .ok (.iaload, 1) := by decide +kernel
theorem dX0_split_84 : decode cX0_split 84 = .ok (.iload_n 1, 1) := by decide +kernel
theorem dX0_split_85 : decode cX0_split 85 = .ok (.invokevirtual 92, 3) := by decide +kernel
theorem dX0_split_88 : decode cX0_split 88 = .ok (.istore_n 3, 1) := by decide +kernel
theorem dX0_split_89 : decode cX0_split 89 = .ok (.aload_n 0, 1) := by decide +kernel
theorem dX0_split_90 : decode cX0_split 90 = .ok (.iload_n 1, 1) := by decide +kernel
theorem dX0_split_91 : decode cX0_split 91 = .ok (.iload_n 3, 1) := by decide +kernel
theorem dX0_split_92 : decode cX0_split 92 = .ok (.iload_n 2, 1) := by decide +kernel
theorem dX0_split_93 : decode cX0_split 93 = .ok (.invokevirtual 121, 3) := by decide +kernel
theorem dX0_split_96 : decode cX0_split 96 = .ok (.iload_n 3, 1) := by decide +kernel
theorem dX0_split_97 : decode cX0_split 97 = .ok (.ireturn, 1) := by decide +kernel
set_option maxRecDepth 20000 in
theorem ggX0_hold_X0_checkLot : GoodIn wsX0_hold wsX0_checkLot := goodIn_ca (goodIn_r _ [9, 10, 11, 12, 13, 14, 8, 15, 16, 17, 18, 19, 20, 21, 22, 23, 24, 25, 26, 27, 28, 29, 30, 31, 32, 33, 34] (by decide +kernel) (by decide +kernel)) (goodIn_sub (fun _ h => List.mem_cons_of_mem _ (List.mem_append_right _ h)) (by decide +kernel))
set_option maxRecDepth 20000 in
theorem gX0_hold_X0_checkLot : GoodIn wsX0_hold (wsV RX0 99 RX0 yX0_checkLot wsX0_checkLot) := goodIn_app (goodIn_of _ (by decide +kernel)) ggX0_hold_X0_checkLot
theorem dX0_hold_0 : decode cX0_hold 0 = .ok (.aload_n 0, 1) := by decide +kernel
theorem dX0_hold_1 : decode cX0_hold 1 = .ok (.iload_n 1, 1) := by decide +kernel
theorem dX0_hold_2 : decode cX0_hold 2 = .ok (.invokevirtual 99, 3) := by decide +kernel
theorem dX0_hold_5 : decode cX0_hold 5 = .ok (.aload_n 0, 1) := by decide +kernel
theorem dX0_hold_6 : decode cX0_hold 6 = .ok (.getfield 26, 3) := by decide +kernel
theorem dX0_hold_9 : decode cX0_hold 9 = .ok (.iload_n 1, 1) := by decide +kernel
theorem dX0_hold_10 : decode cX0_hold 10 = .ok (.iaload, 1) := by decide +kernel
theorem dX0_hold_11 : decode cX0_hold 11 = .ok (.iconst 2, 1) := by decide +kernel
theorem dX0_hold_12 : decode cX0_hold 12 = .ok (.if_icmp .eq 13, 3) := by decide +kernel
theorem dX0_hold_15 : decode cX0_hold 15 = .ok (.aload_n 0, 1) := by decide +kernel
theorem dX0_hold_16 : decode cX0_hold 16 = .ok (.getfield 26, 3) := by decide +kernel
theorem dX0_hold_19 : decode cX0_hold 19 = .ok (.iload_n 1, 1) := by decide +kernel
theorem dX0_hold_20 : decode cX0_hold 20 = .ok (.iaload, 1) := by decide +kernel
theorem dX0_hold_21 : decode cX0_hold 21 = .ok (.iconst 3, 1) := by decide +kernel
theorem dX0_hold_22 : decode cX0_hold 22 = .ok (.if_icmp .ne 13, 3) := by decide +kernel
theorem dX0_hold_25 : decode cX0_hold 25 = .ok (.new 83, 3) := by decide +kernel
theorem dX0_hold_28 : decode cX0_hold 28 = .ok (.dup, 1) := by decide +kernel
theorem dX0_hold_29 : decode cX0_hold 29 = .ok (.ldc 142, 2) := by decide +kernel
theorem dX0_hold_31 : decode cX0_hold 31 = .ok (.invokespecial 87, 3) := by decide +kernel
theorem dX0_hold_34 : decode cX0_hold 34 = .ok (.athrow, 1) := by decide +kernel
theorem dX0_hold_35 : decode cX0_hold 35 = .ok (.aload_n 0, 1) := by decide +kernel
theorem dX0_hold_36 : decode cX0_hold 36 = .ok (.getfield 35, 3) := by decide +kernel
theorem dX0_hold_39 : decode cX0_hold 39 = .ok (.iload_n 1, 1) := by decide +kernel
theorem dX0_hold_40 : decode cX0_hold 40 = .ok (.baload, 1) := by decide +kernel
theorem dX0_hold_41 : decode cX0_hold 41 = .ok (.istore_n 3, 1) := by decide +kernel
theorem dX0_hold_42 : decode cX0_hold 42 = .ok (.aload_n 0, 1) := by decide +kernel
theorem dX0_hold_43 : decode cX0_hold 43 = .ok (.getfield 35, 3) := by decide +kernel
theorem dX0_hold_46 : decode cX0_hold 46 = .ok (.iload_n 1, 1) := by decide +kernel
theorem dX0_hold_47 : decode cX0_hold 47 = .ok (.iload_n 2, 1) := by decide +kernel
theorem dX0_hold_48 : decode cX0_hold 48 = .ok (.bastore, 1) := by decide +kernel
theorem dX0_hold_49 : decode cX0_hold 49 = .ok (.iload_n 3, 1) := by decide +kernel
theorem dX0_hold_50 : decode cX0_hold 50 = .ok (.ireturn, 1) := by decide +kernel
set_option maxRecDepth 20000 in
theorem ggX0_scrap_X0_checkWafer : GoodIn wsX0_scrap wsX0_checkWafer := goodIn_ca (goodIn_r _ [10, 11, 12, 13, 24, 25, 26, 27, 28, 29, 30, 31, 32, 33, 34, 35, 36, 37, 38, 39, 40, 41] (by decide +kernel) (by decide +kernel)) (goodIn_sub (fun _ h => List.mem_cons_of_mem _ (List.mem_append_right _ h)) (by decide +kernel))
set_option maxRecDepth 20000 in
theorem gX0_scrap_X0_checkWafer : GoodIn wsX0_scrap (wsV RX0 144 RX0 yX0_checkWafer wsX0_checkWafer) := goodIn_app (goodIn_of _ (by decide +kernel)) ggX0_scrap_X0_checkWafer
set_option maxRecDepth 20000 in
theorem ggX0_scrap_X0_isLot : GoodIn wsX0_scrap wsX0_isLot := goodIn_r _ [17, 18, 24, 25, 26, 27, 28, 29, 30, 31, 32, 33, 34, 35, 36, 37, 38, 39, 40, 41] (by decide +kernel) (by decide +kernel)
set_option maxRecDepth 20000 in
theorem gX0_scrap_X0_isLot : GoodIn wsX0_scrap (wsV RX0 147 RX0 yX0_isLot wsX0_isLot) := goodIn_app (goodIn_of _ (by decide +kernel)) ggX0_scrap_X0_isLot
set_option maxRecDepth 20000 in
theorem ggX0_scrap_X0_leaveRoute : GoodIn wsX0_scrap wsX0_leaveRoute := goodIn_r _ [22, 4, 23, 24, 25, 26, 27, 28, 29, 30, 31, 32, 33, 34, 35, 36, 37, 38, 39, 40, 41] (by decide +kernel) (by decide +kernel)
set_option maxRecDepth 20000 in
theorem gX0_scrap_X0_leaveRoute : GoodIn wsX0_scrap (wsV RX0 138 RX0 yX0_leaveRoute wsX0_leaveRoute) := goodIn_app (goodIn_of _ (by decide +kernel)) ggX0_scrap_X0_leaveRoute
theorem dX0_scrap_0 : decode cX0_scrap 0 = .ok (.aload_n 0, 1) := by decide +kernel
theorem dX0_scrap_1 : decode cX0_scrap 1 = .ok (.iload_n 1, 1) := by decide +kernel
theorem dX0_scrap_2 : decode cX0_scrap 2 = .ok (.invokevirtual 144, 3) := by decide +kernel
theorem dX0_scrap_5 : decode cX0_scrap 5 = .ok (.aload_n 0, 1) := by decide +kernel
theorem dX0_scrap_6 : decode cX0_scrap 6 = .ok (.getfield 51, 3) := by decide +kernel
theorem dX0_scrap_9 : decode cX0_scrap 9 = .ok (.iload_n 1, 1) := by decide +kernel
theorem dX0_scrap_10 : decode cX0_scrap 10 = .ok (.iaload, 1) := by decide +kernel
theorem dX0_scrap_11 : decode cX0_scrap 11 = .ok (.istore_n 2, 1) := by decide +kernel
theorem dX0_scrap_12 : decode cX0_scrap 12 = .ok (.aload_n 0, 1) := by decide +kernel
theorem dX0_scrap_13 : decode cX0_scrap 13 = .ok (.iload_n 2, 1) := by decide +kernel
theorem dX0_scrap_14 : decode cX0_scrap 14 = .ok (.invokevirtual 147, 3) := by decide +kernel
theorem dX0_scrap_17 : decode cX0_scrap 17 = .ok (.ifCond .eq 12, 3) := by decide +kernel
theorem dX0_scrap_20 : decode cX0_scrap 20 = .ok (.aload_n 0, 1) := by decide +kernel
theorem dX0_scrap_21 : decode cX0_scrap 21 = .ok (.getfield 26, 3) := by decide +kernel
theorem dX0_scrap_24 : decode cX0_scrap 24 = .ok (.iload_n 2, 1) := by decide +kernel
theorem dX0_scrap_25 : decode cX0_scrap 25 = .ok (.iaload, 1) := by decide +kernel
theorem dX0_scrap_26 : decode cX0_scrap 26 = .ok (.ifCond .eq 13, 3) := by decide +kernel
theorem dX0_scrap_29 : decode cX0_scrap 29 = .ok (.new 83, 3) := by decide +kernel
theorem dX0_scrap_32 : decode cX0_scrap 32 = .ok (.dup, 1) := by decide +kernel
theorem dX0_scrap_33 : decode cX0_scrap 33 = .ok (.ldc 150, 2) := by decide +kernel
theorem dX0_scrap_35 : decode cX0_scrap 35 = .ok (.invokespecial 87, 3) := by decide +kernel
theorem dX0_scrap_38 : decode cX0_scrap 38 = .ok (.athrow, 1) := by decide +kernel
theorem dX0_scrap_39 : decode cX0_scrap 39 = .ok (.aload_n 0, 1) := by decide +kernel
theorem dX0_scrap_40 : decode cX0_scrap 40 = .ok (.getfield 51, 3) := by decide +kernel
theorem dX0_scrap_43 : decode cX0_scrap 43 = .ok (.iload_n 1, 1) := by decide +kernel
theorem dX0_scrap_44 : decode cX0_scrap 44 = .ok (.iconst (-1), 1) := by decide +kernel
theorem dX0_scrap_45 : decode cX0_scrap 45 = .ok (.iastore, 1) := by decide +kernel
theorem dX0_scrap_46 : decode cX0_scrap 46 = .ok (.aload_n 0, 1) := by decide +kernel
theorem dX0_scrap_47 : decode cX0_scrap 47 = .ok (.getfield 45, 3) := by decide +kernel
theorem dX0_scrap_50 : decode cX0_scrap 50 = .ok (.iload_n 2, 1) := by decide +kernel
theorem dX0_scrap_51 : decode cX0_scrap 51 = .ok (.dup2, 1) := by decide +kernel
theorem dX0_scrap_52 : decode cX0_scrap 52 = .ok (.iaload, 1) := by decide +kernel
theorem dX0_scrap_53 : decode cX0_scrap 53 = .ok (.iconst 1, 1) := by decide +kernel
theorem dX0_scrap_54 : decode cX0_scrap 54 = .ok (.isub, 1) := by decide +kernel
theorem dX0_scrap_55 : decode cX0_scrap 55 = .ok (.iastore, 1) := by decide +kernel
theorem dX0_scrap_56 : decode cX0_scrap 56 = .ok (.aload_n 0, 1) := by decide +kernel
theorem dX0_scrap_57 : decode cX0_scrap 57 = .ok (.getfield 45, 3) := by decide +kernel
theorem dX0_scrap_60 : decode cX0_scrap 60 = .ok (.iload_n 2, 1) := by decide +kernel
theorem dX0_scrap_61 : decode cX0_scrap 61 = .ok (.iaload, 1) := by decide +kernel
theorem dX0_scrap_62 : decode cX0_scrap 62 = .ok (.ifCond .ne 9, 3) := by decide +kernel
theorem dX0_scrap_65 : decode cX0_scrap 65 = .ok (.aload_n 0, 1) := by decide +kernel
theorem dX0_scrap_66 : decode cX0_scrap 66 = .ok (.iload_n 2, 1) := by decide +kernel
theorem dX0_scrap_67 : decode cX0_scrap 67 = .ok (.iconst 3, 1) := by decide +kernel
theorem dX0_scrap_68 : decode cX0_scrap 68 = .ok (.invokevirtual 138, 3) := by decide +kernel
theorem dX0_scrap_71 : decode cX0_scrap 71 = .ok (.aload_n 0, 1) := by decide +kernel
theorem dX0_scrap_72 : decode cX0_scrap 72 = .ok (.getfield 45, 3) := by decide +kernel
theorem dX0_scrap_75 : decode cX0_scrap 75 = .ok (.iload_n 2, 1) := by decide +kernel
theorem dX0_scrap_76 : decode cX0_scrap 76 = .ok (.iaload, 1) := by decide +kernel
theorem dX0_scrap_77 : decode cX0_scrap 77 = .ok (.ireturn, 1) := by decide +kernel
set_option maxRecDepth 20000 in
theorem ggX0_advance_X0_isWithin : GoodIn wsX0_advance wsX0_isWithin := goodIn_r _ [10] (by decide +kernel) (by decide +kernel)
set_option maxRecDepth 20000 in
theorem gX0_advance_X0_isWithin : GoodIn wsX0_advance (va_wsS RX0 72 yX0_isWithin wsX0_isWithin) := goodIn_app (goodIn_of _ (by decide +kernel)) ggX0_advance_X0_isWithin
set_option maxRecDepth 20000 in
theorem ggX0_advance_X0_endProcessing : GoodIn wsX0_advance wsX0_endProcessing := goodIn_r _ [14, 15, 5, 16, 17, 18, 9, 19, 20, 21, 22, 23, 24, 25, 26, 27, 28, 29, 30, 31, 32, 33, 34, 35, 36, 37, 38, 39, 40, 41, 42] (by decide +kernel) (by decide +kernel)
set_option maxRecDepth 20000 in
theorem gX0_advance_X0_endProcessing : GoodIn wsX0_advance (wsV RX0 154 RX0 yX0_endProcessing wsX0_endProcessing) := goodIn_app (goodIn_of _ (by decide +kernel)) ggX0_advance_X0_endProcessing
theorem dX0_advance_0 : decode cX0_advance 0 = .ok (.iload_n 1, 1) := by decide +kernel
theorem dX0_advance_1 : decode cX0_advance 1 = .ok (.iconst 1, 1) := by decide +kernel
theorem dX0_advance_2 : decode cX0_advance 2 = .ok (.sipush 10000, 3) := by decide +kernel
theorem dX0_advance_5 : decode cX0_advance 5 = .ok (.invokestatic 72, 3) := by decide +kernel
theorem dX0_advance_8 : decode cX0_advance 8 = .ok (.ifCond .ne 13, 3) := by decide +kernel
theorem dX0_advance_11 : decode cX0_advance 11 = .ok (.new 76, 3) := by decide +kernel
theorem dX0_advance_14 : decode cX0_advance 14 = .ok (.dup, 1) := by decide +kernel
theorem dX0_advance_15 : decode cX0_advance 15 = .ok (.ldc 152, 2) := by decide +kernel
theorem dX0_advance_17 : decode cX0_advance 17 = .ok (.invokespecial 80, 3) := by decide +kernel
theorem dX0_advance_20 : decode cX0_advance 20 = .ok (.athrow, 1) := by decide +kernel
theorem dX0_advance_21 : decode cX0_advance 21 = .ok (.aload_n 0, 1) := by decide +kernel
theorem dX0_advance_22 : decode cX0_advance 22 = .ok (.dup, 1) := by decide +kernel
theorem dX0_advance_23 : decode cX0_advance 23 = .ok (.getfield 65, 3) := by decide +kernel
theorem dX0_advance_26 : decode cX0_advance 26 = .ok (.iload_n 1, 1) := by decide +kernel
theorem dX0_advance_27 : decode cX0_advance 27 = .ok (.iadd, 1) := by decide +kernel
theorem dX0_advance_28 : decode cX0_advance 28 = .ok (.putfield 65, 3) := by decide +kernel
theorem dX0_advance_31 : decode cX0_advance 31 = .ok (.iconst 0, 1) := by decide +kernel
theorem dX0_advance_32 : decode cX0_advance 32 = .ok (.istore_n 2, 1) := by decide +kernel
theorem dX0_advance_33 : decode cX0_advance 33 = .ok (.iconst 0, 1) := by decide +kernel
theorem dX0_advance_34 : decode cX0_advance 34 = .ok (.istore_n 3, 1) := by decide +kernel
theorem dX0_advance_35 : decode cX0_advance 35 = .ok (.iload_n 3, 1) := by decide +kernel
theorem dX0_advance_36 : decode cX0_advance 36 = .ok (.aload_n 0, 1) := by decide +kernel
theorem dX0_advance_37 : decode cX0_advance 37 = .ok (.getfield 48, 3) := by decide +kernel
theorem dX0_advance_40 : decode cX0_advance 40 = .ok (.if_icmp .ge 40, 3) := by decide +kernel
theorem dX0_advance_43 : decode cX0_advance 43 = .ok (.aload_n 0, 1) := by decide +kernel
theorem dX0_advance_44 : decode cX0_advance 44 = .ok (.getfield 26, 3) := by decide +kernel
theorem dX0_advance_47 : decode cX0_advance 47 = .ok (.iload_n 3, 1) := by decide +kernel
theorem dX0_advance_48 : decode cX0_advance 48 = .ok (.iaload, 1) := by decide +kernel
theorem dX0_advance_49 : decode cX0_advance 49 = .ok (.iconst 1, 1) := by decide +kernel
theorem dX0_advance_50 : decode cX0_advance 50 = .ok (.if_icmp .ne 24, 3) := by decide +kernel
theorem dX0_advance_53 : decode cX0_advance 53 = .ok (.aload_n 0, 1) := by decide +kernel
theorem dX0_advance_54 : decode cX0_advance 54 = .ok (.getfield 32, 3) := by decide +kernel
theorem dX0_advance_57 : decode cX0_advance 57 = .ok (.iload_n 3, 1) := by decide +kernel
theorem dX0_advance_58 : decode cX0_advance 58 = .ok (.iaload, 1) := by decide +kernel
theorem dX0_advance_59 : decode cX0_advance 59 = .ok (.aload_n 0, 1) := by decide +kernel
theorem dX0_advance_60 : decode cX0_advance 60 = .ok (.getfield 65, 3) := by decide +kernel
theorem dX0_advance_63 : decode cX0_advance 63 = .ok (.if_icmp .gt 11, 3) := by decide +kernel
theorem dX0_advance_66 : decode cX0_advance 66 = .ok (.aload_n 0, 1) := by decide +kernel
theorem dX0_advance_67 : decode cX0_advance 67 = .ok (.iload_n 3, 1) := by decide +kernel
theorem dX0_advance_68 : decode cX0_advance 68 = .ok (.invokevirtual 154, 3) := by decide +kernel
theorem dX0_advance_71 : decode cX0_advance 71 = .ok (.iinc 2 1, 3) := by decide +kernel
theorem dX0_advance_74 : decode cX0_advance 74 = .ok (.iinc 3 1, 3) := by decide +kernel
theorem dX0_advance_77 : decode cX0_advance 77 = .ok (.goto (-42), 3) := by decide +kernel
theorem dX0_advance_80 : decode cX0_advance 80 = .ok (.iload_n 2, 1) := by decide +kernel
theorem dX0_advance_81 : decode cX0_advance 81 = .ok (.ireturn, 1) := by decide +kernel
theorem dX0_time_0 : decode cX0_time 0 = .ok (.aload_n 0, 1) := by decide +kernel
theorem dX0_time_1 : decode cX0_time 1 = .ok (.getfield 65, 3) := by decide +kernel
theorem dX0_time_4 : decode cX0_time 4 = .ok (.ireturn, 1) := by decide +kernel
theorem dX0_lots_0 : decode cX0_lots 0 = .ok (.aload_n 0, 1) := by decide +kernel
theorem dX0_lots_1 : decode cX0_lots 1 = .ok (.getfield 48, 3) := by decide +kernel
theorem dX0_lots_4 : decode cX0_lots 4 = .ok (.ireturn, 1) := by decide +kernel
theorem dX0_wafers_0 : decode cX0_wafers 0 = .ok (.aload_n 0, 1) := by decide +kernel
theorem dX0_wafers_1 : decode cX0_wafers 1 = .ok (.getfield 62, 3) := by decide +kernel
theorem dX0_wafers_4 : decode cX0_wafers 4 = .ok (.ireturn, 1) := by decide +kernel
set_option maxRecDepth 20000 in
theorem ggX0_state_X0_checkLot : GoodIn wsX0_state wsX0_checkLot := goodIn_ca (goodIn_r _ [6, 7, 8, 9, 10, 11, 5, 12, 13, 14, 15, 16, 17, 18, 19, 20, 21, 22, 23, 24, 25, 26, 27, 28, 29, 30, 31] (by decide +kernel) (by decide +kernel)) (goodIn_sub (fun _ h => List.mem_cons_of_mem _ (List.mem_append_right _ h)) (by decide +kernel))
set_option maxRecDepth 20000 in
theorem gX0_state_X0_checkLot : GoodIn wsX0_state (wsV RX0 99 RX0 yX0_checkLot wsX0_checkLot) := goodIn_app (goodIn_of _ (by decide +kernel)) ggX0_state_X0_checkLot
theorem dX0_state_0 : decode cX0_state 0 = .ok (.aload_n 0, 1) := by decide +kernel
theorem dX0_state_1 : decode cX0_state 1 = .ok (.iload_n 1, 1) := by decide +kernel
theorem dX0_state_2 : decode cX0_state 2 = .ok (.invokevirtual 99, 3) := by decide +kernel
theorem dX0_state_5 : decode cX0_state 5 = .ok (.aload_n 0, 1) := by decide +kernel
theorem dX0_state_6 : decode cX0_state 6 = .ok (.getfield 26, 3) := by decide +kernel
theorem dX0_state_9 : decode cX0_state 9 = .ok (.iload_n 1, 1) := by decide +kernel
theorem dX0_state_10 : decode cX0_state 10 = .ok (.iaload, 1) := by decide +kernel
theorem dX0_state_11 : decode cX0_state 11 = .ok (.ireturn, 1) := by decide +kernel
set_option maxRecDepth 20000 in
theorem ggX0_stepOf_X0_checkLot : GoodIn wsX0_stepOf wsX0_checkLot := goodIn_ca (goodIn_r _ [6, 7, 8, 9, 10, 11, 5, 12, 13, 14, 15, 16, 17, 18, 19, 20, 21, 22, 23, 24, 25, 26, 27, 28, 29, 30, 31] (by decide +kernel) (by decide +kernel)) (goodIn_sub (fun _ h => List.mem_cons_of_mem _ (List.mem_append_right _ h)) (by decide +kernel))
set_option maxRecDepth 20000 in
theorem gX0_stepOf_X0_checkLot : GoodIn wsX0_stepOf (wsV RX0 99 RX0 yX0_checkLot wsX0_checkLot) := goodIn_app (goodIn_of _ (by decide +kernel)) ggX0_stepOf_X0_checkLot
theorem dX0_stepOf_0 : decode cX0_stepOf 0 = .ok (.aload_n 0, 1) := by decide +kernel
theorem dX0_stepOf_1 : decode cX0_stepOf 1 = .ok (.iload_n 1, 1) := by decide +kernel
theorem dX0_stepOf_2 : decode cX0_stepOf 2 = .ok (.invokevirtual 99, 3) := by decide +kernel
theorem dX0_stepOf_5 : decode cX0_stepOf 5 = .ok (.aload_n 0, 1) := by decide +kernel
theorem dX0_stepOf_6 : decode cX0_stepOf 6 = .ok (.getfield 29, 3) := by decide +kernel
theorem dX0_stepOf_9 : decode cX0_stepOf 9 = .ok (.iload_n 1, 1) := by decide +kernel
theorem dX0_stepOf_10 : decode cX0_stepOf 10 = .ok (.iaload, 1) := by decide +kernel
theorem dX0_stepOf_11 : decode cX0_stepOf 11 = .ok (.ireturn, 1) := by decide +kernel
set_option maxRecDepth 20000 in
theorem ggX0_size_X0_checkLot : GoodIn wsX0_size wsX0_checkLot := goodIn_ca (goodIn_r _ [6, 7, 8, 9, 10, 11, 5, 12, 13, 14, 15, 16, 17, 18, 19, 20, 21, 22, 23, 24, 25, 26, 27, 28, 29, 30, 31] (by decide +kernel) (by decide +kernel)) (goodIn_sub (fun _ h => List.mem_cons_of_mem _ (List.mem_append_right _ h)) (by decide +kernel))
set_option maxRecDepth 20000 in
theorem gX0_size_X0_checkLot : GoodIn wsX0_size (wsV RX0 99 RX0 yX0_checkLot wsX0_checkLot) := goodIn_app (goodIn_of _ (by decide +kernel)) ggX0_size_X0_checkLot
theorem dX0_size_0 : decode cX0_size 0 = .ok (.aload_n 0, 1) := by decide +kernel
theorem dX0_size_1 : decode cX0_size 1 = .ok (.iload_n 1, 1) := by decide +kernel
theorem dX0_size_2 : decode cX0_size 2 = .ok (.invokevirtual 99, 3) := by decide +kernel
theorem dX0_size_5 : decode cX0_size 5 = .ok (.aload_n 0, 1) := by decide +kernel
theorem dX0_size_6 : decode cX0_size 6 = .ok (.getfield 45, 3) := by decide +kernel
theorem dX0_size_9 : decode cX0_size 9 = .ok (.iload_n 1, 1) := by decide +kernel
theorem dX0_size_10 : decode cX0_size 10 = .ok (.iaload, 1) := by decide +kernel
theorem dX0_size_11 : decode cX0_size 11 = .ok (.ireturn, 1) := by decide +kernel
set_option maxRecDepth 20000 in
theorem ggX0_slack_X0_checkLot : GoodIn wsX0_slack wsX0_checkLot := goodIn_ca (goodIn_r _ [5, 6, 7, 8, 9, 10, 4, 11, 12, 29, 30, 31, 32, 33, 34, 35, 36, 37, 38, 39, 40, 41, 42, 43, 44, 45, 46] (by decide +kernel) (by decide +kernel)) (goodIn_sub (fun _ h => List.mem_cons_of_mem _ (List.mem_append_right _ h)) (by decide +kernel))
set_option maxRecDepth 20000 in
theorem gX0_slack_X0_checkLot : GoodIn wsX0_slack (wsV RX0 99 RX0 yX0_checkLot wsX0_checkLot) := goodIn_app (goodIn_of _ (by decide +kernel)) ggX0_slack_X0_checkLot
set_option maxRecDepth 20000 in
theorem ggX0_slack_X0_waitingLeft : GoodIn wsX0_slack wsX0_waitingLeft := goodIn_r _ [16, 17, 18, 19, 20, 21, 22, 23, 24, 25, 26, 4, 27, 28, 29, 30, 31, 32, 33, 34, 35, 36, 37, 38, 39, 40, 41, 42, 43, 44, 45, 46] (by decide +kernel) (by decide +kernel)
set_option maxRecDepth 20000 in
theorem gX0_slack_X0_waitingLeft : GoodIn wsX0_slack (wsV RX0 157 RX0 yX0_waitingLeft wsX0_waitingLeft) := goodIn_app (goodIn_of _ (by decide +kernel)) ggX0_slack_X0_waitingLeft
theorem dX0_slack_0 : decode cX0_slack 0 = .ok (.aload_n 0, 1) := by decide +kernel
theorem dX0_slack_1 : decode cX0_slack 1 = .ok (.iload_n 1, 1) := by decide +kernel
theorem dX0_slack_2 : decode cX0_slack 2 = .ok (.invokevirtual 99, 3) := by decide +kernel
theorem dX0_slack_5 : decode cX0_slack 5 = .ok (.aload_n 0, 1) := by decide +kernel
theorem dX0_slack_6 : decode cX0_slack 6 = .ok (.iload_n 1, 1) := by decide +kernel
theorem dX0_slack_7 : decode cX0_slack 7 = .ok (.invokevirtual 157, 3) := by decide +kernel
theorem dX0_slack_10 : decode cX0_slack 10 = .ok (.ireturn, 1) := by decide +kernel
set_option maxRecDepth 20000 in
theorem ggX0_isLate_X0_checkLot : GoodIn wsX0_isLate wsX0_checkLot := goodIn_ca (goodIn_r _ [5, 6, 7, 8, 9, 10, 4, 11, 12, 29, 30, 31, 32, 33, 34, 35, 36, 37, 38, 39, 40, 41, 42, 43, 44, 45, 46] (by decide +kernel) (by decide +kernel)) (goodIn_sub (fun _ h => List.mem_cons_of_mem _ (List.mem_append_right _ h)) (by decide +kernel))
set_option maxRecDepth 20000 in
theorem gX0_isLate_X0_checkLot : GoodIn wsX0_isLate (wsV RX0 99 RX0 yX0_checkLot wsX0_checkLot) := goodIn_app (goodIn_of _ (by decide +kernel)) ggX0_isLate_X0_checkLot
set_option maxRecDepth 20000 in
theorem ggX0_isLate_X0_waitingLeft : GoodIn wsX0_isLate wsX0_waitingLeft := goodIn_r _ [16, 17, 18, 19, 20, 21, 22, 23, 24, 25, 26, 4, 27, 28, 29, 30, 31, 32, 33, 34, 35, 36, 37, 38, 39, 40, 41, 42, 43, 44, 45, 46] (by decide +kernel) (by decide +kernel)
set_option maxRecDepth 20000 in
theorem gX0_isLate_X0_waitingLeft : GoodIn wsX0_isLate (wsV RX0 157 RX0 yX0_waitingLeft wsX0_waitingLeft) := goodIn_app (goodIn_of _ (by decide +kernel)) ggX0_isLate_X0_waitingLeft
theorem dX0_isLate_0 : decode cX0_isLate 0 = .ok (.aload_n 0, 1) := by decide +kernel
theorem dX0_isLate_1 : decode cX0_isLate 1 = .ok (.iload_n 1, 1) := by decide +kernel
theorem dX0_isLate_2 : decode cX0_isLate 2 = .ok (.invokevirtual 99, 3) := by decide +kernel
theorem dX0_isLate_5 : decode cX0_isLate 5 = .ok (.aload_n 0, 1) := by decide +kernel
theorem dX0_isLate_6 : decode cX0_isLate 6 = .ok (.iload_n 1, 1) := by decide +kernel
theorem dX0_isLate_7 : decode cX0_isLate 7 = .ok (.invokevirtual 157, 3) := by decide +kernel
theorem dX0_isLate_10 : decode cX0_isLate 10 = .ok (.ifCond .ge 7, 3) := by decide +kernel
theorem dX0_isLate_13 : decode cX0_isLate 13 = .ok (.iconst 1, 1) := by decide +kernel
theorem dX0_isLate_14 : decode cX0_isLate 14 = .ok (.goto 4, 3) := by decide +kernel
theorem dX0_isLate_17 : decode cX0_isLate 17 = .ok (.iconst 0, 1) := by decide +kernel
theorem dX0_isLate_18 : decode cX0_isLate 18 = .ok (.ireturn, 1) := by decide +kernel
set_option maxRecDepth 20000 in
theorem ggX0_reworks_X0_checkLot : GoodIn wsX0_reworks wsX0_checkLot := goodIn_ca (goodIn_r _ [6, 7, 8, 9, 10, 11, 5, 12, 13, 14, 15, 16, 17, 18, 19, 20, 21, 22, 23, 24, 25, 26, 27, 28, 29, 30, 31] (by decide +kernel) (by decide +kernel)) (goodIn_sub (fun _ h => List.mem_cons_of_mem _ (List.mem_append_right _ h)) (by decide +kernel))
set_option maxRecDepth 20000 in
theorem gX0_reworks_X0_checkLot : GoodIn wsX0_reworks (wsV RX0 99 RX0 yX0_checkLot wsX0_checkLot) := goodIn_app (goodIn_of _ (by decide +kernel)) ggX0_reworks_X0_checkLot
theorem dX0_reworks_0 : decode cX0_reworks 0 = .ok (.aload_n 0, 1) := by decide +kernel
theorem dX0_reworks_1 : decode cX0_reworks 1 = .ok (.iload_n 1, 1) := by decide +kernel
theorem dX0_reworks_2 : decode cX0_reworks 2 = .ok (.invokevirtual 99, 3) := by decide +kernel
theorem dX0_reworks_5 : decode cX0_reworks 5 = .ok (.aload_n 0, 1) := by decide +kernel
theorem dX0_reworks_6 : decode cX0_reworks 6 = .ok (.getfield 39, 3) := by decide +kernel
theorem dX0_reworks_9 : decode cX0_reworks 9 = .ok (.iload_n 1, 1) := by decide +kernel
theorem dX0_reworks_10 : decode cX0_reworks 10 = .ok (.iaload, 1) := by decide +kernel
theorem dX0_reworks_11 : decode cX0_reworks 11 = .ok (.ireturn, 1) := by decide +kernel
set_option maxRecDepth 20000 in
theorem ggX0_nextFor_X0_checkTool : GoodIn wsX0_nextFor wsX0_checkTool := goodIn_ca (goodIn_r _ [6, 7, 8, 9, 10, 5, 11] (by decide +kernel) (by decide +kernel)) (goodIn_sub (fun _ h => List.mem_cons_of_mem _ (List.mem_append_right _ h)) (by decide +kernel))
set_option maxRecDepth 20000 in
theorem gX0_nextFor_X0_checkTool : GoodIn wsX0_nextFor (va_wsS RX0 68 yX0_checkTool wsX0_checkTool) := goodIn_app (goodIn_of _ (by decide +kernel)) ggX0_nextFor_X0_checkTool
set_option maxRecDepth 20000 in
theorem ggX0_nextFor_X0_isBusy : GoodIn wsX0_nextFor wsX0_isBusy := goodIn_r _ [15, 2, 16, 17, 18, 19, 5, 20, 21, 22, 23, 24, 25, 26, 27, 45, 46, 47, 48, 49, 50, 51, 52, 53, 54, 55, 56, 57, 58, 59, 60, 61, 62] (by decide +kernel) (by decide +kernel)
set_option maxRecDepth 20000 in
theorem gX0_nextFor_X0_isBusy : GoodIn wsX0_nextFor (wsV RX0 109 RX0 yX0_isBusy wsX0_isBusy) := goodIn_app (goodIn_of _ (by decide +kernel)) ggX0_nextFor_X0_isBusy
set_option maxRecDepth 20000 in
theorem ggX0_nextFor_X0_isReady : GoodIn wsX0_nextFor wsX0_isReady := goodIn_r _ [31, 32, 33, 34, 5, 35, 16, 36, 37, 38, 39, 40, 21, 1, 41, 42, 43, 44, 23, 24, 25, 26, 27, 45, 46, 47, 48, 49, 50, 51, 52, 53, 54, 55, 56, 57, 58, 59, 60, 61, 62] (by decide +kernel) (by decide +kernel)
set_option maxRecDepth 20000 in
theorem gX0_nextFor_X0_isReady : GoodIn wsX0_nextFor (wsV RX0 102 RX0 yX0_isReady wsX0_isReady) := goodIn_app (goodIn_of _ (by decide +kernel)) ggX0_nextFor_X0_isReady
set_option maxRecDepth 20000 in
theorem ggX0_nextFor_X0_usesTool : GoodIn wsX0_nextFor wsX0_usesTool := goodIn_r _ [20, 21, 22, 23, 24, 25, 5, 26, 27, 45, 46, 47, 48, 49, 50, 51, 52, 53, 54, 55, 56, 57, 58, 59, 60, 61, 62] (by decide +kernel) (by decide +kernel)
set_option maxRecDepth 20000 in
theorem gX0_nextFor_X0_usesTool : GoodIn wsX0_nextFor (wsV RX0 162 RX0 yX0_usesTool wsX0_usesTool) := goodIn_app (goodIn_of _ (by decide +kernel)) ggX0_nextFor_X0_usesTool
set_option maxRecDepth 20000 in
theorem ggX0_nextFor_X0_waitingLeft : GoodIn wsX0_nextFor wsX0_waitingLeft := goodIn_r _ [40, 21, 16, 1, 41, 42, 43, 44, 23, 24, 25, 5, 26, 27, 45, 46, 47, 48, 49, 50, 51, 52, 53, 54, 55, 56, 57, 58, 59, 60, 61, 62] (by decide +kernel) (by decide +kernel)
set_option maxRecDepth 20000 in
theorem gX0_nextFor_X0_waitingLeft : GoodIn wsX0_nextFor (wsV RX0 157 RX0 yX0_waitingLeft wsX0_waitingLeft) := goodIn_app (goodIn_of _ (by decide +kernel)) ggX0_nextFor_X0_waitingLeft
theorem dX0_nextFor_0 : decode cX0_nextFor 0 = .ok (.iload_n 1, 1) := by decide +kernel
theorem dX0_nextFor_1 : decode cX0_nextFor 1 = .ok (.invokestatic 68, 3) := by decide +kernel
theorem dX0_nextFor_4 : decode cX0_nextFor 4 = .ok (.aload_n 0, 1) := by decide +kernel
theorem dX0_nextFor_5 : decode cX0_nextFor 5 = .ok (.iload_n 1, 1) := by decide +kernel
theorem dX0_nextFor_6 : decode cX0_nextFor 6 = .ok (.invokevirtual 109, 3) := by decide +kernel
theorem dX0_nextFor_9 : decode cX0_nextFor 9 = .ok (.ifCond .eq 5, 3) := by decide +kernel
theorem dX0_nextFor_12 : decode cX0_nextFor 12 = .ok (.iconst (-1), 1) := by decide +kernel
theorem dX0_nextFor_13 : decode cX0_nextFor 13 = .ok (.ireturn, 1) := by decide +kernel
theorem dX0_nextFor_14 : decode cX0_nextFor 14 = .ok (.iconst (-1), 1) := by decide +kernel
theorem dX0_nextFor_15 : decode cX0_nextFor 15 = .ok (.istore_n 2, 1) := by decide +kernel
theorem dX0_nextFor_16 : decode cX0_nextFor 16 = .ok (.ldc 161, 2) := by decide +kernel
theorem dX0_nextFor_18 : decode cX0_nextFor 18 = .ok (.istore_n 3, 1) := by decide +kernel
theorem dX0_nextFor_19 : decode cX0_nextFor 19 = .ok (.iconst 0, 1) := by decide +kernel
theorem dX0_nextFor_20 : decode cX0_nextFor 20 = .ok (.istore 4, 2) := by decide +kernel
theorem dX0_nextFor_22 : decode cX0_nextFor 22 = .ok (.iload 4, 2) := by decide +kernel
theorem dX0_nextFor_24 : decode cX0_nextFor 24 = .ok (.aload_n 0, 1) := by decide +kernel
theorem dX0_nextFor_25 : decode cX0_nextFor 25 = .ok (.getfield 48, 3) := by decide +kernel
theorem dX0_nextFor_28 : decode cX0_nextFor 28 = .ok (.if_icmp .ge 48, 3) := by decide +kernel
theorem dX0_nextFor_31 : decode cX0_nextFor 31 = .ok (.aload_n 0, 1) := by decide +kernel
theorem dX0_nextFor_32 : decode cX0_nextFor 32 = .ok (.iload 4, 2) := by decide +kernel
theorem dX0_nextFor_34 : decode cX0_nextFor 34 = .ok (.invokevirtual 102, 3) := by decide +kernel
theorem dX0_nextFor_37 : decode cX0_nextFor 37 = .ok (.ifCond .eq 33, 3) := by decide +kernel
theorem dX0_nextFor_40 : decode cX0_nextFor 40 = .ok (.aload_n 0, 1) := by decide +kernel
theorem dX0_nextFor_41 : decode cX0_nextFor 41 = .ok (.iload 4, 2) := by decide +kernel
theorem dX0_nextFor_43 : decode cX0_nextFor 43 = .ok (.iload_n 1, 1) := by decide +kernel
theorem dX0_nextFor_44 : decode cX0_nextFor 44 = .ok (.invokevirtual 162, 3) := by decide +kernel
theorem dX0_nextFor_47 : decode cX0_nextFor 47 = .ok (.ifCond .eq 23, 3) := by decide +kernel
theorem dX0_nextFor_50 : decode cX0_nextFor 50 = .ok (.aload_n 0, 1) := by decide +kernel
theorem dX0_nextFor_51 : decode cX0_nextFor 51 = .ok (.iload 4, 2) := by decide +kernel
theorem dX0_nextFor_53 : decode cX0_nextFor 53 = .ok (.invokevirtual 157, 3) := by decide +kernel
theorem dX0_nextFor_56 : decode cX0_nextFor 56 = .ok (.iload_n 3, 1) := by decide +kernel
theorem dX0_nextFor_57 : decode cX0_nextFor 57 = .ok (.if_icmp .ge 13, 3) := by decide +kernel
theorem dX0_nextFor_60 : decode cX0_nextFor 60 = .ok (.iload 4, 2) := by decide +kernel
theorem dX0_nextFor_62 : decode cX0_nextFor 62 = .ok (.istore_n 2, 1) := by decide +kernel
theorem dX0_nextFor_63 : decode cX0_nextFor 63 = .ok (.aload_n 0, 1) := by decide +kernel
theorem dX0_nextFor_64 : decode cX0_nextFor 64 = .ok (.iload 4, 2) := by decide +kernel
theorem dX0_nextFor_66 : decode cX0_nextFor 66 = .ok (.invokevirtual 157, 3) := by decide +kernel
theorem dX0_nextFor_69 : decode cX0_nextFor 69 = .ok (.istore_n 3, 1) := by decide +kernel
theorem dX0_nextFor_70 : decode cX0_nextFor 70 = .ok (.iinc 4 1, 3) := by decide +kernel
theorem dX0_nextFor_73 : decode cX0_nextFor 73 = .ok (.goto (-51), 3) := by decide +kernel
theorem dX0_nextFor_76 : decode cX0_nextFor 76 = .ok (.iload_n 2, 1) := by decide +kernel
theorem dX0_nextFor_77 : decode cX0_nextFor 77 = .ok (.ireturn, 1) := by decide +kernel
set_option maxRecDepth 20000 in
theorem ggX0_wafersAt_X0_checkStep : GoodIn wsX0_wafersAt wsX0_checkStep := goodIn_ca (goodIn_r _ [8, 9, 10, 11, 12, 13, 7, 14, 15, 16, 17, 18, 19, 20, 21, 22, 23, 24, 25, 26, 27, 28, 29, 30, 31, 32, 33] (by decide +kernel) (by decide +kernel)) (goodIn_sub (fun _ h => List.mem_cons_of_mem _ (List.mem_append_right _ h)) (by decide +kernel))
set_option maxRecDepth 20000 in
theorem gX0_wafersAt_X0_checkStep : GoodIn wsX0_wafersAt (wsV RX0 166 RX0 yX0_checkStep wsX0_checkStep) := goodIn_app (goodIn_of _ (by decide +kernel)) ggX0_wafersAt_X0_checkStep
theorem dX0_wafersAt_0 : decode cX0_wafersAt 0 = .ok (.aload_n 0, 1) := by decide +kernel
theorem dX0_wafersAt_1 : decode cX0_wafersAt 1 = .ok (.iload_n 1, 1) := by decide +kernel
theorem dX0_wafersAt_2 : decode cX0_wafersAt 2 = .ok (.invokevirtual 166, 3) := by decide +kernel
theorem dX0_wafersAt_5 : decode cX0_wafersAt 5 = .ok (.iconst 0, 1) := by decide +kernel
theorem dX0_wafersAt_6 : decode cX0_wafersAt 6 = .ok (.istore_n 2, 1) := by decide +kernel
theorem dX0_wafersAt_7 : decode cX0_wafersAt 7 = .ok (.iconst 0, 1) := by decide +kernel
theorem dX0_wafersAt_8 : decode cX0_wafersAt 8 = .ok (.istore_n 3, 1) := by decide +kernel
theorem dX0_wafersAt_9 : decode cX0_wafersAt 9 = .ok (.iload_n 3, 1) := by decide +kernel
theorem dX0_wafersAt_10 : decode cX0_wafersAt 10 = .ok (.aload_n 0, 1) := by decide +kernel
theorem dX0_wafersAt_11 : decode cX0_wafersAt 11 = .ok (.getfield 48, 3) := by decide +kernel
theorem dX0_wafersAt_14 : decode cX0_wafersAt 14 = .ok (.if_icmp .ge 28, 3) := by decide +kernel
theorem dX0_wafersAt_17 : decode cX0_wafersAt 17 = .ok (.aload_n 0, 1) := by decide +kernel
theorem dX0_wafersAt_18 : decode cX0_wafersAt 18 = .ok (.getfield 29, 3) := by decide +kernel
theorem dX0_wafersAt_21 : decode cX0_wafersAt 21 = .ok (.iload_n 3, 1) := by decide +kernel
theorem dX0_wafersAt_22 : decode cX0_wafersAt 22 = .ok (.iaload, 1) := by decide +kernel
theorem dX0_wafersAt_23 : decode cX0_wafersAt 23 = .ok (.iload_n 1, 1) := by decide +kernel
theorem dX0_wafersAt_24 : decode cX0_wafersAt 24 = .ok (.if_icmp .ne 12, 3) := by decide +kernel
theorem dX0_wafersAt_27 : decode cX0_wafersAt 27 = .ok (.iload_n 2, 1) := by decide +kernel
theorem dX0_wafersAt_28 : decode cX0_wafersAt 28 = .ok (.aload_n 0, 1) := by decide +kernel
theorem dX0_wafersAt_29 : decode cX0_wafersAt 29 = .ok (.getfield 45, 3) := by decide +kernel
theorem dX0_wafersAt_32 : decode cX0_wafersAt 32 = .ok (.iload_n 3, 1) := by decide +kernel
theorem dX0_wafersAt_33 : decode cX0_wafersAt 33 = .ok (.iaload, 1) := by decide +kernel
theorem dX0_wafersAt_34 : decode cX0_wafersAt 34 = .ok (.iadd, 1) := by decide +kernel
theorem dX0_wafersAt_35 : decode cX0_wafersAt 35 = .ok (.istore_n 2, 1) := by decide +kernel
theorem dX0_wafersAt_36 : decode cX0_wafersAt 36 = .ok (.iinc 3 1, 3) := by decide +kernel
theorem dX0_wafersAt_39 : decode cX0_wafersAt 39 = .ok (.goto (-30), 3) := by decide +kernel
theorem dX0_wafersAt_42 : decode cX0_wafersAt 42 = .ok (.iload_n 2, 1) := by decide +kernel
theorem dX0_wafersAt_43 : decode cX0_wafersAt 43 = .ok (.ireturn, 1) := by decide +kernel
set_option maxRecDepth 20000 in
theorem ggX0_wafersAtByWafers_X0_checkStep : GoodIn wsX0_wafersAtByWafers wsX0_checkStep := goodIn_ca (goodIn_r _ [8, 9, 10, 11, 12, 13, 7, 14, 15, 21, 22, 23, 24, 25, 26, 27, 28, 29, 30, 31, 32, 33, 34, 35, 36, 37, 38] (by decide +kernel) (by decide +kernel)) (goodIn_sub (fun _ h => List.mem_cons_of_mem _ (List.mem_append_right _ h)) (by decide +kernel))
set_option maxRecDepth 20000 in
theorem gX0_wafersAtByWafers_X0_checkStep : GoodIn wsX0_wafersAtByWafers (wsV RX0 166 RX0 yX0_checkStep wsX0_checkStep) := goodIn_app (goodIn_of _ (by decide +kernel)) ggX0_wafersAtByWafers_X0_checkStep
set_option maxRecDepth 20000 in
theorem ggX0_wafersAtByWafers_X0_isLot : GoodIn wsX0_wafersAtByWafers wsX0_isLot := goodIn_r _ [19, 20, 21, 22, 23, 24, 25, 26, 27, 28, 29, 30, 31, 32, 33, 34, 35, 36, 37, 38] (by decide +kernel) (by decide +kernel)
set_option maxRecDepth 20000 in
theorem gX0_wafersAtByWafers_X0_isLot : GoodIn wsX0_wafersAtByWafers (wsV RX0 147 RX0 yX0_isLot wsX0_isLot) := goodIn_app (goodIn_of _ (by decide +kernel)) ggX0_wafersAtByWafers_X0_isLot
theorem dX0_wafersAtByWafers_0 : decode cX0_wafersAtByWafers 0 = .ok (.aload_n 0, 1) := by decide +kernel
theorem dX0_wafersAtByWafers_1 : decode cX0_wafersAtByWafers 1 = .ok (.iload_n 1, 1) := by decide +kernel
theorem dX0_wafersAtByWafers_2 : decode cX0_wafersAtByWafers 2 = .ok (.invokevirtual 166, 3) := by decide +kernel
theorem dX0_wafersAtByWafers_5 : decode cX0_wafersAtByWafers 5 = .ok (.iconst 0, 1) := by decide +kernel
theorem dX0_wafersAtByWafers_6 : decode cX0_wafersAtByWafers 6 = .ok (.istore_n 2, 1) := by decide +kernel
theorem dX0_wafersAtByWafers_7 : decode cX0_wafersAtByWafers 7 = .ok (.iconst 0, 1) := by decide +kernel
theorem dX0_wafersAtByWafers_8 : decode cX0_wafersAtByWafers 8 = .ok (.istore_n 3, 1) := by decide +kernel
theorem dX0_wafersAtByWafers_9 : decode cX0_wafersAtByWafers 9 = .ok (.iload_n 3, 1) := by decide +kernel
theorem dX0_wafersAtByWafers_10 : decode cX0_wafersAtByWafers 10 = .ok (.aload_n 0, 1) := by decide +kernel
theorem dX0_wafersAtByWafers_11 : decode cX0_wafersAtByWafers 11 = .ok (.getfield 62, 3) := by decide +kernel
theorem dX0_wafersAtByWafers_14 : decode cX0_wafersAtByWafers 14 = .ok (.if_icmp .ge 40, 3) := by decide +kernel
theorem dX0_wafersAtByWafers_17 : decode cX0_wafersAtByWafers 17 = .ok (.aload_n 0, 1) := by decide +kernel
theorem dX0_wafersAtByWafers_18 : decode cX0_wafersAtByWafers 18 = .ok (.getfield 51, 3) := by decide +kernel
theorem dX0_wafersAtByWafers_21 : decode cX0_wafersAtByWafers 21 = .ok (.iload_n 3, 1) := by decide +kernel
theorem dX0_wafersAtByWafers_22 : decode cX0_wafersAtByWafers 22 = .ok (.iaload, 1) := by decide +kernel
theorem dX0_wafersAtByWafers_23 : decode cX0_wafersAtByWafers 23 = .ok (.istore 4, 2) := by decide +kernel
theorem dX0_wafersAtByWafers_25 : decode cX0_wafersAtByWafers 25 = .ok (.aload_n 0, 1) := by decide +kernel
theorem dX0_wafersAtByWafers_26 : decode cX0_wafersAtByWafers 26 = .ok (.iload 4, 2) := by decide +kernel
theorem dX0_wafersAtByWafers_28 : decode cX0_wafersAtByWafers 28 = .ok (.invokevirtual 147, 3) := by decide +kernel
theorem dX0_wafersAtByWafers_31 : decode cX0_wafersAtByWafers 31 = .ok (.ifCond .eq 17, 3) := by decide +kernel
theorem dX0_wafersAtByWafers_34 : decode cX0_wafersAtByWafers 34 = .ok (.aload_n 0, 1) := by decide +kernel
theorem dX0_wafersAtByWafers_35 : decode cX0_wafersAtByWafers 35 = .ok (.getfield 29, 3) := by decide +kernel
theorem dX0_wafersAtByWafers_38 : decode cX0_wafersAtByWafers 38 = .ok (.iload 4, 2) := by decide +kernel
theorem dX0_wafersAtByWafers_40 : decode cX0_wafersAtByWafers 40 = .ok (.iaload, 1) := by decide +kernel
theorem dX0_wafersAtByWafers_41 : decode cX0_wafersAtByWafers 41 = .ok (.iload_n 1, 1) := by decide +kernel
theorem dX0_wafersAtByWafers_42 : decode cX0_wafersAtByWafers 42 = .ok (.if_icmp .ne 6, 3) := by decide +kernel
theorem dX0_wafersAtByWafers_45 : decode cX0_wafersAtByWafers 45 = .ok (.iinc 2 1, 3) := by decide +kernel
theorem dX0_wafersAtByWafers_48 : decode cX0_wafersAtByWafers 48 = .ok (.iinc 3 1, 3) := by decide +kernel
theorem dX0_wafersAtByWafers_51 : decode cX0_wafersAtByWafers 51 = .ok (.goto (-42), 3) := by decide +kernel
theorem dX0_wafersAtByWafers_54 : decode cX0_wafersAtByWafers 54 = .ok (.iload_n 2, 1) := by decide +kernel
theorem dX0_wafersAtByWafers_55 : decode cX0_wafersAtByWafers 55 = .ok (.ireturn, 1) := by decide +kernel
set_option maxRecDepth 20000 in
theorem ggX0_lotOf_X0_checkWafer : GoodIn wsX0_lotOf wsX0_checkWafer := goodIn_ca (goodIn_r _ [6, 7, 8, 9, 10, 11, 12, 13, 14, 15, 16, 17, 18, 19, 20, 21, 22, 23, 24, 25, 26, 27] (by decide +kernel) (by decide +kernel)) (goodIn_sub (fun _ h => List.mem_cons_of_mem _ (List.mem_append_right _ h)) (by decide +kernel))
set_option maxRecDepth 20000 in
theorem gX0_lotOf_X0_checkWafer : GoodIn wsX0_lotOf (wsV RX0 144 RX0 yX0_checkWafer wsX0_checkWafer) := goodIn_app (goodIn_of _ (by decide +kernel)) ggX0_lotOf_X0_checkWafer
theorem dX0_lotOf_0 : decode cX0_lotOf 0 = .ok (.aload_n 0, 1) := by decide +kernel
theorem dX0_lotOf_1 : decode cX0_lotOf 1 = .ok (.iload_n 1, 1) := by decide +kernel
theorem dX0_lotOf_2 : decode cX0_lotOf 2 = .ok (.invokevirtual 144, 3) := by decide +kernel
theorem dX0_lotOf_5 : decode cX0_lotOf 5 = .ok (.aload_n 0, 1) := by decide +kernel
theorem dX0_lotOf_6 : decode cX0_lotOf 6 = .ok (.getfield 51, 3) := by decide +kernel
theorem dX0_lotOf_9 : decode cX0_lotOf 9 = .ok (.iload_n 1, 1) := by decide +kernel
theorem dX0_lotOf_10 : decode cX0_lotOf 10 = .ok (.iaload, 1) := by decide +kernel
theorem dX0_lotOf_11 : decode cX0_lotOf 11 = .ok (.ireturn, 1) := by decide +kernel
set_option maxRecDepth 20000 in
theorem ggX0_parentOf_X0_checkLot : GoodIn wsX0_parentOf wsX0_checkLot := goodIn_ca (goodIn_r _ [6, 7, 8, 9, 10, 11, 5, 12, 13, 14, 15, 16, 17, 18, 19, 20, 21, 22, 23, 24, 25, 26, 27, 28, 29, 30, 31] (by decide +kernel) (by decide +kernel)) (goodIn_sub (fun _ h => List.mem_cons_of_mem _ (List.mem_append_right _ h)) (by decide +kernel))
set_option maxRecDepth 20000 in
theorem gX0_parentOf_X0_checkLot : GoodIn wsX0_parentOf (wsV RX0 99 RX0 yX0_checkLot wsX0_checkLot) := goodIn_app (goodIn_of _ (by decide +kernel)) ggX0_parentOf_X0_checkLot
theorem dX0_parentOf_0 : decode cX0_parentOf 0 = .ok (.aload_n 0, 1) := by decide +kernel
theorem dX0_parentOf_1 : decode cX0_parentOf 1 = .ok (.iload_n 1, 1) := by decide +kernel
theorem dX0_parentOf_2 : decode cX0_parentOf 2 = .ok (.invokevirtual 99, 3) := by decide +kernel
theorem dX0_parentOf_5 : decode cX0_parentOf 5 = .ok (.aload_n 0, 1) := by decide +kernel
theorem dX0_parentOf_6 : decode cX0_parentOf 6 = .ok (.getfield 42, 3) := by decide +kernel
theorem dX0_parentOf_9 : decode cX0_parentOf 9 = .ok (.iload_n 1, 1) := by decide +kernel
theorem dX0_parentOf_10 : decode cX0_parentOf 10 = .ok (.iaload, 1) := by decide +kernel
theorem dX0_parentOf_11 : decode cX0_parentOf 11 = .ok (.ireturn, 1) := by decide +kernel
set_option maxRecDepth 20000 in
theorem ggX0_common_X0_checkLot : GoodIn wsX0_common wsX0_checkLot := goodIn_ca (goodIn_r _ [5, 6, 7, 8, 9, 10, 4, 11, 12, 18, 19, 20, 21, 22, 23, 24, 25, 26, 27, 28, 29, 30, 31, 32, 33, 34, 35] (by decide +kernel) (by decide +kernel)) (goodIn_sub (fun _ h => List.mem_cons_of_mem _ (List.mem_append_right _ h)) (by decide +kernel))
set_option maxRecDepth 20000 in
theorem gX0_common_X0_checkLot : GoodIn wsX0_common (wsV RX0 99 RX0 yX0_checkLot wsX0_checkLot) := goodIn_app (goodIn_of _ (by decide +kernel)) ggX0_common_X0_checkLot
set_option maxRecDepth 20000 in
theorem ggX0_common_X0_parentOrNone : GoodIn wsX0_common wsX0_parentOrNone := goodIn_r _ [16, 17, 8, 9, 10, 4, 11, 12, 18, 19, 20, 21, 22, 23, 24, 25, 26, 27, 28, 29, 30, 31, 32, 33, 34, 35] (by decide +kernel) (by decide +kernel)
set_option maxRecDepth 20000 in
theorem gX0_common_X0_parentOrNone : GoodIn wsX0_common (wsV RX0 169 RX0 yX0_parentOrNone wsX0_parentOrNone) := goodIn_app (goodIn_of _ (by decide +kernel)) ggX0_common_X0_parentOrNone
theorem dX0_common_0 : decode cX0_common 0 = .ok (.aload_n 0, 1) := by decide +kernel
theorem dX0_common_1 : decode cX0_common 1 = .ok (.iload_n 1, 1) := by decide +kernel
theorem dX0_common_2 : decode cX0_common 2 = .ok (.invokevirtual 99, 3) := by decide +kernel
theorem dX0_common_5 : decode cX0_common 5 = .ok (.aload_n 0, 1) := by decide +kernel
theorem dX0_common_6 : decode cX0_common 6 = .ok (.iload_n 2, 1) := by decide +kernel
theorem dX0_common_7 : decode cX0_common 7 = .ok (.invokevirtual 99, 3) := by decide +kernel
theorem dX0_common_10 : decode cX0_common 10 = .ok (.iload_n 1, 1) := by decide +kernel
theorem dX0_common_11 : decode cX0_common 11 = .ok (.istore_n 3, 1) := by decide +kernel
theorem dX0_common_12 : decode cX0_common 12 = .ok (.iload_n 2, 1) := by decide +kernel
theorem dX0_common_13 : decode cX0_common 13 = .ok (.istore 4, 2) := by decide +kernel
theorem dX0_common_15 : decode cX0_common 15 = .ok (.iconst 0, 1) := by decide +kernel
theorem dX0_common_16 : decode cX0_common 16 = .ok (.istore 5, 2) := by decide +kernel
theorem dX0_common_18 : decode cX0_common 18 = .ok (.iload 5, 2) := by decide +kernel
theorem dX0_common_20 : decode cX0_common 20 = .ok (.bipush 48, 2) := by decide +kernel
theorem dX0_common_22 : decode cX0_common 22 = .ok (.if_icmp .ge 38, 3) := by decide +kernel
theorem dX0_common_25 : decode cX0_common 25 = .ok (.iload_n 3, 1) := by decide +kernel
theorem dX0_common_26 : decode cX0_common 26 = .ok (.iload 4, 2) := by decide +kernel
theorem dX0_common_28 : decode cX0_common 28 = .ok (.if_icmp .eq 32, 3) := by decide +kernel
theorem dX0_common_31 : decode cX0_common 31 = .ok (.iload_n 3, 1) := by decide +kernel
theorem dX0_common_32 : decode cX0_common 32 = .ok (.iload 4, 2) := by decide +kernel
theorem dX0_common_34 : decode cX0_common 34 = .ok (.if_icmp .le 12, 3) := by decide +kernel
theorem dX0_common_37 : decode cX0_common 37 = .ok (.aload_n 0, 1) := by decide +kernel
theorem dX0_common_38 : decode cX0_common 38 = .ok (.iload_n 3, 1) := by decide +kernel
theorem dX0_common_39 : decode cX0_common 39 = .ok (.invokevirtual 169, 3) := by decide +kernel
theorem dX0_common_42 : decode cX0_common 42 = .ok (.istore_n 3, 1) := by decide +kernel
theorem dX0_common_43 : decode cX0_common 43 = .ok (.goto 11, 3) := by decide +kernel
theorem dX0_common_46 : decode cX0_common 46 = .ok (.aload_n 0, 1) := by decide +kernel
theorem dX0_common_47 : decode cX0_common 47 = .ok (.iload 4, 2) := by decide +kernel
theorem dX0_common_49 : decode cX0_common 49 = .ok (.invokevirtual 169, 3) := by decide +kernel
theorem dX0_common_52 : decode cX0_common 52 = .ok (.istore 4, 2) := by decide +kernel
theorem dX0_common_54 : decode cX0_common 54 = .ok (.iinc 5 1, 3) := by decide +kernel
theorem dX0_common_57 : decode cX0_common 57 = .ok (.goto (-39), 3) := by decide +kernel
theorem dX0_common_60 : decode cX0_common 60 = .ok (.iload_n 3, 1) := by decide +kernel
theorem dX0_common_61 : decode cX0_common 61 = .ok (.ireturn, 1) := by decide +kernel
set_option maxRecDepth 20000 in
theorem ggX0_path_X0_checkWafer : GoodIn wsX0_path wsX0_checkWafer := goodIn_ca (goodIn_r _ [6, 7, 8, 9, 10, 11, 12, 13, 14, 15, 16, 17, 18, 19, 20, 21, 22, 23, 24, 25, 26, 27] (by decide +kernel) (by decide +kernel)) (goodIn_sub (fun _ h => List.mem_cons_of_mem _ (List.mem_append_right _ h)) (by decide +kernel))
set_option maxRecDepth 20000 in
theorem gX0_path_X0_checkWafer : GoodIn wsX0_path (wsV RX0 144 RX0 yX0_checkWafer wsX0_checkWafer) := goodIn_app (goodIn_of _ (by decide +kernel)) ggX0_path_X0_checkWafer
theorem dX0_path_0 : decode cX0_path 0 = .ok (.aload_n 0, 1) := by decide +kernel
theorem dX0_path_1 : decode cX0_path 1 = .ok (.iload_n 1, 1) := by decide +kernel
theorem dX0_path_2 : decode cX0_path 2 = .ok (.invokevirtual 144, 3) := by decide +kernel
theorem dX0_path_5 : decode cX0_path 5 = .ok (.aload_n 0, 1) := by decide +kernel
theorem dX0_path_6 : decode cX0_path 6 = .ok (.getfield 59, 3) := by decide +kernel
theorem dX0_path_9 : decode cX0_path 9 = .ok (.iload_n 1, 1) := by decide +kernel
theorem dX0_path_10 : decode cX0_path 10 = .ok (.iaload, 1) := by decide +kernel
theorem dX0_path_11 : decode cX0_path 11 = .ok (.ireturn, 1) := by decide +kernel
set_option maxRecDepth 20000 in
theorem ggX0_pathAt_X0_checkWafer : GoodIn wsX0_pathAt wsX0_checkWafer := goodIn_ca (goodIn_r _ [9, 1, 2, 10, 14, 15, 16, 17, 18, 19, 20, 21, 22, 23, 24, 25, 26, 27, 28, 29, 30, 31] (by decide +kernel) (by decide +kernel)) (goodIn_sub (fun _ h => List.mem_cons_of_mem _ (List.mem_append_right _ h)) (by decide +kernel))
set_option maxRecDepth 20000 in
theorem gX0_pathAt_X0_checkWafer : GoodIn wsX0_pathAt (wsV RX0 144 RX0 yX0_checkWafer wsX0_checkWafer) := goodIn_app (goodIn_of _ (by decide +kernel)) ggX0_pathAt_X0_checkWafer
set_option maxRecDepth 20000 in
theorem ggX0_pathAt_X0_isWithin : GoodIn wsX0_pathAt wsX0_isWithin := goodIn_r _ [13] (by decide +kernel) (by decide +kernel)
set_option maxRecDepth 20000 in
theorem gX0_pathAt_X0_isWithin : GoodIn wsX0_pathAt (va_wsS RX0 72 yX0_isWithin wsX0_isWithin) := goodIn_app (goodIn_of _ (by decide +kernel)) ggX0_pathAt_X0_isWithin
theorem dX0_pathAt_0 : decode cX0_pathAt 0 = .ok (.aload_n 0, 1) := by decide +kernel
theorem dX0_pathAt_1 : decode cX0_pathAt 1 = .ok (.iload_n 1, 1) := by decide +kernel
theorem dX0_pathAt_2 : decode cX0_pathAt 2 = .ok (.invokevirtual 144, 3) := by decide +kernel
theorem dX0_pathAt_5 : decode cX0_pathAt 5 = .ok (.iload_n 2, 1) := by decide +kernel
theorem dX0_pathAt_6 : decode cX0_pathAt 6 = .ok (.iconst 0, 1) := by decide +kernel
theorem dX0_pathAt_7 : decode cX0_pathAt 7 = .ok (.aload_n 0, 1) := by decide +kernel
theorem dX0_pathAt_8 : decode cX0_pathAt 8 = .ok (.getfield 59, 3) := by decide +kernel
theorem dX0_pathAt_11 : decode cX0_pathAt 11 = .ok (.iload_n 1, 1) := by decide +kernel
theorem dX0_pathAt_12 : decode cX0_pathAt 12 = .ok (.iaload, 1) := by decide +kernel
theorem dX0_pathAt_13 : decode cX0_pathAt 13 = .ok (.iconst 1, 1) := by decide +kernel
theorem dX0_pathAt_14 : decode cX0_pathAt 14 = .ok (.isub, 1) := by decide +kernel
theorem dX0_pathAt_15 : decode cX0_pathAt 15 = .ok (.invokestatic 72, 3) := by decide +kernel
theorem dX0_pathAt_18 : decode cX0_pathAt 18 = .ok (.ifCond .ne 13, 3) := by decide +kernel
theorem dX0_pathAt_21 : decode cX0_pathAt 21 = .ok (.new 172, 3) := by decide +kernel
theorem dX0_pathAt_24 : decode cX0_pathAt 24 = .ok (.dup, 1) := by decide +kernel
theorem dX0_pathAt_25 : decode cX0_pathAt 25 = .ok (.ldc 174, 2) := by decide +kernel
theorem dX0_pathAt_27 : decode cX0_pathAt 27 = .ok (.invokespecial 176, 3) := by decide +kernel
theorem dX0_pathAt_30 : decode cX0_pathAt 30 = .ok (.athrow, 1) := by decide +kernel
theorem dX0_pathAt_31 : decode cX0_pathAt 31 = .ok (.aload_n 0, 1) := by decide +kernel
theorem dX0_pathAt_32 : decode cX0_pathAt 32 = .ok (.getfield 56, 3) := by decide +kernel
theorem dX0_pathAt_35 : decode cX0_pathAt 35 = .ok (.iload_n 1, 1) := by decide +kernel
theorem dX0_pathAt_36 : decode cX0_pathAt 36 = .ok (.aaload, 1) := by decide +kernel
theorem dX0_pathAt_37 : decode cX0_pathAt 37 = .ok (.iload_n 2, 1) := by decide +kernel
theorem dX0_pathAt_38 : decode cX0_pathAt 38 = .ok (.iaload, 1) := by decide +kernel
theorem dX0_pathAt_39 : decode cX0_pathAt 39 = .ok (.ireturn, 1) := by decide +kernel
theorem dX0_isWithin_0 : decode cX0_isWithin 0 = .ok (.iload_n 0, 1) := by decide +kernel
theorem dX0_isWithin_1 : decode cX0_isWithin 1 = .ok (.iload_n 1, 1) := by decide +kernel
theorem dX0_isWithin_2 : decode cX0_isWithin 2 = .ok (.if_icmp .lt 12, 3) := by decide +kernel
theorem dX0_isWithin_5 : decode cX0_isWithin 5 = .ok (.iload_n 0, 1) := by decide +kernel
theorem dX0_isWithin_6 : decode cX0_isWithin 6 = .ok (.iload_n 2, 1) := by decide +kernel
theorem dX0_isWithin_7 : decode cX0_isWithin 7 = .ok (.if_icmp .gt 7, 3) := by decide +kernel
theorem dX0_isWithin_10 : decode cX0_isWithin 10 = .ok (.iconst 1, 1) := by decide +kernel
theorem dX0_isWithin_11 : decode cX0_isWithin 11 = .ok (.goto 4, 3) := by decide +kernel
theorem dX0_isWithin_14 : decode cX0_isWithin 14 = .ok (.iconst 0, 1) := by decide +kernel
theorem dX0_isWithin_15 : decode cX0_isWithin 15 = .ok (.ireturn, 1) := by decide +kernel
theorem dX0_isStep_0 : decode cX0_isStep 0 = .ok (.iload_n 1, 1) := by decide +kernel
theorem dX0_isStep_1 : decode cX0_isStep 1 = .ok (.ifCond .lt 15, 3) := by decide +kernel
theorem dX0_isStep_4 : decode cX0_isStep 4 = .ok (.iload_n 1, 1) := by decide +kernel
theorem dX0_isStep_5 : decode cX0_isStep 5 = .ok (.aload_n 0, 1) := by decide +kernel
theorem dX0_isStep_6 : decode cX0_isStep 6 = .ok (.getfield 22, 3) := by decide +kernel
theorem dX0_isStep_9 : decode cX0_isStep 9 = .ok (.if_icmp .ge 7, 3) := by decide +kernel
theorem dX0_isStep_12 : decode cX0_isStep 12 = .ok (.iconst 1, 1) := by decide +kernel
theorem dX0_isStep_13 : decode cX0_isStep 13 = .ok (.goto 4, 3) := by decide +kernel
theorem dX0_isStep_16 : decode cX0_isStep 16 = .ok (.iconst 0, 1) := by decide +kernel
theorem dX0_isStep_17 : decode cX0_isStep 17 = .ok (.ireturn, 1) := by decide +kernel
theorem dX0_isLot_0 : decode cX0_isLot 0 = .ok (.iload_n 1, 1) := by decide +kernel
theorem dX0_isLot_1 : decode cX0_isLot 1 = .ok (.ifCond .lt 15, 3) := by decide +kernel
theorem dX0_isLot_4 : decode cX0_isLot 4 = .ok (.iload_n 1, 1) := by decide +kernel
theorem dX0_isLot_5 : decode cX0_isLot 5 = .ok (.aload_n 0, 1) := by decide +kernel
theorem dX0_isLot_6 : decode cX0_isLot 6 = .ok (.getfield 48, 3) := by decide +kernel
theorem dX0_isLot_9 : decode cX0_isLot 9 = .ok (.if_icmp .ge 7, 3) := by decide +kernel
theorem dX0_isLot_12 : decode cX0_isLot 12 = .ok (.iconst 1, 1) := by decide +kernel
theorem dX0_isLot_13 : decode cX0_isLot 13 = .ok (.goto 4, 3) := by decide +kernel
theorem dX0_isLot_16 : decode cX0_isLot 16 = .ok (.iconst 0, 1) := by decide +kernel
theorem dX0_isLot_17 : decode cX0_isLot 17 = .ok (.ireturn, 1) := by decide +kernel
set_option maxRecDepth 20000 in
theorem ggX0_checkTool_X0_isWithin : GoodIn wsX0_checkTool wsX0_isWithin := goodIn_r _ [6] (by decide +kernel) (by decide +kernel)
set_option maxRecDepth 20000 in
theorem gX0_checkTool_X0_isWithin : GoodIn wsX0_checkTool (va_wsS RX0 72 yX0_isWithin wsX0_isWithin) := goodIn_app (goodIn_of _ (by decide +kernel)) ggX0_checkTool_X0_isWithin
theorem dX0_checkTool_0 : decode cX0_checkTool 0 = .ok (.iload_n 0, 1) := by decide +kernel
theorem dX0_checkTool_1 : decode cX0_checkTool 1 = .ok (.iconst 0, 1) := by decide +kernel
theorem dX0_checkTool_2 : decode cX0_checkTool 2 = .ok (.iconst 5, 1) := by decide +kernel
theorem dX0_checkTool_3 : decode cX0_checkTool 3 = .ok (.invokestatic 72, 3) := by decide +kernel
theorem dX0_checkTool_6 : decode cX0_checkTool 6 = .ok (.ifCond .ne 13, 3) := by decide +kernel
theorem dX0_checkTool_9 : decode cX0_checkTool 9 = .ok (.new 172, 3) := by decide +kernel
theorem dX0_checkTool_12 : decode cX0_checkTool 12 = .ok (.dup, 1) := by decide +kernel
theorem dX0_checkTool_13 : decode cX0_checkTool 13 = .ok (.ldc 177, 2) := by decide +kernel
theorem dX0_checkTool_15 : decode cX0_checkTool 15 = .ok (.invokespecial 176, 3) := by decide +kernel
theorem dX0_checkTool_18 : decode cX0_checkTool 18 = .ok (.athrow, 1) := by decide +kernel
theorem dX0_checkTool_19 : decode cX0_checkTool 19 = .ok (.return_, 1) := by decide +kernel
set_option maxRecDepth 20000 in
theorem ggX0_checkStep_X0_isStep : GoodIn wsX0_checkStep wsX0_isStep := goodIn_r _ [7, 8, 9, 10, 11, 12, 13, 14, 15, 16, 17, 18, 19, 20, 21, 22, 23, 24, 25, 26] (by decide +kernel) (by decide +kernel)
set_option maxRecDepth 20000 in
theorem gX0_checkStep_X0_isStep : GoodIn wsX0_checkStep (wsV RX0 106 RX0 yX0_isStep wsX0_isStep) := goodIn_app (goodIn_of _ (by decide +kernel)) ggX0_checkStep_X0_isStep
theorem dX0_checkStep_0 : decode cX0_checkStep 0 = .ok (.aload_n 0, 1) := by decide +kernel
theorem dX0_checkStep_1 : decode cX0_checkStep 1 = .ok (.iload_n 1, 1) := by decide +kernel
theorem dX0_checkStep_2 : decode cX0_checkStep 2 = .ok (.invokevirtual 106, 3) := by decide +kernel
theorem dX0_checkStep_5 : decode cX0_checkStep 5 = .ok (.ifCond .ne 13, 3) := by decide +kernel
theorem dX0_checkStep_8 : decode cX0_checkStep 8 = .ok (.new 172, 3) := by decide +kernel
theorem dX0_checkStep_11 : decode cX0_checkStep 11 = .ok (.dup, 1) := by decide +kernel
theorem dX0_checkStep_12 : decode cX0_checkStep 12 = .ok (.ldc 179, 2) := by decide +kernel
theorem dX0_checkStep_14 : decode cX0_checkStep 14 = .ok (.invokespecial 176, 3) := by decide +kernel
theorem dX0_checkStep_17 : decode cX0_checkStep 17 = .ok (.athrow, 1) := by decide +kernel
theorem dX0_checkStep_18 : decode cX0_checkStep 18 = .ok (.return_, 1) := by decide +kernel
set_option maxRecDepth 20000 in
theorem ggX0_checkLot_X0_isLot : GoodIn wsX0_checkLot wsX0_isLot := goodIn_r _ [7, 8, 9, 10, 11, 12, 13, 14, 15, 16, 17, 18, 19, 20, 21, 22, 23, 24, 25, 26] (by decide +kernel) (by decide +kernel)
set_option maxRecDepth 20000 in
theorem gX0_checkLot_X0_isLot : GoodIn wsX0_checkLot (wsV RX0 147 RX0 yX0_isLot wsX0_isLot) := goodIn_app (goodIn_of _ (by decide +kernel)) ggX0_checkLot_X0_isLot
theorem dX0_checkLot_0 : decode cX0_checkLot 0 = .ok (.aload_n 0, 1) := by decide +kernel
theorem dX0_checkLot_1 : decode cX0_checkLot 1 = .ok (.iload_n 1, 1) := by decide +kernel
theorem dX0_checkLot_2 : decode cX0_checkLot 2 = .ok (.invokevirtual 147, 3) := by decide +kernel
theorem dX0_checkLot_5 : decode cX0_checkLot 5 = .ok (.ifCond .ne 13, 3) := by decide +kernel
theorem dX0_checkLot_8 : decode cX0_checkLot 8 = .ok (.new 172, 3) := by decide +kernel
theorem dX0_checkLot_11 : decode cX0_checkLot 11 = .ok (.dup, 1) := by decide +kernel
theorem dX0_checkLot_12 : decode cX0_checkLot 12 = .ok (.ldc 181, 2) := by decide +kernel
theorem dX0_checkLot_14 : decode cX0_checkLot 14 = .ok (.invokespecial 176, 3) := by decide +kernel
theorem dX0_checkLot_17 : decode cX0_checkLot 17 = .ok (.athrow, 1) := by decide +kernel
theorem dX0_checkLot_18 : decode cX0_checkLot 18 = .ok (.return_, 1) := by decide +kernel
theorem dX0_checkWafer_0 : decode cX0_checkWafer 0 = .ok (.iload_n 1, 1) := by decide +kernel
theorem dX0_checkWafer_1 : decode cX0_checkWafer 1 = .ok (.ifCond .lt 11, 3) := by decide +kernel
theorem dX0_checkWafer_4 : decode cX0_checkWafer 4 = .ok (.iload_n 1, 1) := by decide +kernel
theorem dX0_checkWafer_5 : decode cX0_checkWafer 5 = .ok (.aload_n 0, 1) := by decide +kernel
theorem dX0_checkWafer_6 : decode cX0_checkWafer 6 = .ok (.getfield 62, 3) := by decide +kernel
theorem dX0_checkWafer_9 : decode cX0_checkWafer 9 = .ok (.if_icmp .lt 13, 3) := by decide +kernel
theorem dX0_checkWafer_12 : decode cX0_checkWafer 12 = .ok (.new 172, 3) := by decide +kernel
theorem dX0_checkWafer_15 : decode cX0_checkWafer 15 = .ok (.dup, 1) := by decide +kernel
theorem dX0_checkWafer_16 : decode cX0_checkWafer 16 = .ok (.ldc 183, 2) := by decide +kernel
theorem dX0_checkWafer_18 : decode cX0_checkWafer 18 = .ok (.invokespecial 176, 3) := by decide +kernel
theorem dX0_checkWafer_21 : decode cX0_checkWafer 21 = .ok (.athrow, 1) := by decide +kernel
theorem dX0_checkWafer_22 : decode cX0_checkWafer 22 = .ok (.return_, 1) := by decide +kernel
theorem dX0_isFree_0 : decode cX0_isFree 0 = .ok (.aload_n 0, 1) := by decide +kernel
theorem dX0_isFree_1 : decode cX0_isFree 1 = .ok (.getfield 26, 3) := by decide +kernel
theorem dX0_isFree_4 : decode cX0_isFree 4 = .ok (.iload_n 1, 1) := by decide +kernel
theorem dX0_isFree_5 : decode cX0_isFree 5 = .ok (.iaload, 1) := by decide +kernel
theorem dX0_isFree_6 : decode cX0_isFree 6 = .ok (.ifCond .ne 16, 3) := by decide +kernel
theorem dX0_isFree_9 : decode cX0_isFree 9 = .ok (.aload_n 0, 1) := by decide +kernel
theorem dX0_isFree_10 : decode cX0_isFree 10 = .ok (.getfield 35, 3) := by decide +kernel
theorem dX0_isFree_13 : decode cX0_isFree 13 = .ok (.iload_n 1, 1) := by decide +kernel
theorem dX0_isFree_14 : decode cX0_isFree 14 = .ok (.baload, 1) := by decide +kernel
theorem dX0_isFree_15 : decode cX0_isFree 15 = .ok (.ifCond .ne 7, 3) := by decide +kernel
theorem dX0_isFree_18 : decode cX0_isFree 18 = .ok (.iconst 1, 1) := by decide +kernel
theorem dX0_isFree_19 : decode cX0_isFree 19 = .ok (.goto 4, 3) := by decide +kernel
theorem dX0_isFree_22 : decode cX0_isFree 22 = .ok (.iconst 0, 1) := by decide +kernel
theorem dX0_isFree_23 : decode cX0_isFree 23 = .ok (.ireturn, 1) := by decide +kernel
set_option maxRecDepth 20000 in
theorem ggX0_isReady_X0_isFree : GoodIn wsX0_isReady wsX0_isFree := goodIn_r _ [5, 6, 7, 23, 24, 25, 26, 27, 28, 29, 30, 31, 32, 33, 34, 35, 36, 37, 38, 39, 40] (by decide +kernel) (by decide +kernel)
set_option maxRecDepth 20000 in
theorem gX0_isReady_X0_isFree : GoodIn wsX0_isReady (wsV RX0 114 RX0 yX0_isFree wsX0_isFree) := goodIn_app (goodIn_of _ (by decide +kernel)) ggX0_isReady_X0_isFree
set_option maxRecDepth 20000 in
theorem ggX0_isReady_X0_waitingLeft : GoodIn wsX0_isReady wsX0_waitingLeft := goodIn_r _ [11, 12, 6, 13, 14, 15, 16, 17, 18, 19, 20, 4, 21, 22, 23, 24, 25, 26, 27, 28, 29, 30, 31, 32, 33, 34, 35, 36, 37, 38, 39, 40] (by decide +kernel) (by decide +kernel)
set_option maxRecDepth 20000 in
theorem gX0_isReady_X0_waitingLeft : GoodIn wsX0_isReady (wsV RX0 157 RX0 yX0_waitingLeft wsX0_waitingLeft) := goodIn_app (goodIn_of _ (by decide +kernel)) ggX0_isReady_X0_waitingLeft
theorem dX0_isReady_0 : decode cX0_isReady 0 = .ok (.aload_n 0, 1) := by decide +kernel
theorem dX0_isReady_1 : decode cX0_isReady 1 = .ok (.iload_n 1, 1) := by decide +kernel
theorem dX0_isReady_2 : decode cX0_isReady 2 = .ok (.invokevirtual 114, 3) := by decide +kernel
theorem dX0_isReady_5 : decode cX0_isReady 5 = .ok (.ifCond .eq 15, 3) := by decide +kernel
theorem dX0_isReady_8 : decode cX0_isReady 8 = .ok (.aload_n 0, 1) := by decide +kernel
theorem dX0_isReady_9 : decode cX0_isReady 9 = .ok (.iload_n 1, 1) := by decide +kernel
theorem dX0_isReady_10 : decode cX0_isReady 10 = .ok (.invokevirtual 157, 3) := by decide +kernel
theorem dX0_isReady_13 : decode cX0_isReady 13 = .ok (.ifCond .lt 7, 3) := by decide +kernel
theorem dX0_isReady_16 : decode cX0_isReady 16 = .ok (.iconst 1, 1) := by decide +kernel
theorem dX0_isReady_17 : decode cX0_isReady 17 = .ok (.goto 4, 3) := by decide +kernel
theorem dX0_isReady_20 : decode cX0_isReady 20 = .ok (.iconst 0, 1) := by decide +kernel
theorem dX0_isReady_21 : decode cX0_isReady 21 = .ok (.ireturn, 1) := by decide +kernel
set_option maxRecDepth 20000 in
theorem ggX0_usesTool_X0_isStep : GoodIn wsX0_usesTool wsX0_isStep := goodIn_r _ [7, 8, 9, 10, 11, 12, 13, 14, 15, 16, 17, 18, 19, 20, 21, 22, 23, 24, 25, 26] (by decide +kernel) (by decide +kernel)
set_option maxRecDepth 20000 in
theorem gX0_usesTool_X0_isStep : GoodIn wsX0_usesTool (wsV RX0 106 RX0 yX0_isStep wsX0_isStep) := goodIn_app (goodIn_of _ (by decide +kernel)) ggX0_usesTool_X0_isStep
theorem dX0_usesTool_0 : decode cX0_usesTool 0 = .ok (.aload_n 0, 1) := by decide +kernel
theorem dX0_usesTool_1 : decode cX0_usesTool 1 = .ok (.getfield 29, 3) := by decide +kernel
theorem dX0_usesTool_4 : decode cX0_usesTool 4 = .ok (.iload_n 1, 1) := by decide +kernel
theorem dX0_usesTool_5 : decode cX0_usesTool 5 = .ok (.iaload, 1) := by decide +kernel
theorem dX0_usesTool_6 : decode cX0_usesTool 6 = .ok (.istore_n 3, 1) := by decide +kernel
theorem dX0_usesTool_7 : decode cX0_usesTool 7 = .ok (.aload_n 0, 1) := by decide +kernel
theorem dX0_usesTool_8 : decode cX0_usesTool 8 = .ok (.iload_n 3, 1) := by decide +kernel
theorem dX0_usesTool_9 : decode cX0_usesTool 9 = .ok (.invokevirtual 106, 3) := by decide +kernel
theorem dX0_usesTool_12 : decode cX0_usesTool 12 = .ok (.ifCond .eq 17, 3) := by decide +kernel
theorem dX0_usesTool_15 : decode cX0_usesTool 15 = .ok (.aload_n 0, 1) := by decide +kernel
theorem dX0_usesTool_16 : decode cX0_usesTool 16 = .ok (.getfield 9, 3) := by decide +kernel
theorem dX0_usesTool_19 : decode cX0_usesTool 19 = .ok (.iload_n 3, 1) := by decide +kernel
theorem dX0_usesTool_20 : decode cX0_usesTool 20 = .ok (.iaload, 1) := by decide +kernel
theorem dX0_usesTool_21 : decode cX0_usesTool 21 = .ok (.iload_n 2, 1) := by decide +kernel
theorem dX0_usesTool_22 : decode cX0_usesTool 22 = .ok (.if_icmp .ne 7, 3) := by decide +kernel
theorem dX0_usesTool_25 : decode cX0_usesTool 25 = .ok (.iconst 1, 1) := by decide +kernel
theorem dX0_usesTool_26 : decode cX0_usesTool 26 = .ok (.goto 4, 3) := by decide +kernel
theorem dX0_usesTool_29 : decode cX0_usesTool 29 = .ok (.iconst 0, 1) := by decide +kernel
theorem dX0_usesTool_30 : decode cX0_usesTool 30 = .ok (.ireturn, 1) := by decide +kernel
set_option maxRecDepth 20000 in
theorem ggX0_isBusy_X0_usesTool : GoodIn wsX0_isBusy wsX0_usesTool := goodIn_r _ [7, 8, 9, 10, 11, 12, 6, 13, 14, 15, 16, 17, 18, 19, 20, 21, 22, 23, 24, 25, 26, 27, 28, 29, 30, 31, 32] (by decide +kernel) (by decide +kernel)
set_option maxRecDepth 20000 in
theorem gX0_isBusy_X0_usesTool : GoodIn wsX0_isBusy (wsV RX0 162 RX0 yX0_usesTool wsX0_usesTool) := goodIn_app (goodIn_of _ (by decide +kernel)) ggX0_isBusy_X0_usesTool
theorem dX0_isBusy_0 : decode cX0_isBusy 0 = .ok (.iconst 0, 1) := by decide +kernel
theorem dX0_isBusy_1 : decode cX0_isBusy 1 = .ok (.istore_n 2, 1) := by decide +kernel
theorem dX0_isBusy_2 : decode cX0_isBusy 2 = .ok (.iload_n 2, 1) := by decide +kernel
theorem dX0_isBusy_3 : decode cX0_isBusy 3 = .ok (.aload_n 0, 1) := by decide +kernel
theorem dX0_isBusy_4 : decode cX0_isBusy 4 = .ok (.getfield 48, 3) := by decide +kernel
theorem dX0_isBusy_7 : decode cX0_isBusy 7 = .ok (.if_icmp .ge 30, 3) := by decide +kernel
theorem dX0_isBusy_10 : decode cX0_isBusy 10 = .ok (.aload_n 0, 1) := by decide +kernel
theorem dX0_isBusy_11 : decode cX0_isBusy 11 = .ok (.getfield 26, 3) := by decide +kernel
theorem dX0_isBusy_14 : decode cX0_isBusy 14 = .ok (.iload_n 2, 1) := by decide +kernel
theorem dX0_isBusy_15 : decode cX0_isBusy 15 = .ok (.iaload, 1) := by decide +kernel
theorem dX0_isBusy_16 : decode cX0_isBusy 16 = .ok (.iconst 1, 1) := by decide +kernel
theorem dX0_isBusy_17 : decode cX0_isBusy 17 = .ok (.if_icmp .ne 14, 3) := by decide +kernel
theorem dX0_isBusy_20 : decode cX0_isBusy 20 = .ok (.aload_n 0, 1) := by decide +kernel
theorem dX0_isBusy_21 : decode cX0_isBusy 21 = .ok (.iload_n 2, 1) := by decide +kernel
theorem dX0_isBusy_22 : decode cX0_isBusy 22 = .ok (.iload_n 1, 1) := by decide +kernel
theorem dX0_isBusy_23 : decode cX0_isBusy 23 = .ok (.invokevirtual 162, 3) := by decide +kernel
theorem dX0_isBusy_26 : decode cX0_isBusy 26 = .ok (.ifCond .eq 5, 3) := by decide +kernel
theorem dX0_isBusy_29 : decode cX0_isBusy 29 = .ok (.iconst 1, 1) := by decide +kernel
theorem dX0_isBusy_30 : decode cX0_isBusy 30 = .ok (.ireturn, 1) := by decide +kernel
theorem dX0_isBusy_31 : decode cX0_isBusy 31 = .ok (.iinc 2 1, 3) := by decide +kernel
theorem dX0_isBusy_34 : decode cX0_isBusy 34 = .ok (.goto (-32), 3) := by decide +kernel
theorem dX0_isBusy_37 : decode cX0_isBusy 37 = .ok (.iconst 0, 1) := by decide +kernel
theorem dX0_isBusy_38 : decode cX0_isBusy 38 = .ok (.ireturn, 1) := by decide +kernel
set_option maxRecDepth 20000 in
theorem ggX0_waitingLeft_X0_isStep : GoodIn wsX0_waitingLeft wsX0_isStep := goodIn_r _ [12, 13, 14, 15, 16, 17, 18, 19, 20, 21, 22, 23, 24, 25, 26, 27, 28, 29, 30, 31] (by decide +kernel) (by decide +kernel)
set_option maxRecDepth 20000 in
theorem gX0_waitingLeft_X0_isStep : GoodIn wsX0_waitingLeft (wsV RX0 106 RX0 yX0_isStep wsX0_isStep) := goodIn_app (goodIn_of _ (by decide +kernel)) ggX0_waitingLeft_X0_isStep
theorem dX0_waitingLeft_0 : decode cX0_waitingLeft 0 = .ok (.aload_n 0, 1) := by decide +kernel
theorem dX0_waitingLeft_1 : decode cX0_waitingLeft 1 = .ok (.getfield 29, 3) := by decide +kernel
theorem dX0_waitingLeft_4 : decode cX0_waitingLeft 4 = .ok (.iload_n 1, 1) := by decide +kernel
theorem dX0_waitingLeft_5 : decode cX0_waitingLeft 5 = .ok (.iaload, 1) := by decide +kernel
theorem dX0_waitingLeft_6 : decode cX0_waitingLeft 6 = .ok (.istore_n 2, 1) := by decide +kernel
theorem dX0_waitingLeft_7 : decode cX0_waitingLeft 7 = .ok (.aload_n 0, 1) := by decide +kernel
theorem dX0_waitingLeft_8 : decode cX0_waitingLeft 8 = .ok (.getfield 26, 3) := by decide +kernel
theorem dX0_waitingLeft_11 : decode cX0_waitingLeft 11 = .ok (.iload_n 1, 1) := by decide +kernel
theorem dX0_waitingLeft_12 : decode cX0_waitingLeft 12 = .ok (.iaload, 1) := by decide +kernel
theorem dX0_waitingLeft_13 : decode cX0_waitingLeft 13 = .ok (.ifCond .ne 11, 3) := by decide +kernel
theorem dX0_waitingLeft_16 : decode cX0_waitingLeft 16 = .ok (.aload_n 0, 1) := by decide +kernel
theorem dX0_waitingLeft_17 : decode cX0_waitingLeft 17 = .ok (.iload_n 2, 1) := by decide +kernel
theorem dX0_waitingLeft_18 : decode cX0_waitingLeft 18 = .ok (.invokevirtual 106, 3) := by decide +kernel
theorem dX0_waitingLeft_21 : decode cX0_waitingLeft 21 = .ok (.ifCond .ne 6, 3) := by decide +kernel
theorem dX0_waitingLeft_24 : decode cX0_waitingLeft 24 = .ok (.ldc 161, 2) := by decide +kernel
theorem dX0_waitingLeft_26 : decode cX0_waitingLeft 26 = .ok (.ireturn, 1) := by decide +kernel
theorem dX0_waitingLeft_27 : decode cX0_waitingLeft 27 = .ok (.aload_n 0, 1) := by decide +kernel
theorem dX0_waitingLeft_28 : decode cX0_waitingLeft 28 = .ok (.getfield 16, 3) := by decide +kernel
theorem dX0_waitingLeft_31 : decode cX0_waitingLeft 31 = .ok (.iload_n 2, 1) := by decide +kernel
theorem dX0_waitingLeft_32 : decode cX0_waitingLeft 32 = .ok (.iaload, 1) := by decide +kernel
theorem dX0_waitingLeft_33 : decode cX0_waitingLeft 33 = .ok (.ifCond .ne 6, 3) := by decide +kernel
theorem dX0_waitingLeft_36 : decode cX0_waitingLeft 36 = .ok (.ldc 185, 2) := by decide +kernel
theorem dX0_waitingLeft_38 : decode cX0_waitingLeft 38 = .ok (.ireturn, 1) := by decide +kernel
theorem dX0_waitingLeft_39 : decode cX0_waitingLeft 39 = .ok (.aload_n 0, 1) := by decide +kernel
theorem dX0_waitingLeft_40 : decode cX0_waitingLeft 40 = .ok (.getfield 16, 3) := by decide +kernel
theorem dX0_waitingLeft_43 : decode cX0_waitingLeft 43 = .ok (.iload_n 2, 1) := by decide +kernel
theorem dX0_waitingLeft_44 : decode cX0_waitingLeft 44 = .ok (.iaload, 1) := by decide +kernel
theorem dX0_waitingLeft_45 : decode cX0_waitingLeft 45 = .ok (.aload_n 0, 1) := by decide +kernel
theorem dX0_waitingLeft_46 : decode cX0_waitingLeft 46 = .ok (.getfield 65, 3) := by decide +kernel
theorem dX0_waitingLeft_49 : decode cX0_waitingLeft 49 = .ok (.aload_n 0, 1) := by decide +kernel
theorem dX0_waitingLeft_50 : decode cX0_waitingLeft 50 = .ok (.getfield 32, 3) := by decide +kernel
theorem dX0_waitingLeft_53 : decode cX0_waitingLeft 53 = .ok (.iload_n 1, 1) := by decide +kernel
theorem dX0_waitingLeft_54 : decode cX0_waitingLeft 54 = .ok (.iaload, 1) := by decide +kernel
theorem dX0_waitingLeft_55 : decode cX0_waitingLeft 55 = .ok (.isub, 1) := by decide +kernel
theorem dX0_waitingLeft_56 : decode cX0_waitingLeft 56 = .ok (.isub, 1) := by decide +kernel
theorem dX0_waitingLeft_57 : decode cX0_waitingLeft 57 = .ok (.ireturn, 1) := by decide +kernel
set_option maxRecDepth 20000 in
theorem ggX0_parentOrNone_X0_isLot : GoodIn wsX0_parentOrNone wsX0_isLot := goodIn_r _ [6, 7, 8, 9, 10, 11, 12, 13, 14, 15, 16, 17, 18, 19, 20, 21, 22, 23, 24, 25] (by decide +kernel) (by decide +kernel)
set_option maxRecDepth 20000 in
theorem gX0_parentOrNone_X0_isLot : GoodIn wsX0_parentOrNone (wsV RX0 147 RX0 yX0_isLot wsX0_isLot) := goodIn_app (goodIn_of _ (by decide +kernel)) ggX0_parentOrNone_X0_isLot
theorem dX0_parentOrNone_0 : decode cX0_parentOrNone 0 = .ok (.aload_n 0, 1) := by decide +kernel
theorem dX0_parentOrNone_1 : decode cX0_parentOrNone 1 = .ok (.iload_n 1, 1) := by decide +kernel
theorem dX0_parentOrNone_2 : decode cX0_parentOrNone 2 = .ok (.invokevirtual 147, 3) := by decide +kernel
theorem dX0_parentOrNone_5 : decode cX0_parentOrNone 5 = .ok (.ifCond .eq 12, 3) := by decide +kernel
theorem dX0_parentOrNone_8 : decode cX0_parentOrNone 8 = .ok (.aload_n 0, 1) := by decide +kernel
theorem dX0_parentOrNone_9 : decode cX0_parentOrNone 9 = .ok (.getfield 42, 3) := by decide +kernel
theorem dX0_parentOrNone_12 : decode cX0_parentOrNone 12 = .ok (.iload_n 1, 1) := by decide +kernel
theorem dX0_parentOrNone_13 : decode cX0_parentOrNone 13 = .ok (.iaload, 1) := by decide +kernel
theorem dX0_parentOrNone_14 : decode cX0_parentOrNone 14 = .ok (.goto 4, 3) := by decide +kernel
theorem dX0_parentOrNone_17 : decode cX0_parentOrNone 17 = .ok (.iconst (-1), 1) := by decide +kernel
theorem dX0_parentOrNone_18 : decode cX0_parentOrNone 18 = .ok (.ireturn, 1) := by decide +kernel
theorem dX0_makeLot_0 : decode cX0_makeLot 0 = .ok (.aload_n 0, 1) := by decide +kernel
theorem dX0_makeLot_1 : decode cX0_makeLot 1 = .ok (.getfield 48, 3) := by decide +kernel
theorem dX0_makeLot_4 : decode cX0_makeLot 4 = .ok (.istore 6, 2) := by decide +kernel
theorem dX0_makeLot_6 : decode cX0_makeLot 6 = .ok (.aload_n 0, 1) := by decide +kernel
theorem dX0_makeLot_7 : decode cX0_makeLot 7 = .ok (.getfield 26, 3) := by decide +kernel
theorem dX0_makeLot_10 : decode cX0_makeLot 10 = .ok (.iload 6, 2) := by decide +kernel
theorem dX0_makeLot_12 : decode cX0_makeLot 12 = .ok (.iconst 0, 1) := by decide +kernel
theorem dX0_makeLot_13 : decode cX0_makeLot 13 = .ok (.iastore, 1) := by decide +kernel
theorem dX0_makeLot_14 : decode cX0_makeLot 14 = .ok (.aload_n 0, 1) := by decide +kernel
theorem dX0_makeLot_15 : decode cX0_makeLot 15 = .ok (.getfield 29, 3) := by decide +kernel
theorem dX0_makeLot_18 : decode cX0_makeLot 18 = .ok (.iload 6, 2) := by decide +kernel
theorem dX0_makeLot_20 : decode cX0_makeLot 20 = .ok (.iload_n 1, 1) := by decide +kernel
theorem dX0_makeLot_21 : decode cX0_makeLot 21 = .ok (.iastore, 1) := by decide +kernel
theorem dX0_makeLot_22 : decode cX0_makeLot 22 = .ok (.aload_n 0, 1) := by decide +kernel
theorem dX0_makeLot_23 : decode cX0_makeLot 23 = .ok (.getfield 32, 3) := by decide +kernel
theorem dX0_makeLot_26 : decode cX0_makeLot 26 = .ok (.iload 6, 2) := by decide +kernel
theorem dX0_makeLot_28 : decode cX0_makeLot 28 = .ok (.iload_n 2, 1) := by decide +kernel
theorem dX0_makeLot_29 : decode cX0_makeLot 29 = .ok (.iastore, 1) := by decide +kernel
theorem dX0_makeLot_30 : decode cX0_makeLot 30 = .ok (.aload_n 0, 1) := by decide +kernel
theorem dX0_makeLot_31 : decode cX0_makeLot 31 = .ok (.getfield 35, 3) := by decide +kernel
theorem dX0_makeLot_34 : decode cX0_makeLot 34 = .ok (.iload 6, 2) := by decide +kernel
theorem dX0_makeLot_36 : decode cX0_makeLot 36 = .ok (.iload_n 3, 1) := by decide +kernel
theorem dX0_makeLot_37 : decode cX0_makeLot 37 = .ok (.bastore, 1) := by decide +kernel
theorem dX0_makeLot_38 : decode cX0_makeLot 38 = .ok (.aload_n 0, 1) := by decide +kernel
theorem dX0_makeLot_39 : decode cX0_makeLot 39 = .ok (.getfield 39, 3) := by decide +kernel
theorem dX0_makeLot_42 : decode cX0_makeLot 42 = .ok (.iload 6, 2) := by decide +kernel
theorem dX0_makeLot_44 : decode cX0_makeLot 44 = .ok (.iload 4, 2) := by decide +kernel
theorem dX0_makeLot_46 : decode cX0_makeLot 46 = .ok (.iastore, 1) := by decide +kernel
theorem dX0_makeLot_47 : decode cX0_makeLot 47 = .ok (.aload_n 0, 1) := by decide +kernel
theorem dX0_makeLot_48 : decode cX0_makeLot 48 = .ok (.getfield 42, 3) := by decide +kernel
theorem dX0_makeLot_51 : decode cX0_makeLot 51 = .ok (.iload 6, 2) := by decide +kernel
theorem dX0_makeLot_53 : decode cX0_makeLot 53 = .ok (.iload 5, 2) := by decide +kernel
theorem dX0_makeLot_55 : decode cX0_makeLot 55 = .ok (.iastore, 1) := by decide +kernel
theorem dX0_makeLot_56 : decode cX0_makeLot 56 = .ok (.aload_n 0, 1) := by decide +kernel
theorem dX0_makeLot_57 : decode cX0_makeLot 57 = .ok (.getfield 45, 3) := by decide +kernel
theorem dX0_makeLot_60 : decode cX0_makeLot 60 = .ok (.iload 6, 2) := by decide +kernel
theorem dX0_makeLot_62 : decode cX0_makeLot 62 = .ok (.iconst 0, 1) := by decide +kernel
theorem dX0_makeLot_63 : decode cX0_makeLot 63 = .ok (.iastore, 1) := by decide +kernel
theorem dX0_makeLot_64 : decode cX0_makeLot 64 = .ok (.aload_n 0, 1) := by decide +kernel
theorem dX0_makeLot_65 : decode cX0_makeLot 65 = .ok (.iload 6, 2) := by decide +kernel
theorem dX0_makeLot_67 : decode cX0_makeLot 67 = .ok (.iconst 1, 1) := by decide +kernel
theorem dX0_makeLot_68 : decode cX0_makeLot 68 = .ok (.iadd, 1) := by decide +kernel
theorem dX0_makeLot_69 : decode cX0_makeLot 69 = .ok (.putfield 48, 3) := by decide +kernel
theorem dX0_makeLot_72 : decode cX0_makeLot 72 = .ok (.iload 6, 2) := by decide +kernel
theorem dX0_makeLot_74 : decode cX0_makeLot 74 = .ok (.ireturn, 1) := by decide +kernel
set_option maxRecDepth 20000 in
theorem ggX0_makeWafer_X0_putInto : GoodIn wsX0_makeWafer wsX0_putInto := goodIn_r _ [7, 8, 9, 2, 10, 11, 12, 13, 14, 15, 16, 17, 18, 19, 20, 21, 22, 23, 24, 25, 26, 27, 28] (by decide +kernel) (by decide +kernel)
set_option maxRecDepth 20000 in
theorem gX0_makeWafer_X0_putInto : GoodIn wsX0_makeWafer (wsV RX0 186 RX0 yX0_putInto wsX0_putInto) := goodIn_app (goodIn_of _ (by decide +kernel)) ggX0_makeWafer_X0_putInto
theorem dX0_makeWafer_0 : decode cX0_makeWafer 0 = .ok (.aload_n 0, 1) := by decide +kernel
theorem dX0_makeWafer_1 : decode cX0_makeWafer 1 = .ok (.getfield 62, 3) := by decide +kernel
theorem dX0_makeWafer_4 : decode cX0_makeWafer 4 = .ok (.istore_n 2, 1) := by decide +kernel
theorem dX0_makeWafer_5 : decode cX0_makeWafer 5 = .ok (.aload_n 0, 1) := by decide +kernel
theorem dX0_makeWafer_6 : decode cX0_makeWafer 6 = .ok (.getfield 59, 3) := by decide +kernel
theorem dX0_makeWafer_9 : decode cX0_makeWafer 9 = .ok (.iload_n 2, 1) := by decide +kernel
theorem dX0_makeWafer_10 : decode cX0_makeWafer 10 = .ok (.iconst 0, 1) := by decide +kernel
theorem dX0_makeWafer_11 : decode cX0_makeWafer 11 = .ok (.iastore, 1) := by decide +kernel
theorem dX0_makeWafer_12 : decode cX0_makeWafer 12 = .ok (.aload_n 0, 1) := by decide +kernel
theorem dX0_makeWafer_13 : decode cX0_makeWafer 13 = .ok (.iload_n 2, 1) := by decide +kernel
theorem dX0_makeWafer_14 : decode cX0_makeWafer 14 = .ok (.iconst 1, 1) := by decide +kernel
theorem dX0_makeWafer_15 : decode cX0_makeWafer 15 = .ok (.iadd, 1) := by decide +kernel
theorem dX0_makeWafer_16 : decode cX0_makeWafer 16 = .ok (.putfield 62, 3) := by decide +kernel
theorem dX0_makeWafer_19 : decode cX0_makeWafer 19 = .ok (.aload_n 0, 1) := by decide +kernel
theorem dX0_makeWafer_20 : decode cX0_makeWafer 20 = .ok (.iload_n 2, 1) := by decide +kernel
theorem dX0_makeWafer_21 : decode cX0_makeWafer 21 = .ok (.iload_n 1, 1) := by decide +kernel
theorem dX0_makeWafer_22 : decode cX0_makeWafer 22 = .ok (.invokevirtual 186, 3) := by decide +kernel
theorem dX0_makeWafer_25 : decode cX0_makeWafer 25 = .ok (.return_, 1) := by decide +kernel
theorem dX0_putInto_0 : decode cX0_putInto 0 = .ok (.aload_n 0, 1) := by decide +kernel
theorem dX0_putInto_1 : decode cX0_putInto 1 = .ok (.getfield 51, 3) := by decide +kernel
theorem dX0_putInto_4 : decode cX0_putInto 4 = .ok (.iload_n 1, 1) := by decide +kernel
theorem dX0_putInto_5 : decode cX0_putInto 5 = .ok (.iload_n 2, 1) := by decide +kernel
theorem dX0_putInto_6 : decode cX0_putInto 6 = .ok (.iastore, 1) := by decide +kernel
theorem dX0_putInto_7 : decode cX0_putInto 7 = .ok (.aload_n 0, 1) := by decide +kernel
theorem dX0_putInto_8 : decode cX0_putInto 8 = .ok (.getfield 45, 3) := by decide +kernel
theorem dX0_putInto_11 : decode cX0_putInto 11 = .ok (.iload_n 2, 1) := by decide +kernel
theorem dX0_putInto_12 : decode cX0_putInto 12 = .ok (.dup2, 1) := by decide +kernel
theorem dX0_putInto_13 : decode cX0_putInto 13 = .ok (.iaload, 1) := by decide +kernel
theorem dX0_putInto_14 : decode cX0_putInto 14 = .ok (.iconst 1, 1) := by decide +kernel
theorem dX0_putInto_15 : decode cX0_putInto 15 = .ok (.iadd, 1) := by decide +kernel
theorem dX0_putInto_16 : decode cX0_putInto 16 = .ok (.iastore, 1) := by decide +kernel
theorem dX0_putInto_17 : decode cX0_putInto 17 = .ok (.aload_n 0, 1) := by decide +kernel
theorem dX0_putInto_18 : decode cX0_putInto 18 = .ok (.getfield 59, 3) := by decide +kernel
theorem dX0_putInto_21 : decode cX0_putInto 21 = .ok (.iload_n 1, 1) := by decide +kernel
theorem dX0_putInto_22 : decode cX0_putInto 22 = .ok (.iaload, 1) := by decide +kernel
theorem dX0_putInto_23 : decode cX0_putInto 23 = .ok (.istore_n 3, 1) := by decide +kernel
theorem dX0_putInto_24 : decode cX0_putInto 24 = .ok (.iload_n 3, 1) := by decide +kernel
theorem dX0_putInto_25 : decode cX0_putInto 25 = .ok (.bipush 47, 2) := by decide +kernel
theorem dX0_putInto_27 : decode cX0_putInto 27 = .ok (.if_icmp .ge 21, 3) := by decide +kernel
theorem dX0_putInto_30 : decode cX0_putInto 30 = .ok (.aload_n 0, 1) := by decide +kernel
theorem dX0_putInto_31 : decode cX0_putInto 31 = .ok (.getfield 56, 3) := by decide +kernel
theorem dX0_putInto_34 : decode cX0_putInto 34 = .ok (.iload_n 1, 1) := by decide +kernel
theorem dX0_putInto_35 : decode cX0_putInto 35 = .ok (.aaload, 1) := by decide +kernel
theorem dX0_putInto_36 : decode cX0_putInto 36 = .ok (.iload_n 3, 1) := by decide +kernel
theorem dX0_putInto_37 : decode cX0_putInto 37 = .ok (.iload_n 2, 1) := by decide +kernel
theorem dX0_putInto_38 : decode cX0_putInto 38 = .ok (.iastore, 1) := by decide +kernel
theorem dX0_putInto_39 : decode cX0_putInto 39 = .ok (.aload_n 0, 1) := by decide +kernel
theorem dX0_putInto_40 : decode cX0_putInto 40 = .ok (.getfield 59, 3) := by decide +kernel
theorem dX0_putInto_43 : decode cX0_putInto 43 = .ok (.iload_n 1, 1) := by decide +kernel
theorem dX0_putInto_44 : decode cX0_putInto 44 = .ok (.iload_n 3, 1) := by decide +kernel
theorem dX0_putInto_45 : decode cX0_putInto 45 = .ok (.iconst 1, 1) := by decide +kernel
theorem dX0_putInto_46 : decode cX0_putInto 46 = .ok (.iadd, 1) := by decide +kernel
theorem dX0_putInto_47 : decode cX0_putInto 47 = .ok (.iastore, 1) := by decide +kernel
theorem dX0_putInto_48 : decode cX0_putInto 48 = .ok (.return_, 1) := by decide +kernel
set_option maxRecDepth 20000 in
theorem ggX0_moveWafers_X0_putInto : GoodIn wsX0_moveWafers wsX0_putInto := goodIn_r _ [8, 2, 3, 9, 10, 11, 12, 13, 14, 15, 16, 17, 18, 19, 20, 21, 22, 23, 24, 25, 26, 27, 28] (by decide +kernel) (by decide +kernel)
set_option maxRecDepth 20000 in
theorem gX0_moveWafers_X0_putInto : GoodIn wsX0_moveWafers (wsV RX0 186 RX0 yX0_putInto wsX0_putInto) := goodIn_app (goodIn_of _ (by decide +kernel)) ggX0_moveWafers_X0_putInto
theorem dX0_moveWafers_0 : decode cX0_moveWafers 0 = .ok (.iconst 0, 1) := by decide +kernel
theorem dX0_moveWafers_1 : decode cX0_moveWafers 1 = .ok (.istore 4, 2) := by decide +kernel
theorem dX0_moveWafers_3 : decode cX0_moveWafers 3 = .ok (.iconst 0, 1) := by decide +kernel
theorem dX0_moveWafers_4 : decode cX0_moveWafers 4 = .ok (.istore 5, 2) := by decide +kernel
theorem dX0_moveWafers_6 : decode cX0_moveWafers 6 = .ok (.iload 5, 2) := by decide +kernel
theorem dX0_moveWafers_8 : decode cX0_moveWafers 8 = .ok (.aload_n 0, 1) := by decide +kernel
theorem dX0_moveWafers_9 : decode cX0_moveWafers 9 = .ok (.getfield 62, 3) := by decide +kernel
theorem dX0_moveWafers_12 : decode cX0_moveWafers 12 = .ok (.if_icmp .ge 46, 3) := by decide +kernel
theorem dX0_moveWafers_15 : decode cX0_moveWafers 15 = .ok (.iload 4, 2) := by decide +kernel
theorem dX0_moveWafers_17 : decode cX0_moveWafers 17 = .ok (.iload_n 3, 1) := by decide +kernel
theorem dX0_moveWafers_18 : decode cX0_moveWafers 18 = .ok (.if_icmp .ge 40, 3) := by decide +kernel
theorem dX0_moveWafers_21 : decode cX0_moveWafers 21 = .ok (.aload_n 0, 1) := by decide +kernel
theorem dX0_moveWafers_22 : decode cX0_moveWafers 22 = .ok (.getfield 51, 3) := by decide +kernel
theorem dX0_moveWafers_25 : decode cX0_moveWafers 25 = .ok (.iload 5, 2) := by decide +kernel
theorem dX0_moveWafers_27 : decode cX0_moveWafers 27 = .ok (.iaload, 1) := by decide +kernel
theorem dX0_moveWafers_28 : decode cX0_moveWafers 28 = .ok (.iload_n 1, 1) := by decide +kernel
theorem dX0_moveWafers_29 : decode cX0_moveWafers 29 = .ok (.if_icmp .ne 23, 3) := by decide +kernel
theorem dX0_moveWafers_32 : decode cX0_moveWafers 32 = .ok (.aload_n 0, 1) := by decide +kernel
theorem dX0_moveWafers_33 : decode cX0_moveWafers 33 = .ok (.getfield 45, 3) := by decide +kernel
theorem dX0_moveWafers_36 : decode cX0_moveWafers 36 = .ok (.iload_n 1, 1) := by decide +kernel
theorem dX0_moveWafers_37 : decode cX0_moveWafers 37 = .ok (.dup2, 1) := by decide +kernel
theorem dX0_moveWafers_38 : decode cX0_moveWafers 38 = .ok (.iaload, 1) := by decide +kernel
theorem dX0_moveWafers_39 : decode cX0_moveWafers 39 = .ok (.iconst 1, 1) := by decide +kernel
theorem dX0_moveWafers_40 : decode cX0_moveWafers 40 = .ok (.isub, 1) := by decide +kernel
theorem dX0_moveWafers_41 : decode cX0_moveWafers 41 = .ok (.iastore, 1) := by decide +kernel
theorem dX0_moveWafers_42 : decode cX0_moveWafers 42 = .ok (.aload_n 0, 1) := by decide +kernel
theorem dX0_moveWafers_43 : decode cX0_moveWafers 43 = .ok (.iload 5, 2) := by decide +kernel
theorem dX0_moveWafers_45 : decode cX0_moveWafers 45 = .ok (.iload_n 2, 1) := by decide +kernel
theorem dX0_moveWafers_46 : decode cX0_moveWafers 46 = .ok (.invokevirtual 186, 3) := by decide +kernel
theorem dX0_moveWafers_49 : decode cX0_moveWafers 49 = .ok (.iinc 4 1, 3) := by decide +kernel
theorem dX0_moveWafers_52 : decode cX0_moveWafers 52 = .ok (.iinc 5 1, 3) := by decide +kernel
theorem dX0_moveWafers_55 : decode cX0_moveWafers 55 = .ok (.goto (-49), 3) := by decide +kernel
theorem dX0_moveWafers_58 : decode cX0_moveWafers 58 = .ok (.return_, 1) := by decide +kernel
theorem dX0_leaveRoute_0 : decode cX0_leaveRoute 0 = .ok (.aload_n 0, 1) := by decide +kernel
theorem dX0_leaveRoute_1 : decode cX0_leaveRoute 1 = .ok (.getfield 26, 3) := by decide +kernel
theorem dX0_leaveRoute_4 : decode cX0_leaveRoute 4 = .ok (.iload_n 1, 1) := by decide +kernel
theorem dX0_leaveRoute_5 : decode cX0_leaveRoute 5 = .ok (.iload_n 2, 1) := by decide +kernel
theorem dX0_leaveRoute_6 : decode cX0_leaveRoute 6 = .ok (.iastore, 1) := by decide +kernel
theorem dX0_leaveRoute_7 : decode cX0_leaveRoute 7 = .ok (.aload_n 0, 1) := by decide +kernel
theorem dX0_leaveRoute_8 : decode cX0_leaveRoute 8 = .ok (.getfield 29, 3) := by decide +kernel
theorem dX0_leaveRoute_11 : decode cX0_leaveRoute 11 = .ok (.iload_n 1, 1) := by decide +kernel
theorem dX0_leaveRoute_12 : decode cX0_leaveRoute 12 = .ok (.iconst (-1), 1) := by decide +kernel
theorem dX0_leaveRoute_13 : decode cX0_leaveRoute 13 = .ok (.iastore, 1) := by decide +kernel
theorem dX0_leaveRoute_14 : decode cX0_leaveRoute 14 = .ok (.return_, 1) := by decide +kernel
set_option maxRecDepth 20000 in
theorem ggX0_endProcessing_X0_isStep : GoodIn wsX0_endProcessing wsX0_isStep := goodIn_r _ [7, 8, 13, 14, 15, 16, 17, 18, 19, 20, 21, 22, 23, 24, 25, 26, 27, 28, 29, 30] (by decide +kernel) (by decide +kernel)
set_option maxRecDepth 20000 in
theorem gX0_endProcessing_X0_isStep : GoodIn wsX0_endProcessing (wsV RX0 106 RX0 yX0_isStep wsX0_isStep) := goodIn_app (goodIn_of _ (by decide +kernel)) ggX0_endProcessing_X0_isStep
set_option maxRecDepth 20000 in
theorem ggX0_endProcessing_X0_leaveRoute : GoodIn wsX0_endProcessing wsX0_leaveRoute := goodIn_r _ [12, 2, 1, 13, 14, 15, 16, 17, 18, 19, 20, 21, 22, 23, 24, 25, 26, 27, 28, 29, 30] (by decide +kernel) (by decide +kernel)
set_option maxRecDepth 20000 in
theorem gX0_endProcessing_X0_leaveRoute : GoodIn wsX0_endProcessing (wsV RX0 138 RX0 yX0_leaveRoute wsX0_leaveRoute) := goodIn_app (goodIn_of _ (by decide +kernel)) ggX0_endProcessing_X0_leaveRoute
theorem dX0_endProcessing_0 : decode cX0_endProcessing 0 = .ok (.aload_n 0, 1) := by decide +kernel
theorem dX0_endProcessing_1 : decode cX0_endProcessing 1 = .ok (.getfield 29, 3) := by decide +kernel
theorem dX0_endProcessing_4 : decode cX0_endProcessing 4 = .ok (.iload_n 1, 1) := by decide +kernel
theorem dX0_endProcessing_5 : decode cX0_endProcessing 5 = .ok (.iaload, 1) := by decide +kernel
theorem dX0_endProcessing_6 : decode cX0_endProcessing 6 = .ok (.iconst 1, 1) := by decide +kernel
theorem dX0_endProcessing_7 : decode cX0_endProcessing 7 = .ok (.iadd, 1) := by decide +kernel
theorem dX0_endProcessing_8 : decode cX0_endProcessing 8 = .ok (.istore_n 2, 1) := by decide +kernel
theorem dX0_endProcessing_9 : decode cX0_endProcessing 9 = .ok (.aload_n 0, 1) := by decide +kernel
theorem dX0_endProcessing_10 : decode cX0_endProcessing 10 = .ok (.iload_n 2, 1) := by decide +kernel
theorem dX0_endProcessing_11 : decode cX0_endProcessing 11 = .ok (.invokevirtual 106, 3) := by decide +kernel
theorem dX0_endProcessing_14 : decode cX0_endProcessing 14 = .ok (.ifCond .eq 20, 3) := by decide +kernel
theorem dX0_endProcessing_17 : decode cX0_endProcessing 17 = .ok (.aload_n 0, 1) := by decide +kernel
theorem dX0_endProcessing_18 : decode cX0_endProcessing 18 = .ok (.getfield 26, 3) := by decide +kernel
theorem dX0_endProcessing_21 : decode cX0_endProcessing 21 = .ok (.iload_n 1, 1) := by decide +kernel
theorem dX0_endProcessing_22 : decode cX0_endProcessing 22 = .ok (.iconst 0, 1) := by decide +kernel
theorem dX0_endProcessing_23 : decode cX0_endProcessing 23 = .ok (.iastore, 1) := by decide +kernel
theorem dX0_endProcessing_24 : decode cX0_endProcessing 24 = .ok (.aload_n 0, 1) := by decide +kernel
theorem dX0_endProcessing_25 : decode cX0_endProcessing 25 = .ok (.getfield 29, 3) := by decide +kernel
theorem dX0_endProcessing_28 : decode cX0_endProcessing 28 = .ok (.iload_n 1, 1) := by decide +kernel
theorem dX0_endProcessing_29 : decode cX0_endProcessing 29 = .ok (.iload_n 2, 1) := by decide +kernel
theorem dX0_endProcessing_30 : decode cX0_endProcessing 30 = .ok (.iastore, 1) := by decide +kernel
theorem dX0_endProcessing_31 : decode cX0_endProcessing 31 = .ok (.goto 9, 3) := by decide +kernel
theorem dX0_endProcessing_34 : decode cX0_endProcessing 34 = .ok (.aload_n 0, 1) := by decide +kernel
theorem dX0_endProcessing_35 : decode cX0_endProcessing 35 = .ok (.iload_n 1, 1) := by decide +kernel
theorem dX0_endProcessing_36 : decode cX0_endProcessing 36 = .ok (.iconst 2, 1) := by decide +kernel
theorem dX0_endProcessing_37 : decode cX0_endProcessing 37 = .ok (.invokevirtual 138, 3) := by decide +kernel
theorem dX0_endProcessing_40 : decode cX0_endProcessing 40 = .ok (.return_, 1) := by decide +kernel
end
section
set_option maxRecDepth 20000 in
theorem ggL_law_X0_init : GoodIn wsL_law wsX0_init := goodIn_r _ [5, 6, 7, 8, 9, 10, 11, 12, 13, 14, 15, 16, 17, 18, 19, 20, 21, 22, 23, 24, 25, 26, 27, 28, 29, 229, 230, 231, 232, 233, 234, 235, 236, 237, 238, 239, 240, 241, 242, 243, 244, 245, 246] (by decide +kernel) (by decide +kernel)
set_option maxRecDepth 20000 in
theorem gL_law_X0_init : GoodIn wsL_law (wsX0_init) := ggL_law_X0_init
set_option maxRecDepth 20000 in
theorem ggL_law_L_cell : GoodIn wsL_law wsL_cell := goodIn_r _ [33] (by decide +kernel) (by decide +kernel)
set_option maxRecDepth 20000 in
theorem gL_law_L_cell : GoodIn wsL_law (va_wsS RL 61 yL_cell wsL_cell) := goodIn_app (goodIn_of _ (by decide +kernel)) ggL_law_L_cell
set_option maxRecDepth 20000 in
theorem ggL_law_L_low : GoodIn wsL_law wsL_low := goodIn_r _ [36, 37] (by decide +kernel) (by decide +kernel)
set_option maxRecDepth 20000 in
theorem gL_law_L_low : GoodIn wsL_law (va_wsS RL 67 yL_low wsL_low) := goodIn_app (goodIn_of _ (by decide +kernel)) ggL_law_L_low
set_option maxRecDepth 20000 in
theorem ggL_law_X0_addStep : GoodIn wsL_law wsX0_addStep := goodIn_ca (goodIn_ca (goodIn_ca (goodIn_r _ [41, 42, 43, 44, 45, 14, 23, 10, 11, 12, 13, 46, 47, 2, 48, 49, 50, 51, 52, 53, 229, 230, 231, 232, 233, 234, 235, 236, 237, 238, 239, 240, 241, 242, 243, 244, 245, 246] (by decide +kernel) (by decide +kernel)) (goodIn_sub (fun _ h => List.mem_append_left _ (List.mem_append_left _ (List.mem_append_right _ h))) (by decide +kernel))) (goodIn_sub (fun _ h => List.mem_append_left _ (List.mem_append_right _ h)) (by decide +kernel))) (goodIn_sub (fun _ h => List.mem_append_right _ h) (by decide +kernel))
set_option maxRecDepth 20000 in
theorem gL_law_X0_addStep : GoodIn wsL_law (wsV RL 70 RX0 yX0_addStep wsX0_addStep) := goodIn_app (goodIn_of _ (by decide +kernel)) ggL_law_X0_addStep
set_option maxRecDepth 20000 in
theorem ggL_law_X0_lots : GoodIn wsL_law wsX0_lots := goodIn_r _ [57, 23, 229, 230, 231, 232, 233, 234, 235, 236, 237, 238, 239, 240, 241, 242, 243, 244, 245, 246] (by decide +kernel) (by decide +kernel)
set_option maxRecDepth 20000 in
theorem gL_law_X0_lots : GoodIn wsL_law (wsV RL 48 RX0 yX0_lots wsX0_lots) := goodIn_app (goodIn_of _ (by decide +kernel)) ggL_law_X0_lots
set_option maxRecDepth 20000 in
theorem ggL_law_X0_wafers : GoodIn wsL_law wsX0_wafers := goodIn_r _ [61, 28, 229, 230, 231, 232, 233, 234, 235, 236, 237, 238, 239, 240, 241, 242, 243, 244, 245, 246] (by decide +kernel) (by decide +kernel)
set_option maxRecDepth 20000 in
theorem gL_law_X0_wafers : GoodIn wsL_law (wsV RL 27 RX0 yX0_wafers wsX0_wafers) := goodIn_app (goodIn_of _ (by decide +kernel)) ggL_law_X0_wafers
set_option maxRecDepth 20000 in
theorem ggL_law_X0_enter : GoodIn wsL_law wsX0_enter := goodIn_ca (goodIn_ca (goodIn_r _ [65, 42, 43, 44, 45, 14, 23, 28, 29, 51, 52, 2, 53, 66, 67, 68, 69, 15, 16, 17, 19, 20, 21, 22, 70, 71, 72, 73, 27, 74, 75, 76, 77, 24, 26, 229, 230, 231, 232, 233, 234, 235, 236, 237, 238, 239, 240, 241, 242, 243, 244, 245, 246] (by decide +kernel) (by decide +kernel)) (goodIn_sub (fun _ h => List.mem_append_left _ (List.mem_append_left _ (List.mem_append_right _ h))) (by decide +kernel))) (goodIn_sub (fun _ h => List.mem_append_left _ (List.mem_append_right _ h)) (by decide +kernel))
set_option maxRecDepth 20000 in
theorem gL_law_X0_enter : GoodIn wsL_law (wsV RL 74 RX0 yX0_enter wsX0_enter) := goodIn_app (goodIn_of _ (by decide +kernel)) ggL_law_X0_enter
set_option maxRecDepth 20000 in
theorem ggL_law_X0_nextFor : GoodIn wsL_law wsX0_nextFor := goodIn_ca (goodIn_r _ [81, 82, 23, 46, 47, 2, 48, 49, 50, 51, 52, 53, 83, 84, 85, 86, 15, 87, 88, 89, 90, 16, 10, 91, 92, 93, 94, 14, 95, 96, 97, 98, 99, 100, 101, 102, 19, 103, 104, 105, 106, 12, 107, 29, 17, 229, 230, 231, 232, 233, 234, 235, 236, 237, 238, 239, 240, 241, 242, 243, 244, 245, 246] (by decide +kernel) (by decide +kernel)) (goodIn_sub (fun _ h => List.mem_append_right _ h) (by decide +kernel))
set_option maxRecDepth 20000 in
theorem gL_law_X0_nextFor : GoodIn wsL_law (wsV RL 77 RX0 yX0_nextFor wsX0_nextFor) := goodIn_app (goodIn_of _ (by decide +kernel)) ggL_law_X0_nextFor
set_option maxRecDepth 20000 in
theorem ggL_law_X0_start : GoodIn wsL_law wsX0_start := goodIn_ca (goodIn_ca (goodIn_r _ [111, 44, 45, 16, 10, 15, 17, 29, 11, 112, 113, 114, 2, 115, 49, 50, 116, 117, 118, 119, 23, 95, 96, 97, 98, 99, 100, 101, 102, 19, 103, 104, 105, 106, 82, 12, 107, 91, 92, 93, 94, 14, 83, 84, 85, 86, 87, 88, 89, 90, 229, 230, 231, 232, 233, 234, 235, 236, 237, 238, 239, 240, 241, 242, 243, 244, 245, 246] (by decide +kernel) (by decide +kernel)) (goodIn_sub (fun _ h => List.mem_append_left _ (List.mem_append_right _ h)) (by decide +kernel))) (goodIn_sub (fun _ h => List.mem_append_right _ h) (by decide +kernel))
set_option maxRecDepth 20000 in
theorem gL_law_X0_start : GoodIn wsL_law (wsV RL 80 RX0 yX0_start wsX0_start) := goodIn_app (goodIn_of _ (by decide +kernel)) ggL_law_X0_start
set_option maxRecDepth 20000 in
theorem ggL_law_X0_time : GoodIn wsL_law wsX0_time := goodIn_r _ [123, 29, 229, 230, 231, 232, 233, 234, 235, 236, 237, 238, 239, 240, 241, 242, 243, 244, 245, 246] (by decide +kernel) (by decide +kernel)
set_option maxRecDepth 20000 in
theorem gL_law_X0_time : GoodIn wsL_law (wsV RL 83 RX0 yX0_time wsX0_time) := goodIn_app (goodIn_of _ (by decide +kernel)) ggL_law_X0_time
set_option maxRecDepth 20000 in
theorem ggL_law_X0_size : GoodIn wsL_law wsX0_size := goodIn_ca (goodIn_r _ [127, 22, 112, 113, 114, 2, 115, 49, 50, 116, 117, 118, 119, 23, 229, 230, 231, 232, 233, 234, 235, 236, 237, 238, 239, 240, 241, 242, 243, 244, 245, 246] (by decide +kernel) (by decide +kernel)) (goodIn_sub (fun _ h => List.mem_append_right _ h) (by decide +kernel))
set_option maxRecDepth 20000 in
theorem gL_law_X0_size : GoodIn wsL_law (wsV RL 31 RX0 yX0_size wsX0_size) := goodIn_app (goodIn_of _ (by decide +kernel)) ggL_law_X0_size
set_option maxRecDepth 20000 in
theorem ggL_law_X0_state : GoodIn wsL_law wsX0_state := goodIn_ca (goodIn_r _ [131, 15, 112, 113, 114, 2, 115, 49, 50, 116, 117, 118, 119, 23, 229, 230, 231, 232, 233, 234, 235, 236, 237, 238, 239, 240, 241, 242, 243, 244, 245, 246] (by decide +kernel) (by decide +kernel)) (goodIn_sub (fun _ h => List.mem_append_right _ h) (by decide +kernel))
set_option maxRecDepth 20000 in
theorem gL_law_X0_state : GoodIn wsL_law (wsV RL 24 RX0 yX0_state wsX0_state) := goodIn_app (goodIn_of _ (by decide +kernel)) ggL_law_X0_state
set_option maxRecDepth 20000 in
theorem ggL_law_X0_split : GoodIn wsL_law wsX0_split := goodIn_ca (goodIn_ca (goodIn_ca (goodIn_r _ [135, 42, 43, 44, 45, 22, 15, 23, 16, 17, 19, 20, 112, 113, 114, 2, 115, 49, 50, 116, 117, 118, 119, 51, 52, 53, 66, 67, 68, 69, 21, 136, 137, 138, 139, 28, 24, 74, 75, 76, 77, 27, 26, 229, 230, 231, 232, 233, 234, 235, 236, 237, 238, 239, 240, 241, 242, 243, 244, 245, 246] (by decide +kernel) (by decide +kernel)) (goodIn_sub (fun _ h => List.mem_append_left _ (List.mem_append_left _ (List.mem_append_right _ h))) (by decide +kernel))) (goodIn_sub (fun _ h => List.mem_append_left _ (List.mem_append_right _ h)) (by decide +kernel))) (goodIn_sub (fun _ h => List.mem_append_right _ h) (by decide +kernel))
set_option maxRecDepth 20000 in
theorem gL_law_X0_split : GoodIn wsL_law (wsV RL 86 RX0 yX0_split wsX0_split) := goodIn_app (goodIn_of _ (by decide +kernel)) ggL_law_X0_split
set_option maxRecDepth 20000 in
theorem ggL_law_X0_parentOf : GoodIn wsL_law wsX0_parentOf := goodIn_ca (goodIn_r _ [143, 21, 112, 113, 114, 2, 115, 49, 50, 116, 117, 118, 119, 23, 229, 230, 231, 232, 233, 234, 235, 236, 237, 238, 239, 240, 241, 242, 243, 244, 245, 246] (by decide +kernel) (by decide +kernel)) (goodIn_sub (fun _ h => List.mem_append_right _ h) (by decide +kernel))
set_option maxRecDepth 20000 in
theorem gL_law_X0_parentOf : GoodIn wsL_law (wsV RL 21 RX0 yX0_parentOf wsX0_parentOf) := goodIn_app (goodIn_of _ (by decide +kernel)) ggL_law_X0_parentOf
set_option maxRecDepth 20000 in
theorem ggL_law_X0_slack : GoodIn wsL_law wsX0_slack := goodIn_ca (goodIn_r _ [147, 112, 113, 114, 2, 115, 49, 50, 116, 117, 118, 119, 23, 103, 104, 105, 106, 16, 15, 82, 12, 107, 29, 17, 91, 92, 93, 94, 14, 229, 230, 231, 232, 233, 234, 235, 236, 237, 238, 239, 240, 241, 242, 243, 244, 245, 246] (by decide +kernel) (by decide +kernel)) (goodIn_sub (fun _ h => List.mem_append_right _ h) (by decide +kernel))
set_option maxRecDepth 20000 in
theorem gL_law_X0_slack : GoodIn wsL_law (wsV RL 41 RX0 yX0_slack wsX0_slack) := goodIn_app (goodIn_of _ (by decide +kernel)) ggL_law_X0_slack
set_option maxRecDepth 20000 in
theorem ggL_law_X0_lotOf : GoodIn wsL_law wsX0_lotOf := goodIn_ca (goodIn_r _ [151, 24, 152, 153, 154, 2, 155, 49, 50, 28, 229, 230, 231, 232, 233, 234, 235, 236, 237, 238, 239, 240, 241, 242, 243, 244, 245, 246] (by decide +kernel) (by decide +kernel)) (goodIn_sub (fun _ h => List.mem_append_right _ h) (by decide +kernel))
set_option maxRecDepth 20000 in
theorem gL_law_X0_lotOf : GoodIn wsL_law (wsV RL 8 RX0 yX0_lotOf wsX0_lotOf) := goodIn_app (goodIn_of _ (by decide +kernel)) ggL_law_X0_lotOf
set_option maxRecDepth 20000 in
theorem ggL_law_X0_scrap : GoodIn wsL_law wsX0_scrap := goodIn_ca (goodIn_ca (goodIn_r _ [159, 44, 45, 24, 15, 22, 152, 153, 154, 2, 155, 49, 50, 28, 116, 117, 118, 119, 23, 160, 161, 162, 163, 16, 229, 230, 231, 232, 233, 234, 235, 236, 237, 238, 239, 240, 241, 242, 243, 244, 245, 246] (by decide +kernel) (by decide +kernel)) (goodIn_sub (fun _ h => List.mem_append_left _ (List.mem_append_right _ h)) (by decide +kernel))) (goodIn_sub (fun _ h => List.mem_append_right _ h) (by decide +kernel))
set_option maxRecDepth 20000 in
theorem gL_law_X0_scrap : GoodIn wsL_law (wsV RL 89 RX0 yX0_scrap wsX0_scrap) := goodIn_app (goodIn_of _ (by decide +kernel)) ggL_law_X0_scrap
set_option maxRecDepth 20000 in
theorem ggL_law_X0_hold : GoodIn wsL_law wsX0_hold := goodIn_ca (goodIn_ca (goodIn_r _ [167, 44, 45, 15, 19, 112, 113, 114, 2, 115, 49, 50, 116, 117, 118, 119, 23, 229, 230, 231, 232, 233, 234, 235, 236, 237, 238, 239, 240, 241, 242, 243, 244, 245, 246] (by decide +kernel) (by decide +kernel)) (goodIn_sub (fun _ h => List.mem_append_left _ (List.mem_append_right _ h)) (by decide +kernel))) (goodIn_sub (fun _ h => List.mem_append_right _ h) (by decide +kernel))
set_option maxRecDepth 20000 in
theorem gL_law_X0_hold : GoodIn wsL_law (wsV RL 92 RX0 yX0_hold wsX0_hold) := goodIn_app (goodIn_of _ (by decide +kernel)) ggL_law_X0_hold
set_option maxRecDepth 20000 in
theorem ggL_law_X0_advance : GoodIn wsL_law wsX0_advance := goodIn_ca (goodIn_r _ [171, 42, 43, 29, 23, 15, 17, 51, 52, 2, 53, 172, 173, 174, 175, 16, 91, 92, 93, 94, 14, 160, 161, 162, 163, 229, 230, 231, 232, 233, 234, 235, 236, 237, 238, 239, 240, 241, 242, 243, 244, 245, 246] (by decide +kernel) (by decide +kernel)) (goodIn_sub (fun _ h => List.mem_append_left _ (List.mem_append_left _ (List.mem_append_right _ h))) (by decide +kernel))
set_option maxRecDepth 20000 in
theorem gL_law_X0_advance : GoodIn wsL_law (wsV RL 96 RX0 yX0_advance wsX0_advance) := goodIn_app (goodIn_of _ (by decide +kernel)) ggL_law_X0_advance
set_option maxRecDepth 20000 in
theorem ggL_law_L_areSteps : GoodIn wsL_law wsL_areSteps := goodIn_ca (goodIn_r _ [178, 54, 55, 56, 2, 57, 23, 179, 180, 181, 182, 16, 112, 113, 114, 115, 49, 50, 116, 117, 118, 119, 124, 125, 126, 127, 22, 183, 184, 185, 186, 187, 188, 189, 190, 91, 92, 93, 94, 14, 191, 192, 193, 194, 28, 24, 128, 129, 130, 131, 15, 229, 230, 231, 232, 233, 234, 235, 236, 237, 238, 239, 240, 241, 242, 243, 244, 245, 246] (by decide +kernel) (by decide +kernel)) (goodIn_sub (fun _ h => List.mem_append_right _ h) (by decide +kernel))
set_option maxRecDepth 20000 in
theorem gL_law_L_areSteps : GoodIn wsL_law (va_wsS RL 99 yL_areSteps wsL_areSteps) := goodIn_app (goodIn_of _ (by decide +kernel)) ggL_law_L_areSteps
set_option maxRecDepth 20000 in
theorem ggL_law_L_isCommon : GoodIn wsL_law wsL_isCommon := goodIn_ca (goodIn_r _ [197, 198, 199, 200, 2, 201, 112, 113, 114, 115, 49, 50, 116, 117, 118, 119, 23, 202, 203, 204, 205, 21, 140, 141, 142, 143, 229, 230, 231, 232, 233, 234, 235, 236, 237, 238, 239, 240, 241, 242, 243, 244, 245, 246] (by decide +kernel) (by decide +kernel)) (goodIn_sub (fun _ h => List.mem_append_right _ h) (by decide +kernel))
set_option maxRecDepth 20000 in
theorem gL_law_L_isCommon : GoodIn wsL_law (va_wsS RL 103 yL_isCommon wsL_isCommon) := goodIn_app (goodIn_of _ (by decide +kernel)) ggL_law_L_isCommon
set_option maxRecDepth 20000 in
theorem ggL_law_L_isLot : GoodIn wsL_law wsL_isLot := goodIn_ca (goodIn_r _ [208, 209, 58, 59, 60, 2, 61, 28, 148, 149, 150, 151, 24, 152, 153, 154, 155, 49, 50, 128, 129, 130, 131, 15, 112, 113, 114, 115, 116, 117, 118, 119, 23, 124, 125, 126, 127, 22, 179, 180, 181, 182, 16, 140, 141, 142, 143, 21, 210, 211, 212, 213, 103, 104, 105, 106, 82, 12, 107, 29, 17, 91, 92, 93, 94, 14, 144, 145, 146, 147, 214, 215, 216, 217, 20, 229, 230, 231, 232, 233, 234, 235, 236, 237, 238, 239, 240, 241, 242, 243, 244, 245, 246] (by decide +kernel) (by decide +kernel)) (goodIn_sub (fun _ h => List.mem_append_right _ h) (by decide +kernel))
set_option maxRecDepth 20000 in
theorem gL_law_L_isLot : GoodIn wsL_law (va_wsS RL 107 yL_isLot wsL_isLot) := goodIn_app (goodIn_of _ (by decide +kernel)) ggL_law_L_isLot
set_option maxRecDepth 20000 in
theorem ggL_law_L_isWafer : GoodIn wsL_law wsL_isWafer := goodIn_ca (goodIn_r _ [220, 148, 149, 150, 2, 151, 24, 152, 153, 154, 155, 49, 50, 28, 221, 222, 223, 224, 27, 225, 226, 227, 228, 26, 51, 52, 53, 140, 141, 142, 143, 21, 112, 113, 114, 115, 116, 117, 118, 119, 23, 128, 129, 130, 131, 15, 229, 230, 231, 232, 233, 234, 235, 236, 237, 238, 239, 240, 241, 242, 243, 244, 245, 246] (by decide +kernel) (by decide +kernel)) (goodIn_sub (fun _ h => List.mem_append_right _ h) (by decide +kernel))
set_option maxRecDepth 20000 in
theorem gL_law_L_isWafer : GoodIn wsL_law (va_wsS RL 110 yL_isWafer wsL_isWafer) := goodIn_app (goodIn_of _ (by decide +kernel)) ggL_law_L_isWafer
theorem dL_law_0 : decode cL_law 0 = .ok (.new 9, 3) := by decide +kernel
theorem dL_law_3 : decode cL_law 3 = .ok (.dup, 1) := by decide +kernel
theorem dL_law_4 : decode cL_law 4 = .ok (.invokespecial 60, 3) := by decide +kernel
theorem dL_law_7 : decode cL_law 7 = .ok (.astore_n 1, 1) := by decide +kernel
theorem dL_law_8 : decode cL_law 8 = .ok (.iconst 2, 1) := by decide +kernel
theorem dL_law_9 : decode cL_law 9 = .ok (.aload_n 0, 1) := by decide +kernel
theorem dL_law_10 : decode cL_law 10 = .ok (.iconst 0, 1) := by decide +kernel
theorem dL_law_11 : decode cL_law 11 = .ok (.invokestatic 61, 3) := by decide +kernel
theorem dL_law_14 : decode cL_law 14 = .ok (.iconst 5, 1) := by decide +kernel
theorem dL_law_15 : decode cL_law 15 = .ok (.invokestatic 67, 3) := by decide +kernel
theorem dL_law_18 : decode cL_law 18 = .ok (.iadd, 1) := by decide +kernel
theorem dL_law_19 : decode cL_law 19 = .ok (.istore_n 2, 1) := by decide +kernel
theorem dL_law_20 : decode cL_law 20 = .ok (.iconst 0, 1) := by decide +kernel
theorem dL_law_21 : decode cL_law 21 = .ok (.istore_n 3, 1) := by decide +kernel
theorem dL_law_22 : decode cL_law 22 = .ok (.iload_n 3, 1) := by decide +kernel
theorem dL_law_23 : decode cL_law 23 = .ok (.iload_n 2, 1) := by decide +kernel
theorem dL_law_24 : decode cL_law 24 = .ok (.if_icmp .ge 79, 3) := by decide +kernel
theorem dL_law_27 : decode cL_law 27 = .ok (.aload_n 0, 1) := by decide +kernel
theorem dL_law_28 : decode cL_law 28 = .ok (.iconst 1, 1) := by decide +kernel
theorem dL_law_29 : decode cL_law 29 = .ok (.iload_n 3, 1) := by decide +kernel
theorem dL_law_30 : decode cL_law 30 = .ok (.iadd, 1) := by decide +kernel
theorem dL_law_31 : decode cL_law 31 = .ok (.invokestatic 61, 3) := by decide +kernel
theorem dL_law_34 : decode cL_law 34 = .ok (.istore 4, 2) := by decide +kernel
theorem dL_law_36 : decode cL_law 36 = .ok (.aload_n 1, 1) := by decide +kernel
theorem dL_law_37 : decode cL_law 37 = .ok (.iload 4, 2) := by decide +kernel
theorem dL_law_39 : decode cL_law 39 = .ok (.iconst 3, 1) := by decide +kernel
theorem dL_law_40 : decode cL_law 40 = .ok (.invokestatic 67, 3) := by decide +kernel
theorem dL_law_43 : decode cL_law 43 = .ok (.iconst 1, 1) := by decide +kernel
theorem dL_law_44 : decode cL_law 44 = .ok (.iload 4, 2) := by decide +kernel
theorem dL_law_46 : decode cL_law 46 = .ok (.iconst 3, 1) := by decide +kernel
theorem dL_law_47 : decode cL_law 47 = .ok (.ishr, 1) := by decide +kernel
theorem dL_law_48 : decode cL_law 48 = .ok (.bipush 20, 2) := by decide +kernel
theorem dL_law_50 : decode cL_law 50 = .ok (.invokestatic 67, 3) := by decide +kernel
theorem dL_law_53 : decode cL_law 53 = .ok (.iadd, 1) := by decide +kernel
theorem dL_law_54 : decode cL_law 54 = .ok (.iload 4, 2) := by decide +kernel
theorem dL_law_56 : decode cL_law 56 = .ok (.bipush 8, 2) := by decide +kernel
theorem dL_law_58 : decode cL_law 58 = .ok (.ishr, 1) := by decide +kernel
theorem dL_law_59 : decode cL_law 59 = .ok (.iconst 3, 1) := by decide +kernel
theorem dL_law_60 : decode cL_law 60 = .ok (.invokestatic 67, 3) := by decide +kernel
theorem dL_law_63 : decode cL_law 63 = .ok (.ifCond .ne 7, 3) := by decide +kernel
theorem dL_law_66 : decode cL_law 66 = .ok (.iconst 0, 1) := by decide +kernel
theorem dL_law_67 : decode cL_law 67 = .ok (.goto 15, 3) := by decide +kernel
theorem dL_law_70 : decode cL_law 70 = .ok (.iconst 5, 1) := by decide +kernel
theorem dL_law_71 : decode cL_law 71 = .ok (.iload 4, 2) := by decide +kernel
theorem dL_law_73 : decode cL_law 73 = .ok (.bipush 10, 2) := by decide +kernel
theorem dL_law_75 : decode cL_law 75 = .ok (.ishr, 1) := by decide +kernel
theorem dL_law_76 : decode cL_law 76 = .ok (.bipush 60, 2) := by decide +kernel
theorem dL_law_78 : decode cL_law 78 = .ok (.invokestatic 67, 3) := by decide +kernel
theorem dL_law_81 : decode cL_law 81 = .ok (.iadd, 1) := by decide +kernel
theorem dL_law_82 : decode cL_law 82 = .ok (.iload 4, 2) := by decide +kernel
theorem dL_law_84 : decode cL_law 84 = .ok (.bipush 17, 2) := by decide +kernel
theorem dL_law_86 : decode cL_law 86 = .ok (.ishr, 1) := by decide +kernel
theorem dL_law_87 : decode cL_law 87 = .ok (.iload_n 3, 1) := by decide +kernel
theorem dL_law_88 : decode cL_law 88 = .ok (.iconst 1, 1) := by decide +kernel
theorem dL_law_89 : decode cL_law 89 = .ok (.iadd, 1) := by decide +kernel
theorem dL_law_90 : decode cL_law 90 = .ok (.invokestatic 67, 3) := by decide +kernel
theorem dL_law_93 : decode cL_law 93 = .ok (.invokevirtual 70, 3) := by decide +kernel
theorem dL_law_96 : decode cL_law 96 = .ok (.pop, 1) := by decide +kernel
theorem dL_law_97 : decode cL_law 97 = .ok (.iinc 3 1, 3) := by decide +kernel
theorem dL_law_100 : decode cL_law 100 = .ok (.goto (-78), 3) := by decide +kernel
theorem dL_law_103 : decode cL_law 103 = .ok (.iconst 0, 1) := by decide +kernel
theorem dL_law_104 : decode cL_law 104 = .ok (.istore_n 3, 1) := by decide +kernel
theorem dL_law_105 : decode cL_law 105 = .ok (.iload_n 3, 1) := by decide +kernel
theorem dL_law_106 : decode cL_law 106 = .ok (.bipush 70, 2) := by decide +kernel
theorem dL_law_108 : decode cL_law 108 = .ok (.if_icmp .ge 541, 3) := by decide +kernel
theorem dL_law_111 : decode cL_law 111 = .ok (.aload_n 0, 1) := by decide +kernel
theorem dL_law_112 : decode cL_law 112 = .ok (.bipush 12, 2) := by decide +kernel
theorem dL_law_114 : decode cL_law 114 = .ok (.iconst 2, 1) := by decide +kernel
theorem dL_law_115 : decode cL_law 115 = .ok (.iload_n 3, 1) := by decide +kernel
theorem dL_law_116 : decode cL_law 116 = .ok (.imul, 1) := by decide +kernel
theorem dL_law_117 : decode cL_law 117 = .ok (.iadd, 1) := by decide +kernel
theorem dL_law_118 : decode cL_law 118 = .ok (.invokestatic 61, 3) := by decide +kernel
theorem dL_law_121 : decode cL_law 121 = .ok (.istore 4, 2) := by decide +kernel
theorem dL_law_123 : decode cL_law 123 = .ok (.aload_n 0, 1) := by decide +kernel
theorem dL_law_124 : decode cL_law 124 = .ok (.bipush 13, 2) := by decide +kernel
theorem dL_law_126 : decode cL_law 126 = .ok (.iconst 2, 1) := by decide +kernel
theorem dL_law_127 : decode cL_law 127 = .ok (.iload_n 3, 1) := by decide +kernel
theorem dL_law_128 : decode cL_law 128 = .ok (.imul, 1) := by decide +kernel
theorem dL_law_129 : decode cL_law 129 = .ok (.iadd, 1) := by decide +kernel
theorem dL_law_130 : decode cL_law 130 = .ok (.invokestatic 61, 3) := by decide +kernel
theorem dL_law_133 : decode cL_law 133 = .ok (.istore 5, 2) := by decide +kernel
theorem dL_law_135 : decode cL_law 135 = .ok (.iload 4, 2) := by decide +kernel
theorem dL_law_137 : decode cL_law 137 = .ok (.bipush 14, 2) := by decide +kernel
theorem dL_law_139 : decode cL_law 139 = .ok (.invokestatic 67, 3) := by decide +kernel
theorem dL_law_142 : decode cL_law 142 = .ok (.istore 6, 2) := by decide +kernel
theorem dL_law_144 : decode cL_law 144 = .ok (.aload_n 1, 1) := by decide +kernel
theorem dL_law_145 : decode cL_law 145 = .ok (.invokevirtual 48, 3) := by decide +kernel
theorem dL_law_148 : decode cL_law 148 = .ok (.istore 7, 2) := by decide +kernel
theorem dL_law_150 : decode cL_law 150 = .ok (.iload 7, 2) := by decide +kernel
theorem dL_law_152 : decode cL_law 152 = .ok (.ifCond .ne 7, 3) := by decide +kernel
theorem dL_law_155 : decode cL_law 155 = .ok (.iconst 0, 1) := by decide +kernel
theorem dL_law_156 : decode cL_law 156 = .ok (.goto 10, 3) := by decide +kernel
theorem dL_law_159 : decode cL_law 159 = .ok (.iload 5, 2) := by decide +kernel
theorem dL_law_161 : decode cL_law 161 = .ok (.iload 7, 2) := by decide +kernel
theorem dL_law_163 : decode cL_law 163 = .ok (.invokestatic 67, 3) := by decide +kernel
theorem dL_law_166 : decode cL_law 166 = .ok (.istore 8, 2) := by decide +kernel
theorem dL_law_168 : decode cL_law 168 = .ok (.iload 7, 2) := by decide +kernel
theorem dL_law_170 : decode cL_law 170 = .ok (.ifCond .eq 25, 3) := by decide +kernel
theorem dL_law_173 : decode cL_law 173 = .ok (.iload 6, 2) := by decide +kernel
theorem dL_law_175 : decode cL_law 175 = .ok (.iconst 2, 1) := by decide +kernel
theorem dL_law_176 : decode cL_law 176 = .ok (.if_icmp .ge 36, 3) := by decide +kernel
theorem dL_law_179 : decode cL_law 179 = .ok (.iload 7, 2) := by decide +kernel
theorem dL_law_181 : decode cL_law 181 = .ok (.bipush 20, 2) := by decide +kernel
theorem dL_law_183 : decode cL_law 183 = .ok (.if_icmp .ge 29, 3) := by decide +kernel
theorem dL_law_186 : decode cL_law 186 = .ok (.aload_n 1, 1) := by decide +kernel
theorem dL_law_187 : decode cL_law 187 = .ok (.invokevirtual 27, 3) := by decide +kernel
theorem dL_law_190 : decode cL_law 190 = .ok (.bipush 48, 2) := by decide +kernel
theorem dL_law_192 : decode cL_law 192 = .ok (.if_icmp .ge 20, 3) := by decide +kernel
theorem dL_law_195 : decode cL_law 195 = .ok (.aload_n 1, 1) := by decide +kernel
theorem dL_law_196 : decode cL_law 196 = .ok (.iconst 1, 1) := by decide +kernel
theorem dL_law_197 : decode cL_law 197 = .ok (.iload 5, 2) := by decide +kernel
theorem dL_law_199 : decode cL_law 199 = .ok (.bipush 12, 2) := by decide +kernel
theorem dL_law_201 : decode cL_law 201 = .ok (.invokestatic 67, 3) := by decide +kernel
theorem dL_law_204 : decode cL_law 204 = .ok (.iadd, 1) := by decide +kernel
theorem dL_law_205 : decode cL_law 205 = .ok (.invokevirtual 74, 3) := by decide +kernel
theorem dL_law_208 : decode cL_law 208 = .ok (.pop, 1) := by decide +kernel
theorem dL_law_209 : decode cL_law 209 = .ok (.goto 329, 3) := by decide +kernel
theorem dL_law_212 : decode cL_law 212 = .ok (.iload 6, 2) := by decide +kernel
theorem dL_law_214 : decode cL_law 214 = .ok (.bipush 6, 2) := by decide +kernel
theorem dL_law_216 : decode cL_law 216 = .ok (.if_icmp .ge 38, 3) := by decide +kernel
theorem dL_law_219 : decode cL_law 219 = .ok (.aload_n 1, 1) := by decide +kernel
theorem dL_law_220 : decode cL_law 220 = .ok (.iload 5, 2) := by decide +kernel
theorem dL_law_222 : decode cL_law 222 = .ok (.iconst 3, 1) := by decide +kernel
theorem dL_law_223 : decode cL_law 223 = .ok (.invokestatic 67, 3) := by decide +kernel
theorem dL_law_226 : decode cL_law 226 = .ok (.invokevirtual 77, 3) := by decide +kernel
theorem dL_law_229 : decode cL_law 229 = .ok (.istore 9, 2) := by decide +kernel
theorem dL_law_231 : decode cL_law 231 = .ok (.iload 9, 2) := by decide +kernel
theorem dL_law_233 : decode cL_law 233 = .ok (.ifCond .lt 18, 3) := by decide +kernel
theorem dL_law_236 : decode cL_law 236 = .ok (.aload_n 1, 1) := by decide +kernel
theorem dL_law_237 : decode cL_law 237 = .ok (.iload 9, 2) := by decide +kernel
theorem dL_law_239 : decode cL_law 239 = .ok (.invokevirtual 80, 3) := by decide +kernel
theorem dL_law_242 : decode cL_law 242 = .ok (.aload_n 1, 1) := by decide +kernel
theorem dL_law_243 : decode cL_law 243 = .ok (.invokevirtual 83, 3) := by decide +kernel
theorem dL_law_246 : decode cL_law 246 = .ok (.if_icmp .gt 5, 3) := by decide +kernel
theorem dL_law_249 : decode cL_law 249 = .ok (.iconst 0, 1) := by decide +kernel
theorem dL_law_250 : decode cL_law 250 = .ok (.ireturn, 1) := by decide +kernel
theorem dL_law_251 : decode cL_law 251 = .ok (.goto 287, 3) := by decide +kernel
theorem dL_law_254 : decode cL_law 254 = .ok (.iload 6, 2) := by decide +kernel
theorem dL_law_256 : decode cL_law 256 = .ok (.bipush 6, 2) := by decide +kernel
theorem dL_law_258 : decode cL_law 258 = .ok (.if_icmp .ne 119, 3) := by decide +kernel
theorem dL_law_261 : decode cL_law 261 = .ok (.aload_n 1, 1) := by decide +kernel
theorem dL_law_262 : decode cL_law 262 = .ok (.iload 8, 2) := by decide +kernel
theorem dL_law_264 : decode cL_law 264 = .ok (.invokevirtual 31, 3) := by decide +kernel
theorem dL_law_267 : decode cL_law 267 = .ok (.iconst 1, 1) := by decide +kernel
theorem dL_law_268 : decode cL_law 268 = .ok (.if_icmp .le 109, 3) := by decide +kernel
theorem dL_law_271 : decode cL_law 271 = .ok (.aload_n 1, 1) := by decide +kernel
theorem dL_law_272 : decode cL_law 272 = .ok (.iload 8, 2) := by decide +kernel
theorem dL_law_274 : decode cL_law 274 = .ok (.invokevirtual 24, 3) := by decide +kernel
theorem dL_law_277 : decode cL_law 277 = .ok (.ifCond .ne 100, 3) := by decide +kernel
theorem dL_law_280 : decode cL_law 280 = .ok (.iload 7, 2) := by decide +kernel
theorem dL_law_282 : decode cL_law 282 = .ok (.bipush 24, 2) := by decide +kernel
theorem dL_law_284 : decode cL_law 284 = .ok (.if_icmp .ge 93, 3) := by decide +kernel
theorem dL_law_287 : decode cL_law 287 = .ok (.aload_n 1, 1) := by decide +kernel
theorem dL_law_288 : decode cL_law 288 = .ok (.iload 8, 2) := by decide +kernel
theorem dL_law_290 : decode cL_law 290 = .ok (.invokevirtual 31, 3) := by decide +kernel
theorem dL_law_293 : decode cL_law 293 = .ok (.istore 9, 2) := by decide +kernel
theorem dL_law_295 : decode cL_law 295 = .ok (.iconst 1, 1) := by decide +kernel
theorem dL_law_296 : decode cL_law 296 = .ok (.iload 5, 2) := by decide +kernel
theorem dL_law_298 : decode cL_law 298 = .ok (.bipush 6, 2) := by decide +kernel
theorem dL_law_300 : decode cL_law 300 = .ok (.ishr, 1) := by decide +kernel
theorem dL_law_301 : decode cL_law 301 = .ok (.iload 9, 2) := by decide +kernel
theorem dL_law_303 : decode cL_law 303 = .ok (.iconst 1, 1) := by decide +kernel
theorem dL_law_304 : decode cL_law 304 = .ok (.isub, 1) := by decide +kernel
theorem dL_law_305 : decode cL_law 305 = .ok (.invokestatic 67, 3) := by decide +kernel
theorem dL_law_308 : decode cL_law 308 = .ok (.iadd, 1) := by decide +kernel
theorem dL_law_309 : decode cL_law 309 = .ok (.istore 10, 2) := by decide +kernel
theorem dL_law_311 : decode cL_law 311 = .ok (.aload_n 1, 1) := by decide +kernel
theorem dL_law_312 : decode cL_law 312 = .ok (.iload 8, 2) := by decide +kernel
theorem dL_law_314 : decode cL_law 314 = .ok (.iload 10, 2) := by decide +kernel
theorem dL_law_316 : decode cL_law 316 = .ok (.invokevirtual 86, 3) := by decide +kernel
theorem dL_law_319 : decode cL_law 319 = .ok (.istore 11, 2) := by decide +kernel
theorem dL_law_321 : decode cL_law 321 = .ok (.aload_n 1, 1) := by decide +kernel
theorem dL_law_322 : decode cL_law 322 = .ok (.iload 11, 2) := by decide +kernel
theorem dL_law_324 : decode cL_law 324 = .ok (.invokevirtual 31, 3) := by decide +kernel
theorem dL_law_327 : decode cL_law 327 = .ok (.iload 10, 2) := by decide +kernel
theorem dL_law_329 : decode cL_law 329 = .ok (.if_icmp .ne 43, 3) := by decide +kernel
theorem dL_law_332 : decode cL_law 332 = .ok (.aload_n 1, 1) := by decide +kernel
theorem dL_law_333 : decode cL_law 333 = .ok (.iload 8, 2) := by decide +kernel
theorem dL_law_335 : decode cL_law 335 = .ok (.invokevirtual 31, 3) := by decide +kernel
theorem dL_law_338 : decode cL_law 338 = .ok (.iload 9, 2) := by decide +kernel
theorem dL_law_340 : decode cL_law 340 = .ok (.iload 10, 2) := by decide +kernel
theorem dL_law_342 : decode cL_law 342 = .ok (.isub, 1) := by decide +kernel
theorem dL_law_343 : decode cL_law 343 = .ok (.if_icmp .ne 29, 3) := by decide +kernel
theorem dL_law_346 : decode cL_law 346 = .ok (.aload_n 1, 1) := by decide +kernel
theorem dL_law_347 : decode cL_law 347 = .ok (.iload 11, 2) := by decide +kernel
theorem dL_law_349 : decode cL_law 349 = .ok (.invokevirtual 21, 3) := by decide +kernel
theorem dL_law_352 : decode cL_law 352 = .ok (.iload 8, 2) := by decide +kernel
theorem dL_law_354 : decode cL_law 354 = .ok (.if_icmp .ne 18, 3) := by decide +kernel
theorem dL_law_357 : decode cL_law 357 = .ok (.aload_n 1, 1) := by decide +kernel
theorem dL_law_358 : decode cL_law 358 = .ok (.iload 11, 2) := by decide +kernel
theorem dL_law_360 : decode cL_law 360 = .ok (.invokevirtual 41, 3) := by decide +kernel
theorem dL_law_363 : decode cL_law 363 = .ok (.aload_n 1, 1) := by decide +kernel
theorem dL_law_364 : decode cL_law 364 = .ok (.iload 8, 2) := by decide +kernel
theorem dL_law_366 : decode cL_law 366 = .ok (.invokevirtual 41, 3) := by decide +kernel
theorem dL_law_369 : decode cL_law 369 = .ok (.if_icmp .eq 5, 3) := by decide +kernel
theorem dL_law_372 : decode cL_law 372 = .ok (.iconst 0, 1) := by decide +kernel
theorem dL_law_373 : decode cL_law 373 = .ok (.ireturn, 1) := by decide +kernel
theorem dL_law_374 : decode cL_law 374 = .ok (.goto 164, 3) := by decide +kernel
theorem dL_law_377 : decode cL_law 377 = .ok (.iload 6, 2) := by decide +kernel
theorem dL_law_379 : decode cL_law 379 = .ok (.bipush 7, 2) := by decide +kernel
theorem dL_law_381 : decode cL_law 381 = .ok (.if_icmp .ne 49, 3) := by decide +kernel
theorem dL_law_384 : decode cL_law 384 = .ok (.iload 5, 2) := by decide +kernel
theorem dL_law_386 : decode cL_law 386 = .ok (.bipush 6, 2) := by decide +kernel
theorem dL_law_388 : decode cL_law 388 = .ok (.ishr, 1) := by decide +kernel
theorem dL_law_389 : decode cL_law 389 = .ok (.aload_n 1, 1) := by decide +kernel
theorem dL_law_390 : decode cL_law 390 = .ok (.invokevirtual 27, 3) := by decide +kernel
theorem dL_law_393 : decode cL_law 393 = .ok (.invokestatic 67, 3) := by decide +kernel
theorem dL_law_396 : decode cL_law 396 = .ok (.istore 9, 2) := by decide +kernel
theorem dL_law_398 : decode cL_law 398 = .ok (.aload_n 1, 1) := by decide +kernel
theorem dL_law_399 : decode cL_law 399 = .ok (.iload 9, 2) := by decide +kernel
theorem dL_law_401 : decode cL_law 401 = .ok (.invokevirtual 8, 3) := by decide +kernel
theorem dL_law_404 : decode cL_law 404 = .ok (.ifCond .lt 23, 3) := by decide +kernel
theorem dL_law_407 : decode cL_law 407 = .ok (.aload_n 1, 1) := by decide +kernel
theorem dL_law_408 : decode cL_law 408 = .ok (.aload_n 1, 1) := by decide +kernel
theorem dL_law_409 : decode cL_law 409 = .ok (.iload 9, 2) := by decide +kernel
theorem dL_law_411 : decode cL_law 411 = .ok (.invokevirtual 8, 3) := by decide +kernel
theorem dL_law_414 : decode cL_law 414 = .ok (.invokevirtual 24, 3) := by decide +kernel
theorem dL_law_417 : decode cL_law 417 = .ok (.ifCond .ne 10, 3) := by decide +kernel
theorem dL_law_420 : decode cL_law 420 = .ok (.aload_n 1, 1) := by decide +kernel
theorem dL_law_421 : decode cL_law 421 = .ok (.iload 9, 2) := by decide +kernel
theorem dL_law_423 : decode cL_law 423 = .ok (.invokevirtual 89, 3) := by decide +kernel
theorem dL_law_426 : decode cL_law 426 = .ok (.pop, 1) := by decide +kernel
theorem dL_law_427 : decode cL_law 427 = .ok (.goto 111, 3) := by decide +kernel
theorem dL_law_430 : decode cL_law 430 = .ok (.iload 6, 2) := by decide +kernel
theorem dL_law_432 : decode cL_law 432 = .ok (.bipush 8, 2) := by decide +kernel
theorem dL_law_434 : decode cL_law 434 = .ok (.if_icmp .ne 78, 3) := by decide +kernel
theorem dL_law_437 : decode cL_law 437 = .ok (.aload_n 1, 1) := by decide +kernel
theorem dL_law_438 : decode cL_law 438 = .ok (.iload 8, 2) := by decide +kernel
theorem dL_law_440 : decode cL_law 440 = .ok (.invokevirtual 24, 3) := by decide +kernel
theorem dL_law_443 : decode cL_law 443 = .ok (.iconst 2, 1) := by decide +kernel
theorem dL_law_444 : decode cL_law 444 = .ok (.if_icmp .ge 68, 3) := by decide +kernel
theorem dL_law_447 : decode cL_law 447 = .ok (.aload_n 1, 1) := by decide +kernel
theorem dL_law_448 : decode cL_law 448 = .ok (.iload 8, 2) := by decide +kernel
theorem dL_law_450 : decode cL_law 450 = .ok (.iconst 1, 1) := by decide +kernel
theorem dL_law_451 : decode cL_law 451 = .ok (.invokevirtual 92, 3) := by decide +kernel
theorem dL_law_454 : decode cL_law 454 = .ok (.istore 9, 2) := by decide +kernel
theorem dL_law_456 : decode cL_law 456 = .ok (.aload_n 1, 1) := by decide +kernel
theorem dL_law_457 : decode cL_law 457 = .ok (.iload 8, 2) := by decide +kernel
theorem dL_law_459 : decode cL_law 459 = .ok (.iload 9, 2) := by decide +kernel
theorem dL_law_461 : decode cL_law 461 = .ok (.ifCond .ne 15, 3) := by decide +kernel
theorem dL_law_464 : decode cL_law 464 = .ok (.iload 5, 2) := by decide +kernel
theorem dL_law_466 : decode cL_law 466 = .ok (.bipush 6, 2) := by decide +kernel
theorem dL_law_468 : decode cL_law 468 = .ok (.ishr, 1) := by decide +kernel
theorem dL_law_469 : decode cL_law 469 = .ok (.iconst 2, 1) := by decide +kernel
theorem dL_law_470 : decode cL_law 470 = .ok (.invokestatic 67, 3) := by decide +kernel
theorem dL_law_473 : decode cL_law 473 = .ok (.ifCond .ne 7, 3) := by decide +kernel
theorem dL_law_476 : decode cL_law 476 = .ok (.iconst 1, 1) := by decide +kernel
theorem dL_law_477 : decode cL_law 477 = .ok (.goto 4, 3) := by decide +kernel
theorem dL_law_480 : decode cL_law 480 = .ok (.iconst 0, 1) := by decide +kernel
end
section
theorem dL_law_481 : decode cL_law 481 = .ok (.invokevirtual 92, 3) := by decide +kernel
theorem dL_law_484 : decode cL_law 484 = .ok (.ifCond .ne 5, 3) := by decide +kernel
theorem dL_law_487 : decode cL_law 487 = .ok (.iconst 0, 1) := by decide +kernel
theorem dL_law_488 : decode cL_law 488 = .ok (.ireturn, 1) := by decide +kernel
theorem dL_law_489 : decode cL_law 489 = .ok (.iload 5, 2) := by decide +kernel
theorem dL_law_491 : decode cL_law 491 = .ok (.bipush 8, 2) := by decide +kernel
theorem dL_law_493 : decode cL_law 493 = .ok (.ishr, 1) := by decide +kernel
theorem dL_law_494 : decode cL_law 494 = .ok (.iconst 2, 1) := by decide +kernel
theorem dL_law_495 : decode cL_law 495 = .ok (.invokestatic 67, 3) := by decide +kernel
theorem dL_law_498 : decode cL_law 498 = .ok (.ifCond .ne 11, 3) := by decide +kernel
theorem dL_law_501 : decode cL_law 501 = .ok (.aload_n 1, 1) := by decide +kernel
theorem dL_law_502 : decode cL_law 502 = .ok (.iload 8, 2) := by decide +kernel
theorem dL_law_504 : decode cL_law 504 = .ok (.iconst 0, 1) := by decide +kernel
theorem dL_law_505 : decode cL_law 505 = .ok (.invokevirtual 92, 3) := by decide +kernel
theorem dL_law_508 : decode cL_law 508 = .ok (.pop, 1) := by decide +kernel
theorem dL_law_509 : decode cL_law 509 = .ok (.goto 29, 3) := by decide +kernel
theorem dL_law_512 : decode cL_law 512 = .ok (.aload_n 1, 1) := by decide +kernel
theorem dL_law_513 : decode cL_law 513 = .ok (.iconst 1, 1) := by decide +kernel
theorem dL_law_514 : decode cL_law 514 = .ok (.iload 5, 2) := by decide +kernel
theorem dL_law_516 : decode cL_law 516 = .ok (.iload 6, 2) := by decide +kernel
theorem dL_law_518 : decode cL_law 518 = .ok (.bipush 12, 2) := by decide +kernel
theorem dL_law_520 : decode cL_law 520 = .ok (.if_icmp .ge 8, 3) := by decide +kernel
theorem dL_law_523 : decode cL_law 523 = .ok (.bipush 9, 2) := by decide +kernel
theorem dL_law_525 : decode cL_law 525 = .ok (.goto 5, 3) := by decide +kernel
theorem dL_law_528 : decode cL_law 528 = .ok (.bipush 40, 2) := by decide +kernel
theorem dL_law_530 : decode cL_law 530 = .ok (.invokestatic 67, 3) := by decide +kernel
theorem dL_law_533 : decode cL_law 533 = .ok (.iadd, 1) := by decide +kernel
theorem dL_law_534 : decode cL_law 534 = .ok (.invokevirtual 96, 3) := by decide +kernel
theorem dL_law_537 : decode cL_law 537 = .ok (.pop, 1) := by decide +kernel
theorem dL_law_538 : decode cL_law 538 = .ok (.aload_n 1, 1) := by decide +kernel
theorem dL_law_539 : decode cL_law 539 = .ok (.iload_n 2, 1) := by decide +kernel
theorem dL_law_540 : decode cL_law 540 = .ok (.invokestatic 99, 3) := by decide +kernel
theorem dL_law_543 : decode cL_law 543 = .ok (.ifCond .eq 28, 3) := by decide +kernel
theorem dL_law_546 : decode cL_law 546 = .ok (.aload_n 1, 1) := by decide +kernel
theorem dL_law_547 : decode cL_law 547 = .ok (.iload 8, 2) := by decide +kernel
theorem dL_law_549 : decode cL_law 549 = .ok (.iload 5, 2) := by decide +kernel
theorem dL_law_551 : decode cL_law 551 = .ok (.bipush 9, 2) := by decide +kernel
theorem dL_law_553 : decode cL_law 553 = .ok (.ishr, 1) := by decide +kernel
theorem dL_law_554 : decode cL_law 554 = .ok (.aload_n 1, 1) := by decide +kernel
theorem dL_law_555 : decode cL_law 555 = .ok (.invokevirtual 48, 3) := by decide +kernel
theorem dL_law_558 : decode cL_law 558 = .ok (.invokestatic 67, 3) := by decide +kernel
theorem dL_law_561 : decode cL_law 561 = .ok (.invokestatic 103, 3) := by decide +kernel
theorem dL_law_564 : decode cL_law 564 = .ok (.ifCond .eq 7, 3) := by decide +kernel
theorem dL_law_567 : decode cL_law 567 = .ok (.iconst 1, 1) := by decide +kernel
theorem dL_law_568 : decode cL_law 568 = .ok (.goto 4, 3) := by decide +kernel
theorem dL_law_571 : decode cL_law 571 = .ok (.iconst 0, 1) := by decide +kernel
theorem dL_law_572 : decode cL_law 572 = .ok (.istore 9, 2) := by decide +kernel
theorem dL_law_574 : decode cL_law 574 = .ok (.iconst 0, 1) := by decide +kernel
theorem dL_law_575 : decode cL_law 575 = .ok (.istore 10, 2) := by decide +kernel
theorem dL_law_577 : decode cL_law 577 = .ok (.iload 10, 2) := by decide +kernel
theorem dL_law_579 : decode cL_law 579 = .ok (.aload_n 1, 1) := by decide +kernel
theorem dL_law_580 : decode cL_law 580 = .ok (.invokevirtual 48, 3) := by decide +kernel
theorem dL_law_583 : decode cL_law 583 = .ok (.if_icmp .ge 22, 3) := by decide +kernel
theorem dL_law_586 : decode cL_law 586 = .ok (.iload 9, 2) := by decide +kernel
theorem dL_law_588 : decode cL_law 588 = .ok (.ifCond .eq 17, 3) := by decide +kernel
theorem dL_law_591 : decode cL_law 591 = .ok (.aload_n 1, 1) := by decide +kernel
theorem dL_law_592 : decode cL_law 592 = .ok (.iload 10, 2) := by decide +kernel
theorem dL_law_594 : decode cL_law 594 = .ok (.invokestatic 107, 3) := by decide +kernel
theorem dL_law_597 : decode cL_law 597 = .ok (.istore 9, 2) := by decide +kernel
theorem dL_law_599 : decode cL_law 599 = .ok (.iinc 10 1, 3) := by decide +kernel
theorem dL_law_602 : decode cL_law 602 = .ok (.goto (-25), 3) := by decide +kernel
theorem dL_law_605 : decode cL_law 605 = .ok (.iconst 0, 1) := by decide +kernel
theorem dL_law_606 : decode cL_law 606 = .ok (.istore 10, 2) := by decide +kernel
theorem dL_law_608 : decode cL_law 608 = .ok (.iload 10, 2) := by decide +kernel
theorem dL_law_610 : decode cL_law 610 = .ok (.aload_n 1, 1) := by decide +kernel
theorem dL_law_611 : decode cL_law 611 = .ok (.invokevirtual 27, 3) := by decide +kernel
theorem dL_law_614 : decode cL_law 614 = .ok (.if_icmp .ge 22, 3) := by decide +kernel
theorem dL_law_617 : decode cL_law 617 = .ok (.iload 9, 2) := by decide +kernel
theorem dL_law_619 : decode cL_law 619 = .ok (.ifCond .eq 17, 3) := by decide +kernel
theorem dL_law_622 : decode cL_law 622 = .ok (.aload_n 1, 1) := by decide +kernel
theorem dL_law_623 : decode cL_law 623 = .ok (.iload 10, 2) := by decide +kernel
theorem dL_law_625 : decode cL_law 625 = .ok (.invokestatic 110, 3) := by decide +kernel
theorem dL_law_628 : decode cL_law 628 = .ok (.istore 9, 2) := by decide +kernel
theorem dL_law_630 : decode cL_law 630 = .ok (.iinc 10 1, 3) := by decide +kernel
theorem dL_law_633 : decode cL_law 633 = .ok (.goto (-25), 3) := by decide +kernel
theorem dL_law_636 : decode cL_law 636 = .ok (.iload 9, 2) := by decide +kernel
theorem dL_law_638 : decode cL_law 638 = .ok (.ifCond .ne 5, 3) := by decide +kernel
theorem dL_law_641 : decode cL_law 641 = .ok (.iconst 0, 1) := by decide +kernel
theorem dL_law_642 : decode cL_law 642 = .ok (.ireturn, 1) := by decide +kernel
theorem dL_law_643 : decode cL_law 643 = .ok (.iinc 3 1, 3) := by decide +kernel
theorem dL_law_646 : decode cL_law 646 = .ok (.goto (-541), 3) := by decide +kernel
theorem dL_law_649 : decode cL_law 649 = .ok (.iconst 1, 1) := by decide +kernel
theorem dL_law_650 : decode cL_law 650 = .ok (.ireturn, 1) := by decide +kernel
end
section
/-! THE FRAMEWORK: one judgement over a pure state. A method's world is a family wf of cell lists over a pure state u; G says: in every heap that holds wf u, with locals L and stack st at pc, the machine comes to Q. -/
abbrev LU : Type := Nat → Nat → Int32
/-- array k replaced -/
def up (u : LU) (k : Nat) (f : Nat → Int32) : LU := fun j => if j = k then f else u j
theorem up_s (u : LU) (k : Nat) (f : Nat → Int32) : up u k f k = f := if_pos rfl
theorem up_n (u : LU) (k : Nat) (f : Nat → Int32) {j : Nat} (h : j ≠ k) : up u k f j = u j := if_neg h
/-- a truth as an int -/
noncomputable def bP (P : Prop) : Int32 := @ite _ P (Classical.propDecidable P) 1 0
theorem bP_t {P : Prop} (h : P) : bP P = 1 := by unfold bP; exact if_pos h
theorem bP_f {P : Prop} (h : ¬ P) : bP P = 0 := by unfold bP; exact if_neg h
theorem bP_0 {P : Prop} : bP P = 0 ↔ ¬ P := ⟨fun h q => by rw [bP_t q] at h; exact absurd h (by decide), bP_f⟩
theorem bP_n0 {P : Prop} : ¬ bP P = 0 ↔ P := ⟨fun h => Classical.byContradiction (fun q => h (bP_f q)), fun q h => by rw [bP_t q] at h; exact absurd h (by decide)⟩
theorem bP_1 {P : Prop} : bP P = 1 ↔ P := ⟨fun h => Classical.byContradiction (fun q => by rw [bP_f q] at h; exact absurd h (by decide)), bP_t⟩
theorem bP_c {P P' : Prop} (h : P ↔ P') : bP P = bP P' := congrArg bP (propext h)
theorem bP_or (P : Prop) : bP P = 0 ∨ bP P = 1 := (Classical.em P).elim (fun h => Or.inr (bP_t h)) (fun h => Or.inl (bP_f h))
theorem bP_ti {P : Prop} : (bP P).toInt = 0 ∧ ¬ P ∨ (bP P).toInt = 1 ∧ P := (Classical.em P).elim (fun h => Or.inr ⟨by rw [bP_t h]; rfl, h⟩) (fun h => Or.inl ⟨by rw [bP_f h]; rfl, h⟩)
theorem bP_nar (P : Prop) : narrow .boolean (.int (bP P)) = .int (bP P) := by rcases bP_or P with h | h <;> rw [h] <;> rfl
theorem bP_vp (P : Prop) : vp_nar .boolean (bP P) = bP P := by rcases bP_or P with h | h <;> rw [h] <;> rfl
/-- what a method's body knows throughout -/
def CX {S : Type} (p : Program) (s : State) (m : MethodId) (args : Array Value) (meth : Method) (c : Code) (D : va_G) (tys : List (ClassId × FieldType)) (A : Nat → Prop) (own : String) (cc : ByteArray) (Ts : List Cond) (nL : Nat) (wf : S → va_W) : Prop :=
  p.tables.exec = Jvm.exec ∧ c.code = cc ∧ c.maxLocals = nL ∧ s.vm.findClass own = some m.cls ∧ (∀ w ∈ Ts, w.before args s = true) ∧ va_K D vwCl tys s ∧ (∀ q, s.heap.size ≤ q → A q) ∧ (∀ u, va_D A (wf u)) ∧ meth.locks = false
def G {S : Type} (p : Program) (l : Launch) (e : Env) (R : Room) (s : State) (m : MethodId) (args : Array Value) (below : List Frame) (meth : Method) (c : Code) (D : va_G) (A : Nat → Prop) (nL : Nat) (wf : S → va_W) (cells slots : Nat) (Q : State → Prop) (u : S) (pc : Nat) (L : List (Nat × Value)) (st : List Value) : Prop :=
  ∀ (H : Heap) (locs : List Loc) (ls : Array Slot), va_P D vwCl (wf u) H → va_S A s.heap H locs → lv_has ls nL L → W p l e R s m args below meth c H locs cells slots Q (F0 m pc ls st)
section GR
variable {S : Type} {p : Program} {l : Launch} {e : Env} {R : Room} {s : State} {m : MethodId} {args : Array Value} {below : List Frame} {meth : Method} {c : Code} {D : va_G} {tys : List (ClassId × FieldType)} {A : Nat → Prop} {own : String} {cc : ByteArray} {Ts : List Cond} {nL : Nat} {wf : S → va_W} {cells slots : Nat} {Q : State → Prop} {u : S} {pc pc' : Nat} {L : List (Nat × Value)} {st : List Value}
theorem g_widen {k n : Nat} (h1 : cells ≤ k) (h2 : slots ≤ n) (kk : G p l e R s m args below meth c D A nL wf k n Q u pc L st) : G p l e R s m args below meth c D A nL wf cells slots Q u pc L st :=
  fun H locs ls hP hS hl => W.widen h1 h2 (kk H locs ls hP hS hl)
theorem g_sub {L' : List (Nat × Value)} (ks : List Nat) (hL : lv_pick L ks = L') (kk : G p l e R s m args below meth c D A nL wf cells slots Q u pc L' st) : G p l e R s m args below meth c D A nL wf cells slots Q u pc L st :=
  fun H locs ls hP hS hl => kk H locs ls hP hS (lv_sub hl ks hL)
theorem g_st {u' : S} (h : u = u') (kk : G p l e R s m args below meth c D A nL wf cells slots Q u' pc L st) : G p l e R s m args below meth c D A nL wf cells slots Q u pc L st := h ▸ kk
theorem g_iconst (C : CX p s m args meth c D tys A own cc Ts nL wf) {n : Int} {v : Int32} (hdg : decode cc pc = .ok (.iconst n, 1)) (hp : pc + 1 = pc') (hv : Int32.ofInt n = v) (kk : G p l e R s m args below meth c D A nL wf cells slots Q u pc' L (.int v :: st)) : G p l e R s m args below meth c D A nL wf cells slots Q u pc L st := by
  subst hp; exact fun H locs ls hP hS hl => lv_iconst C.1 C.2.1 hdg hv (kk H locs ls hP hS hl)
theorem g_bipush (C : CX p s m args meth c D tys A own cc Ts nL wf) {n : Int} {v : Int32} (hdg : decode cc pc = .ok (.bipush n, 2)) (hp : pc + 2 = pc') (hv : (Int8.ofInt n).toInt32 = v) (kk : G p l e R s m args below meth c D A nL wf cells slots Q u pc' L (.int v :: st)) : G p l e R s m args below meth c D A nL wf cells slots Q u pc L st := by
  subst hp; exact fun H locs ls hP hS hl => lv_bipush C.1 C.2.1 hdg hv (kk H locs ls hP hS hl)
theorem g_sipush (C : CX p s m args meth c D tys A own cc Ts nL wf) {n : Int} {v : Int32} (hdg : decode cc pc = .ok (.sipush n, 3)) (hp : pc + 3 = pc') (hv : (Int16.ofInt n).toInt32 = v) (kk : G p l e R s m args below meth c D A nL wf cells slots Q u pc' L (.int v :: st)) : G p l e R s m args below meth c D A nL wf cells slots Q u pc L st := by
  subst hp; exact fun H locs ls hP hS hl => lv_sipush C.1 C.2.1 hdg hv (kk H locs ls hP hS hl)
theorem g_ldc (C : CX p s m args meth c D tys A own cc Ts nL wf) {index : Nat} {v : Int32} (hdg : decode cc pc = .ok (.ldc index, 2)) (hp : pc + 2 = pc') (hc : Cond.constant own index v ∈ Ts) (kk : G p l e R s m args below meth c D A nL wf cells slots Q u pc' L (.int v :: st)) : G p l e R s m args below meth c D A nL wf cells slots Q u pc L st := by
  subst hp; exact fun H locs ls hP hS hl => lv_ldc C.1 C.2.1 C.2.2.2.1 (C.2.2.2.2.1 _ hc) hdg (kk H locs ls hP hS hl)
theorem g_iload_n (C : CX p s m args meth c D tys A own cc Ts nL wf) {k : Fin 4} {i q : Nat} {x : Int32} (hdg : decode cc pc = .ok (.iload_n k, 1)) (hp : pc + 1 = pc') (hi : (k : Nat) = i) (hL : L[q]? = some (i, .int x)) (kk : G p l e R s m args below meth c D A nL wf cells slots Q u pc' L (.int x :: st)) : G p l e R s m args below meth c D A nL wf cells slots Q u pc L st := by
  subst hp; exact fun H locs ls hP hS hl => lv_iload_n C.1 C.2.1 hdg hi (lv_at hl q hL) (kk H locs ls hP hS hl)
theorem g_iload (C : CX p s m args meth c D tys A own cc Ts nL wf) {i q : Nat} {x : Int32} (hdg : decode cc pc = .ok (.iload i, 2)) (hp : pc + 2 = pc') (hL : L[q]? = some (i, .int x)) (kk : G p l e R s m args below meth c D A nL wf cells slots Q u pc' L (.int x :: st)) : G p l e R s m args below meth c D A nL wf cells slots Q u pc L st := by
  subst hp; exact fun H locs ls hP hS hl => lv_iload C.1 C.2.1 hdg (lv_at hl q hL) (kk H locs ls hP hS hl)
theorem g_aload_n (C : CX p s m args meth c D tys A own cc Ts nL wf) {k : Fin 4} {i q : Nat} {x : Nat} (hdg : decode cc pc = .ok (.aload_n k, 1)) (hp : pc + 1 = pc') (hi : (k : Nat) = i) (hL : L[q]? = some (i, .ref x)) (kk : G p l e R s m args below meth c D A nL wf cells slots Q u pc' L (.ref x :: st)) : G p l e R s m args below meth c D A nL wf cells slots Q u pc L st := by
  subst hp; exact fun H locs ls hP hS hl => lv_aload_n C.1 C.2.1 hdg hi (lv_at hl q hL) (kk H locs ls hP hS hl)
theorem g_aload (C : CX p s m args meth c D tys A own cc Ts nL wf) {i q : Nat} {x : Nat} (hdg : decode cc pc = .ok (.aload i, 2)) (hp : pc + 2 = pc') (hL : L[q]? = some (i, .ref x)) (kk : G p l e R s m args below meth c D A nL wf cells slots Q u pc' L (.ref x :: st)) : G p l e R s m args below meth c D A nL wf cells slots Q u pc L st := by
  subst hp; exact fun H locs ls hP hS hl => lv_aload C.1 C.2.1 hdg (lv_at hl q hL) (kk H locs ls hP hS hl)
theorem g_istore_n (C : CX p s m args meth c D tys A own cc Ts nL wf) {k : Fin 4} {i : Nat} {x : Int32} {L' : List (Nat × Value)} (hdg : decode cc pc = .ok (.istore_n k, 1)) (hp : pc + 1 = pc') (hi : (k : Nat) = i) (hn : i < nL) (hl : (i, Value.int x) :: L.filter (fun q => !(q.1 == i) && !(q.1 + 1 == i && q.2.category == 2)) = L') (kk : G p l e R s m args below meth c D A nL wf cells slots Q u pc' L' st) : G p l e R s m args below meth c D A nL wf cells slots Q u pc L (.int x :: st) := by
  subst hp; exact fun H locs ls hP hS h => lv_istore_n C.1 C.2.1 hdg hi h hn hl (fun ls' h' => kk H locs ls' hP hS h')
theorem g_istore (C : CX p s m args meth c D tys A own cc Ts nL wf) {i : Nat} {x : Int32} {L' : List (Nat × Value)} (hdg : decode cc pc = .ok (.istore i, 2)) (hp : pc + 2 = pc') (hn : i < nL) (hl : (i, Value.int x) :: L.filter (fun q => !(q.1 == i) && !(q.1 + 1 == i && q.2.category == 2)) = L') (kk : G p l e R s m args below meth c D A nL wf cells slots Q u pc' L' st) : G p l e R s m args below meth c D A nL wf cells slots Q u pc L (.int x :: st) := by
  subst hp; exact fun H locs ls hP hS h => lv_istore C.1 C.2.1 hdg h hn hl (fun ls' h' => kk H locs ls' hP hS h')
theorem g_astore_n (C : CX p s m args meth c D tys A own cc Ts nL wf) {k : Fin 4} {i : Nat} {x : Nat} {L' : List (Nat × Value)} (hdg : decode cc pc = .ok (.astore_n k, 1)) (hp : pc + 1 = pc') (hi : (k : Nat) = i) (hn : i < nL) (hl : (i, Value.ref x) :: L.filter (fun q => !(q.1 == i) && !(q.1 + 1 == i && q.2.category == 2)) = L') (kk : G p l e R s m args below meth c D A nL wf cells slots Q u pc' L' st) : G p l e R s m args below meth c D A nL wf cells slots Q u pc L (.ref x :: st) := by
  subst hp; exact fun H locs ls hP hS h => lv_astore_n C.1 C.2.1 hdg hi h hn hl (fun ls' h' => kk H locs ls' hP hS h')
theorem g_astore (C : CX p s m args meth c D tys A own cc Ts nL wf) {i : Nat} {x : Nat} {L' : List (Nat × Value)} (hdg : decode cc pc = .ok (.astore i, 2)) (hp : pc + 2 = pc') (hn : i < nL) (hl : (i, Value.ref x) :: L.filter (fun q => !(q.1 == i) && !(q.1 + 1 == i && q.2.category == 2)) = L') (kk : G p l e R s m args below meth c D A nL wf cells slots Q u pc' L' st) : G p l e R s m args below meth c D A nL wf cells slots Q u pc L (.ref x :: st) := by
  subst hp; exact fun H locs ls hP hS h => lv_astore C.1 C.2.1 hdg h hn hl (fun ls' h' => kk H locs ls' hP hS h')
theorem g_iinc (C : CX p s m args meth c D tys A own cc Ts nL wf) {i k : Nat} {n : Int} {x v : Int32} {L' : List (Nat × Value)} (hdg : decode cc pc = .ok (.iinc i n, 3)) (hp : pc + 3 = pc') (hk : L[k]? = some (i, .int x)) (hv : x + Int32.ofInt n = v) (hn : i < nL) (hl : (i, Value.int v) :: L.filter (fun q => !(q.1 == i) && !(q.1 + 1 == i && q.2.category == 2)) = L') (kk : G p l e R s m args below meth c D A nL wf cells slots Q u pc' L' st) : G p l e R s m args below meth c D A nL wf cells slots Q u pc L st := by
  subst hp; exact fun H locs ls hP hS h => lv_iinc C.1 C.2.1 hdg h hk hv hn hl (fun ls' h' => kk H locs ls' hP hS h')
theorem g_iadd (C : CX p s m args meth c D tys A own cc Ts nL wf) {x y : Int32} (hdg : decode cc pc = .ok (.iadd, 1)) (hp : pc + 1 = pc') (kk : G p l e R s m args below meth c D A nL wf cells slots Q u pc' L (.int (x + y) :: st)) : G p l e R s m args below meth c D A nL wf cells slots Q u pc L (.int y :: .int x :: st) := by
  subst hp; exact fun H locs ls hP hS hl => lv_iadd C.1 C.2.1 hdg (kk H locs ls hP hS hl)
theorem g_isub (C : CX p s m args meth c D tys A own cc Ts nL wf) {x y : Int32} (hdg : decode cc pc = .ok (.isub, 1)) (hp : pc + 1 = pc') (kk : G p l e R s m args below meth c D A nL wf cells slots Q u pc' L (.int (x - y) :: st)) : G p l e R s m args below meth c D A nL wf cells slots Q u pc L (.int y :: .int x :: st) := by
  subst hp; exact fun H locs ls hP hS hl => lv_isub C.1 C.2.1 hdg (kk H locs ls hP hS hl)
theorem g_imul (C : CX p s m args meth c D tys A own cc Ts nL wf) {x y : Int32} (hdg : decode cc pc = .ok (.imul, 1)) (hp : pc + 1 = pc') (kk : G p l e R s m args below meth c D A nL wf cells slots Q u pc' L (.int (x * y) :: st)) : G p l e R s m args below meth c D A nL wf cells slots Q u pc L (.int y :: .int x :: st) := by
  subst hp; exact fun H locs ls hP hS hl => lv_imul C.1 C.2.1 hdg (kk H locs ls hP hS hl)
theorem g_iand (C : CX p s m args meth c D tys A own cc Ts nL wf) {x y : Int32} (hdg : decode cc pc = .ok (.iand, 1)) (hp : pc + 1 = pc') (kk : G p l e R s m args below meth c D A nL wf cells slots Q u pc' L (.int (x &&& y) :: st)) : G p l e R s m args below meth c D A nL wf cells slots Q u pc L (.int y :: .int x :: st) := by
  subst hp; exact fun H locs ls hP hS hl => lv_iand C.1 C.2.1 hdg (kk H locs ls hP hS hl)
theorem g_dup (C : CX p s m args meth c D tys A own cc Ts nL wf) {v : Value} (hdg : decode cc pc = .ok (.dup, 1)) (hp : pc + 1 = pc') (hv : v.category = 1) (kk : G p l e R s m args below meth c D A nL wf cells slots Q u pc' L (v :: v :: st)) : G p l e R s m args below meth c D A nL wf cells slots Q u pc L (v :: st) := by
  subst hp; exact fun H locs ls hP hS hl => lv_dup C.1 C.2.1 hdg hv (kk H locs ls hP hS hl)
theorem g_dup2 (C : CX p s m args meth c D tys A own cc Ts nL wf) {v w : Value} (hdg : decode cc pc = .ok (.dup2, 1)) (hp : pc + 1 = pc') (hv : v.category = 1) (hw : w.category = 1) (kk : G p l e R s m args below meth c D A nL wf cells slots Q u pc' L (v :: w :: v :: w :: st)) : G p l e R s m args below meth c D A nL wf cells slots Q u pc L (v :: w :: st) := by
  subst hp; exact fun H locs ls hP hS hl => lv_dup2_11 C.1 C.2.1 hdg hv hw (kk H locs ls hP hS hl)
theorem g_goto (C : CX p s m args meth c D tys A own cc Ts nL wf) {off : Int} {tgt : Nat} (hdg : decode cc pc = .ok (.goto off, 3)) (ht : (pc : Int) + off = (tgt : Int)) (kk : G p l e R s m args below meth c D A nL wf cells slots Q u tgt L st) : G p l e R s m args below meth c D A nL wf cells slots Q u pc L st :=
  fun H locs ls hP hS hl => lv_goto C.1 C.2.1 hdg ht (kk H locs ls hP hS hl)
theorem ti_0 : (0 : Int32).toInt = 0 := Int32.toInt_zero
theorem ii_eq (x : Int32) : (x = 0) ↔ (x.toInt = 0) := by
  have h := @Int32.toInt_inj x 0
  rw [ti_0] at h
  exact h.symm
theorem ii_ne (x : Int32) : (¬ x = 0) ↔ (¬ x.toInt = 0) := by
  have h := @Int32.toInt_inj x 0
  rw [ti_0] at h
  exact not_congr h.symm
theorem ii_lt (x : Int32) : (x < 0) ↔ (x.toInt < 0) := by
  have h := @Int32.lt_iff_toInt_lt x 0
  rw [ti_0] at h
  exact h
theorem ii_ge (x : Int32) : (0 ≤ x) ↔ (0 ≤ x.toInt) := by
  have h := @Int32.le_iff_toInt_le 0 x
  rw [ti_0] at h
  exact h
theorem ii_gt (x : Int32) : (0 < x) ↔ (0 < x.toInt) := by
  have h := @Int32.lt_iff_toInt_lt 0 x
  rw [ti_0] at h
  exact h
theorem ii_le (x : Int32) : (x ≤ 0) ↔ (x.toInt ≤ 0) := by
  have h := @Int32.le_iff_toInt_le x 0
  rw [ti_0] at h
  exact h
theorem cc_eq (x y : Int32) : (x = y) ↔ (x.toInt = y.toInt) := Int32.toInt_inj.symm
theorem cc_ne (x y : Int32) : (¬ x = y) ↔ (¬ x.toInt = y.toInt) := not_congr Int32.toInt_inj.symm
theorem cc_lt (x y : Int32) : (x < y) ↔ (x.toInt < y.toInt) := Int32.lt_iff_toInt_lt
theorem cc_ge (x y : Int32) : (y ≤ x) ↔ (y.toInt ≤ x.toInt) := Int32.le_iff_toInt_le
theorem cc_gt (x y : Int32) : (y < x) ↔ (y.toInt < x.toInt) := Int32.lt_iff_toInt_lt
theorem cc_le (x y : Int32) : (x ≤ y) ↔ (x.toInt ≤ y.toInt) := Int32.le_iff_toInt_le
theorem g_if_eq (C : CX p s m args meth c D tys A own cc Ts nL wf) {x : Int32} {off : Int} {tgt : Nat} (hdg : decode cc pc = .ok (.ifCond .eq off, 3)) (hp : pc + 3 = pc') (ht : (pc : Int) + off = (tgt : Int)) (kt : x.toInt = 0 → G p l e R s m args below meth c D A nL wf cells slots Q u tgt L st) (kf : ¬ (x.toInt = 0) → G p l e R s m args below meth c D A nL wf cells slots Q u pc' L st) : G p l e R s m args below meth c D A nL wf cells slots Q u pc L (.int x :: st) := by
  subst hp; exact fun H locs ls hP hS hl => lv_if_eq C.1 C.2.1 hdg ht (fun h => kt ((ii_eq x).mp h) H locs ls hP hS hl) (fun h => kf (fun h9 => h ((ii_eq x).mpr h9)) H locs ls hP hS hl)
theorem g_if_ne (C : CX p s m args meth c D tys A own cc Ts nL wf) {x : Int32} {off : Int} {tgt : Nat} (hdg : decode cc pc = .ok (.ifCond .ne off, 3)) (hp : pc + 3 = pc') (ht : (pc : Int) + off = (tgt : Int)) (kt : ¬ x.toInt = 0 → G p l e R s m args below meth c D A nL wf cells slots Q u tgt L st) (kf : x.toInt = 0 → G p l e R s m args below meth c D A nL wf cells slots Q u pc' L st) : G p l e R s m args below meth c D A nL wf cells slots Q u pc L (.int x :: st) := by
  subst hp; exact fun H locs ls hP hS hl => lv_if_ne C.1 C.2.1 hdg ht (fun h => kt ((ii_ne x).mp h) H locs ls hP hS hl) (fun h => kf ((ii_eq x).mp h) H locs ls hP hS hl)
theorem g_if_lt (C : CX p s m args meth c D tys A own cc Ts nL wf) {x : Int32} {off : Int} {tgt : Nat} (hdg : decode cc pc = .ok (.ifCond .lt off, 3)) (hp : pc + 3 = pc') (ht : (pc : Int) + off = (tgt : Int)) (kt : x.toInt < 0 → G p l e R s m args below meth c D A nL wf cells slots Q u tgt L st) (kf : ¬ (x.toInt < 0) → G p l e R s m args below meth c D A nL wf cells slots Q u pc' L st) : G p l e R s m args below meth c D A nL wf cells slots Q u pc L (.int x :: st) := by
  subst hp; exact fun H locs ls hP hS hl => lv_if_lt C.1 C.2.1 hdg ht (fun h => kt ((ii_lt x).mp h) H locs ls hP hS hl) (fun h => kf (fun h9 => h ((ii_lt x).mpr h9)) H locs ls hP hS hl)
theorem g_if_ge (C : CX p s m args meth c D tys A own cc Ts nL wf) {x : Int32} {off : Int} {tgt : Nat} (hdg : decode cc pc = .ok (.ifCond .ge off, 3)) (hp : pc + 3 = pc') (ht : (pc : Int) + off = (tgt : Int)) (kt : 0 ≤ x.toInt → G p l e R s m args below meth c D A nL wf cells slots Q u tgt L st) (kf : ¬ (0 ≤ x.toInt) → G p l e R s m args below meth c D A nL wf cells slots Q u pc' L st) : G p l e R s m args below meth c D A nL wf cells slots Q u pc L (.int x :: st) := by
  subst hp; exact fun H locs ls hP hS hl => lv_if_ge C.1 C.2.1 hdg ht (fun h => kt ((ii_ge x).mp h) H locs ls hP hS hl) (fun h => kf (fun h9 => h ((ii_ge x).mpr h9)) H locs ls hP hS hl)
theorem g_if_gt (C : CX p s m args meth c D tys A own cc Ts nL wf) {x : Int32} {off : Int} {tgt : Nat} (hdg : decode cc pc = .ok (.ifCond .gt off, 3)) (hp : pc + 3 = pc') (ht : (pc : Int) + off = (tgt : Int)) (kt : 0 < x.toInt → G p l e R s m args below meth c D A nL wf cells slots Q u tgt L st) (kf : ¬ (0 < x.toInt) → G p l e R s m args below meth c D A nL wf cells slots Q u pc' L st) : G p l e R s m args below meth c D A nL wf cells slots Q u pc L (.int x :: st) := by
  subst hp; exact fun H locs ls hP hS hl => lv_if_gt C.1 C.2.1 hdg ht (fun h => kt ((ii_gt x).mp h) H locs ls hP hS hl) (fun h => kf (fun h9 => h ((ii_gt x).mpr h9)) H locs ls hP hS hl)
theorem g_if_le (C : CX p s m args meth c D tys A own cc Ts nL wf) {x : Int32} {off : Int} {tgt : Nat} (hdg : decode cc pc = .ok (.ifCond .le off, 3)) (hp : pc + 3 = pc') (ht : (pc : Int) + off = (tgt : Int)) (kt : x.toInt ≤ 0 → G p l e R s m args below meth c D A nL wf cells slots Q u tgt L st) (kf : ¬ (x.toInt ≤ 0) → G p l e R s m args below meth c D A nL wf cells slots Q u pc' L st) : G p l e R s m args below meth c D A nL wf cells slots Q u pc L (.int x :: st) := by
  subst hp; exact fun H locs ls hP hS hl => lv_if_le C.1 C.2.1 hdg ht (fun h => kt ((ii_le x).mp h) H locs ls hP hS hl) (fun h => kf (fun h9 => h ((ii_le x).mpr h9)) H locs ls hP hS hl)
theorem g_icmp_eq (C : CX p s m args meth c D tys A own cc Ts nL wf) {x y : Int32} {off : Int} {tgt : Nat} (hdg : decode cc pc = .ok (.if_icmp .eq off, 3)) (hp : pc + 3 = pc') (ht : (pc : Int) + off = (tgt : Int)) (kt : x.toInt = y.toInt → G p l e R s m args below meth c D A nL wf cells slots Q u tgt L st) (kf : ¬ (x.toInt = y.toInt) → G p l e R s m args below meth c D A nL wf cells slots Q u pc' L st) : G p l e R s m args below meth c D A nL wf cells slots Q u pc L (.int y :: .int x :: st) := by
  subst hp; exact fun H locs ls hP hS hl => lv_icmp_eq C.1 C.2.1 hdg ht (fun h => kt ((cc_eq x y).mp h) H locs ls hP hS hl) (fun h => kf (fun h9 => h ((cc_eq x y).mpr h9)) H locs ls hP hS hl)
theorem g_icmp_ne (C : CX p s m args meth c D tys A own cc Ts nL wf) {x y : Int32} {off : Int} {tgt : Nat} (hdg : decode cc pc = .ok (.if_icmp .ne off, 3)) (hp : pc + 3 = pc') (ht : (pc : Int) + off = (tgt : Int)) (kt : ¬ x.toInt = y.toInt → G p l e R s m args below meth c D A nL wf cells slots Q u tgt L st) (kf : x.toInt = y.toInt → G p l e R s m args below meth c D A nL wf cells slots Q u pc' L st) : G p l e R s m args below meth c D A nL wf cells slots Q u pc L (.int y :: .int x :: st) := by
  subst hp; exact fun H locs ls hP hS hl => lv_icmp_ne C.1 C.2.1 hdg ht (fun h => kt ((cc_ne x y).mp h) H locs ls hP hS hl) (fun h => kf ((cc_eq x y).mp h) H locs ls hP hS hl)
theorem g_icmp_lt (C : CX p s m args meth c D tys A own cc Ts nL wf) {x y : Int32} {off : Int} {tgt : Nat} (hdg : decode cc pc = .ok (.if_icmp .lt off, 3)) (hp : pc + 3 = pc') (ht : (pc : Int) + off = (tgt : Int)) (kt : x.toInt < y.toInt → G p l e R s m args below meth c D A nL wf cells slots Q u tgt L st) (kf : ¬ (x.toInt < y.toInt) → G p l e R s m args below meth c D A nL wf cells slots Q u pc' L st) : G p l e R s m args below meth c D A nL wf cells slots Q u pc L (.int y :: .int x :: st) := by
  subst hp; exact fun H locs ls hP hS hl => lv_icmp_lt C.1 C.2.1 hdg ht (fun h => kt ((cc_lt x y).mp h) H locs ls hP hS hl) (fun h => kf (fun h9 => h ((cc_lt x y).mpr h9)) H locs ls hP hS hl)
theorem g_icmp_ge (C : CX p s m args meth c D tys A own cc Ts nL wf) {x y : Int32} {off : Int} {tgt : Nat} (hdg : decode cc pc = .ok (.if_icmp .ge off, 3)) (hp : pc + 3 = pc') (ht : (pc : Int) + off = (tgt : Int)) (kt : y.toInt ≤ x.toInt → G p l e R s m args below meth c D A nL wf cells slots Q u tgt L st) (kf : ¬ (y.toInt ≤ x.toInt) → G p l e R s m args below meth c D A nL wf cells slots Q u pc' L st) : G p l e R s m args below meth c D A nL wf cells slots Q u pc L (.int y :: .int x :: st) := by
  subst hp; exact fun H locs ls hP hS hl => lv_icmp_ge C.1 C.2.1 hdg ht (fun h => kt ((cc_ge x y).mp h) H locs ls hP hS hl) (fun h => kf (fun h9 => h ((cc_ge x y).mpr h9)) H locs ls hP hS hl)
theorem g_icmp_gt (C : CX p s m args meth c D tys A own cc Ts nL wf) {x y : Int32} {off : Int} {tgt : Nat} (hdg : decode cc pc = .ok (.if_icmp .gt off, 3)) (hp : pc + 3 = pc') (ht : (pc : Int) + off = (tgt : Int)) (kt : y.toInt < x.toInt → G p l e R s m args below meth c D A nL wf cells slots Q u tgt L st) (kf : ¬ (y.toInt < x.toInt) → G p l e R s m args below meth c D A nL wf cells slots Q u pc' L st) : G p l e R s m args below meth c D A nL wf cells slots Q u pc L (.int y :: .int x :: st) := by
  subst hp; exact fun H locs ls hP hS hl => lv_icmp_gt C.1 C.2.1 hdg ht (fun h => kt ((cc_gt x y).mp h) H locs ls hP hS hl) (fun h => kf (fun h9 => h ((cc_gt x y).mpr h9)) H locs ls hP hS hl)
theorem g_icmp_le (C : CX p s m args meth c D tys A own cc Ts nL wf) {x y : Int32} {off : Int} {tgt : Nat} (hdg : decode cc pc = .ok (.if_icmp .le off, 3)) (hp : pc + 3 = pc') (ht : (pc : Int) + off = (tgt : Int)) (kt : x.toInt ≤ y.toInt → G p l e R s m args below meth c D A nL wf cells slots Q u tgt L st) (kf : ¬ (x.toInt ≤ y.toInt) → G p l e R s m args below meth c D A nL wf cells slots Q u pc' L st) : G p l e R s m args below meth c D A nL wf cells slots Q u pc L (.int y :: .int x :: st) := by
  subst hp; exact fun H locs ls hP hS hl => lv_icmp_le C.1 C.2.1 hdg ht (fun h => kt ((cc_le x y).mp h) H locs ls hP hS hl) (fun h => kf (fun h9 => h ((cc_le x y).mpr h9)) H locs ls hP hS hl)
theorem g_ifP_eq (C : CX p s m args meth c D tys A own cc Ts nL wf) {P : Prop} {off : Int} {tgt : Nat} (hdg : decode cc pc = .ok (.ifCond .eq off, 3)) (hp : pc + 3 = pc') (ht : (pc : Int) + off = (tgt : Int)) (kt : ¬ P → G p l e R s m args below meth c D A nL wf cells slots Q u tgt L st) (kf : P → G p l e R s m args below meth c D A nL wf cells slots Q u pc' L st) : G p l e R s m args below meth c D A nL wf cells slots Q u pc L (.int (bP P) :: st) := by
  subst hp; exact fun H locs ls hP hS hl => lv_if_eq C.1 C.2.1 hdg ht (fun h => kt (bP_0.mp h) H locs ls hP hS hl) (fun h => kf (bP_n0.mp h) H locs ls hP hS hl)
theorem g_ifP_ne (C : CX p s m args meth c D tys A own cc Ts nL wf) {P : Prop} {off : Int} {tgt : Nat} (hdg : decode cc pc = .ok (.ifCond .ne off, 3)) (hp : pc + 3 = pc') (ht : (pc : Int) + off = (tgt : Int)) (kt : P → G p l e R s m args below meth c D A nL wf cells slots Q u tgt L st) (kf : ¬ P → G p l e R s m args below meth c D A nL wf cells slots Q u pc' L st) : G p l e R s m args below meth c D A nL wf cells slots Q u pc L (.int (bP P) :: st) := by
  subst hp; exact fun H locs ls hP hS hl => lv_if_ne C.1 C.2.1 hdg ht (fun h => kt (bP_n0.mp h) H locs ls hP hS hl) (fun h => kf (bP_0.mp h) H locs ls hP hS hl)
theorem g_get (C : CX p s m args meth c D tys A own cc Ts nL wf) {ref Cn : String} {T : u_T} {N ci index : Nat} (hF : ∀ w ∈ u_ws Cn T N, w.before args s = true) (q0 : Nat) {b : Nat} {fs : List Value} (he : (wf u)[q0]? = some (b, .inr (ci, fs))) (hc : vwCl[ci]? = some (Cn, T, N)) (k : Nat) (hk : k < N) (hlink : Cond.fieldLink own index ref (T k).2.1 (T k).2.2.1 ∈ Ts) (hsame : (T k).1 = ref) {v : Value} (hv : fs[k]? = some v) (hdg : decode cc pc = .ok (.getfield index, 3)) (hp : pc + 3 = pc')
    (kk : G p l e R s m args below meth c D A nL wf cells slots Q u pc' L (v :: st)) : G p l e R s m args below meth c D A nL wf cells slots Q u pc L (.ref b :: st) := by
  subst hp; subst hsame
  exact fun H locs ls hP hS hl => va_get C.1 C.2.1 (Ts := u_ws Cn T N) hF (fun _ h => h) C.2.2.2.1 C.2.2.2.2.2.1 hP q0 he hc k hk (C.2.2.2.2.1 _ hlink) (fun _ h => h) hv hdg (kk H locs ls hP hS hl)
theorem g_putI (C : CX p s m args meth c D tys A own cc Ts nL wf) {ref Cn : String} {T : u_T} {N ci index : Nat} (hF : ∀ w ∈ u_ws Cn T N, w.before args s = true) (ty0 : Nat → FieldType) (hty : ∀ k, k < N → parseFieldDescriptor (T k).2.2.1 = some (ty0 k)) (hnm : ∀ a, a < N → ∀ b, b < N → a ≠ b → (T a).2.1 ≠ (T b).2.1) (q0 : Nat) {b : Nat} {fs : List Value} (he : (wf u)[q0]? = some (b, .inr (ci, fs))) (hc : vwCl[ci]? = some (Cn, T, N)) (k : Nat) (hk : k < N) (hlink : Cond.fieldLink own index ref (T k).2.1 (T k).2.2.1 ∈ Ts) (hsame : (T k).1 = ref) (hfin : (T k).2.2.2 = false) (hd : parseFieldDescriptor (T k).2.2.1 = some .int) {x : Int32} (hl0 : k < fs.length) (hdg : decode cc pc = .ok (.putfield index, 3)) (hp : pc + 3 = pc') {u' : S} (hset : (wf u).set q0 (b, .inr (ci, fs.set k (.int x))) = wf u')
    (kk : G p l e R s m args below meth c D A nL wf cells slots Q u' pc' L st) : G p l e R s m args below meth c D A nL wf cells slots Q u pc L (.int x :: .ref b :: st) := by
  subst hp; subst hsame
  exact fun H locs ls hP hS hl => va_put C.1 C.2.1 (Ts := u_ws Cn T N) hF (fun _ h => h) ty0 hty hnm C.2.2.2.1 C.2.2.2.2.2.1 hP (C.2.2.2.2.2.2.2.1 u) hS q0 he hc k hk (C.2.2.2.2.1 _ hlink) (fun _ h => h) hfin hd rfl rfl hl0 hdg (fun H1 locs1 hP1 _ hS1 => kk H1 locs1 ls (hset ▸ hP1) hS1 hl)
theorem g_iald (C : CX p s m args meth c D tys A own cc Ts nL wf) (q0 t0 : Nat) {b n : Nat} {cA : ClassId} {f : Nat → Int32} (he : (wf u)[q0]? = some (b, .inl (cA, n, .inl f))) (ht : tys[t0]? = some (cA, .int)) {i : Int32} {k : Nat} (hin : vp_in i n) (hk : i.toNatClampNeg = k) (hdg : decode cc pc = .ok (.iaload, 1)) (hp : pc + 1 = pc')
    (kk : G p l e R s m args below meth c D A nL wf cells slots Q u pc' L (.int (f k) :: st)) : G p l e R s m args below meth c D A nL wf cells slots Q u pc L (.int i :: .ref b :: st) := by
  subst hp; subst hk; exact fun H locs ls hP hS hl => va_iald C.1 C.2.1 C.2.2.2.2.2.1 hP q0 t0 he ht hin hdg (kk H locs ls hP hS hl)
theorem g_zald (C : CX p s m args meth c D tys A own cc Ts nL wf) (q0 t0 : Nat) {b n : Nat} {cA : ClassId} {f : Nat → Int32} (he : (wf u)[q0]? = some (b, .inl (cA, n, .inl f))) (ht : tys[t0]? = some (cA, .boolean)) {i : Int32} {k : Nat} (hin : vp_in i n) (hk : i.toNatClampNeg = k) (hdg : decode cc pc = .ok (.baload, 1)) (hp : pc + 1 = pc')
    (kk : G p l e R s m args below meth c D A nL wf cells slots Q u pc' L (.int (f k) :: st)) : G p l e R s m args below meth c D A nL wf cells slots Q u pc L (.int i :: .ref b :: st) := by
  subst hp; subst hk; exact fun H locs ls hP hS hl => va_zald C.1 C.2.1 C.2.2.2.2.2.1 hP q0 t0 he ht hin hdg (kk H locs ls hP hS hl)
theorem g_iast (C : CX p s m args meth c D tys A own cc Ts nL wf) (q0 t0 : Nat) {b n : Nat} {cA : ClassId} {f : Nat → Int32} (he : (wf u)[q0]? = some (b, .inl (cA, n, .inl f))) (ht : tys[t0]? = some (cA, .int)) {i x : Int32} {k : Nat} (hin : vp_in i n) (hk : i.toNatClampNeg = k) (hdg : decode cc pc = .ok (.iastore, 1)) (hp : pc + 1 = pc') {u' : S} (hset : (wf u).set q0 (b, .inl (cA, n, .inl (upd f k x))) = wf u')
    (kk : G p l e R s m args below meth c D A nL wf cells slots Q u' pc' L st) : G p l e R s m args below meth c D A nL wf cells slots Q u pc L (.int x :: .int i :: .ref b :: st) := by
  subst hp; subst hk; exact fun H locs ls hP hS hl => va_iast C.1 C.2.1 C.2.2.2.2.2.1 hP (C.2.2.2.2.2.2.2.1 u) hS q0 t0 he ht hin hdg (fun H1 locs1 hP1 _ hS1 => kk H1 locs1 ls (hset ▸ hP1) hS1 hl)
theorem g_zast (C : CX p s m args meth c D tys A own cc Ts nL wf) (q0 t0 : Nat) {b n : Nat} {cA : ClassId} {f : Nat → Int32} (he : (wf u)[q0]? = some (b, .inl (cA, n, .inl f))) (ht : tys[t0]? = some (cA, .boolean)) {i x : Int32} (hx : vp_nar .boolean x = x) {k : Nat} (hin : vp_in i n) (hk : i.toNatClampNeg = k) (hdg : decode cc pc = .ok (.bastore, 1)) (hp : pc + 1 = pc') {u' : S} (hset : (wf u).set q0 (b, .inl (cA, n, .inl (upd f k x))) = wf u')
    (kk : G p l e R s m args below meth c D A nL wf cells slots Q u' pc' L st) : G p l e R s m args below meth c D A nL wf cells slots Q u pc L (.int x :: .int i :: .ref b :: st) := by
  subst hp; subst hk; exact fun H locs ls hP hS hl => va_zast C.1 C.2.1 C.2.2.2.2.2.1 hP (C.2.2.2.2.2.2.2.1 u) hS q0 t0 he ht hin hdg (fun H1 locs1 hP1 _ hS1 => kk H1 locs1 ls (hset ▸ (hx ▸ hP1)) hS1 hl)
theorem g_aald (C : CX p s m args meth c D tys A own cc Ts nL wf) (q0 t0 : Nat) {b n : Nat} {cA : ClassId} {ty : FieldType} {f : Nat → Option Nat} (he : (wf u)[q0]? = some (b, .inl (cA, n, .inr (.inr (.inr (.inr f)))))) (ht : tys[t0]? = some (cA, .array ty)) {i : Int32} {x : Nat} (hin : vp_in i n) (hf : f i.toNatClampNeg = some x) (hdg : decode cc pc = .ok (.aaload, 1)) (hp : pc + 1 = pc')
    (kk : G p l e R s m args below meth c D A nL wf cells slots Q u pc' L (.ref x :: st)) : G p l e R s m args below meth c D A nL wf cells slots Q u pc L (.int i :: .ref b :: st) := by
  subst hp
  intro H locs ls hP hS hl
  have hlt : i.toNatClampNeg < n := Nat.not_le.mp fun q => hin (Or.inr q)
  refine W.aald (v := va_rf (f i.toNatClampNeg)) (ty := .array ty) C.1 C.2.1 (hP q0 _ he) ((C.2.2.2.2.2.1.2 t0 _ ht).1 n (fun j => va_rf (f j))) rfl (fun q => by cases q) (by show ¬ (i < 0 ∨ (arrV _ _ _).slots.size ≤ _); rw [arrV_size]; exact hin) (by show (arrV _ _ _).slots[_]? = _; rw [arrV_read _ _ hlt]) rfl rfl hdg ?_
  rw [hf]
  exact kk H locs ls hP hS hl
end GR
/-- the words of a throw that a call doesn't keep by itself -/
def dl0 : List MethodName := [Bundle.initS "java/lang/RuntimeException", Bundle.initS "java/lang/Exception", Bundle.initS Bundle.tN]
def cl0 : List String := ["java/lang/IndexOutOfBoundsException", "java/lang/IllegalArgumentException", "java/lang/IllegalStateException"]
def nc0 : List (String × String) := [("java/lang/IllegalArgumentException", "java/lang/IndexOutOfBoundsException"), ("java/lang/IllegalStateException", "java/lang/IndexOutOfBoundsException"), ("java/lang/IllegalStateException", "java/lang/IllegalArgumentException")]
def bw0 : List Cond := dl0.map Cond.declares ++ cl0.map (fun C => Cond.castable C C)
/-- the statics and texts that a throw of the class uses -/
def EV (A : Nat → Prop) (U : State) (H : Heap) (tx : List (Nat × String)) : Prop := vx_Zq Bundle.tN "UNASSIGNED_STACK" Bundle.steD A U H ∧ vx_Zq Bundle.tN "SUPPRESSED_SENTINEL" Bundle.listD A U H ∧ (∀ q ∈ tx, ∃ sa, vk_R RX0 q.1 q.2 sa U) ∧ (∀ y ∈ dl0, va_Nw (.declares y) U) ∧ (∀ C ∈ cl0, va_Nw (.castable C C) U) ∧ ∀ q ∈ nc0, va_Nc q.1 q.2 U
theorem EV.warm {A : Nat → Prop} {s U : State} {H : Heap} {tx : List (Nat × String)} (hW : s.WarmedH U.vm) (h : EV A s H tx) : EV A U H tx :=
  ⟨h.1.moved hW.alike, h.2.1.moved hW.alike, fun q hq => by obtain ⟨sa, h1⟩ := h.2.2.1 q hq; exact ⟨sa, vk_R.warm hW h1⟩, fun y hy => va_Nw.warmD hW (h.2.2.2.1 y hy), fun C hC => va_tabs rfl (rfl : (s.setVm U.vm).vm = U.vm) (by rw [Cond.castable_setVm hW.alike]; exact h.2.2.2.2.1 C hC), fun q hq => va_Nc.moved hW.alike (h.2.2.2.2.2 q hq)⟩
theorem EV.same {A : Nat → Prop} {s U : State} {H : Heap} {tx : List (Nat × String)} (hv : U.vm = s.vm) (h : EV A s H tx) : EV A U H tx :=
  ⟨h.1.moved (by rw [hv]; exact Vm.Alike.refl _), h.2.1.moved (by rw [hv]; exact Vm.Alike.refl _), fun q hq => by obtain ⟨sa, h1⟩ := h.2.2.1 q hq; exact ⟨sa, vk_R.same hv h1⟩, fun y hy => va_Nw.same rfl hv.symm (h.2.2.2.1 y hy), fun C hC => va_Nw.same rfl hv.symm (h.2.2.2.2.1 C hC), fun q hq => va_Nc.moved (by rw [hv]; exact Vm.Alike.refl _) (h.2.2.2.2.2 q hq)⟩
theorem EV.kept {A : Nat → Prop} {U : State} {H H1 : Heap} {tx : List (Nat × String)} (h : EV A U H tx) (hq : ∀ a : Nat, a < H.size → ¬ A a → H1[a]? = H[a]?) : EV A U H1 tx := ⟨h.1.kept hq, h.2.1.kept hq, h.2.2⟩
theorem EV.narrow {A B : Nat → Prop} {U : State} {H : Heap} {tx : List (Nat × String)} (h : EV A U H tx) (hAB : ∀ q, B q → A q) : EV B U H tx := ⟨h.1.narrow hAB, h.2.1.narrow hAB, h.2.2⟩
theorem EV.bw {A : Nat → Prop} {U : State} {H : Heap} {tx : List (Nat × String)} {args : Array Value} (h : EV A U H tx) : ∀ w ∈ bw0, w.before args U = true := fun w hw => by
  rcases List.mem_append.mp hw with h1 | h1
  · obtain ⟨y, hy, rfl⟩ := List.mem_map.mp h1
    exact va_Nw.use rfl (h.2.2.2.1 y hy)
  · obtain ⟨C, hC, rfl⟩ := List.mem_map.mp h1
    exact va_Nw.use rfl (h.2.2.2.2.1 C hC)
/-- a contract's start and end -/
def KB {S : Type} (D : va_G) (tys : List (ClassId × FieldType)) (wf : S → va_W) (u : S) (sz : Nat) : State → Prop := fun U => U.heap.size = sz ∧ va_P D vwCl (wf u) U.heap ∧ va_K D vwCl tys U ∧ va_D (fun _ => True) (wf u)
def KE {S : Type} (D : va_G) (tys : List (ClassId × FieldType)) (wf : S → va_W) (u : S) (t : State) : Prop := va_P D vwCl (wf u) t.heap ∧ va_K D vwCl tys t
def KI {S : Type} (l : Launch) (y : MethodName) (ws : List Cond) (rm : Room) (D : va_G) (tys : List (ClassId × FieldType)) (wf : S → va_W) (As : List Value) (u : S) (post : Int32 → S → Prop) : Prop :=
  ∀ sz, Met l y ws rm (va_Pc As (KB D tys wf u sz)) (va_Qi post (KE D tys wf) (va_A (wf u) sz)) rm.cells rm.slots (va_A (wf u) sz)
def KV {S : Type} (l : Launch) (y : MethodName) (ws : List Cond) (rm : Room) (D : va_G) (tys : List (ClassId × FieldType)) (wf : S → va_W) (As : List Value) (u : S) (post : S → Prop) : Prop :=
  ∀ sz, Met l y ws rm (va_Pc As (KB D tys wf u sz)) (va_Qv post (KE D tys wf) (va_A (wf u) sz)) rm.cells rm.slots (va_A (wf u) sz)
def KX {S : Type} (D : va_G) (tys : List (ClassId × FieldType)) (wf : S → va_W) (u : S) (xp : String → Prop) (A : Nat → Prop) : String → State → State → Prop := vx_X (fun u' : S => u' = u) (fun E u' t => xp E ∧ KE D tys wf u' t) A
def XI {S : Type} (l : Launch) (y : MethodName) (ws : List Cond) (rm : Room) (D : va_G) (tys : List (ClassId × FieldType)) (tx : List (Nat × String)) (wf : S → va_W) (As : List Value) (u : S) (post : Int32 → S → Prop) (xp : String → Prop) : Prop :=
  ∀ sz, vx_Met l y ws rm (va_Pc As (fun U => KB D tys wf u sz U ∧ EV (va_A (wf u) sz) U U.heap tx)) (va_Qi post (KE D tys wf) (va_A (wf u) sz)) (KX D tys wf u xp (va_A (wf u) sz)) rm.cells rm.slots (va_A (wf u) sz)
def XV {S : Type} (l : Launch) (y : MethodName) (ws : List Cond) (rm : Room) (D : va_G) (tys : List (ClassId × FieldType)) (tx : List (Nat × String)) (wf : S → va_W) (As : List Value) (u : S) (post : S → Prop) (xp : String → Prop) : Prop :=
  ∀ sz, vx_Met l y ws rm (va_Pc As (fun U => KB D tys wf u sz U ∧ EV (va_A (wf u) sz) U U.heap tx)) (va_Qv post (KE D tys wf) (va_A (wf u) sz)) (KX D tys wf u xp (va_A (wf u) sz)) rm.cells rm.slots (va_A (wf u) sz)
theorem KB.blind {S : Type} {D : va_G} {tys : List (ClassId × FieldType)} {wf : S → va_W} {u : S} {sz : Nat} {As : List Value} : FrameBlind (va_Pc As (KB D tys wf u sz)) := fun a U g mk q => by
  obtain ⟨q0, q1, q2, q3, q4⟩ := q
  exact ⟨q0, q1, q2, va_K.moved (u := U) (U := U.calling g mk a) (Vm.Alike.refl U.vm) q3, q4⟩
theorem KB.blindX {S : Type} {D : va_G} {tys : List (ClassId × FieldType)} {tx : List (Nat × String)} {wf : S → va_W} {u : S} {sz : Nat} {As : List Value} {A : Nat → Prop} : FrameBlind (va_Pc As (fun U => KB D tys wf u sz U ∧ EV A U U.heap tx)) := fun a U g mk q => by
  obtain ⟨q0, ⟨q1, q2, q3, q4⟩, q5⟩ := q
  exact ⟨q0, ⟨q1, q2, va_K.moved (u := U) (U := U.calling g mk a) (Vm.Alike.refl U.vm) q3, q4⟩, EV.same (s := U) (U := U.calling g mk a) rfl q5⟩
section GC
variable {S : Type} {p : Program} {l : Launch} {e : Env} {R : Room} {s : State} {m : MethodId} {args : Array Value} {below : List Frame} {meth : Method} {c : Code} {D : va_G} {tys : List (ClassId × FieldType)} {A : Nat → Prop} {own : String} {cc : ByteArray} {Ts : List Cond} {nL : Nat} {wf : S → va_W} {cells slots cells' slots' : Nat} {Q : State → Prop} {u : S} {pc pc' : Nat} {L : List (Nat × Value)} {st st0 As : List Value} {tx : List (Nat × String)}
variable {y : MethodName} {ws ws' : List Cond} {rm : Room} {index maxL n b : Nat} {bytes : ByteArray} {ret : Option FieldType} {Cn : String} {posti : Int32 → S → Prop} {postv : S → Prop} {xp : String → Prop}
theorem cx_A (C : CX p s m args meth c D tys A own cc Ts nL wf) {H : Heap} {locs : List Loc} (hS : va_S A s.heap H locs) : ∀ q, va_A (wf u) H.size q → A q := by
  intro q h
  rcases h with ⟨k, e, h⟩ | h
  · exact (C.2.2.2.2.2.2.2.1 u).2 k _ h
  · exact C.2.2.2.2.2.2.1 q (Nat.le_trans hS.1 h)
theorem cx_EV (C : CX p s m args meth c D tys A own cc Ts nL wf) (hE : EV A s s.heap tx) {H : Heap} {locs : List Loc} (hS : va_S A s.heap H locs) {U : State} (hU : U.heap = H) (hW : s.WarmedH U.vm) : EV (va_A (wf u) H.size) U U.heap tx := by
  rw [hU]
  exact EV.warm hW ((hE.kept (fun a h1 h2 => hS.2.1 a h1 h2)).narrow (cx_A C hS))
theorem cx_fix (C : CX p s m args meth c D tys A own cc Ts nL wf) : CallFix p m c cc nL s args Ts own := ⟨C.1, C.2.1, C.2.2.1, C.2.2.2.1, C.2.2.2.2.1⟩
theorem cx_KB (C : CX p s m args meth c D tys A own cc Ts nL wf) {H : Heap} (hP : va_P D vwCl (wf u) H) {U : State} (hU : U.heap = H) (hW : s.WarmedH U.vm) : KB D tys wf u H.size U :=
  ⟨by rw [hU], by rw [hU]; exact hP, va_K.moved hW.alike C.2.2.2.2.2.1, (C.2.2.2.2.2.2.2.1 u).weaken (fun _ _ _ _ => trivial)⟩
theorem g_calliV (C : CX p s m args meth c D tys A own cc Ts nL wf) (hM : KI l y ws rm D tys wf (.ref b :: As) u posti) (gd : GoodIn Ts (wsV own index Cn y ws)) (hw : ws = Cond.code y bytes maxL ret :: ws') (hd : y.cls = Cn ∧ y.cls ≠ "java/lang/invoke/MethodHandle" ∧ y.cls ≠ "java/lang/invoke/VarHandle" ∧ (parseMethodDescriptor y.desc).map (fun d => d.parameters.length) = some n) (hR : rm.frames + 1 ≤ R.frames ∧ 8 + (maxL + 11) + rm.locals ≤ R.locals)
    (q0 : Nat) {ci N : Nat} {T : u_T} {fs : List Value} (he : (wf u)[q0]? = some (b, .inr (ci, fs))) (hc : vwCl[ci]? = some (Cn, T, N)) (hn : As.length = n) (hst : st0 = As.reverse ++ .ref b :: st) (hW : (st.map fun v => v.category).sum ≤ 8) (hdg : decode cc pc = .ok (.invokevirtual index, 3)) (hp : pc + 3 = pc') (hcl : cells + rm.cells = cells') (hsl : slots + rm.slots = slots') (hf : cells' ≤ R.cells ∧ slots' ≤ R.slots)
    (kk : ∀ (r : Int32) (u' : S), posti r u' → G p l e R s m args below meth c D A nL wf cells' slots' Q u' pc' L (.int r :: st)) : G p l e R s m args below meth c D A nL wf cells slots Q u pc L st0 := by
  subst hp; subst hcl; subst hsl
  intro H locs ls hP hS hl
  refine va_calli (va_runV (As := As) (rest := st) (cx_fix C) (hM H.size) (cwV n C.2.2.2.2.1 gd hw rfl rfl hd hR) ⟨KB.blind, va_recv C.2.2.2.2.2.1 hP hc he, fun U hU hW => ⟨rfl, cx_KB C hP hU hW⟩⟩ rfl hn hl.1 hst (lv_room hW) hdg hf) hS (fun q _ h => cx_A C hS q h) (cx_A C hS) (fun r u' t H1 locs1 ht hvm hw9 hB hz hk hS1 => ?_)
  exact kk r u' hw9 H1 locs1 ls (ht ▸ hB.1) hS1 hl
theorem g_callvV (C : CX p s m args meth c D tys A own cc Ts nL wf) (hM : KV l y ws rm D tys wf (.ref b :: As) u postv) (gd : GoodIn Ts (wsV own index Cn y ws)) (hw : ws = Cond.code y bytes maxL ret :: ws') (hd : y.cls = Cn ∧ y.cls ≠ "java/lang/invoke/MethodHandle" ∧ y.cls ≠ "java/lang/invoke/VarHandle" ∧ (parseMethodDescriptor y.desc).map (fun d => d.parameters.length) = some n) (hR : rm.frames + 1 ≤ R.frames ∧ 8 + (maxL + 11) + rm.locals ≤ R.locals)
    (q0 : Nat) {ci N : Nat} {T : u_T} {fs : List Value} (he : (wf u)[q0]? = some (b, .inr (ci, fs))) (hc : vwCl[ci]? = some (Cn, T, N)) (hn : As.length = n) (hst : st0 = As.reverse ++ .ref b :: st) (hW : (st.map fun v => v.category).sum ≤ 8) (hdg : decode cc pc = .ok (.invokevirtual index, 3)) (hp : pc + 3 = pc') (hcl : cells + rm.cells = cells') (hsl : slots + rm.slots = slots') (hf : cells' ≤ R.cells ∧ slots' ≤ R.slots)
    (kk : ∀ (u' : S), postv u' → G p l e R s m args below meth c D A nL wf cells' slots' Q u' pc' L st) : G p l e R s m args below meth c D A nL wf cells slots Q u pc L st0 := by
  subst hp; subst hcl; subst hsl
  intro H locs ls hP hS hl
  refine va_callv (va_runV (As := As) (rest := st) (cx_fix C) (hM H.size) (cwV n C.2.2.2.2.1 gd hw rfl rfl hd hR) ⟨KB.blind, va_recv C.2.2.2.2.2.1 hP hc he, fun U hU hW => ⟨rfl, cx_KB C hP hU hW⟩⟩ rfl hn hl.1 hst (lv_room hW) hdg hf) hS (fun q _ h => cx_A C hS q h) (cx_A C hS) (fun u' t H1 locs1 ht hvm hw9 hB hz hk hS1 => ?_)
  exact kk u' hw9 H1 locs1 ls (ht ▸ hB.1) hS1 hl
theorem g_calliS (C : CX p s m args meth c D tys A own cc Ts nL wf) (hM : KI l y ws rm D tys wf As u posti) (gd : GoodIn Ts (va_wsS own index y ws)) (hw : ws = Cond.code y bytes maxL ret :: ws') (hd : y.cls ≠ "java/lang/invoke/MethodHandle" ∧ y.cls ≠ "java/lang/invoke/VarHandle" ∧ (parseMethodDescriptor y.desc).map (fun d => d.parameters.length) = some n) (hR : rm.frames + 1 ≤ R.frames ∧ 8 + (maxL + 11) + rm.locals ≤ R.locals)
    (hn : As.length = n) (hst : st0 = As.reverse ++ st) (hW : (st.map fun v => v.category).sum ≤ 8) (hdg : decode cc pc = .ok (.invokestatic index, 3)) (hp : pc + 3 = pc') (hcl : cells + rm.cells = cells') (hsl : slots + rm.slots = slots') (hf : cells' ≤ R.cells ∧ slots' ≤ R.slots)
    (kk : ∀ (r : Int32) (u' : S), posti r u' → G p l e R s m args below meth c D A nL wf cells' slots' Q u' pc' L (.int r :: st)) : G p l e R s m args below meth c D A nL wf cells slots Q u pc L st0 := by
  subst hp; subst hcl; subst hsl
  intro H locs ls hP hS hl
  refine va_calli (va_runS (As := As) (rest := st) (cx_fix C) (hM H.size) (va_cwS n C.2.2.2.2.1 gd hw rfl rfl hd hR) ⟨KB.blind, fun U hU hW => ⟨rfl, cx_KB C hP hU hW⟩⟩ rfl hn hl.1 hst (lv_room hW) hdg hf) hS (fun q _ h => cx_A C hS q h) (cx_A C hS) (fun r u' t H1 locs1 ht hvm hw9 hB hz hk hS1 => ?_)
  exact kk r u' hw9 H1 locs1 ls (ht ▸ hB.1) hS1 hl
theorem g_cxvV {Qc : Array Value → State → Outcome → State → Prop} {xp0 : String → Prop} {mc ms : Nat} (C : CX p s m args meth c D tys A own cc Ts nL wf) (hE : EV A s s.heap tx) (ht : ∀ x ∈ c.exceptionTable.toList, False) (hM : XV l y ws rm D tys tx wf (.ref b :: As) u postv xp) (gd : GoodIn Ts (wsV own index Cn y ws)) (hw : ws = Cond.code y bytes maxL ret :: ws') (hd : y.cls = Cn ∧ y.cls ≠ "java/lang/invoke/MethodHandle" ∧ y.cls ≠ "java/lang/invoke/VarHandle" ∧ (parseMethodDescriptor y.desc).map (fun d => d.parameters.length) = some n) (hR : rm.frames + 1 ≤ R.frames ∧ 8 + (maxL + 11) + rm.locals ≤ R.locals)
    (q0 : Nat) {ci N : Nat} {T : u_T} {fs : List Value} (he : (wf u)[q0]? = some (b, .inr (ci, fs))) (hc : vwCl[ci]? = some (Cn, T, N)) (hn : As.length = n) (hst : st0 = As.reverse ++ .ref b :: st) (hW : (st.map fun v => v.category).sum ≤ 8) (hdg : decode cc pc = .ok (.invokevirtual index, 3)) (hp : pc + 3 = pc') (hcl : cells + rm.cells = cells') (hsl : slots + rm.slots = slots') (hf : cells' ≤ R.cells ∧ slots' ≤ R.slots)
    (hxp : ∀ E, xp E → xp0 E) (hmc : cells' ≤ mc) (hms : slots' ≤ ms)
    (kk : ∀ (u' : S), postv u' → G p l e R s m args below meth c D A nL wf cells' slots' (vx_MQ below Qc (KX D tys wf u xp0 A) args s mc ms A) u' pc' L st) : G p l e R s m args below meth c D A nL wf cells slots (vx_MQ below Qc (KX D tys wf u xp0 A) args s mc ms A) u pc L st0 := by
  subst hp; subst hcl; subst hsl
  intro H locs ls hP hS hl
  refine vx_callv (vx_runV (As := As) (rest := st) (cx_fix C) (hM H.size) (cwV n C.2.2.2.2.1 gd hw rfl rfl hd hR) ⟨KB.blindX, va_recv C.2.2.2.2.2.1 hP hc he, fun U hU hW => ⟨rfl, cx_KB C hP hU hW, cx_EV C hE hS hU hW⟩⟩ rfl hn hl.1 hst (lv_room hW) hdg hf) hS (fun q _ h => cx_A C hS q h) (cx_A C hS) (fun q _ h => cx_A C hS q h) (fun E ce q9 u' t H1 locs1 ht9 hvm hpx hBX hz hk hS1 hcell hcv hcl => ?_) (fun u' t H1 locs1 ht9 hvm hw9 hB hz hk hS1 => ?_)
  · refine vx_out (fun x hx => (ht x hx).elim) C.2.2.2.2.2.2.2.2 hcell hcv hcl (fun t2 ht2 hvm2 => ⟨u', hpx, ⟨hxp E hBX.1, by rw [ht2, ← ht9]; exact hBX.2.1, va_K.moved hvm2 C.2.2.2.2.2.1⟩, hS1.F ht2⟩) hS1.2.2 hmc hms
  · exact kk u' hw9 H1 locs1 ls (ht9 ▸ hB.1) hS1 hl
theorem g_cxvS {Qc : Array Value → State → Outcome → State → Prop} {xp0 : String → Prop} {mc ms : Nat} (C : CX p s m args meth c D tys A own cc Ts nL wf) (hE : EV A s s.heap tx) (ht : ∀ x ∈ c.exceptionTable.toList, False) (hM : XV l y ws rm D tys tx wf As u postv xp) (gd : GoodIn Ts (va_wsS own index y ws)) (hw : ws = Cond.code y bytes maxL ret :: ws') (hd : y.cls ≠ "java/lang/invoke/MethodHandle" ∧ y.cls ≠ "java/lang/invoke/VarHandle" ∧ (parseMethodDescriptor y.desc).map (fun d => d.parameters.length) = some n) (hR : rm.frames + 1 ≤ R.frames ∧ 8 + (maxL + 11) + rm.locals ≤ R.locals)
    (hn : As.length = n) (hst : st0 = As.reverse ++ st) (hW : (st.map fun v => v.category).sum ≤ 8) (hdg : decode cc pc = .ok (.invokestatic index, 3)) (hp : pc + 3 = pc') (hcl : cells + rm.cells = cells') (hsl : slots + rm.slots = slots') (hf : cells' ≤ R.cells ∧ slots' ≤ R.slots)
    (hxp : ∀ E, xp E → xp0 E) (hmc : cells' ≤ mc) (hms : slots' ≤ ms)
    (kk : ∀ (u' : S), postv u' → G p l e R s m args below meth c D A nL wf cells' slots' (vx_MQ below Qc (KX D tys wf u xp0 A) args s mc ms A) u' pc' L st) : G p l e R s m args below meth c D A nL wf cells slots (vx_MQ below Qc (KX D tys wf u xp0 A) args s mc ms A) u pc L st0 := by
  subst hp; subst hcl; subst hsl
  intro H locs ls hP hS hl
  refine vx_callv (vx_runS (As := As) (rest := st) (cx_fix C) (hM H.size) (va_cwS n C.2.2.2.2.1 gd hw rfl rfl hd hR) ⟨KB.blindX, fun U hU hW => ⟨rfl, cx_KB C hP hU hW, cx_EV C hE hS hU hW⟩⟩ rfl hn hl.1 hst (lv_room hW) hdg hf) hS (fun q _ h => cx_A C hS q h) (cx_A C hS) (fun q _ h => cx_A C hS q h) (fun E ce q9 u' t H1 locs1 ht9 hvm hpx hBX hz hk hS1 hcell hcv hcl => ?_) (fun u' t H1 locs1 ht9 hvm hw9 hB hz hk hS1 => ?_)
  · refine vx_out (fun x hx => (ht x hx).elim) C.2.2.2.2.2.2.2.2 hcell hcv hcl (fun t2 ht2 hvm2 => ⟨u', hpx, ⟨hxp E hBX.1, by rw [ht2, ← ht9]; exact hBX.2.1, va_K.moved hvm2 C.2.2.2.2.2.1⟩, hS1.F ht2⟩) hS1.2.2 hmc hms
  · exact kk u' hw9 H1 locs1 ls (ht9 ▸ hB.1) hS1 hl
theorem g_throw {Qc : Array Value → State → Outcome → State → Prop} {xp0 : String → Prop} {mc ms : Nat} (C : CX p s m args meth c D tys A RX0 cc Ts nL wf) (hl : l.stackTraces = false) (hE : EV A s s.heap tx) (ht : ∀ x ∈ c.exceptionTable.toList, False) {cls text : String} {names : List String} {ik is ic : Nat} (hcls : Bundle.fit cls = true) (hnames : ∀ n ∈ names, Bundle.fit n = true)
    (hk : Cond.classLink RX0 ik cls ∈ Ts) (hini : Cond.initialized cls ∈ Ts) (htx : (is, text) ∈ tx) (hat : ∀ w ∈ (vx_atS RX0 ic cls names).filter goodWord, w ∈ Ts) (hat2 : ∀ w ∈ (vx_atS RX0 ic cls names).filter (fun w => !goodWord w), w ∈ bw0) (hgood : ∀ w ∈ Cond.classLink RX0 ik cls :: Cond.initialized cls :: vx_atS RX0 ic cls names, vx_ot w = true)
    (d0 : decode cc pc = .ok (.new ik, 3)) (d3 : decode cc (pc + 3) = .ok (.dup, 1)) (d4 : decode cc (pc + 4) = .ok (.ldc is, 2)) (d6 : decode cc (pc + 6) = .ok (.invokespecial ic, 3)) (d9 : decode cc (pc + 9) = .ok (.athrow, 1))
    (hRf : names.length + 3 < R.frames) (hRl : (st.map fun v => v.category).sum + (13 * (names.length + 1) + 43) ≤ R.locals) (hRc : cells + 1 ≤ R.cells) (hRs : slots + 6 ≤ R.slots) (hxp : xp0 cls) (hmc : cells + 1 ≤ mc) (hms : slots + 6 ≤ ms) :
    G p l e R s m args below meth c D A nL wf cells slots (vx_MQ below Qc (KX D tys wf u xp0 A) args s mc ms A) u pc L st := by
  intro H locs ls hP hS hls
  obtain ⟨sa, hstr⟩ := hE.2.2.1 _ htx
  exact vx_throwS C.1 C.2.1 hl C.2.2.2.1 hcls hnames (C.2.2.2.2.1 _ hk) (C.2.2.2.2.1 _ hini) hstr (vx_hat (fun w h => C.2.2.2.2.1 _ (hat w h)) hat2 hE.bw) hgood hE.1 hE.2.1 hS (hls.1.trans C.2.2.1.symm) d0 d3 d4 d6 d9 (fun x hx => (ht x hx).elim) hRf hRl hRc hRs C.2.2.2.2.2.2.2.2
    (fun t hvm hz hkp => ⟨u, rfl, ⟨hxp, hP.kept (fun k q hq => hkp q.1 ((hP k q hq).lt)), va_K.moved hvm C.2.2.2.2.2.1⟩, ⟨Nat.le_trans hS.1 hz, fun q h1 h2 => (hkp q (Nat.lt_of_lt_of_le h1 hS.1)).trans (hS.2.1 q h1 h2)⟩⟩) hS.2.2 hmc hms
theorem g_iret {ty : FieldType} {r : Int32} (C : CX p s m args meth c D tys A own cc Ts nL wf) (hr : meth.sig.returnType = some ty) (hn : narrow ty (.int r) = .int r) (hpost : posti r u) (hdg : decode cc pc = .ok (.ireturn, 1)) : G p l e R s m args below meth c D A nL wf cells slots (MQ below (va_Qi posti (KE D tys wf) A) args s cells slots A) u pc L [.int r] := by
  intro H locs ls hP hS hl
  exact W.zret C.1 C.2.1 hr hn (fun t ht hW => ⟨⟨r, u, rfl, hpost, by rw [ht]; exact hP, va_K.moved hW.alike C.2.2.2.2.2.1⟩, hS.F ht⟩) hS.2.2 hdg C.2.2.2.2.2.2.2.2
theorem g_vret (C : CX p s m args meth c D tys A own cc Ts nL wf) (hr : meth.sig.returnType = none) (hpost : postv u) (hdg : decode cc pc = .ok (.return_, 1)) : G p l e R s m args below meth c D A nL wf cells slots (MQ below (va_Qv postv (KE D tys wf) A) args s cells slots A) u pc L [] := by
  intro H locs ls hP hS hl
  exact W.vret C.1 C.2.1 hr (fun t ht hW => ⟨⟨u, rfl, hpost, by rw [ht]; exact hP, va_K.moved hW.alike C.2.2.2.2.2.1⟩, hS.F ht⟩) hS.2.2 hdg C.2.2.2.2.2.2.2.2
theorem g_xiret {XC : String → State → State → Prop} {mc ms : Nat} {ty : FieldType} {r : Int32} (C : CX p s m args meth c D tys A own cc Ts nL wf) (hr : meth.sig.returnType = some ty) (hn : narrow ty (.int r) = .int r) (hpost : posti r u) (hdg : decode cc pc = .ok (.ireturn, 1)) (h1 : cells ≤ mc) (h2 : slots ≤ ms) : G p l e R s m args below meth c D A nL wf cells slots (vx_MQ below (va_Qi posti (KE D tys wf) A) XC args s mc ms A) u pc L [.int r] :=
  fun H locs ls hP hS hl => vx_ret (W.widen h1 h2 (g_iret C hr hn hpost hdg H locs ls hP hS hl))
theorem g_xvret {XC : String → State → State → Prop} {mc ms : Nat} (C : CX p s m args meth c D tys A own cc Ts nL wf) (hr : meth.sig.returnType = none) (hpost : postv u) (hdg : decode cc pc = .ok (.return_, 1)) (h1 : cells ≤ mc) (h2 : slots ≤ ms) : G p l e R s m args below meth c D A nL wf cells slots (vx_MQ below (va_Qv postv (KE D tys wf) A) XC args s mc ms A) u pc L [] :=
  fun H locs ls hP hS hl => vx_ret (W.widen h1 h2 (g_vret C hr hpost hdg H locs ls hP hS hl))
end GC
/-! a contract out of its body -/
section GE
variable {S : Type} {l : Launch} {D : va_G} {tys : List (ClassId × FieldType)} {wf : S → va_W} {u : S} {As : List Value} {L0 : List (Nat × Value)} {tx : List (Nat × String)}
variable {y : MethodName} {ws ws' : List Cond} {rm : Room} {maxL : Nat} {cc : ByteArray} {ty : FieldType} {posti : Int32 → S → Prop} {postv : S → Prop} {xp : String → Prop} {own : String}
def WfOk (wf : S → va_W) : Prop := ∀ u u' : S, (wf u).map Prod.fst = (wf u').map Prod.fst
theorem va_D_fst {A : Nat → Prop} {w w' : va_W} (h : w.map Prod.fst = w'.map Prod.fst) (hD : va_D A w) : va_D A w' := by
  have key : ∀ (k : Nat) (q : Nat × va_E), w'[k]? = some q → ∃ q0, w[k]? = some q0 ∧ q0.1 = q.1 := by
    intro k q hk
    have h1 : (w'.map Prod.fst)[k]? = some q.1 := by rw [List.getElem?_map, hk]; rfl
    rw [← h, List.getElem?_map] at h1
    cases hw : w[k]? with
    | none => rw [hw] at h1; cases h1
    | some q0 => rw [hw] at h1; exact ⟨q0, rfl, Option.some.inj h1⟩
  refine ⟨fun i j x y hi hj hxy => ?_, fun k q hk => ?_⟩
  · obtain ⟨x0, h1, h2⟩ := key i x hi
    obtain ⟨y0, h3, h4⟩ := key j y hj
    exact hD.1 i j x0 y0 h1 h3 (h2.trans (hxy.trans h4.symm))
  · obtain ⟨q0, h1, h2⟩ := key k q hk
    rw [← h2]
    exact hD.2 k q0 h1
theorem cx_ent {p : Program} {s s₁ : State} {e : Env} {m : MethodId} {args : Array Value} {below : List Frame} {meth : Method} {c : Code} {ret : Option FieldType} (hwf : WfOk wf) (hown : y.cls = own) (B : BodyLoose p l y (headSpec ws rm) cc maxL ret e s m args below meth c s₁) (hml : c.maxLocals = maxL) (hP : KB D tys wf u s.heap.size s) :
    CX p s m args meth c D tys (va_A (wf u) s.heap.size) own cc ws maxL wf := by
  refine ⟨B.exec, B.bytes, hml, ?_, atoms_spec (ws := ws) B.pre, hP.2.2.1, fun q h => Or.inr h, fun u' => va_D_fst (hwf u u') (hP.2.2.2.self), B.notSynchronized⟩
  rw [← hown]
  exact findClass_of_methodNamed B.named
theorem ent_I (hy : plainName y.cls = true) (hw : ws = Cond.code y cc maxL (some ty) :: ws') (hwf : WfOk wf) (hown : y.cls = own) (hlen : (lg_sl As).length ≤ maxL) (hL0 : lv_args 0 As = L0)
    (body : ∀ (p : Program) (e : Env) (s : State) (m : MethodId) (args : Array Value) (below : List Frame) (meth : Method) (c : Code) (A : Nat → Prop), CX p s m args meth c D tys A own cc ws maxL wf → meth.sig.returnType = some ty → G p l e rm s m args below meth c D A maxL wf 0 0 (MQ below (va_Qi posti (KE D tys wf) A) args s rm.cells rm.slots A) u 0 L0 []) : KI l y ws rm D tys wf As u posti := by
  intro sz
  refine Met.ofW (cc := cc) (maxL := maxL) (ret := some ty) hy hw ?_
  intro p e s m args below meth c s₁ B hml hv
  obtain ⟨rfl, hsz, hP, hK, hD⟩ := hv
  subst hsz; subst hL0
  rw [lg_entry_eq]
  exact body p e s m _ below meth c _ (cx_ent hwf hown B hml ⟨rfl, hP, hK, hD⟩) B.returns s.heap [] _ hP va_S.rf (lv_entry As hlen)
theorem ent_V (hy : plainName y.cls = true) (hw : ws = Cond.code y cc maxL none :: ws') (hwf : WfOk wf) (hown : y.cls = own) (hlen : (lg_sl As).length ≤ maxL) (hL0 : lv_args 0 As = L0)
    (body : ∀ (p : Program) (e : Env) (s : State) (m : MethodId) (args : Array Value) (below : List Frame) (meth : Method) (c : Code) (A : Nat → Prop), CX p s m args meth c D tys A own cc ws maxL wf → meth.sig.returnType = none → G p l e rm s m args below meth c D A maxL wf 0 0 (MQ below (va_Qv postv (KE D tys wf) A) args s rm.cells rm.slots A) u 0 L0 []) : KV l y ws rm D tys wf As u postv := by
  intro sz
  refine Met.ofW (cc := cc) (maxL := maxL) (ret := none) hy hw ?_
  intro p e s m args below meth c s₁ B hml hv
  obtain ⟨rfl, hsz, hP, hK, hD⟩ := hv
  subst hsz; subst hL0
  rw [lg_entry_eq]
  exact body p e s m _ below meth c _ (cx_ent hwf hown B hml ⟨rfl, hP, hK, hD⟩) B.returns s.heap [] _ hP va_S.rf (lv_entry As hlen)
theorem ent_XI (hy : plainName y.cls = true) (hw : ws = Cond.code y cc maxL (some ty) :: ws') (hwf : WfOk wf) (hown : y.cls = own) (hlen : (lg_sl As).length ≤ maxL) (hL0 : lv_args 0 As = L0)
    (body : ∀ (p : Program) (e : Env) (s : State) (m : MethodId) (args : Array Value) (below : List Frame) (meth : Method) (c : Code) (A : Nat → Prop), CX p s m args meth c D tys A own cc ws maxL wf → meth.sig.returnType = some ty → EV A s s.heap tx → (∀ x ∈ c.exceptionTable.toList, False) → G p l e rm s m args below meth c D A maxL wf 0 0 (vx_MQ below (va_Qi posti (KE D tys wf) A) (KX D tys wf u xp A) args s rm.cells rm.slots A) u 0 L0 []) : XI l y ws rm D tys tx wf As u posti xp := by
  intro sz
  refine vx_ofW (cc := cc) (maxL := maxL) (ret := some ty) hy hw ?_
  intro p e s m args below meth c s₁ B hml ht hv
  obtain ⟨rfl, ⟨hsz, hP, hK, hD⟩, hE⟩ := hv
  subst hsz; subst hL0
  rw [lg_entry_eq]
  exact body p e s m _ below meth c _ (cx_ent hwf hown B hml ⟨rfl, hP, hK, hD⟩) B.returns hE ht s.heap [] _ hP va_S.rf (lv_entry As hlen)
theorem ent_XV (hy : plainName y.cls = true) (hw : ws = Cond.code y cc maxL none :: ws') (hwf : WfOk wf) (hown : y.cls = own) (hlen : (lg_sl As).length ≤ maxL) (hL0 : lv_args 0 As = L0)
    (body : ∀ (p : Program) (e : Env) (s : State) (m : MethodId) (args : Array Value) (below : List Frame) (meth : Method) (c : Code) (A : Nat → Prop), CX p s m args meth c D tys A own cc ws maxL wf → meth.sig.returnType = none → EV A s s.heap tx → (∀ x ∈ c.exceptionTable.toList, False) → G p l e rm s m args below meth c D A maxL wf 0 0 (vx_MQ below (va_Qv postv (KE D tys wf) A) (KX D tys wf u xp A) args s rm.cells rm.slots A) u 0 L0 []) : XV l y ws rm D tys tx wf As u postv xp := by
  intro sz
  refine vx_ofW (cc := cc) (maxL := maxL) (ret := none) hy hw ?_
  intro p e s m args below meth c s₁ B hml ht hv
  obtain ⟨rfl, ⟨hsz, hP, hK, hD⟩, hE⟩ := hv
  subst hsz; subst hL0
  rw [lg_entry_eq]
  exact body p e s m _ below meth c _ (cx_ent hwf hown B hml ⟨rfl, hP, hK, hD⟩) B.returns hE ht s.heap [] _ hP va_S.rf (lv_entry As hlen)
end GE
end
section
/-! THE WORLDS: the class's object and rows (wX), the reference's (wM); array k of a state u is u k, the scalars are u 0 -/
def mkA (a : Nat → Nat) (u : LU) (q : Nat × ClassId × Nat) : Nat × va_E := (a q.1, .inl (q.2.1, q.2.2, .inl (u q.1)))
theorem mkA_fst (a : Nat → Nat) (u u' : LU) (l : List (Nat × ClassId × Nat)) : (l.map (mkA a u)).map Prod.fst = (l.map (mkA a u')).map Prod.fst := by
  rw [List.map_map, List.map_map]
  rfl
theorem mkA_set (a : Nat → Nat) (u : LU) {g : Nat → Int32} {j n : Nat} {c : ClassId} : ∀ (l : List (Nat × ClassId × Nat)) (k : Nat), (l.map Prod.fst).Nodup → l[k]? = some (j, c, n) → (l.map (mkA a u)).set k (a j, .inl (c, n, .inl g)) = l.map (mkA a (up u j g))
  | [], k, _, h => by simp at h
  | q :: l, 0, hn, h => by
    simp only [List.getElem?_cons_zero, Option.some.injEq] at h
    subst h
    simp only [List.map_cons, List.nodup_cons] at hn
    simp only [List.map_cons, List.set_cons_zero, mkA, up_s]
    refine congrArg _ (List.map_congr_left fun x hx => ?_)
    simp only [mkA]
    rw [up_n]
    intro e
    exact hn.1 (e ▸ List.mem_map_of_mem hx)
  | q :: l, k + 1, hn, h => by
    simp only [List.getElem?_cons_succ] at h
    simp only [List.map_cons, List.nodup_cons] at hn
    simp only [List.map_cons, List.set_cons_succ]
    rw [mkA_set a u l k hn.2 h]
    refine congrArg (· :: _) ?_
    have hm : j ∈ l.map Prod.fst := List.mem_map.mpr ⟨_, List.mem_of_getElem? h, rfl⟩
    simp only [mkA]
    rw [up_n]
    intro e
    exact hn.1 (e ▸ hm)
theorem mkA_get (a : Nat → Nat) (u : LU) {j n : Nat} {c : ClassId} {l : List (Nat × ClassId × Nat)} {k : Nat} (h : l[k]? = some (j, c, n)) : (l.map (mkA a u))[k]? = some (a j, .inl (c, n, .inl (u j))) := by
  rw [List.getElem?_map, h]
  rfl
theorem mkA_0 (a : Nat → Nat) (u : LU) (f : Nat → Int32) (l : List (Nat × ClassId × Nat)) (h0 : 0 ∉ l.map Prod.fst) : l.map (mkA a (up u 0 f)) = l.map (mkA a u) := by
  refine List.map_congr_left fun x hx => ?_
  simp only [mkA]
  rw [up_n]
  intro e
  exact h0 (e ▸ List.mem_map_of_mem hx)
def tyX (cI cZ cQ : ClassId) : List (ClassId × FieldType) := [(cI, .int), (cZ, .boolean), (cQ, .array .int)]
def flX (a : Nat → Nat) (f : Nat → Int32) : List Value := [.ref (a 1), .ref (a 2), .ref (a 3), .ref (a 4), .int (f 4), .ref (a 6), .ref (a 7), .ref (a 8), .ref (a 9), .ref (a 10), .ref (a 11), .ref (a 12), .int (f 12), .ref (a 14), .ref (a 15), .ref (a 16), .int (f 16), .int (f 17)]
def arX (cI cZ : ClassId) : List (Nat × ClassId × Nat) := [(1, cI, 12), (2, cI, 12), (3, cI, 12), (4, cI, 12), (6, cI, 24), (7, cI, 24), (8, cI, 24), (9, cZ, 24), (10, cI, 24), (11, cI, 24), (12, cI, 24), (14, cI, 60), (16, cI, 60)] ++ (List.range 60).map (fun i => (100 + i, cI, 47))
def rfX (a : Nat → Nat) : Nat → Option Nat := fun i => if i < 60 then some (a (100 + i)) else none
def wX (cI cZ cQ : ClassId) (a : Nat → Nat) (u : LU) : va_W := (a 0, .inr (0, flX a (u 0))) :: (a 15, .inl (cQ, 60, .inr (.inr (.inr (.inr (rfX a)))))) :: (arX cI cZ).map (mkA a u)
theorem arX_nd (cI cZ : ClassId) : ((arX cI cZ).map Prod.fst).Nodup := by
  have h : (arX cI cZ).map Prod.fst = [1, 2, 3, 4, 6, 7, 8, 9, 10, 11, 12, 14, 16] ++ (List.range 60).map (fun i => 100 + i) := by
    simp only [arX, List.map_append, List.map_map]
    rfl
  rw [h]
  decide +kernel
theorem arX_0 (cI cZ : ClassId) : 0 ∉ (arX cI cZ).map Prod.fst := by
  have h : (arX cI cZ).map Prod.fst = [1, 2, 3, 4, 6, 7, 8, 9, 10, 11, 12, 14, 16] ++ (List.range 60).map (fun i => 100 + i) := by
    simp only [arX, List.map_append, List.map_map]
    rfl
  rw [h]
  decide +kernel
theorem arX_row (cI cZ : ClassId) {i : Nat} (h : i < 60) : (arX cI cZ)[13 + i]? = some (100 + i, cI, 47) := by
  unfold arX
  rw [List.getElem?_append_right (by simp)]
  simp [h]
theorem wX_ok (cI cZ cQ : ClassId) (a : Nat → Nat) : WfOk (wX cI cZ cQ a) := fun u u' => by
  simp only [wX, List.map_cons]
  rw [mkA_fst a u u']
theorem wX_get (cI cZ cQ : ClassId) (a : Nat → Nat) (u : LU) {j n k : Nat} {c : ClassId} (h : (arX cI cZ)[k]? = some (j, c, n)) : (wX cI cZ cQ a u)[k + 2]? = some (a j, .inl (c, n, .inl (u j))) := mkA_get a u h
theorem wX_set (cI cZ cQ : ClassId) (a : Nat → Nat) (u : LU) {g : Nat → Int32} {j n k : Nat} {c : ClassId} (h : (arX cI cZ)[k]? = some (j, c, n)) : (wX cI cZ cQ a u).set (k + 2) (a j, .inl (c, n, .inl g)) = wX cI cZ cQ a (up u j g) := by
  have hj : 0 ≠ j := fun e => arX_0 cI cZ (e ▸ List.mem_map.mpr ⟨_, List.mem_of_getElem? h, rfl⟩)
  simp only [wX, List.set_cons_succ]
  rw [mkA_set a u _ k (arX_nd cI cZ) h, up_n u j g hj]
theorem wX_put (cI cZ cQ : ClassId) (a : Nat → Nat) (u : LU) {f : Nat → Int32} {fs : List Value} (h : fs = flX a f) : (wX cI cZ cQ a u).set 0 (a 0, .inr (0, fs)) = wX cI cZ cQ a (up u 0 f) := by
  subst h
  simp only [wX, List.set_cons_zero]
  rw [mkA_0 a u f _ (arX_0 cI cZ), up_s]
def flM (a : Nat → Nat) (f : Nat → Int32) : List Value := [.int (f 0), .int (f 1), .int (f 2), .ref (a 4), .ref (a 5), .ref (a 6), .ref (a 7), .int (f 7), .ref (a 9), .ref (a 10), .ref (a 11), .ref (a 12), .ref (a 13), .ref (a 14), .ref (a 15), .int (f 15), .ref (a 17), .ref (a 18), .ref (a 19), .ref (a 20)]
def arM (cI cZ : ClassId) : List (Nat × ClassId × Nat) := [(4, cI, 12), (5, cI, 12), (6, cI, 12), (7, cI, 12), (9, cI, 24), (10, cI, 24), (11, cI, 24), (12, cI, 24), (13, cZ, 24), (14, cI, 24), (15, cI, 24), (17, cI, 60), (18, cI, 60), (19, cI, 2880), (20, cZ, 24)]
def wM (cI cZ : ClassId) (a : Nat → Nat) (u : LU) : va_W := (a 0, .inr (1, flM a (u 0))) :: (arM cI cZ).map (mkA a u)
theorem arM_nd (cI cZ : ClassId) : ((arM cI cZ).map Prod.fst).Nodup := by
  show [4, 5, 6, 7, 9, 10, 11, 12, 13, 14, 15, 17, 18, 19, 20].Nodup
  decide +kernel
theorem arM_0 (cI cZ : ClassId) : 0 ∉ (arM cI cZ).map Prod.fst := by
  show 0 ∉ [4, 5, 6, 7, 9, 10, 11, 12, 13, 14, 15, 17, 18, 19, 20]
  decide +kernel
theorem wM_ok (cI cZ : ClassId) (a : Nat → Nat) : WfOk (wM cI cZ a) := fun u u' => by
  simp only [wM, List.map_cons]
  rw [mkA_fst a u u']
theorem wM_get (cI cZ : ClassId) (a : Nat → Nat) (u : LU) {j n k : Nat} {c : ClassId} (h : (arM cI cZ)[k]? = some (j, c, n)) : (wM cI cZ a u)[k + 1]? = some (a j, .inl (c, n, .inl (u j))) := mkA_get a u h
theorem wM_set (cI cZ : ClassId) (a : Nat → Nat) (u : LU) {g : Nat → Int32} {j n k : Nat} {c : ClassId} (h : (arM cI cZ)[k]? = some (j, c, n)) : (wM cI cZ a u).set (k + 1) (a j, .inl (c, n, .inl g)) = wM cI cZ a (up u j g) := by
  have hj : 0 ≠ j := fun e => arM_0 cI cZ (e ▸ List.mem_map.mpr ⟨_, List.mem_of_getElem? h, rfl⟩)
  simp only [wM, List.set_cons_succ]
  rw [mkA_set a u _ k (arM_nd cI cZ) h, up_n u j g hj]
theorem wM_put (cI cZ : ClassId) (a : Nat → Nat) (u : LU) {f : Nat → Int32} {fs : List Value} (h : fs = flM a f) : (wM cI cZ a u).set 0 (a 0, .inr (1, fs)) = wM cI cZ a (up u 0 f) := by
  subst h
  simp only [wM, List.set_cons_zero]
  rw [mkA_0 a u f _ (arM_0 cI cZ), up_s]
theorem ti_add {x y : Int32} (h1 : -2147483648 ≤ x.toInt + y.toInt) (h2 : x.toInt + y.toInt < 2147483648) : (x + y).toInt = x.toInt + y.toInt := by
  rw [Int32.toInt_add]
  exact Int.bmod_eq_of_le (by omega) (by omega)
theorem ti_sub {x y : Int32} (h1 : -2147483648 ≤ x.toInt - y.toInt) (h2 : x.toInt - y.toInt < 2147483648) : (x - y).toInt = x.toInt - y.toInt := by
  rw [Int32.toInt_sub]
  exact Int.bmod_eq_of_le (by omega) (by omega)
theorem ti_rng (x : Int32) : -2147483648 ≤ x.toInt ∧ x.toInt < 2147483648 := ⟨Int32.le_toInt x, Int32.toInt_lt x⟩
theorem vp_of {x : Int32} {n : Nat} (h1 : 0 ≤ x.toInt) (h2 : x.toInt < n) : vp_in x n := vp_in_iff.mpr ⟨h1, h2⟩
theorem nI_of_ti {x : Int32} {n : Nat} (h1 : 0 ≤ x.toInt) (h2 : x.toInt < n) (hn : n < 2 ^ 31) : ∃ j : Nat, j < n ∧ x = nI j := vp_in_of (vp_of h1 h2) hn
theorem row_get (cI cZ cQ : ClassId) (a : Nat → Nat) (u : LU) {i : Nat} (h : i < 60) : (wX cI cZ cQ a u)[15 + i]? = some (a (100 + i), .inl (cI, 47, .inl (u (100 + i)))) := by
  have e : 15 + i = (13 + i) + 2 := by omega
  rw [e]
  exact wX_get cI cZ cQ a u (arX_row cI cZ h)
theorem row_set (cI cZ cQ : ClassId) (a : Nat → Nat) (u : LU) {i : Nat} {g : Nat → Int32} (h : i < 60) : (wX cI cZ cQ a u).set (15 + i) (a (100 + i), .inl (cI, 47, .inl g)) = wX cI cZ cQ a (up u (100 + i) g) := by
  have e : 15 + i = (13 + i) + 2 := by omega
  rw [e]
  exact wX_set cI cZ cQ a u (arX_row cI cZ h)
def mmin32 (x y : Int32) : Int32 := if y < x then y else x
def mmax32 (x y : Int32) : Int32 := if x < y then y else x
section GM
variable {S : Type} {p : Program} {l : Launch} {e : Env} {R : Room} {s : State} {m : MethodId} {args : Array Value} {below : List Frame} {meth : Method} {c : Code} {D : va_G} {tys : List (ClassId × FieldType)} {A : Nat → Prop} {own : String} {cc : ByteArray} {Ts : List Cond} {nL : Nat} {wf : S → va_W} {cells slots : Nat} {Q : State → Prop} {u : S} {pc pc' : Nat} {L : List (Nat × Value)} {st : List Value}
theorem g_mmin (C : CX p s m args meth c D tys A own cc Ts nL wf) {index : Nat} (h1 : Cond.methodLink own index Lib.Math.min.name ∈ Ts) (h2 : Cond.static Lib.Math.min.name ∈ Ts) (h3 : Cond.initialized "java/lang/Math" ∈ Ts) (h4 : Cond.code Lib.Math.min.name Lib.Math.min.code 2 (some .int) ∈ Ts) (hf : 1 ≤ R.frames) (hlo : (st.map fun v => v.category).sum + 13 ≤ R.locals) (hc : cells ≤ R.cells) (hs : slots ≤ R.slots) {x y : Int32} (hdg : decode cc pc = .ok (.invokestatic index, 3)) (hp : pc + 3 = pc')
    (kk : G p l e R s m args below meth c D A nL wf cells slots Q u pc' L (.int (mmin32 x y) :: st)) : G p l e R s m args below meth c D A nL wf cells slots Q u pc L (.int y :: .int x :: st) := by
  subst hp; exact fun H locs ls hP hS hl => va_mmin C.1 C.2.1 (C.2.2.1.trans hl.1.symm) C.2.2.2.1 (C.2.2.2.2.1 _ h1) (C.2.2.2.2.1 _ h2) (C.2.2.2.2.1 _ h3) (C.2.2.2.2.1 _ h4) hf hlo hc hs hdg (kk H locs ls hP hS hl)
theorem g_mmax (C : CX p s m args meth c D tys A own cc Ts nL wf) {index : Nat} (h1 : Cond.methodLink own index Lib.Math.max.name ∈ Ts) (h2 : Cond.static Lib.Math.max.name ∈ Ts) (h3 : Cond.initialized "java/lang/Math" ∈ Ts) (h4 : Cond.code Lib.Math.max.name Lib.Math.max.code 2 (some .int) ∈ Ts) (hf : 1 ≤ R.frames) (hlo : (st.map fun v => v.category).sum + 13 ≤ R.locals) (hc : cells ≤ R.cells) (hs : slots ≤ R.slots) {x y : Int32} (hdg : decode cc pc = .ok (.invokestatic index, 3)) (hp : pc + 3 = pc')
    (kk : G p l e R s m args below meth c D A nL wf cells slots Q u pc' L (.int (mmax32 x y) :: st)) : G p l e R s m args below meth c D A nL wf cells slots Q u pc L (.int y :: .int x :: st) := by
  subst hp; exact fun H locs ls hP hS hl => va_mmax C.1 C.2.1 (C.2.2.1.trans hl.1.symm) C.2.2.2.1 (C.2.2.2.2.1 _ h1) (C.2.2.2.2.1 _ h2) (C.2.2.2.2.1 _ h3) (C.2.2.2.2.1 _ h4) hf hlo hc hs hdg (kk H locs ls hP hS hl)
end GM
theorem g_conv {S : Type} {p : Program} {l : Launch} {e : Env} {R : Room} {s : State} {m : MethodId} {args : Array Value} {below : List Frame} {meth : Method} {c : Code} {D : va_G} {A : Nat → Prop} {nL : Nat} {wf : S → va_W} {cells slots : Nat} {Q : State → Prop} {u : S} {pc : Nat} {L : List (Nat × Value)} {st : List Value} {x y : Int32} (h : x = y) (kk : G p l e R s m args below meth c D A nL wf cells slots Q u pc L (.int y :: st)) : G p l e R s m args below meth c D A nL wf cells slots Q u pc L (.int x :: st) := h ▸ kk
end
section
def tx0 : List (Nat × String) := [(78, "minutes, limit or back is out of range"), (85, "the route takes no more steps"), (88, "wafers is out of range"), (90, "there is no step, or no room for the lot or its wafers"), (112, "the lot can't run now"), (117, "the lot can't be reworked now"), (119, "the lot is not WAITING, or there were 24 lots"), (125, "both lots are the same"), (127, "the lots can't be merged now"), (142, "the lot is DONE or ENDED"), (150, "the wafer was scrapped, or its lot is not WAITING"), (152, "minutes is out of range"), (174, "the path has no such place"), (177, "there is no such tool"), (179, "there is no such step"), (181, "there was no such lot"), (183, "there was no such wafer")]
/-- what is left of the waiting -/
def slX (u : LU) (n : Nat) : Int32 := if (u 6 n).toInt = 0 ∧ 0 ≤ (u 7 n).toInt ∧ (u 7 n).toInt < (u 0 4).toInt then (if (u 3 (u 7 n).toNatClampNeg).toInt = 0 then 1000000 else u 3 (u 7 n).toNatClampNeg - (u 0 17 - u 8 n)) else 2000000
def rdX (u : LU) (n : Nat) : Prop := ((u 6 n).toInt = 0 ∧ (u 9 n).toInt = 0) ∧ 0 ≤ (slX u n).toInt
def utX (u : LU) (n : Nat) (x : Int32) : Prop := (0 ≤ (u 7 n).toInt ∧ (u 7 n).toInt < (u 0 4).toInt) ∧ (u 1 (u 7 n).toNatClampNeg).toInt = x.toInt
def buX (u : LU) (x : Int32) : Prop := ∃ j : Nat, (j : Int) < (u 0 12).toInt ∧ (u 6 j).toInt = 1 ∧ utX u j x
def ponX (u : LU) (x : Int32) : Int32 := if 0 ≤ x.toInt ∧ x.toInt < (u 0 12).toInt then u 11 x.toNatClampNeg else -1
noncomputable def cif {α : Type} (P : Prop) (a b : α) : α := @ite α P (Classical.propDecidable P) a b
theorem cif_t {α : Type} {P : Prop} {a b : α} (h : P) : cif P a b = a := by unfold cif; exact if_pos h
theorem cif_f {α : Type} {P : Prop} {a b : α} (h : ¬ P) : cif P a b = b := by unfold cif; exact if_neg h
/-- the state after leaveRoute, endProcessing, putInto, makeLot, makeWafer, moveWafers .. -/
def lvX (u : LU) (n : Nat) (x : Int32) : LU := up (up u 6 (upd (u 6) n x)) 7 (upd (u 7) n (-1))
def epX (u : LU) (n : Nat) : LU := if 0 ≤ (u 7 n + 1).toInt ∧ (u 7 n + 1).toInt < (u 0 4).toInt then up (up u 6 (upd (u 6) n 0)) 7 (upd (u 7) n (u 7 n + 1)) else lvX u n 2
def put1 (u : LU) (w n : Nat) : LU := up (up u 14 (upd (u 14) w (nI n))) 12 (upd (u 12) n (u 12 n + 1))
def put2 (u : LU) (w n : Nat) : LU := up (put1 u w n) (100 + w) (upd (put1 u w n (100 + w)) (u 16 w).toNatClampNeg (nI n))
def putX (u : LU) (w n : Nat) : LU := if (u 16 w).toInt < 47 then up (put2 u w n) 16 (upd (put2 u w n 16) w (u 16 w + 1)) else put1 u w n
def mkLX (u : LU) (n : Nat) (st si hd rw9 pa : Int32) : LU := up (up (up (up (up (up (up (up u 6 (upd (u 6) n 0)) 7 (upd (u 7) n st)) 8 (upd (u 8) n si)) 9 (upd (u 9) n hd)) 10 (upd (u 10) n rw9)) 11 (upd (u 11) n pa)) 12 (upd (u 12) n 0)) 0 (upd (u 0) 12 (nI n + 1))
def mwX (u : LU) (w n : Nat) : LU := putX (up (up u 16 (upd (u 16) w 0)) 0 (upd (u 0) 16 (nI w + 1))) w n
def enX (u : LU) (w n : Nat) : Nat → LU
  | 0 => u
  | i + 1 => mwX (enX u w n i) (w + i) n
def mv1 (u : LU) (f w t : Nat) : LU := putX (up u 12 (upd (u 12) f (u 12 f - 1))) w t
def mvX (u : LU) (f t : Nat) (c : Int32) : Nat → LU × Nat
  | 0 => (u, 0)
  | i + 1 => if ((mvX u f t c i).2 : Int) < c.toInt ∧ ((mvX u f t c i).1 14 i).toInt = f then (mv1 (mvX u f t c i).1 f i t, (mvX u f t c i).2 + 1) else mvX u f t c i
def avX (u : LU) : Nat → LU × Nat
  | 0 => (u, 0)
  | i + 1 => if ((avX u i).1 6 i).toInt = 1 ∧ ((avX u i).1 8 i).toInt ≤ ((avX u i).1 0 17).toInt then (epX (avX u i).1 i, (avX u i).2 + 1) else avX u i
noncomputable def nfX (u : LU) (x : Int32) : Nat → Int32 × Int32
  | 0 => (-1, 2000000)
  | i + 1 => cif (rdX u i ∧ utX u i x ∧ (slX u i).toInt < (nfX u x i).2.toInt) (nI i, slX u i) (nfX u x i)
def waX (u : LU) (x : Int32) : Nat → Int32
  | 0 => 0
  | i + 1 => if (u 7 i).toInt = x.toInt then waX u x i + u 12 i else waX u x i
def wbX (u : LU) (x : Int32) : Nat → Nat
  | 0 => 0
  | i + 1 => if (0 ≤ (u 14 i).toInt ∧ (u 14 i).toInt < (u 0 12).toInt) ∧ (u 7 (u 14 i).toNatClampNeg).toInt = x.toInt then wbX u x i + 1 else wbX u x i
def coX (u : LU) : Nat → Int32 → Int32 → Int32
  | 0, a, _ => a
  | k + 1, a, b => if a.toInt = b.toInt then a else if b.toInt < a.toInt then coX u k (ponX u a) b else coX u k a (ponX u b)
/-- the class's own invariant, as far as its indices need it -/
def IX (u : LU) : Prop := (0 ≤ (u 0 4).toInt ∧ (u 0 4).toInt ≤ 12) ∧ (0 ≤ (u 0 12).toInt ∧ (u 0 12).toInt ≤ 24) ∧ (0 ≤ (u 0 16).toInt ∧ (u 0 16).toInt ≤ 60) ∧ (∀ n, n < 24 → vp_nar .boolean (u 9 n) = u 9 n ∧ narrow .boolean (.int (u 9 n)) = .int (u 9 n)) ∧ ∀ w, w < 60 → 0 ≤ (u 16 w).toInt ∧ (u 16 w).toInt ≤ 47
theorem upd_s {f : Nat → Int32} {k : Nat} {x : Int32} : upd f k x k = x := pk_us
theorem upd_n {f : Nat → Int32} {k j : Nat} {x : Int32} (h : j ≠ k) : upd f k x j = f j := pk_un h
theorem put1_0 (u : LU) (w n : Nat) : put1 u w n 0 = u 0 := rfl
theorem putX_0 (u : LU) (w n : Nat) : putX u w n 0 = u 0 := by
  unfold putX
  split
  · show put2 u w n 0 = u 0
    unfold put2
    rw [up_n _ _ _ (by omega : 0 ≠ 100 + w)]
    rfl
  · rfl
theorem put2_16 (u : LU) (w n : Nat) (hw : w < 60) : put2 u w n 16 = u 16 := by
  unfold put2
  rw [up_n _ _ _ (by omega : 16 ≠ 100 + w)]
  rfl
theorem putX_16 (u : LU) (w n : Nat) (hw : w < 60) : putX u w n 16 = if (u 16 w).toInt < 47 then upd (u 16) w (u 16 w + 1) else u 16 := by
  unfold putX
  split
  · rw [up_s, put2_16 u w n hw]
  · rfl
theorem putX_pb {u : LU} {w n : Nat} (hw : w < 60) (h : ∀ w, w < 60 → 0 ≤ (u 16 w).toInt ∧ (u 16 w).toInt ≤ 47) : ∀ q, q < 60 → 0 ≤ (putX u w n 16 q).toInt ∧ (putX u w n 16 q).toInt ≤ 47 := by
  intro q hq
  rw [putX_16 u w n hw]
  have h1 := h q hq
  split
  · by_cases e : q = w
    · subst e
      have e1 : (1 : Int32).toInt = 1 := rfl
      have h2 : (u 16 q + 1).toInt = (u 16 q).toInt + (1 : Int32).toInt := ti_add (by rw [e1]; omega) (by rw [e1]; omega)
      rw [upd_s, h2, e1]
      omega
    · rw [upd_n e]
      exact h1
  · exact h1
theorem epX_0 (u : LU) (n : Nat) : epX u n 0 = u 0 := by unfold epX; split <;> rfl
theorem mvX_stop (u : LU) (f t : Nat) (c : Int32) {i : Nat} (h : c.toInt ≤ ((mvX u f t c i).2 : Int)) : ∀ k, mvX u f t c (i + k) = mvX u f t c i
  | 0 => rfl
  | k + 1 => by
    have ih := mvX_stop u f t c h k
    show mvX u f t c ((i + k) + 1) = _
    simp only [mvX]
    rw [ih, if_neg (by omega)]
theorem mvX_t {u v : LU} {f t : Nat} {c : Int32} {i k : Nat} (hv : mvX u f t c i = (v, k)) (h1 : (k : Int) < c.toInt) (h2 : (v 14 i).toInt = f) : mvX u f t c (i + 1) = (mv1 v f i t, k + 1) := by
  simp only [mvX]
  rw [hv]
  exact if_pos ⟨h1, h2⟩
theorem mvX_f {u v : LU} {f t : Nat} {c : Int32} {i k : Nat} (hv : mvX u f t c i = (v, k)) (h2 : ¬ (v 14 i).toInt = f) : mvX u f t c (i + 1) = (v, k) := by
  simp only [mvX]
  rw [hv]
  exact if_neg (fun q => h2 q.2)
theorem avX_t {u v : LU} {i k : Nat} (hv : avX u i = (v, k)) (h1 : (v 6 i).toInt = 1) (h2 : (v 8 i).toInt ≤ (v 0 17).toInt) : avX u (i + 1) = (epX v i, k + 1) := by
  simp only [avX]
  rw [hv]
  exact if_pos ⟨h1, h2⟩
theorem avX_f {u v : LU} {i k : Nat} (hv : avX u i = (v, k)) (h2 : ¬ ((v 6 i).toInt = 1 ∧ (v 8 i).toInt ≤ (v 0 17).toInt)) : avX u (i + 1) = (v, k) := by
  simp only [avX]
  rw [hv]
  exact if_neg h2
theorem nfX_t {u : LU} {x b s : Int32} {i : Nat} (hv : nfX u x i = (b, s)) (h1 : rdX u i) (h2 : utX u i x) (h3 : (slX u i).toInt < s.toInt) : nfX u x (i + 1) = (nI i, slX u i) := by
  simp only [nfX]
  rw [hv]
  exact cif_t ⟨h1, h2, h3⟩
theorem nfX_f {u : LU} {x b s : Int32} {i : Nat} (hv : nfX u x i = (b, s)) (h : ¬ (rdX u i ∧ utX u i x ∧ (slX u i).toInt < s.toInt)) : nfX u x (i + 1) = (b, s) := by
  simp only [nfX]
  rw [hv]
  exact cif_f h
def asX (u : LU) (x y z b : Int32) : LU := up (up (up (up (up u 1 (upd (u 1) (u 0 4).toNatClampNeg x)) 2 (upd (u 2) (u 0 4).toNatClampNeg y)) 3 (upd (u 3) (u 0 4).toNatClampNeg z)) 4 (upd (u 4) (u 0 4).toNatClampNeg b)) 0 (upd (u 0) 4 (u 0 4 + 1))
def saX (u : LU) (n : Nat) : LU := up (up u 6 (upd (u 6) n 1)) 8 (upd (u 8) n (u 0 17 + u 2 (u 7 n).toNatClampNeg))
def rwX (u : LU) (n : Nat) : LU := up (up (up u 7 (upd (u 7) n (u 4 (u 7 n).toNatClampNeg))) 8 (upd (u 8) n (u 0 17))) 10 (upd (u 10) n (u 10 n + 1))
def spX (u : LU) (n k : Nat) (y : Int32) : LU := (mvX (mkLX u k (u 7 n) (u 8 n) (u 9 n) (u 10 n) (nI n)) n k y (u 0 16).toInt.toNat).1
def mg1X (u : LU) (n k : Nat) : LU := up (up u 8 (upd (u 8) k (mmin32 (u 8 n) (u 8 k)))) 10 (upd (u 10) k (mmax32 (u 10 n) (u 10 k)))
def mgX (u : LU) (n k : Nat) : LU := lvX (mvX (mg1X u n k) n k (u 12 n) (u 0 16).toInt.toNat).1 n 3
def sc1X (u : LU) (w k : Nat) : LU := up (up u 14 (upd (u 14) w (-1))) 12 (upd (u 12) k (u 12 k - 1))
def scX (u : LU) (w k : Nat) : LU := if (u 12 k - 1).toInt = 0 then lvX (sc1X u w k) k 3 else sc1X u w k
theorem scX_no {u : LU} {w : Nat} (h : ¬ (0 ≤ (u 14 w).toInt ∧ (u 14 w).toInt < (u 0 12).toInt) ∨ ∃ k : Nat, u 14 w = nI k ∧ k < 24 ∧ ¬ (u 6 k).toInt = 0) : ¬ ∃ k : Nat, u 14 w = nI k ∧ (k : Int) < (u 0 12).toInt ∧ (u 6 k).toInt = 0 := by
  rintro ⟨k, h1, h2, h3⟩
  have hr := ti_rng (u 0 12)
  have hk : (nI k).toInt = (k : Int) := nI_toInt (by omega)
  rcases h with h | ⟨j, g1, g2, g3⟩
  · rw [h1, hk] at h
    omega
  · have hj : (nI j).toInt = (j : Int) := nI_toInt (by omega)
    rw [h1] at g1
    have : k = j := by rw [g1] at hk; omega
    subst this
    exact g3 h3
theorem mwX_16 (u : LU) (w n : Nat) : mwX u w n 0 16 = nI (w + 1) := by
  unfold mwX
  rw [putX_0]
  show upd (u 0) 16 (nI w + 1) 16 = _
  rw [upd_s, nI_1]
theorem coX_end {u : LU} {i : Nat} {a b x y : Int32} (hv : coX u (48 - i) a b = coX u 48 x y) (h : ¬ (i < 48 ∧ ¬ a.toInt = b.toInt)) : a = coX u 48 x y := by
  rw [← hv]
  rcases Nat.lt_or_ge i 48 with q | q
  · have e : a.toInt = b.toInt := Classical.byContradiction (fun z => h ⟨q, z⟩)
    rw [show 48 - i = (47 - i) + 1 by omega]
    simp only [coX]
    rw [if_pos e]
  · rw [show 48 - i = 0 by omega]
    rfl
end
section
/-! further rows of the judgement: remainder, shift, pop, a static call without an answer; the law's own small methods -/
section GZ
variable {S : Type} {p : Program} {l : Launch} {e : Env} {R : Room} {s : State} {m : MethodId} {args : Array Value} {below : List Frame} {meth : Method} {c : Code} {D : va_G} {tys : List (ClassId × FieldType)} {A : Nat → Prop} {own : String} {cc : ByteArray} {Ts : List Cond} {nL : Nat} {wf : S → va_W} {cells slots cells' slots' : Nat} {Q : State → Prop} {u : S} {pc pc' : Nat} {L : List (Nat × Value)} {st st0 As : List Value}
variable {y : MethodName} {ws ws' : List Cond} {rm : Room} {index maxL n b : Nat} {bytes : ByteArray} {ret9 : Option FieldType} {Cn : String} {posti : Int32 → S → Prop} {postv : S → Prop}
theorem g_irem (C : CX p s m args meth c D tys A own cc Ts nL wf) {x z : Int32} (hdg : decode cc pc = .ok (.irem, 1)) (hp : pc + 1 = pc') (hne : ¬ z = 0) (kk : G p l e R s m args below meth c D A nL wf cells slots Q u pc' L (.int (x - x / z * z) :: st)) : G p l e R s m args below meth c D A nL wf cells slots Q u pc L (.int z :: .int x :: st) := by
  subst hp; exact fun H locs ls hP hS hl => lv_irem C.1 C.2.1 hdg hne (kk H locs ls hP hS hl)
theorem g_ishr (C : CX p s m args meth c D tys A own cc Ts nL wf) {x z : Int32} (hdg : decode cc pc = .ok (.ishr, 1)) (hp : pc + 1 = pc') (kk : G p l e R s m args below meth c D A nL wf cells slots Q u pc' L (.int (x >>> (z &&& 31)) :: st)) : G p l e R s m args below meth c D A nL wf cells slots Q u pc L (.int z :: .int x :: st) := by
  subst hp; exact fun H locs ls hP hS hl => lv_ishr C.1 C.2.1 hdg (kk H locs ls hP hS hl)
theorem g_pop (C : CX p s m args meth c D tys A own cc Ts nL wf) {v : Value} (hdg : decode cc pc = .ok (.pop, 1)) (hp : pc + 1 = pc') (hv : v.category = 1) (kk : G p l e R s m args below meth c D A nL wf cells slots Q u pc' L st) : G p l e R s m args below meth c D A nL wf cells slots Q u pc L (v :: st) := by
  subst hp; exact fun H locs ls hP hS hl => lv_pop C.1 C.2.1 hdg hv (kk H locs ls hP hS hl)
theorem g_callvS (C : CX p s m args meth c D tys A own cc Ts nL wf) (hM : KV l y ws rm D tys wf As u postv) (gd : GoodIn Ts (va_wsS own index y ws)) (hw : ws = Cond.code y bytes maxL ret9 :: ws') (hd : y.cls ≠ "java/lang/invoke/MethodHandle" ∧ y.cls ≠ "java/lang/invoke/VarHandle" ∧ (parseMethodDescriptor y.desc).map (fun d => d.parameters.length) = some n) (hR : rm.frames + 1 ≤ R.frames ∧ 8 + (maxL + 11) + rm.locals ≤ R.locals)
    (hn : As.length = n) (hst : st0 = As.reverse ++ st) (hW : (st.map fun v => v.category).sum ≤ 8) (hdg : decode cc pc = .ok (.invokestatic index, 3)) (hp : pc + 3 = pc') (hcl : cells + rm.cells = cells') (hsl : slots + rm.slots = slots') (hf : cells' ≤ R.cells ∧ slots' ≤ R.slots)
    (kk : ∀ (u' : S), postv u' → G p l e R s m args below meth c D A nL wf cells' slots' Q u' pc' L st) : G p l e R s m args below meth c D A nL wf cells slots Q u pc L st0 := by
  subst hp; subst hcl; subst hsl
  intro H locs ls hP hS hl
  refine va_callv (va_runS (As := As) (rest := st) (cx_fix C) (hM H.size) (va_cwS n C.2.2.2.2.1 gd hw rfl rfl hd hR) ⟨KB.blind, fun U hU hW => ⟨rfl, cx_KB C hP hU hW⟩⟩ rfl hn hl.1 hst (lv_room hW) hdg hf) hS (fun q _ h => cx_A C hS q h) (cx_A C hS) (fun u' t H1 locs1 ht hvm hw9 hB hz hk hS1 => ?_)
  exact kk u' hw9 H1 locs1 ls (ht ▸ hB.1) hS1 hl
/-- a world of nothing -/
def w0 : Unit → va_W := fun _ => []
theorem w0_ok : WfOk w0 := fun _ _ => rfl
/-- a static method that reads the script and nothing else -/
def KS (l : Launch) (y : MethodName) (ws : List Cond) (rm : Room) (D : va_G) (b L9 : Nat) (xs : Nat → Int32) (As : List Value) : Prop :=
  ∀ sz, Met l y ws rm (va_Pc As (fun U => KB D [] w0 () sz U ∧ va_X b L9 xs U U.heap ∧ b < sz)) (va_Qi (fun (_ : Int32) (_ : Unit) => True) (KE D [] w0) (va_A (w0 ()) sz)) rm.cells rm.slots (va_A (w0 ()) sz)
theorem KS.blind {D : va_G} {sz b L9 : Nat} {xs : Nat → Int32} : FrameBlind (va_Pc As (fun U => KB D [] w0 () sz U ∧ va_X b L9 xs U U.heap ∧ b < sz)) := fun a U g mk q => by
  obtain ⟨q0, ⟨q1, q2, q3, q4⟩, q5, q6⟩ := q
  exact ⟨q0, ⟨q1, q2, va_K.moved (u := U) (U := U.calling g mk a) (Vm.Alike.refl U.vm) q3, q4⟩, va_X.moved (u := U) (U := U.calling g mk a) (Vm.Alike.refl U.vm) q5, q6⟩
theorem ent_S {D : va_G} {L9 : Nat} {xs : Nat → Int32} {cc : ByteArray} {ty : FieldType} {L0 : List (Nat × Value)} (hy : plainName y.cls = true) (hw : ws = Cond.code y cc maxL (some ty) :: ws') (hown : y.cls = own) (hlen : (lg_sl As).length ≤ maxL) (hL0 : lv_args 0 As = L0)
    (body : ∀ (p : Program) (e : Env) (s : State) (m : MethodId) (args : Array Value) (below : List Frame) (meth : Method) (c : Code) (A : Nat → Prop), CX p s m args meth c D [] A own cc ws maxL w0 → meth.sig.returnType = some ty → va_X b L9 xs s s.heap → b < s.heap.size → ¬ A b → G p l e rm s m args below meth c D A maxL w0 0 0 (MQ below (va_Qi (fun (_ : Int32) (_ : Unit) => True) (KE D [] w0) A) args s rm.cells rm.slots A) () 0 L0 []) : KS l y ws rm D b L9 xs As := by
  intro sz
  refine Met.ofW (cc := cc) (maxL := maxL) (ret := some ty) hy hw ?_
  intro p e s m args below meth c s₁ B hml hv
  obtain ⟨rfl, ⟨hsz, hP, hK, hD⟩, hX, hb⟩ := hv
  subst hsz; subst hL0
  rw [lg_entry_eq]
  refine body p e s m _ below meth c _ (cx_ent w0_ok hown B hml ⟨rfl, hP, hK, hD⟩) B.returns hX hb ?_ s.heap [] _ hP va_S.rf (lv_entry As hlen)
  rintro (⟨k, q, h⟩ | h)
  · simp [w0] at h
  · exact absurd hb (Nat.not_lt.mpr h)
theorem g_callS {L9 : Nat} {xs : Nat → Int32} (C : CX p s m args meth c D tys A own cc Ts nL wf) (hX : va_X b L9 xs s s.heap) (hbl : b < s.heap.size) (hbA : ¬ A b) (hM : KS l y ws rm D b L9 xs As) (gd : GoodIn Ts (va_wsS own index y ws)) (hw : ws = Cond.code y bytes maxL ret9 :: ws') (hd : y.cls ≠ "java/lang/invoke/MethodHandle" ∧ y.cls ≠ "java/lang/invoke/VarHandle" ∧ (parseMethodDescriptor y.desc).map (fun d => d.parameters.length) = some n) (hR : rm.frames + 1 ≤ R.frames ∧ 8 + (maxL + 11) + rm.locals ≤ R.locals)
    (hn : As.length = n) (hst : st0 = As.reverse ++ st) (hW : (st.map fun v => v.category).sum ≤ 8) (hdg : decode cc pc = .ok (.invokestatic index, 3)) (hp : pc + 3 = pc') (hcl : cells + rm.cells = cells') (hsl : slots + rm.slots = slots') (hf : cells' ≤ R.cells ∧ slots' ≤ R.slots)
    (kk : ∀ (r : Int32), G p l e R s m args below meth c D A nL wf cells' slots' Q u pc' L (.int r :: st)) : G p l e R s m args below meth c D A nL wf cells slots Q u pc L st0 := by
  subst hp; subst hcl; subst hsl
  intro H locs ls hP hS hl
  have hXH : va_X b L9 xs s H := hX.kept (hS.2.1 b hbl hbA)
  have hbH : b < H.size := Nat.lt_of_lt_of_le hbl hS.1
  have hF : ∀ q, va_A (w0 ()) H.size q → A q := by
    rintro q (⟨k, z, h⟩ | h)
    · simp [w0] at h
    · exact C.2.2.2.2.2.2.1 q (Nat.le_trans hS.1 h)
  refine va_calli (va_runS (As := As) (rest := st) (cx_fix C) (hM H.size) (va_cwS n C.2.2.2.2.1 gd hw rfl rfl hd hR) ⟨KS.blind, fun U hU hW => ⟨rfl, ⟨by rw [hU], fun k q h => by simp [w0] at h, (va_K.moved hW.alike C.2.2.2.2.2.1).sub [] rfl, ⟨fun i j p q h => by simp [w0] at h, fun k q h => by simp [w0] at h⟩⟩, by rw [hU]; exact va_X.moved hW.alike hXH, hbH⟩⟩ rfl hn hl.1 hst (lv_room hW) hdg hf) hS (fun q _ h => hF q h) hF (fun r u' t H1 locs1 ht hvm hw9 hB hz hk hS1 => ?_)
  refine kk r H1 locs1 ls (hP.kept (fun k q hq => hk q.1 ((hP k q hq).lt) ?_)) hS1 hl
  rintro (⟨k, z, h⟩ | h)
  · simp [w0] at h
  · exact absurd ((hP k q hq).lt) (Nat.not_lt.mpr h)
end GZ
end
section
set_option maxHeartbeats 4000000 in
set_option maxRecDepth 100000 in
theorem c_X0_isWithin {l : Launch} {D : va_G} {cI cZ cQ : ClassId} {a : Nat → Nat} (u : LU) (x lo hi : Int32) : KI l yX0_isWithin wsX0_isWithin ({ frames := 0, cells := 0, slots := 0, locals := 0 } : Room) D (tyX cI cZ cQ) (wX cI cZ cQ a) [.int x, .int lo, .int hi] u (fun (r : Int32) (u' : LU) => r = bP (lo.toInt ≤ x.toInt ∧ x.toInt ≤ hi.toInt) ∧ u' = u) := by
  refine ent_I (own := RX0) (maxL := 3) (cc := cX0_isWithin) (L0 := [(0, .int x), (1, .int lo), (2, .int hi)]) (by decide) rfl (wX_ok _ _ _ _) rfl (Nat.le_of_ble_eq_true rfl) rfl ?_
  intro p e s m args below meth c A C hr
  refine g_iload_n (pc' := 1) (q := 0) C dX0_isWithin_0 rfl rfl rfl ?_
  refine g_iload_n (pc' := 2) (q := 1) C dX0_isWithin_1 rfl rfl rfl ?_
  refine g_icmp_lt (tgt := 14) (pc' := 5) C dX0_isWithin_2 rfl (by decide) (fun (c_1 : (x).toInt < (lo).toInt) => ?_) (fun (c_1 : ¬ ((x).toInt < (lo).toInt)) => ?_)
  · skip
    refine g_iconst (pc' := 15) (v := 0) C dX0_isWithin_14 rfl (by decide) ?_
    exact g_iret C hr (by decide) ⟨(bP_f (by omega)).symm, rfl⟩ dX0_isWithin_15
  · skip
    refine g_iload_n (pc' := 6) (q := 0) C dX0_isWithin_5 rfl rfl rfl ?_
    refine g_iload_n (pc' := 7) (q := 2) C dX0_isWithin_6 rfl rfl rfl ?_
    refine g_icmp_gt (tgt := 14) (pc' := 10) C dX0_isWithin_7 rfl (by decide) (fun (c_2 : (hi).toInt < (x).toInt) => ?_) (fun (c_2 : ¬ ((hi).toInt < (x).toInt)) => ?_)
    · skip
      refine g_iconst (pc' := 15) (v := 0) C dX0_isWithin_14 rfl (by decide) ?_
      exact g_iret C hr (by decide) ⟨(bP_f (by omega)).symm, rfl⟩ dX0_isWithin_15
    · skip
      refine g_iconst (pc' := 11) (v := 1) C dX0_isWithin_10 rfl (by decide) ?_
      refine g_goto (tgt := 15) C dX0_isWithin_11 (by decide) ?_
      exact g_iret C hr (by decide) ⟨(bP_t (by omega)).symm, rfl⟩ dX0_isWithin_15
set_option maxHeartbeats 4000000 in
set_option maxRecDepth 100000 in
theorem c_X0_isStep {l : Launch} {D : va_G} {cI cZ cQ : ClassId} {a : Nat → Nat} (u : LU) (x : Int32) : KI l yX0_isStep wsX0_isStep ({ frames := 0, cells := 0, slots := 0, locals := 0 } : Room) D (tyX cI cZ cQ) (wX cI cZ cQ a) [.ref (a 0), .int x] u (fun (r : Int32) (u' : LU) => r = bP (0 ≤ x.toInt ∧ x.toInt < (u 0 4).toInt) ∧ u' = u) := by
  refine ent_I (own := RX0) (maxL := 2) (cc := cX0_isStep) (L0 := [(0, .ref (a 0)), (1, .int x)]) (by decide) rfl (wX_ok _ _ _ _) rfl (Nat.le_of_ble_eq_true rfl) rfl ?_
  intro p e s m args below meth c A C hr
  have FX : ∀ w ∈ wsX00, w.before args s = true := fun w h => C.2.2.2.2.1 w ((by decide +kernel : ∀ w ∈ wsX00, w ∈ wsX0_isStep) w h)
  refine g_iload_n (pc' := 1) (q := 1) C dX0_isStep_0 rfl rfl rfl ?_
  refine g_if_lt (tgt := 16) (pc' := 4) C dX0_isStep_1 rfl (by decide) (fun (c_1 : (x).toInt < 0) => ?_) (fun (c_1 : ¬ ((x).toInt < 0)) => ?_)
  · skip
    refine g_iconst (pc' := 17) (v := 0) C dX0_isStep_16 rfl (by decide) ?_
    exact g_iret C hr (by decide) ⟨(bP_f (by omega)).symm, rfl⟩ dX0_isStep_17
  · skip
    refine g_iload_n (pc' := 5) (q := 1) C dX0_isStep_4 rfl rfl rfl ?_
    refine g_aload_n (pc' := 6) (q := 0) C dX0_isStep_5 rfl rfl rfl ?_
    refine g_get (pc' := 9) (v := .int (u 0 4)) C FX 0 (by rfl) rfl 4 (by decide) (by decide +kernel) rfl (by rfl) dX0_isStep_6 rfl ?_
    refine g_icmp_ge (tgt := 16) (pc' := 12) C dX0_isStep_9 rfl (by decide) (fun (c_2 : (u 0 4).toInt ≤ (x).toInt) => ?_) (fun (c_2 : ¬ ((u 0 4).toInt ≤ (x).toInt)) => ?_)
    · skip
      refine g_iconst (pc' := 17) (v := 0) C dX0_isStep_16 rfl (by decide) ?_
      exact g_iret C hr (by decide) ⟨(bP_f (by omega)).symm, rfl⟩ dX0_isStep_17
    · skip
      refine g_iconst (pc' := 13) (v := 1) C dX0_isStep_12 rfl (by decide) ?_
      refine g_goto (tgt := 17) C dX0_isStep_13 (by decide) ?_
      exact g_iret C hr (by decide) ⟨(bP_t (by omega)).symm, rfl⟩ dX0_isStep_17
set_option maxHeartbeats 4000000 in
set_option maxRecDepth 100000 in
theorem c_X0_isLot {l : Launch} {D : va_G} {cI cZ cQ : ClassId} {a : Nat → Nat} (u : LU) (x : Int32) : KI l yX0_isLot wsX0_isLot ({ frames := 0, cells := 0, slots := 0, locals := 0 } : Room) D (tyX cI cZ cQ) (wX cI cZ cQ a) [.ref (a 0), .int x] u (fun (r : Int32) (u' : LU) => r = bP (0 ≤ x.toInt ∧ x.toInt < (u 0 12).toInt) ∧ u' = u) := by
  refine ent_I (own := RX0) (maxL := 2) (cc := cX0_isLot) (L0 := [(0, .ref (a 0)), (1, .int x)]) (by decide) rfl (wX_ok _ _ _ _) rfl (Nat.le_of_ble_eq_true rfl) rfl ?_
  intro p e s m args below meth c A C hr
  have FX : ∀ w ∈ wsX00, w.before args s = true := fun w h => C.2.2.2.2.1 w ((by decide +kernel : ∀ w ∈ wsX00, w ∈ wsX0_isLot) w h)
  refine g_iload_n (pc' := 1) (q := 1) C dX0_isLot_0 rfl rfl rfl ?_
  refine g_if_lt (tgt := 16) (pc' := 4) C dX0_isLot_1 rfl (by decide) (fun (c_1 : (x).toInt < 0) => ?_) (fun (c_1 : ¬ ((x).toInt < 0)) => ?_)
  · skip
    refine g_iconst (pc' := 17) (v := 0) C dX0_isLot_16 rfl (by decide) ?_
    exact g_iret C hr (by decide) ⟨(bP_f (by omega)).symm, rfl⟩ dX0_isLot_17
  · skip
    refine g_iload_n (pc' := 5) (q := 1) C dX0_isLot_4 rfl rfl rfl ?_
    refine g_aload_n (pc' := 6) (q := 0) C dX0_isLot_5 rfl rfl rfl ?_
    refine g_get (pc' := 9) (v := .int (u 0 12)) C FX 0 (by rfl) rfl 12 (by decide) (by decide +kernel) rfl (by rfl) dX0_isLot_6 rfl ?_
    refine g_icmp_ge (tgt := 16) (pc' := 12) C dX0_isLot_9 rfl (by decide) (fun (c_2 : (u 0 12).toInt ≤ (x).toInt) => ?_) (fun (c_2 : ¬ ((u 0 12).toInt ≤ (x).toInt)) => ?_)
    · skip
      refine g_iconst (pc' := 17) (v := 0) C dX0_isLot_16 rfl (by decide) ?_
      exact g_iret C hr (by decide) ⟨(bP_f (by omega)).symm, rfl⟩ dX0_isLot_17
    · skip
      refine g_iconst (pc' := 13) (v := 1) C dX0_isLot_12 rfl (by decide) ?_
      refine g_goto (tgt := 17) C dX0_isLot_13 (by decide) ?_
      exact g_iret C hr (by decide) ⟨(bP_t (by omega)).symm, rfl⟩ dX0_isLot_17
set_option maxHeartbeats 4000000 in
set_option maxRecDepth 100000 in
theorem c_X0_checkTool {l : Launch} {D : va_G} {cI cZ cQ : ClassId} {a : Nat → Nat} (u : LU) (x : Int32) (hx : 0 ≤ x.toInt ∧ x.toInt ≤ 5) : KV l yX0_checkTool wsX0_checkTool ({ frames := 1, cells := 0, slots := 0, locals := 22 } : Room) D (tyX cI cZ cQ) (wX cI cZ cQ a) [.int x] u (fun (u' : LU) => (0 ≤ x.toInt ∧ x.toInt ≤ 5) ∧ u' = u) := by
  refine ent_V (own := RX0) (maxL := 1) (cc := cX0_checkTool) (L0 := [(0, .int x)]) (by decide) rfl (wX_ok _ _ _ _) rfl (Nat.le_of_ble_eq_true rfl) rfl ?_
  intro p e s m args below meth c A C hr
  refine g_iload_n (pc' := 1) (q := 0) C dX0_checkTool_0 rfl rfl rfl ?_
  refine g_iconst (pc' := 2) (v := 0) C dX0_checkTool_1 rfl (by decide) ?_
  refine g_iconst (pc' := 3) (v := 5) C dX0_checkTool_2 rfl (by decide) ?_
  refine g_calliS (pc' := 6) (As := [.int x, .int 0, .int 5]) (st := []) (cells' := 0) (slots' := 0) C (c_X0_isWithin _ x 0 5) gX0_checkTool_X0_isWithin rfl (by decide +kernel) ⟨Nat.le_of_ble_eq_true rfl, Nat.le_of_ble_eq_true rfl⟩ (n := 3) rfl rfl (Nat.le_of_ble_eq_true rfl) dX0_checkTool_3 rfl rfl rfl ⟨Nat.le_of_ble_eq_true rfl, Nat.le_of_ble_eq_true rfl⟩ (fun r_1 u_1 h_2 => ?_)
  obtain ⟨rfl, h_2⟩ := h_2
  refine g_st h_2 ?_
  refine g_ifP_ne (tgt := 19) (pc' := 9) C dX0_checkTool_6 rfl (by decide) (fun (c_3 : 0 ≤ x.toInt ∧ x.toInt ≤ 5) => ?_) (fun (c_3 : ¬ (0 ≤ x.toInt ∧ x.toInt ≤ 5)) => ?_)
  · skip
    exact g_vret C hr ⟨by assumption, rfl⟩ dX0_checkTool_19
  · skip
    exact False.elim (by omega)
set_option maxHeartbeats 4000000 in
set_option maxRecDepth 100000 in
theorem c_X0_checkStep {l : Launch} {D : va_G} {cI cZ cQ : ClassId} {a : Nat → Nat} (u : LU) (x : Int32) (hx : 0 ≤ x.toInt ∧ x.toInt < (u 0 4).toInt) : KV l yX0_checkStep wsX0_checkStep ({ frames := 1, cells := 0, slots := 0, locals := 21 } : Room) D (tyX cI cZ cQ) (wX cI cZ cQ a) [.ref (a 0), .int x] u (fun (u' : LU) => (0 ≤ x.toInt ∧ x.toInt < (u 0 4).toInt) ∧ u' = u) := by
  refine ent_V (own := RX0) (maxL := 2) (cc := cX0_checkStep) (L0 := [(0, .ref (a 0)), (1, .int x)]) (by decide) rfl (wX_ok _ _ _ _) rfl (Nat.le_of_ble_eq_true rfl) rfl ?_
  intro p e s m args below meth c A C hr
  refine g_aload_n (pc' := 1) (q := 0) C dX0_checkStep_0 rfl rfl rfl ?_
  refine g_iload_n (pc' := 2) (q := 1) C dX0_checkStep_1 rfl rfl rfl ?_
  refine g_calliV (pc' := 5) (As := [.int x]) (st := []) (cells' := 0) (slots' := 0) C (c_X0_isStep _ x) gX0_checkStep_X0_isStep rfl (by decide +kernel) ⟨Nat.le_of_ble_eq_true rfl, Nat.le_of_ble_eq_true rfl⟩ 0 (by rfl) rfl (n := 1) rfl rfl (Nat.le_of_ble_eq_true rfl) dX0_checkStep_2 rfl rfl rfl ⟨Nat.le_of_ble_eq_true rfl, Nat.le_of_ble_eq_true rfl⟩ (fun r_1 u_1 h_2 => ?_)
  obtain ⟨rfl, h_2⟩ := h_2
  refine g_st h_2 ?_
  refine g_ifP_ne (tgt := 18) (pc' := 8) C dX0_checkStep_5 rfl (by decide) (fun (c_3 : 0 ≤ x.toInt ∧ x.toInt < (u 0 4).toInt) => ?_) (fun (c_3 : ¬ (0 ≤ x.toInt ∧ x.toInt < (u 0 4).toInt)) => ?_)
  · skip
    exact g_vret C hr ⟨by omega, rfl⟩ dX0_checkStep_18
  · skip
    exact False.elim (by omega)
set_option maxHeartbeats 4000000 in
set_option maxRecDepth 100000 in
theorem c_X0_checkLot {l : Launch} {D : va_G} {cI cZ cQ : ClassId} {a : Nat → Nat} (u : LU) (x : Int32) (hx : 0 ≤ x.toInt ∧ x.toInt < (u 0 12).toInt) : KV l yX0_checkLot wsX0_checkLot ({ frames := 1, cells := 0, slots := 0, locals := 21 } : Room) D (tyX cI cZ cQ) (wX cI cZ cQ a) [.ref (a 0), .int x] u (fun (u' : LU) => (0 ≤ x.toInt ∧ x.toInt < (u 0 12).toInt) ∧ u' = u) := by
  refine ent_V (own := RX0) (maxL := 2) (cc := cX0_checkLot) (L0 := [(0, .ref (a 0)), (1, .int x)]) (by decide) rfl (wX_ok _ _ _ _) rfl (Nat.le_of_ble_eq_true rfl) rfl ?_
  intro p e s m args below meth c A C hr
  refine g_aload_n (pc' := 1) (q := 0) C dX0_checkLot_0 rfl rfl rfl ?_
  refine g_iload_n (pc' := 2) (q := 1) C dX0_checkLot_1 rfl rfl rfl ?_
  refine g_calliV (pc' := 5) (As := [.int x]) (st := []) (cells' := 0) (slots' := 0) C (c_X0_isLot _ x) gX0_checkLot_X0_isLot rfl (by decide +kernel) ⟨Nat.le_of_ble_eq_true rfl, Nat.le_of_ble_eq_true rfl⟩ 0 (by rfl) rfl (n := 1) rfl rfl (Nat.le_of_ble_eq_true rfl) dX0_checkLot_2 rfl rfl rfl ⟨Nat.le_of_ble_eq_true rfl, Nat.le_of_ble_eq_true rfl⟩ (fun r_1 u_1 h_2 => ?_)
  obtain ⟨rfl, h_2⟩ := h_2
  refine g_st h_2 ?_
  refine g_ifP_ne (tgt := 18) (pc' := 8) C dX0_checkLot_5 rfl (by decide) (fun (c_3 : 0 ≤ x.toInt ∧ x.toInt < (u 0 12).toInt) => ?_) (fun (c_3 : ¬ (0 ≤ x.toInt ∧ x.toInt < (u 0 12).toInt)) => ?_)
  · skip
    exact g_vret C hr ⟨by omega, rfl⟩ dX0_checkLot_18
  · skip
    exact False.elim (by omega)
set_option maxHeartbeats 4000000 in
set_option maxRecDepth 100000 in
theorem c_X0_checkWafer {l : Launch} {D : va_G} {cI cZ cQ : ClassId} {a : Nat → Nat} (u : LU) (x : Int32) (hx : 0 ≤ x.toInt ∧ x.toInt < (u 0 16).toInt) : KV l yX0_checkWafer wsX0_checkWafer ({ frames := 0, cells := 0, slots := 0, locals := 0 } : Room) D (tyX cI cZ cQ) (wX cI cZ cQ a) [.ref (a 0), .int x] u (fun (u' : LU) => (0 ≤ x.toInt ∧ x.toInt < (u 0 16).toInt) ∧ u' = u) := by
  refine ent_V (own := RX0) (maxL := 2) (cc := cX0_checkWafer) (L0 := [(0, .ref (a 0)), (1, .int x)]) (by decide) rfl (wX_ok _ _ _ _) rfl (Nat.le_of_ble_eq_true rfl) rfl ?_
  intro p e s m args below meth c A C hr
  have FX : ∀ w ∈ wsX00, w.before args s = true := fun w h => C.2.2.2.2.1 w ((by decide +kernel : ∀ w ∈ wsX00, w ∈ wsX0_checkWafer) w h)
  refine g_iload_n (pc' := 1) (q := 1) C dX0_checkWafer_0 rfl rfl rfl ?_
  refine g_if_lt (tgt := 12) (pc' := 4) C dX0_checkWafer_1 rfl (by decide) (fun (c_1 : (x).toInt < 0) => ?_) (fun (c_1 : ¬ ((x).toInt < 0)) => ?_)
  · skip
    exact False.elim (by omega)
  · skip
    refine g_iload_n (pc' := 5) (q := 1) C dX0_checkWafer_4 rfl rfl rfl ?_
    refine g_aload_n (pc' := 6) (q := 0) C dX0_checkWafer_5 rfl rfl rfl ?_
    refine g_get (pc' := 9) (v := .int (u 0 16)) C FX 0 (by rfl) rfl 16 (by decide) (by decide +kernel) rfl (by rfl) dX0_checkWafer_6 rfl ?_
    refine g_icmp_lt (tgt := 22) (pc' := 12) C dX0_checkWafer_9 rfl (by decide) (fun (c_2 : (x).toInt < (u 0 16).toInt) => ?_) (fun (c_2 : ¬ ((x).toInt < (u 0 16).toInt)) => ?_)
    · skip
      exact g_vret C hr ⟨by omega, rfl⟩ dX0_checkWafer_22
    · skip
      exact False.elim (by omega)
set_option maxHeartbeats 4000000 in
set_option maxRecDepth 100000 in
theorem c_X0_isFree {l : Launch} {D : va_G} {cI cZ cQ : ClassId} {a : Nat → Nat} (u : LU) (n : Nat) (hn : n < 24) : KI l yX0_isFree wsX0_isFree ({ frames := 0, cells := 0, slots := 0, locals := 0 } : Room) D (tyX cI cZ cQ) (wX cI cZ cQ a) [.ref (a 0), .int (nI n)] u (fun (r : Int32) (u' : LU) => r = bP ((u 6 n).toInt = 0 ∧ (u 9 n).toInt = 0) ∧ u' = u) := by
  refine ent_I (own := RX0) (maxL := 2) (cc := cX0_isFree) (L0 := [(0, .ref (a 0)), (1, .int (nI n))]) (by decide) rfl (wX_ok _ _ _ _) rfl (Nat.le_of_ble_eq_true rfl) rfl ?_
  intro p e s m args below meth c A C hr
  have FX : ∀ w ∈ wsX00, w.before args s = true := fun w h => C.2.2.2.2.1 w ((by decide +kernel : ∀ w ∈ wsX00, w ∈ wsX0_isFree) w h)
  refine g_aload_n (pc' := 1) (q := 0) C dX0_isFree_0 rfl rfl rfl ?_
  refine g_get (pc' := 4) (v := .ref (a 6)) C FX 0 (by rfl) rfl 5 (by decide) (by decide +kernel) rfl (by rfl) dX0_isFree_1 rfl ?_
  refine g_iload_n (pc' := 5) (q := 1) C dX0_isFree_4 rfl rfl rfl ?_
  refine g_iald (pc' := 6) (n := 24) (f := u 6) C 6 0 (by rfl) rfl (vp_in_nI (by omega) (by omega)) (k := n) (nI_clamp (by omega)) dX0_isFree_5 rfl ?_
  refine g_if_ne (tgt := 22) (pc' := 9) C dX0_isFree_6 rfl (by decide) (fun (c_1 : ¬ (u 6 n).toInt = 0) => ?_) (fun (c_1 : (u 6 n).toInt = 0) => ?_)
  · skip
    refine g_iconst (pc' := 23) (v := 0) C dX0_isFree_22 rfl (by decide) ?_
    exact g_iret C hr (by decide) ⟨(bP_f (by omega)).symm, rfl⟩ dX0_isFree_23
  · skip
    refine g_aload_n (pc' := 10) (q := 0) C dX0_isFree_9 rfl rfl rfl ?_
    refine g_get (pc' := 13) (v := .ref (a 9)) C FX 0 (by rfl) rfl 8 (by decide) (by decide +kernel) rfl (by rfl) dX0_isFree_10 rfl ?_
    refine g_iload_n (pc' := 14) (q := 1) C dX0_isFree_13 rfl rfl rfl ?_
    refine g_zald (pc' := 15) (n := 24) (f := u 9) C 9 1 (by rfl) rfl (vp_in_nI (by omega) (by omega)) (k := n) (nI_clamp (by omega)) dX0_isFree_14 rfl ?_
    refine g_if_ne (tgt := 22) (pc' := 18) C dX0_isFree_15 rfl (by decide) (fun (c_2 : ¬ (u 9 n).toInt = 0) => ?_) (fun (c_2 : (u 9 n).toInt = 0) => ?_)
    · skip
      refine g_iconst (pc' := 23) (v := 0) C dX0_isFree_22 rfl (by decide) ?_
      exact g_iret C hr (by decide) ⟨(bP_f (by omega)).symm, rfl⟩ dX0_isFree_23
    · skip
      refine g_iconst (pc' := 19) (v := 1) C dX0_isFree_18 rfl (by decide) ?_
      refine g_goto (tgt := 23) C dX0_isFree_19 (by decide) ?_
      exact g_iret C hr (by decide) ⟨(bP_t (by omega)).symm, rfl⟩ dX0_isFree_23
set_option maxHeartbeats 4000000 in
set_option maxRecDepth 100000 in
theorem c_X0_waitingLeft {l : Launch} {D : va_G} {cI cZ cQ : ClassId} {a : Nat → Nat} (u : LU) (n : Nat) (hn : n < 24) (hI : 0 ≤ (u 0 4).toInt ∧ (u 0 4).toInt ≤ 12) : KI l yX0_waitingLeft wsX0_waitingLeft ({ frames := 1, cells := 0, slots := 0, locals := 21 } : Room) D (tyX cI cZ cQ) (wX cI cZ cQ a) [.ref (a 0), .int (nI n)] u (fun (r : Int32) (u' : LU) => r = slX u n ∧ u' = u) := by
  refine ent_I (own := RX0) (maxL := 3) (cc := cX0_waitingLeft) (L0 := [(0, .ref (a 0)), (1, .int (nI n))]) (by decide) rfl (wX_ok _ _ _ _) rfl (Nat.le_of_ble_eq_true rfl) rfl ?_
  intro p e s m args below meth c A C hr
  have FX : ∀ w ∈ wsX00, w.before args s = true := fun w h => C.2.2.2.2.1 w ((by decide +kernel : ∀ w ∈ wsX00, w ∈ wsX0_waitingLeft) w h)
  refine g_aload_n (pc' := 1) (q := 0) C dX0_waitingLeft_0 rfl rfl rfl ?_
  refine g_get (pc' := 4) (v := .ref (a 7)) C FX 0 (by rfl) rfl 6 (by decide) (by decide +kernel) rfl (by rfl) dX0_waitingLeft_1 rfl ?_
  refine g_iload_n (pc' := 5) (q := 1) C dX0_waitingLeft_4 rfl rfl rfl ?_
  refine g_iald (pc' := 6) (n := 24) (f := u 7) C 7 0 (by rfl) rfl (vp_in_nI (by omega) (by omega)) (k := n) (nI_clamp (by omega)) dX0_waitingLeft_5 rfl ?_
  refine g_istore_n (pc' := 7) (L' := [(2, .int (u 7 n)), (0, .ref (a 0)), (1, .int (nI n))]) C dX0_waitingLeft_6 rfl rfl (by decide) rfl ?_
  refine g_aload_n (pc' := 8) (q := 1) C dX0_waitingLeft_7 rfl rfl rfl ?_
  refine g_get (pc' := 11) (v := .ref (a 6)) C FX 0 (by rfl) rfl 5 (by decide) (by decide +kernel) rfl (by rfl) dX0_waitingLeft_8 rfl ?_
  refine g_iload_n (pc' := 12) (q := 2) C dX0_waitingLeft_11 rfl rfl rfl ?_
  refine g_iald (pc' := 13) (n := 24) (f := u 6) C 6 0 (by rfl) rfl (vp_in_nI (by omega) (by omega)) (k := n) (nI_clamp (by omega)) dX0_waitingLeft_12 rfl ?_
  refine g_if_ne (tgt := 24) (pc' := 16) C dX0_waitingLeft_13 rfl (by decide) (fun (c_1 : ¬ (u 6 n).toInt = 0) => ?_) (fun (c_1 : (u 6 n).toInt = 0) => ?_)
  · skip
    refine g_ldc (pc' := 26) (v := 2000000) C dX0_waitingLeft_24 rfl (by decide +kernel) ?_
    exact g_iret C hr rfl ⟨by unfold slX; (repeat' split) <;> first | rfl | omega, rfl⟩ dX0_waitingLeft_26
  · skip
    refine g_aload_n (pc' := 17) (q := 1) C dX0_waitingLeft_16 rfl rfl rfl ?_
    refine g_iload_n (pc' := 18) (q := 0) C dX0_waitingLeft_17 rfl rfl rfl ?_
    refine g_calliV (pc' := 21) (As := [.int (u 7 n)]) (st := []) (cells' := 0) (slots' := 0) C (c_X0_isStep _ (u 7 n)) gX0_waitingLeft_X0_isStep rfl (by decide +kernel) ⟨Nat.le_of_ble_eq_true rfl, Nat.le_of_ble_eq_true rfl⟩ 0 (by rfl) rfl (n := 1) rfl rfl (Nat.le_of_ble_eq_true rfl) dX0_waitingLeft_18 rfl rfl rfl ⟨Nat.le_of_ble_eq_true rfl, Nat.le_of_ble_eq_true rfl⟩ (fun r_2 u_2 h_3 => ?_)
    obtain ⟨rfl, h_3⟩ := h_3
    refine g_st h_3 ?_
    refine g_ifP_ne (tgt := 27) (pc' := 24) C dX0_waitingLeft_21 rfl (by decide) (fun (c_4 : 0 ≤ (u 7 n).toInt ∧ (u 7 n).toInt < (u 0 4).toInt) => ?_) (fun (c_4 : ¬ (0 ≤ (u 7 n).toInt ∧ (u 7 n).toInt < (u 0 4).toInt)) => ?_)
    · skip
      refine g_aload_n (pc' := 28) (q := 1) C dX0_waitingLeft_27 rfl rfl rfl ?_
      refine g_get (pc' := 31) (v := .ref (a 3)) C FX 0 (by rfl) rfl 2 (by decide) (by decide +kernel) rfl (by rfl) dX0_waitingLeft_28 rfl ?_
      refine g_iload_n (pc' := 32) (q := 0) C dX0_waitingLeft_31 rfl rfl rfl ?_
      refine g_iald (pc' := 33) (n := 12) (f := u 3) C 4 0 (by rfl) rfl (vp_of (by omega) (by omega)) (k := (u 7 n).toNatClampNeg) rfl dX0_waitingLeft_32 rfl ?_
      refine g_if_ne (tgt := 39) (pc' := 36) C dX0_waitingLeft_33 rfl (by decide) (fun (c_5 : ¬ (u 3 (u 7 n).toNatClampNeg).toInt = 0) => ?_) (fun (c_5 : (u 3 (u 7 n).toNatClampNeg).toInt = 0) => ?_)
      · skip
        refine g_aload_n (pc' := 40) (q := 1) C dX0_waitingLeft_39 rfl rfl rfl ?_
        refine g_get (pc' := 43) (v := .ref (a 3)) C FX 0 (by rfl) rfl 2 (by decide) (by decide +kernel) rfl (by rfl) dX0_waitingLeft_40 rfl ?_
        refine g_iload_n (pc' := 44) (q := 0) C dX0_waitingLeft_43 rfl rfl rfl ?_
        refine g_iald (pc' := 45) (n := 12) (f := u 3) C 4 0 (by rfl) rfl (vp_of (by omega) (by omega)) (k := (u 7 n).toNatClampNeg) rfl dX0_waitingLeft_44 rfl ?_
        refine g_aload_n (pc' := 46) (q := 1) C dX0_waitingLeft_45 rfl rfl rfl ?_
        refine g_get (pc' := 49) (v := .int (u 0 17)) C FX 0 (by rfl) rfl 17 (by decide) (by decide +kernel) rfl (by rfl) dX0_waitingLeft_46 rfl ?_
        refine g_aload_n (pc' := 50) (q := 1) C dX0_waitingLeft_49 rfl rfl rfl ?_
        refine g_get (pc' := 53) (v := .ref (a 8)) C FX 0 (by rfl) rfl 7 (by decide) (by decide +kernel) rfl (by rfl) dX0_waitingLeft_50 rfl ?_
        refine g_iload_n (pc' := 54) (q := 2) C dX0_waitingLeft_53 rfl rfl rfl ?_
        refine g_iald (pc' := 55) (n := 24) (f := u 8) C 8 0 (by rfl) rfl (vp_in_nI (by omega) (by omega)) (k := n) (nI_clamp (by omega)) dX0_waitingLeft_54 rfl ?_
        refine g_isub (pc' := 56) C dX0_waitingLeft_55 rfl ?_
        refine g_isub (pc' := 57) C dX0_waitingLeft_56 rfl ?_
        exact g_iret C hr rfl ⟨by unfold slX; (repeat' split) <;> first | rfl | omega, rfl⟩ dX0_waitingLeft_57
      · skip
        refine g_ldc (pc' := 38) (v := 1000000) C dX0_waitingLeft_36 rfl (by decide +kernel) ?_
        exact g_iret C hr rfl ⟨by unfold slX; (repeat' split) <;> first | rfl | omega, rfl⟩ dX0_waitingLeft_38
    · skip
      refine g_ldc (pc' := 26) (v := 2000000) C dX0_waitingLeft_24 rfl (by decide +kernel) ?_
      exact g_iret C hr rfl ⟨by unfold slX; (repeat' split) <;> first | rfl | omega, rfl⟩ dX0_waitingLeft_26
set_option maxHeartbeats 4000000 in
set_option maxRecDepth 100000 in
theorem c_X0_isReady {l : Launch} {D : va_G} {cI cZ cQ : ClassId} {a : Nat → Nat} (u : LU) (n : Nat) (hn : n < 24) (hI : 0 ≤ (u 0 4).toInt ∧ (u 0 4).toInt ≤ 12) : KI l yX0_isReady wsX0_isReady ({ frames := 2, cells := 0, slots := 0, locals := 43 } : Room) D (tyX cI cZ cQ) (wX cI cZ cQ a) [.ref (a 0), .int (nI n)] u (fun (r : Int32) (u' : LU) => r = bP (rdX u n) ∧ u' = u) := by
  refine ent_I (own := RX0) (maxL := 2) (cc := cX0_isReady) (L0 := [(0, .ref (a 0)), (1, .int (nI n))]) (by decide) rfl (wX_ok _ _ _ _) rfl (Nat.le_of_ble_eq_true rfl) rfl ?_
  intro p e s m args below meth c A C hr
  refine g_aload_n (pc' := 1) (q := 0) C dX0_isReady_0 rfl rfl rfl ?_
  refine g_iload_n (pc' := 2) (q := 1) C dX0_isReady_1 rfl rfl rfl ?_
  refine g_calliV (pc' := 5) (As := [.int (nI n)]) (st := []) (cells' := 0) (slots' := 0) C (c_X0_isFree _ n (by omega)) gX0_isReady_X0_isFree rfl (by decide +kernel) ⟨Nat.le_of_ble_eq_true rfl, Nat.le_of_ble_eq_true rfl⟩ 0 (by rfl) rfl (n := 1) rfl rfl (Nat.le_of_ble_eq_true rfl) dX0_isReady_2 rfl rfl rfl ⟨Nat.le_of_ble_eq_true rfl, Nat.le_of_ble_eq_true rfl⟩ (fun r_1 u_1 h_2 => ?_)
  obtain ⟨rfl, h_2⟩ := h_2
  refine g_st h_2 ?_
  refine g_ifP_eq (tgt := 20) (pc' := 8) C dX0_isReady_5 rfl (by decide) (fun (c_3 : ¬ ((u 6 n).toInt = 0 ∧ (u 9 n).toInt = 0)) => ?_) (fun (c_3 : (u 6 n).toInt = 0 ∧ (u 9 n).toInt = 0) => ?_)
  · skip
    refine g_iconst (pc' := 21) (v := 0) C dX0_isReady_20 rfl (by decide) ?_
    exact g_iret C hr (by decide) ⟨(bP_f (by unfold rdX; omega)).symm, rfl⟩ dX0_isReady_21
  · skip
    refine g_aload_n (pc' := 9) (q := 0) C dX0_isReady_8 rfl rfl rfl ?_
    refine g_iload_n (pc' := 10) (q := 1) C dX0_isReady_9 rfl rfl rfl ?_
    refine g_calliV (pc' := 13) (As := [.int (nI n)]) (st := []) (cells' := 0) (slots' := 0) C (c_X0_waitingLeft _ n (by omega) (by omega)) gX0_isReady_X0_waitingLeft rfl (by decide +kernel) ⟨Nat.le_of_ble_eq_true rfl, Nat.le_of_ble_eq_true rfl⟩ 0 (by rfl) rfl (n := 1) rfl rfl (Nat.le_of_ble_eq_true rfl) dX0_isReady_10 rfl rfl rfl ⟨Nat.le_of_ble_eq_true rfl, Nat.le_of_ble_eq_true rfl⟩ (fun r_4 u_4 h_5 => ?_)
    obtain ⟨rfl, h_5⟩ := h_5
    refine g_st h_5 ?_
    refine g_if_lt (tgt := 20) (pc' := 16) C dX0_isReady_13 rfl (by decide) (fun (c_6 : (slX u n).toInt < 0) => ?_) (fun (c_6 : ¬ ((slX u n).toInt < 0)) => ?_)
    · skip
      refine g_iconst (pc' := 21) (v := 0) C dX0_isReady_20 rfl (by decide) ?_
      exact g_iret C hr (by decide) ⟨(bP_f (by unfold rdX; omega)).symm, rfl⟩ dX0_isReady_21
    · skip
      refine g_iconst (pc' := 17) (v := 1) C dX0_isReady_16 rfl (by decide) ?_
      refine g_goto (tgt := 21) C dX0_isReady_17 (by decide) ?_
      exact g_iret C hr (by decide) ⟨(bP_t (by unfold rdX; omega)).symm, rfl⟩ dX0_isReady_21
set_option maxHeartbeats 4000000 in
set_option maxRecDepth 100000 in
theorem c_X0_usesTool {l : Launch} {D : va_G} {cI cZ cQ : ClassId} {a : Nat → Nat} (u : LU) (n : Nat) (x : Int32) (hn : n < 24) (hI : 0 ≤ (u 0 4).toInt ∧ (u 0 4).toInt ≤ 12) : KI l yX0_usesTool wsX0_usesTool ({ frames := 1, cells := 0, slots := 0, locals := 21 } : Room) D (tyX cI cZ cQ) (wX cI cZ cQ a) [.ref (a 0), .int (nI n), .int x] u (fun (r : Int32) (u' : LU) => r = bP (utX u n x) ∧ u' = u) := by
  refine ent_I (own := RX0) (maxL := 4) (cc := cX0_usesTool) (L0 := [(0, .ref (a 0)), (1, .int (nI n)), (2, .int x)]) (by decide) rfl (wX_ok _ _ _ _) rfl (Nat.le_of_ble_eq_true rfl) rfl ?_
  intro p e s m args below meth c A C hr
  have FX : ∀ w ∈ wsX00, w.before args s = true := fun w h => C.2.2.2.2.1 w ((by decide +kernel : ∀ w ∈ wsX00, w ∈ wsX0_usesTool) w h)
  refine g_aload_n (pc' := 1) (q := 0) C dX0_usesTool_0 rfl rfl rfl ?_
  refine g_get (pc' := 4) (v := .ref (a 7)) C FX 0 (by rfl) rfl 6 (by decide) (by decide +kernel) rfl (by rfl) dX0_usesTool_1 rfl ?_
  refine g_iload_n (pc' := 5) (q := 1) C dX0_usesTool_4 rfl rfl rfl ?_
  refine g_iald (pc' := 6) (n := 24) (f := u 7) C 7 0 (by rfl) rfl (vp_in_nI (by omega) (by omega)) (k := n) (nI_clamp (by omega)) dX0_usesTool_5 rfl ?_
  refine g_istore_n (pc' := 7) (L' := [(3, .int (u 7 n)), (0, .ref (a 0)), (1, .int (nI n)), (2, .int x)]) C dX0_usesTool_6 rfl rfl (by decide) rfl ?_
  refine g_aload_n (pc' := 8) (q := 1) C dX0_usesTool_7 rfl rfl rfl ?_
  refine g_iload_n (pc' := 9) (q := 0) C dX0_usesTool_8 rfl rfl rfl ?_
  refine g_calliV (pc' := 12) (As := [.int (u 7 n)]) (st := []) (cells' := 0) (slots' := 0) C (c_X0_isStep _ (u 7 n)) gX0_usesTool_X0_isStep rfl (by decide +kernel) ⟨Nat.le_of_ble_eq_true rfl, Nat.le_of_ble_eq_true rfl⟩ 0 (by rfl) rfl (n := 1) rfl rfl (Nat.le_of_ble_eq_true rfl) dX0_usesTool_9 rfl rfl rfl ⟨Nat.le_of_ble_eq_true rfl, Nat.le_of_ble_eq_true rfl⟩ (fun r_1 u_1 h_2 => ?_)
  obtain ⟨rfl, h_2⟩ := h_2
  refine g_st h_2 ?_
  refine g_ifP_eq (tgt := 29) (pc' := 15) C dX0_usesTool_12 rfl (by decide) (fun (c_3 : ¬ (0 ≤ (u 7 n).toInt ∧ (u 7 n).toInt < (u 0 4).toInt)) => ?_) (fun (c_3 : 0 ≤ (u 7 n).toInt ∧ (u 7 n).toInt < (u 0 4).toInt) => ?_)
  · skip
    refine g_iconst (pc' := 30) (v := 0) C dX0_usesTool_29 rfl (by decide) ?_
    exact g_iret C hr (by decide) ⟨(bP_f (by unfold utX; omega)).symm, rfl⟩ dX0_usesTool_30
  · skip
    refine g_aload_n (pc' := 16) (q := 1) C dX0_usesTool_15 rfl rfl rfl ?_
    refine g_get (pc' := 19) (v := .ref (a 1)) C FX 0 (by rfl) rfl 0 (by decide) (by decide +kernel) rfl (by rfl) dX0_usesTool_16 rfl ?_
    refine g_iload_n (pc' := 20) (q := 0) C dX0_usesTool_19 rfl rfl rfl ?_
    refine g_iald (pc' := 21) (n := 12) (f := u 1) C 2 0 (by rfl) rfl (vp_of (by omega) (by omega)) (k := (u 7 n).toNatClampNeg) rfl dX0_usesTool_20 rfl ?_
    refine g_iload_n (pc' := 22) (q := 3) C dX0_usesTool_21 rfl rfl rfl ?_
    refine g_icmp_ne (tgt := 29) (pc' := 25) C dX0_usesTool_22 rfl (by decide) (fun (c_4 : ¬ (u 1 (u 7 n).toNatClampNeg).toInt = (x).toInt) => ?_) (fun (c_4 : (u 1 (u 7 n).toNatClampNeg).toInt = (x).toInt) => ?_)
    · skip
      refine g_iconst (pc' := 30) (v := 0) C dX0_usesTool_29 rfl (by decide) ?_
      exact g_iret C hr (by decide) ⟨(bP_f (by unfold utX; omega)).symm, rfl⟩ dX0_usesTool_30
    · skip
      refine g_iconst (pc' := 26) (v := 1) C dX0_usesTool_25 rfl (by decide) ?_
      refine g_goto (tgt := 30) C dX0_usesTool_26 (by decide) ?_
      exact g_iret C hr (by decide) ⟨(bP_t (by unfold utX; omega)).symm, rfl⟩ dX0_usesTool_30
set_option maxHeartbeats 4000000 in
set_option maxRecDepth 100000 in
theorem c_X0_isBusy {l : Launch} {D : va_G} {cI cZ cQ : ClassId} {a : Nat → Nat} (u : LU) (x : Int32) (hI : 0 ≤ (u 0 4).toInt ∧ (u 0 4).toInt ≤ 12) (hL : 0 ≤ (u 0 12).toInt ∧ (u 0 12).toInt ≤ 24) : KI l yX0_isBusy wsX0_isBusy ({ frames := 2, cells := 0, slots := 0, locals := 44 } : Room) D (tyX cI cZ cQ) (wX cI cZ cQ a) [.ref (a 0), .int x] u (fun (r : Int32) (u' : LU) => r = bP (buX u x) ∧ u' = u) := by
  refine ent_I (own := RX0) (maxL := 3) (cc := cX0_isBusy) (L0 := [(0, .ref (a 0)), (1, .int x)]) (by decide) rfl (wX_ok _ _ _ _) rfl (Nat.le_of_ble_eq_true rfl) rfl ?_
  intro p e s m args below meth c A C hr
  have FX : ∀ w ∈ wsX00, w.before args s = true := fun w h => C.2.2.2.2.1 w ((by decide +kernel : ∀ w ∈ wsX00, w ∈ wsX0_isBusy) w h)
  refine g_iconst (pc' := 1) (v := 0) C dX0_isBusy_0 rfl (by decide) ?_
  refine g_istore_n (pc' := 2) (L' := [(2, .int 0), (0, .ref (a 0)), (1, .int x)]) C dX0_isBusy_1 rfl rfl (by decide) rfl ?_
  have loop_2 : ∀ (k : Nat) (i : Nat), (i : Int) ≤ (u 0 12).toInt → (u 0 12).toInt + 1 ≤ i + k → (∀ j, j < i → ¬ ((u 6 j).toInt = 1 ∧ utX u j x)) → G p l e ({ frames := 2, cells := 0, slots := 0, locals := 44 } : Room) s m args below meth c D A 3 (wX cI cZ cQ a) 0 0 (MQ below (va_Qi (fun (r : Int32) (u' : LU) => r = bP (buX u x) ∧ u' = u) (KE D (tyX cI cZ cQ) (wX cI cZ cQ a)) A) args s 0 0 A) u 2 [(0, .ref (a 0)), (1, .int x), (2, .int (nI i))] [] := by
    intro k
    induction k with
    | zero =>
      intro i hi hk hinv
      omega
    | succ k ih =>
      intro i hi hk hinv
      refine g_iload_n (pc' := 3) (q := 2) C dX0_isBusy_2 rfl rfl rfl ?_
      refine g_aload_n (pc' := 4) (q := 0) C dX0_isBusy_3 rfl rfl rfl ?_
      refine g_get (pc' := 7) (v := .int (u 0 12)) C FX 0 (by rfl) rfl 12 (by decide) (by decide +kernel) rfl (by rfl) dX0_isBusy_4 rfl ?_
      have t_1 : (nI i).toInt = ((i : Nat) : Int) := nI_toInt (by omega)
      refine g_icmp_ge (tgt := 37) (pc' := 10) C dX0_isBusy_7 rfl (by decide) (fun (c_2 : (u 0 12).toInt ≤ (nI i).toInt) => ?_) (fun (c_2 : ¬ ((u 0 12).toInt ≤ (nI i).toInt)) => ?_)
      · skip
        refine g_iconst (pc' := 38) (v := 0) C dX0_isBusy_37 rfl (by decide) ?_
        exact g_iret C hr (by decide) ⟨(bP_f (fun ⟨j, h1, h2⟩ => hinv j (by omega) h2)).symm, rfl⟩ dX0_isBusy_38
      · skip
        refine g_aload_n (pc' := 11) (q := 0) C dX0_isBusy_10 rfl rfl rfl ?_
        refine g_get (pc' := 14) (v := .ref (a 6)) C FX 0 (by rfl) rfl 5 (by decide) (by decide +kernel) rfl (by rfl) dX0_isBusy_11 rfl ?_
        refine g_iload_n (pc' := 15) (q := 2) C dX0_isBusy_14 rfl rfl rfl ?_
        refine g_iald (pc' := 16) (n := 24) (f := u 6) C 6 0 (by rfl) rfl (vp_in_nI (by omega) (by omega)) (k := i) (nI_clamp (by omega)) dX0_isBusy_15 rfl ?_
        refine g_iconst (pc' := 17) (v := 1) C dX0_isBusy_16 rfl (by decide) ?_
        refine g_icmp_ne (tgt := 31) (pc' := 20) C dX0_isBusy_17 rfl (by decide) (fun (c_3 : ¬ (u 6 i).toInt = 1) => ?_) (fun (c_3 : (u 6 i).toInt = 1) => ?_)
        · skip
          refine g_iinc (pc' := 34) (v := nI (i + 1)) (L' := [(2, .int (nI (i + 1))), (0, .ref (a 0)), (1, .int x)]) C dX0_isBusy_31 rfl (k := 2) rfl (nI_1 _) (by decide) rfl ?_
          refine g_goto (tgt := 2) C dX0_isBusy_34 (by decide) ?_
          refine g_sub (L' := [(0, .ref (a 0)), (1, .int x), (2, .int (nI (i + 1)))]) [1, 2, 0] rfl ?_
          exact ih (i + 1) (by omega) (by omega) (fun j h => (Nat.lt_succ_iff_lt_or_eq.mp h).elim (hinv j) (fun e9 => by subst e9; intro q; first | exact absurd q.1 (by omega) | exact absurd q.2 (by assumption)))
        · skip
          refine g_aload_n (pc' := 21) (q := 0) C dX0_isBusy_20 rfl rfl rfl ?_
          refine g_iload_n (pc' := 22) (q := 2) C dX0_isBusy_21 rfl rfl rfl ?_
          refine g_iload_n (pc' := 23) (q := 1) C dX0_isBusy_22 rfl rfl rfl ?_
          refine g_calliV (pc' := 26) (As := [.int (nI i), .int x]) (st := []) (cells' := 0) (slots' := 0) C (c_X0_usesTool _ i x (by omega) (by omega)) gX0_isBusy_X0_usesTool rfl (by decide +kernel) ⟨Nat.le_of_ble_eq_true rfl, Nat.le_of_ble_eq_true rfl⟩ 0 (by rfl) rfl (n := 2) rfl rfl (Nat.le_of_ble_eq_true rfl) dX0_isBusy_23 rfl rfl rfl ⟨Nat.le_of_ble_eq_true rfl, Nat.le_of_ble_eq_true rfl⟩ (fun r_4 u_4 h_5 => ?_)
          obtain ⟨rfl, h_5⟩ := h_5
          refine g_st h_5 ?_
          refine g_ifP_eq (tgt := 31) (pc' := 29) C dX0_isBusy_26 rfl (by decide) (fun (c_6 : ¬ (utX u i x)) => ?_) (fun (c_6 : utX u i x) => ?_)
          · skip
            refine g_iinc (pc' := 34) (v := nI (i + 1)) (L' := [(2, .int (nI (i + 1))), (0, .ref (a 0)), (1, .int x)]) C dX0_isBusy_31 rfl (k := 2) rfl (nI_1 _) (by decide) rfl ?_
            refine g_goto (tgt := 2) C dX0_isBusy_34 (by decide) ?_
            refine g_sub (L' := [(0, .ref (a 0)), (1, .int x), (2, .int (nI (i + 1)))]) [1, 2, 0] rfl ?_
            exact ih (i + 1) (by omega) (by omega) (fun j h => (Nat.lt_succ_iff_lt_or_eq.mp h).elim (hinv j) (fun e9 => by subst e9; intro q; first | exact absurd q.1 (by omega) | exact absurd q.2 (by assumption)))
          · skip
            refine g_iconst (pc' := 30) (v := 1) C dX0_isBusy_29 rfl (by decide) ?_
            exact g_iret C hr (by decide) ⟨(bP_t ⟨i, by omega, by omega, by assumption⟩).symm, rfl⟩ dX0_isBusy_30
  refine g_sub (L' := [(0, .ref (a 0)), (1, .int x), (2, .int (nI 0))]) [1, 2, 0] rfl ?_
  exact loop_2 25 0 (by omega) (by omega) (fun j h => absurd h (Nat.not_lt_zero j))
set_option maxHeartbeats 4000000 in
set_option maxRecDepth 100000 in
theorem c_X0_parentOrNone {l : Launch} {D : va_G} {cI cZ cQ : ClassId} {a : Nat → Nat} (u : LU) (x : Int32) (hL : 0 ≤ (u 0 12).toInt ∧ (u 0 12).toInt ≤ 24) : KI l yX0_parentOrNone wsX0_parentOrNone ({ frames := 1, cells := 0, slots := 0, locals := 21 } : Room) D (tyX cI cZ cQ) (wX cI cZ cQ a) [.ref (a 0), .int x] u (fun (r : Int32) (u' : LU) => r = ponX u x ∧ u' = u) := by
  refine ent_I (own := RX0) (maxL := 2) (cc := cX0_parentOrNone) (L0 := [(0, .ref (a 0)), (1, .int x)]) (by decide) rfl (wX_ok _ _ _ _) rfl (Nat.le_of_ble_eq_true rfl) rfl ?_
  intro p e s m args below meth c A C hr
  have FX : ∀ w ∈ wsX00, w.before args s = true := fun w h => C.2.2.2.2.1 w ((by decide +kernel : ∀ w ∈ wsX00, w ∈ wsX0_parentOrNone) w h)
  refine g_aload_n (pc' := 1) (q := 0) C dX0_parentOrNone_0 rfl rfl rfl ?_
  refine g_iload_n (pc' := 2) (q := 1) C dX0_parentOrNone_1 rfl rfl rfl ?_
  refine g_calliV (pc' := 5) (As := [.int x]) (st := []) (cells' := 0) (slots' := 0) C (c_X0_isLot _ x) gX0_parentOrNone_X0_isLot rfl (by decide +kernel) ⟨Nat.le_of_ble_eq_true rfl, Nat.le_of_ble_eq_true rfl⟩ 0 (by rfl) rfl (n := 1) rfl rfl (Nat.le_of_ble_eq_true rfl) dX0_parentOrNone_2 rfl rfl rfl ⟨Nat.le_of_ble_eq_true rfl, Nat.le_of_ble_eq_true rfl⟩ (fun r_1 u_1 h_2 => ?_)
  obtain ⟨rfl, h_2⟩ := h_2
  refine g_st h_2 ?_
  refine g_ifP_eq (tgt := 17) (pc' := 8) C dX0_parentOrNone_5 rfl (by decide) (fun (c_3 : ¬ (0 ≤ x.toInt ∧ x.toInt < (u 0 12).toInt)) => ?_) (fun (c_3 : 0 ≤ x.toInt ∧ x.toInt < (u 0 12).toInt) => ?_)
  · skip
    refine g_iconst (pc' := 18) (v := (-1)) C dX0_parentOrNone_17 rfl (by decide) ?_
    exact g_iret C hr rfl ⟨by unfold ponX; (repeat' split) <;> first | rfl | omega, rfl⟩ dX0_parentOrNone_18
  · skip
    refine g_aload_n (pc' := 9) (q := 0) C dX0_parentOrNone_8 rfl rfl rfl ?_
    refine g_get (pc' := 12) (v := .ref (a 11)) C FX 0 (by rfl) rfl 10 (by decide) (by decide +kernel) rfl (by rfl) dX0_parentOrNone_9 rfl ?_
    refine g_iload_n (pc' := 13) (q := 1) C dX0_parentOrNone_12 rfl rfl rfl ?_
    refine g_iald (pc' := 14) (n := 24) (f := u 11) C 11 0 (by rfl) rfl (vp_of (by omega) (by omega)) (k := x.toNatClampNeg) rfl dX0_parentOrNone_13 rfl ?_
    refine g_goto (tgt := 18) C dX0_parentOrNone_14 (by decide) ?_
    exact g_iret C hr rfl ⟨by unfold ponX; (repeat' split) <;> first | rfl | omega, rfl⟩ dX0_parentOrNone_18
end
section
set_option maxHeartbeats 4000000 in
set_option maxRecDepth 100000 in
theorem c_X0_leaveRoute {l : Launch} {D : va_G} {cI cZ cQ : ClassId} {a : Nat → Nat} (u : LU) (n : Nat) (x : Int32) (hn : n < 24) : KV l yX0_leaveRoute wsX0_leaveRoute ({ frames := 0, cells := 0, slots := 0, locals := 0 } : Room) D (tyX cI cZ cQ) (wX cI cZ cQ a) [.ref (a 0), .int (nI n), .int x] u (fun (u' : LU) => u' = lvX u n x) := by
  refine ent_V (own := RX0) (maxL := 3) (cc := cX0_leaveRoute) (L0 := [(0, .ref (a 0)), (1, .int (nI n)), (2, .int x)]) (by decide) rfl (wX_ok _ _ _ _) rfl (Nat.le_of_ble_eq_true rfl) rfl ?_
  intro p e s m args below meth c A C hr
  have FX : ∀ w ∈ wsX00, w.before args s = true := fun w h => C.2.2.2.2.1 w ((by decide +kernel : ∀ w ∈ wsX00, w ∈ wsX0_leaveRoute) w h)
  refine g_aload_n (pc' := 1) (q := 0) C dX0_leaveRoute_0 rfl rfl rfl ?_
  refine g_get (pc' := 4) (v := .ref (a 6)) C FX 0 (by rfl) rfl 5 (by decide) (by decide +kernel) rfl (by rfl) dX0_leaveRoute_1 rfl ?_
  refine g_iload_n (pc' := 5) (q := 1) C dX0_leaveRoute_4 rfl rfl rfl ?_
  refine g_iload_n (pc' := 6) (q := 2) C dX0_leaveRoute_5 rfl rfl rfl ?_
  refine g_iast (pc' := 7) (n := 24) (f := u 6) C 6 0 (by rfl) rfl (vp_in_nI (by omega) (by omega)) (k := n) (nI_clamp (by omega)) dX0_leaveRoute_6 rfl (wX_set cI cZ cQ a _ (k := 4) rfl) ?_
  refine g_aload_n (pc' := 8) (q := 0) C dX0_leaveRoute_7 rfl rfl rfl ?_
  refine g_get (pc' := 11) (v := .ref (a 7)) C FX 0 (by rfl) rfl 6 (by decide) (by decide +kernel) rfl (by rfl) dX0_leaveRoute_8 rfl ?_
  refine g_iload_n (pc' := 12) (q := 1) C dX0_leaveRoute_11 rfl rfl rfl ?_
  refine g_iconst (pc' := 13) (v := (-1)) C dX0_leaveRoute_12 rfl (by decide) ?_
  refine g_iast (pc' := 14) (n := 24) (f := u 7) C 7 0 (by rfl) rfl (vp_in_nI (by omega) (by omega)) (k := n) (nI_clamp (by omega)) dX0_leaveRoute_13 rfl (wX_set cI cZ cQ a _ (k := 5) rfl) ?_
  exact g_vret C hr rfl dX0_leaveRoute_14
set_option maxHeartbeats 4000000 in
set_option maxRecDepth 100000 in
theorem c_X0_endProcessing {l : Launch} {D : va_G} {cI cZ cQ : ClassId} {a : Nat → Nat} (u : LU) (n : Nat) (hn : n < 24) : KV l yX0_endProcessing wsX0_endProcessing ({ frames := 1, cells := 0, slots := 0, locals := 22 } : Room) D (tyX cI cZ cQ) (wX cI cZ cQ a) [.ref (a 0), .int (nI n)] u (fun (u' : LU) => u' = epX u n) := by
  refine ent_V (own := RX0) (maxL := 3) (cc := cX0_endProcessing) (L0 := [(0, .ref (a 0)), (1, .int (nI n))]) (by decide) rfl (wX_ok _ _ _ _) rfl (Nat.le_of_ble_eq_true rfl) rfl ?_
  intro p e s m args below meth c A C hr
  have FX : ∀ w ∈ wsX00, w.before args s = true := fun w h => C.2.2.2.2.1 w ((by decide +kernel : ∀ w ∈ wsX00, w ∈ wsX0_endProcessing) w h)
  refine g_aload_n (pc' := 1) (q := 0) C dX0_endProcessing_0 rfl rfl rfl ?_
  refine g_get (pc' := 4) (v := .ref (a 7)) C FX 0 (by rfl) rfl 6 (by decide) (by decide +kernel) rfl (by rfl) dX0_endProcessing_1 rfl ?_
  refine g_iload_n (pc' := 5) (q := 1) C dX0_endProcessing_4 rfl rfl rfl ?_
  refine g_iald (pc' := 6) (n := 24) (f := u 7) C 7 0 (by rfl) rfl (vp_in_nI (by omega) (by omega)) (k := n) (nI_clamp (by omega)) dX0_endProcessing_5 rfl ?_
  refine g_iconst (pc' := 7) (v := 1) C dX0_endProcessing_6 rfl (by decide) ?_
  refine g_iadd (pc' := 8) C dX0_endProcessing_7 rfl ?_
  refine g_istore_n (pc' := 9) (L' := [(2, .int ((u 7 n) + 1)), (0, .ref (a 0)), (1, .int (nI n))]) C dX0_endProcessing_8 rfl rfl (by decide) rfl ?_
  refine g_aload_n (pc' := 10) (q := 1) C dX0_endProcessing_9 rfl rfl rfl ?_
  refine g_iload_n (pc' := 11) (q := 0) C dX0_endProcessing_10 rfl rfl rfl ?_
  refine g_calliV (pc' := 14) (As := [.int ((u 7 n) + 1)]) (st := []) (cells' := 0) (slots' := 0) C (c_X0_isStep _ ((u 7 n) + 1)) gX0_endProcessing_X0_isStep rfl (by decide +kernel) ⟨Nat.le_of_ble_eq_true rfl, Nat.le_of_ble_eq_true rfl⟩ 0 (by rfl) rfl (n := 1) rfl rfl (Nat.le_of_ble_eq_true rfl) dX0_endProcessing_11 rfl rfl rfl ⟨Nat.le_of_ble_eq_true rfl, Nat.le_of_ble_eq_true rfl⟩ (fun r_1 u_1 h_2 => ?_)
  obtain ⟨rfl, h_2⟩ := h_2
  refine g_st h_2 ?_
  refine g_ifP_eq (tgt := 34) (pc' := 17) C dX0_endProcessing_14 rfl (by decide) (fun (c_3 : ¬ (0 ≤ ((u 7 n) + 1).toInt ∧ ((u 7 n) + 1).toInt < (u 0 4).toInt)) => ?_) (fun (c_3 : 0 ≤ ((u 7 n) + 1).toInt ∧ ((u 7 n) + 1).toInt < (u 0 4).toInt) => ?_)
  · skip
    refine g_aload_n (pc' := 35) (q := 1) C dX0_endProcessing_34 rfl rfl rfl ?_
    refine g_iload_n (pc' := 36) (q := 2) C dX0_endProcessing_35 rfl rfl rfl ?_
    refine g_iconst (pc' := 37) (v := 2) C dX0_endProcessing_36 rfl (by decide) ?_
    refine g_callvV (pc' := 40) (As := [.int (nI n), .int 2]) (st := []) (cells' := 0) (slots' := 0) C (c_X0_leaveRoute _ n 2 (by omega)) gX0_endProcessing_X0_leaveRoute rfl (by decide +kernel) ⟨Nat.le_of_ble_eq_true rfl, Nat.le_of_ble_eq_true rfl⟩ 0 (by rfl) rfl (n := 2) rfl rfl (Nat.le_of_ble_eq_true rfl) dX0_endProcessing_37 rfl rfl rfl ⟨Nat.le_of_ble_eq_true rfl, Nat.le_of_ble_eq_true rfl⟩ (fun  u_4 h_5 => ?_)
    exact g_vret C hr (by unfold epX; (repeat' split) <;> first | rfl | assumption | (exfalso; omega) | contradiction) dX0_endProcessing_40
  · skip
    refine g_aload_n (pc' := 18) (q := 1) C dX0_endProcessing_17 rfl rfl rfl ?_
    refine g_get (pc' := 21) (v := .ref (a 6)) C FX 0 (by rfl) rfl 5 (by decide) (by decide +kernel) rfl (by rfl) dX0_endProcessing_18 rfl ?_
    refine g_iload_n (pc' := 22) (q := 2) C dX0_endProcessing_21 rfl rfl rfl ?_
    refine g_iconst (pc' := 23) (v := 0) C dX0_endProcessing_22 rfl (by decide) ?_
    refine g_iast (pc' := 24) (n := 24) (f := u 6) C 6 0 (by rfl) rfl (vp_in_nI (by omega) (by omega)) (k := n) (nI_clamp (by omega)) dX0_endProcessing_23 rfl (wX_set cI cZ cQ a _ (k := 4) rfl) ?_
    refine g_aload_n (pc' := 25) (q := 1) C dX0_endProcessing_24 rfl rfl rfl ?_
    refine g_get (pc' := 28) (v := .ref (a 7)) C FX 0 (by rfl) rfl 6 (by decide) (by decide +kernel) rfl (by rfl) dX0_endProcessing_25 rfl ?_
    refine g_iload_n (pc' := 29) (q := 2) C dX0_endProcessing_28 rfl rfl rfl ?_
    refine g_iload_n (pc' := 30) (q := 0) C dX0_endProcessing_29 rfl rfl rfl ?_
    refine g_iast (pc' := 31) (n := 24) (f := u 7) C 7 0 (by rfl) rfl (vp_in_nI (by omega) (by omega)) (k := n) (nI_clamp (by omega)) dX0_endProcessing_30 rfl (wX_set cI cZ cQ a _ (k := 5) rfl) ?_
    refine g_goto (tgt := 40) C dX0_endProcessing_31 (by decide) ?_
    exact g_vret C hr (by unfold epX; (repeat' split) <;> first | rfl | assumption | (exfalso; omega) | contradiction) dX0_endProcessing_40
set_option maxHeartbeats 4000000 in
set_option maxRecDepth 100000 in
theorem c_X0_putInto {l : Launch} {D : va_G} {cI cZ cQ : ClassId} {a : Nat → Nat} (u : LU) (w n : Nat) (hw : w < 60) (hn : n < 24) (hq : 0 ≤ (u 16 w).toInt) : KV l yX0_putInto wsX0_putInto ({ frames := 0, cells := 0, slots := 0, locals := 0 } : Room) D (tyX cI cZ cQ) (wX cI cZ cQ a) [.ref (a 0), .int (nI w), .int (nI n)] u (fun (u' : LU) => u' = putX u w n) := by
  refine ent_V (own := RX0) (maxL := 4) (cc := cX0_putInto) (L0 := [(0, .ref (a 0)), (1, .int (nI w)), (2, .int (nI n))]) (by decide) rfl (wX_ok _ _ _ _) rfl (Nat.le_of_ble_eq_true rfl) rfl ?_
  intro p e s m args below meth c A C hr
  have FX : ∀ w ∈ wsX00, w.before args s = true := fun w h => C.2.2.2.2.1 w ((by decide +kernel : ∀ w ∈ wsX00, w ∈ wsX0_putInto) w h)
  refine g_aload_n (pc' := 1) (q := 0) C dX0_putInto_0 rfl rfl rfl ?_
  refine g_get (pc' := 4) (v := .ref (a 14)) C FX 0 (by rfl) rfl 13 (by decide) (by decide +kernel) rfl (by rfl) dX0_putInto_1 rfl ?_
  refine g_iload_n (pc' := 5) (q := 1) C dX0_putInto_4 rfl rfl rfl ?_
  refine g_iload_n (pc' := 6) (q := 2) C dX0_putInto_5 rfl rfl rfl ?_
  refine g_iast (pc' := 7) (n := 60) (f := u 14) C 13 0 (by rfl) rfl (vp_in_nI (by omega) (by omega)) (k := w) (nI_clamp (by omega)) dX0_putInto_6 rfl (wX_set cI cZ cQ a _ (k := 11) rfl) ?_
  refine g_aload_n (pc' := 8) (q := 0) C dX0_putInto_7 rfl rfl rfl ?_
  refine g_get (pc' := 11) (v := .ref (a 12)) C FX 0 (by rfl) rfl 11 (by decide) (by decide +kernel) rfl (by rfl) dX0_putInto_8 rfl ?_
  refine g_iload_n (pc' := 12) (q := 2) C dX0_putInto_11 rfl rfl rfl ?_
  refine g_dup2 (pc' := 13) C dX0_putInto_12 rfl rfl rfl ?_
  refine g_iald (pc' := 14) (n := 24) (f := u 12) C 12 0 (by rfl) rfl (vp_in_nI (by omega) (by omega)) (k := n) (nI_clamp (by omega)) dX0_putInto_13 rfl ?_
  refine g_iconst (pc' := 15) (v := 1) C dX0_putInto_14 rfl (by decide) ?_
  refine g_iadd (pc' := 16) C dX0_putInto_15 rfl ?_
  refine g_iast (pc' := 17) (n := 24) (f := u 12) C 12 0 (by rfl) rfl (vp_in_nI (by omega) (by omega)) (k := n) (nI_clamp (by omega)) dX0_putInto_16 rfl (wX_set cI cZ cQ a _ (k := 10) rfl) ?_
  refine g_aload_n (pc' := 18) (q := 0) C dX0_putInto_17 rfl rfl rfl ?_
  refine g_get (pc' := 21) (v := .ref (a 16)) C FX 0 (by rfl) rfl 15 (by decide) (by decide +kernel) rfl (by rfl) dX0_putInto_18 rfl ?_
  refine g_iload_n (pc' := 22) (q := 1) C dX0_putInto_21 rfl rfl rfl ?_
  refine g_iald (pc' := 23) (n := 60) (f := u 16) C 14 0 (by rfl) rfl (vp_in_nI (by omega) (by omega)) (k := w) (nI_clamp (by omega)) dX0_putInto_22 rfl ?_
  refine g_istore_n (pc' := 24) (L' := [(3, .int (u 16 w)), (0, .ref (a 0)), (1, .int (nI w)), (2, .int (nI n))]) C dX0_putInto_23 rfl rfl (by decide) rfl ?_
  refine g_iload_n (pc' := 25) (q := 0) C dX0_putInto_24 rfl rfl rfl ?_
  refine g_bipush (pc' := 27) (v := 47) C dX0_putInto_25 rfl (by decide) ?_
  refine g_icmp_ge (tgt := 48) (pc' := 30) C dX0_putInto_27 rfl (by decide) (fun (c_1 : 47 ≤ (u 16 w).toInt) => ?_) (fun (c_1 : ¬ (47 ≤ (u 16 w).toInt)) => ?_)
  · skip
    exact g_vret C hr (by unfold putX; (repeat' split) <;> first | rfl | assumption | (exfalso; omega) | contradiction) dX0_putInto_48
  · skip
    refine g_aload_n (pc' := 31) (q := 1) C dX0_putInto_30 rfl rfl rfl ?_
    refine g_get (pc' := 34) (v := .ref (a 15)) C FX 0 (by rfl) rfl 14 (by decide) (by decide +kernel) rfl (by rfl) dX0_putInto_31 rfl ?_
    refine g_iload_n (pc' := 35) (q := 2) C dX0_putInto_34 rfl rfl rfl ?_
    refine g_aald (pc' := 36) (x := a (100 + w)) C 1 2 rfl rfl (vp_in_nI (by omega) (by omega)) (by rw [nI_clamp (by omega)]; exact if_pos (by omega)) dX0_putInto_35 rfl ?_
    refine g_iload_n (pc' := 37) (q := 0) C dX0_putInto_36 rfl rfl rfl ?_
    refine g_iload_n (pc' := 38) (q := 3) C dX0_putInto_37 rfl rfl rfl ?_
    refine g_iast (pc' := 39) C (15 + w) 0 (row_get _ _ _ _ _ (by omega)) rfl (vp_of (by omega) (by omega)) (k := (u 16 w).toNatClampNeg) rfl dX0_putInto_38 rfl (row_set _ _ _ _ _ (by omega)) ?_
    refine g_aload_n (pc' := 40) (q := 1) C dX0_putInto_39 rfl rfl rfl ?_
    refine g_get (pc' := 43) (v := .ref (a 16)) C FX 0 (by rfl) rfl 15 (by decide) (by decide +kernel) rfl (by rfl) dX0_putInto_40 rfl ?_
    refine g_iload_n (pc' := 44) (q := 2) C dX0_putInto_43 rfl rfl rfl ?_
    refine g_iload_n (pc' := 45) (q := 0) C dX0_putInto_44 rfl rfl rfl ?_
    refine g_iconst (pc' := 46) (v := 1) C dX0_putInto_45 rfl (by decide) ?_
    refine g_iadd (pc' := 47) C dX0_putInto_46 rfl ?_
    refine g_iast (pc' := 48) (n := 60) (f := _) C 14 0 (by rfl) rfl (vp_in_nI (by omega) (by omega)) (k := w) (nI_clamp (by omega)) dX0_putInto_47 rfl (wX_set cI cZ cQ a _ (k := 12) rfl) ?_
    exact g_vret C hr (by unfold putX; (repeat' split) <;> first | rfl | assumption | (exfalso; omega) | contradiction) dX0_putInto_48
set_option maxHeartbeats 4000000 in
set_option maxRecDepth 100000 in
theorem c_X0_makeLot {l : Launch} {D : va_G} {cI cZ cQ : ClassId} {a : Nat → Nat} (u : LU) (n : Nat) (x0 si hd rw9 pa : Int32) (hn : n < 24) (hc : u 0 12 = nI n) (hz : vp_nar .boolean hd = hd) : KI l yX0_makeLot wsX0_makeLot ({ frames := 0, cells := 0, slots := 0, locals := 0 } : Room) D (tyX cI cZ cQ) (wX cI cZ cQ a) [.ref (a 0), .int x0, .int si, .int hd, .int rw9, .int pa] u (fun (r : Int32) (u' : LU) => r = nI n ∧ u' = mkLX u n x0 si hd rw9 pa) := by
  refine ent_I (own := RX0) (maxL := 7) (cc := cX0_makeLot) (L0 := [(0, .ref (a 0)), (1, .int x0), (2, .int si), (3, .int hd), (4, .int rw9), (5, .int pa)]) (by decide) rfl (wX_ok _ _ _ _) rfl (Nat.le_of_ble_eq_true rfl) rfl ?_
  intro p e s m args below meth c A C hr
  have FX : ∀ w ∈ wsX00, w.before args s = true := fun w h => C.2.2.2.2.1 w ((by decide +kernel : ∀ w ∈ wsX00, w ∈ wsX0_makeLot) w h)
  refine g_aload_n (pc' := 1) (q := 0) C dX0_makeLot_0 rfl rfl rfl ?_
  refine g_get (pc' := 4) (v := .int (u 0 12)) C FX 0 (by rfl) rfl 12 (by decide) (by decide +kernel) rfl (by rfl) dX0_makeLot_1 rfl ?_
  refine g_conv (show (u 0 12 : Int32) = nI n from hc) ?_
  refine g_istore (pc' := 6) (L' := [(6, .int (nI n)), (0, .ref (a 0)), (1, .int x0), (2, .int si), (3, .int hd), (4, .int rw9), (5, .int pa)]) C dX0_makeLot_4 rfl (by decide) rfl ?_
  refine g_aload_n (pc' := 7) (q := 1) C dX0_makeLot_6 rfl rfl rfl ?_
  refine g_get (pc' := 10) (v := .ref (a 6)) C FX 0 (by rfl) rfl 5 (by decide) (by decide +kernel) rfl (by rfl) dX0_makeLot_7 rfl ?_
  refine g_iload (pc' := 12) (q := 0) C dX0_makeLot_10 rfl rfl ?_
  refine g_iconst (pc' := 13) (v := 0) C dX0_makeLot_12 rfl (by decide) ?_
  refine g_iast (pc' := 14) (n := 24) (f := u 6) C 6 0 (by rfl) rfl (vp_in_nI (by omega) (by omega)) (k := n) (nI_clamp (by omega)) dX0_makeLot_13 rfl (wX_set cI cZ cQ a _ (k := 4) rfl) ?_
  refine g_aload_n (pc' := 15) (q := 1) C dX0_makeLot_14 rfl rfl rfl ?_
  refine g_get (pc' := 18) (v := .ref (a 7)) C FX 0 (by rfl) rfl 6 (by decide) (by decide +kernel) rfl (by rfl) dX0_makeLot_15 rfl ?_
  refine g_iload (pc' := 20) (q := 0) C dX0_makeLot_18 rfl rfl ?_
  refine g_iload_n (pc' := 21) (q := 2) C dX0_makeLot_20 rfl rfl rfl ?_
  refine g_iast (pc' := 22) (n := 24) (f := u 7) C 7 0 (by rfl) rfl (vp_in_nI (by omega) (by omega)) (k := n) (nI_clamp (by omega)) dX0_makeLot_21 rfl (wX_set cI cZ cQ a _ (k := 5) rfl) ?_
  refine g_aload_n (pc' := 23) (q := 1) C dX0_makeLot_22 rfl rfl rfl ?_
  refine g_get (pc' := 26) (v := .ref (a 8)) C FX 0 (by rfl) rfl 7 (by decide) (by decide +kernel) rfl (by rfl) dX0_makeLot_23 rfl ?_
  refine g_iload (pc' := 28) (q := 0) C dX0_makeLot_26 rfl rfl ?_
  refine g_iload_n (pc' := 29) (q := 3) C dX0_makeLot_28 rfl rfl rfl ?_
  refine g_iast (pc' := 30) (n := 24) (f := u 8) C 8 0 (by rfl) rfl (vp_in_nI (by omega) (by omega)) (k := n) (nI_clamp (by omega)) dX0_makeLot_29 rfl (wX_set cI cZ cQ a _ (k := 6) rfl) ?_
  refine g_aload_n (pc' := 31) (q := 1) C dX0_makeLot_30 rfl rfl rfl ?_
  refine g_get (pc' := 34) (v := .ref (a 9)) C FX 0 (by rfl) rfl 8 (by decide) (by decide +kernel) rfl (by rfl) dX0_makeLot_31 rfl ?_
  refine g_iload (pc' := 36) (q := 0) C dX0_makeLot_34 rfl rfl ?_
  refine g_iload_n (pc' := 37) (q := 4) C dX0_makeLot_36 rfl rfl rfl ?_
  refine g_zast (pc' := 38) (n := 24) (f := u 9) C 9 1 (by rfl) rfl hz (vp_in_nI (by omega) (by omega)) (k := n) (nI_clamp (by omega)) dX0_makeLot_37 rfl (wX_set cI cZ cQ a _ (k := 7) rfl) ?_
  refine g_aload_n (pc' := 39) (q := 1) C dX0_makeLot_38 rfl rfl rfl ?_
  refine g_get (pc' := 42) (v := .ref (a 10)) C FX 0 (by rfl) rfl 9 (by decide) (by decide +kernel) rfl (by rfl) dX0_makeLot_39 rfl ?_
  refine g_iload (pc' := 44) (q := 0) C dX0_makeLot_42 rfl rfl ?_
  refine g_iload (pc' := 46) (q := 5) C dX0_makeLot_44 rfl rfl ?_
  refine g_iast (pc' := 47) (n := 24) (f := u 10) C 10 0 (by rfl) rfl (vp_in_nI (by omega) (by omega)) (k := n) (nI_clamp (by omega)) dX0_makeLot_46 rfl (wX_set cI cZ cQ a _ (k := 8) rfl) ?_
  refine g_aload_n (pc' := 48) (q := 1) C dX0_makeLot_47 rfl rfl rfl ?_
  refine g_get (pc' := 51) (v := .ref (a 11)) C FX 0 (by rfl) rfl 10 (by decide) (by decide +kernel) rfl (by rfl) dX0_makeLot_48 rfl ?_
  refine g_iload (pc' := 53) (q := 0) C dX0_makeLot_51 rfl rfl ?_
  refine g_iload (pc' := 55) (q := 6) C dX0_makeLot_53 rfl rfl ?_
  refine g_iast (pc' := 56) (n := 24) (f := u 11) C 11 0 (by rfl) rfl (vp_in_nI (by omega) (by omega)) (k := n) (nI_clamp (by omega)) dX0_makeLot_55 rfl (wX_set cI cZ cQ a _ (k := 9) rfl) ?_
  refine g_aload_n (pc' := 57) (q := 1) C dX0_makeLot_56 rfl rfl rfl ?_
  refine g_get (pc' := 60) (v := .ref (a 12)) C FX 0 (by rfl) rfl 11 (by decide) (by decide +kernel) rfl (by rfl) dX0_makeLot_57 rfl ?_
  refine g_iload (pc' := 62) (q := 0) C dX0_makeLot_60 rfl rfl ?_
  refine g_iconst (pc' := 63) (v := 0) C dX0_makeLot_62 rfl (by decide) ?_
  refine g_iast (pc' := 64) (n := 24) (f := u 12) C 12 0 (by rfl) rfl (vp_in_nI (by omega) (by omega)) (k := n) (nI_clamp (by omega)) dX0_makeLot_63 rfl (wX_set cI cZ cQ a _ (k := 10) rfl) ?_
  refine g_aload_n (pc' := 65) (q := 1) C dX0_makeLot_64 rfl rfl rfl ?_
  refine g_iload (pc' := 67) (q := 0) C dX0_makeLot_65 rfl rfl ?_
  refine g_iconst (pc' := 68) (v := 1) C dX0_makeLot_67 rfl (by decide) ?_
  refine g_iadd (pc' := 69) C dX0_makeLot_68 rfl ?_
  refine g_putI (pc' := 72) C FX tyX0 tyX0_ok nmX0 0 (by rfl) rfl 12 (by decide) (by decide +kernel) rfl rfl rfl (Nat.le_of_ble_eq_true rfl) dX0_makeLot_69 rfl (wX_put cI cZ cQ a _ (f := (upd (u 0) 12 ((nI n) + 1))) rfl) ?_
  refine g_iload (pc' := 74) (q := 0) C dX0_makeLot_72 rfl rfl ?_
  exact g_iret C hr rfl ⟨rfl, rfl⟩ dX0_makeLot_74
set_option maxHeartbeats 4000000 in
set_option maxRecDepth 100000 in
theorem c_X0_makeWafer {l : Launch} {D : va_G} {cI cZ cQ : ClassId} {a : Nat → Nat} (u : LU) (w n : Nat) (hw : w < 60) (hn : n < 24) (hc : u 0 16 = nI w) : KV l yX0_makeWafer wsX0_makeWafer ({ frames := 1, cells := 0, slots := 0, locals := 23 } : Room) D (tyX cI cZ cQ) (wX cI cZ cQ a) [.ref (a 0), .int (nI n)] u (fun (u' : LU) => u' = mwX u w n) := by
  refine ent_V (own := RX0) (maxL := 3) (cc := cX0_makeWafer) (L0 := [(0, .ref (a 0)), (1, .int (nI n))]) (by decide) rfl (wX_ok _ _ _ _) rfl (Nat.le_of_ble_eq_true rfl) rfl ?_
  intro p e s m args below meth c A C hr
  have FX : ∀ w ∈ wsX00, w.before args s = true := fun w h => C.2.2.2.2.1 w ((by decide +kernel : ∀ w ∈ wsX00, w ∈ wsX0_makeWafer) w h)
  refine g_aload_n (pc' := 1) (q := 0) C dX0_makeWafer_0 rfl rfl rfl ?_
  refine g_get (pc' := 4) (v := .int (u 0 16)) C FX 0 (by rfl) rfl 16 (by decide) (by decide +kernel) rfl (by rfl) dX0_makeWafer_1 rfl ?_
  refine g_conv (show (u 0 16 : Int32) = nI w from hc) ?_
  refine g_istore_n (pc' := 5) (L' := [(2, .int (nI w)), (0, .ref (a 0)), (1, .int (nI n))]) C dX0_makeWafer_4 rfl rfl (by decide) rfl ?_
  refine g_aload_n (pc' := 6) (q := 1) C dX0_makeWafer_5 rfl rfl rfl ?_
  refine g_get (pc' := 9) (v := .ref (a 16)) C FX 0 (by rfl) rfl 15 (by decide) (by decide +kernel) rfl (by rfl) dX0_makeWafer_6 rfl ?_
  refine g_iload_n (pc' := 10) (q := 0) C dX0_makeWafer_9 rfl rfl rfl ?_
  refine g_iconst (pc' := 11) (v := 0) C dX0_makeWafer_10 rfl (by decide) ?_
  refine g_iast (pc' := 12) (n := 60) (f := u 16) C 14 0 (by rfl) rfl (vp_in_nI (by omega) (by omega)) (k := w) (nI_clamp (by omega)) dX0_makeWafer_11 rfl (wX_set cI cZ cQ a _ (k := 12) rfl) ?_
  refine g_aload_n (pc' := 13) (q := 1) C dX0_makeWafer_12 rfl rfl rfl ?_
  refine g_iload_n (pc' := 14) (q := 0) C dX0_makeWafer_13 rfl rfl rfl ?_
  refine g_iconst (pc' := 15) (v := 1) C dX0_makeWafer_14 rfl (by decide) ?_
  refine g_iadd (pc' := 16) C dX0_makeWafer_15 rfl ?_
  refine g_putI (pc' := 19) C FX tyX0 tyX0_ok nmX0 0 (by rfl) rfl 16 (by decide) (by decide +kernel) rfl rfl rfl (Nat.le_of_ble_eq_true rfl) dX0_makeWafer_16 rfl (wX_put cI cZ cQ a _ (f := (upd (u 0) 16 ((nI w) + 1))) rfl) ?_
  refine g_aload_n (pc' := 20) (q := 1) C dX0_makeWafer_19 rfl rfl rfl ?_
  refine g_iload_n (pc' := 21) (q := 0) C dX0_makeWafer_20 rfl rfl rfl ?_
  refine g_iload_n (pc' := 22) (q := 2) C dX0_makeWafer_21 rfl rfl rfl ?_
  refine g_callvV (pc' := 25) (As := [.int (nI w), .int (nI n)]) (st := []) (cells' := 0) (slots' := 0) C (c_X0_putInto _ w n (by omega) (by omega) (by show 0 ≤ (upd (u 16) w 0 w).toInt; rw [upd_s]; decide)) gX0_makeWafer_X0_putInto rfl (by decide +kernel) ⟨Nat.le_of_ble_eq_true rfl, Nat.le_of_ble_eq_true rfl⟩ 0 (by rfl) rfl (n := 2) rfl rfl (Nat.le_of_ble_eq_true rfl) dX0_makeWafer_22 rfl rfl rfl ⟨Nat.le_of_ble_eq_true rfl, Nat.le_of_ble_eq_true rfl⟩ (fun  u_1 h_2 => ?_)
  exact g_vret C hr (by assumption) dX0_makeWafer_25
set_option maxHeartbeats 4000000 in
set_option maxRecDepth 100000 in
theorem c_X0_moveWafers {l : Launch} {D : va_G} {cI cZ cQ : ClassId} {a : Nat → Nat} (u : LU) (f t : Nat) (x : Int32) (hf : f < 24) (ht9 : t < 24) (hW : 0 ≤ (u 0 16).toInt ∧ (u 0 16).toInt ≤ 60) (hp9 : ∀ w, w < 60 → 0 ≤ (u 16 w).toInt ∧ (u 16 w).toInt ≤ 47) : KV l yX0_moveWafers wsX0_moveWafers ({ frames := 1, cells := 0, slots := 0, locals := 23 } : Room) D (tyX cI cZ cQ) (wX cI cZ cQ a) [.ref (a 0), .int (nI f), .int (nI t), .int x] u (fun (u' : LU) => u' = (mvX u f t x (u 0 16).toInt.toNat).1) := by
  refine ent_V (own := RX0) (maxL := 6) (cc := cX0_moveWafers) (L0 := [(0, .ref (a 0)), (1, .int (nI f)), (2, .int (nI t)), (3, .int x)]) (by decide) rfl (wX_ok _ _ _ _) rfl (Nat.le_of_ble_eq_true rfl) rfl ?_
  intro p e s m args below meth c A C hr
  have FX : ∀ w ∈ wsX00, w.before args s = true := fun w h => C.2.2.2.2.1 w ((by decide +kernel : ∀ w ∈ wsX00, w ∈ wsX0_moveWafers) w h)
  refine g_iconst (pc' := 1) (v := 0) C dX0_moveWafers_0 rfl (by decide) ?_
  refine g_istore (pc' := 3) (L' := [(4, .int 0), (0, .ref (a 0)), (1, .int (nI f)), (2, .int (nI t)), (3, .int x)]) C dX0_moveWafers_1 rfl (by decide) rfl ?_
  refine g_iconst (pc' := 4) (v := 0) C dX0_moveWafers_3 rfl (by decide) ?_
  refine g_istore (pc' := 6) (L' := [(5, .int 0), (4, .int 0), (0, .ref (a 0)), (1, .int (nI f)), (2, .int (nI t)), (3, .int x)]) C dX0_moveWafers_4 rfl (by decide) rfl ?_
  have loop_6 : ∀ (k : Nat) (i k9 : Nat) (v : LU), (i : Int) ≤ (u 0 16).toInt → (u 0 16).toInt + 1 ≤ i + k → mvX u f t x i = (v, k9) → (v 0 16).toInt = (u 0 16).toInt → (∀ w, w < 60 → 0 ≤ (v 16 w).toInt ∧ (v 16 w).toInt ≤ 47) → k9 ≤ i → G p l e ({ frames := 1, cells := 0, slots := 0, locals := 23 } : Room) s m args below meth c D A 6 (wX cI cZ cQ a) 0 0 (MQ below (va_Qv (fun (u' : LU) => u' = (mvX u f t x (u 0 16).toInt.toNat).1) (KE D (tyX cI cZ cQ) (wX cI cZ cQ a)) A) args s 0 0 A) v 6 [(0, .ref (a 0)), (1, .int (nI f)), (2, .int (nI t)), (3, .int x), (4, .int (nI k9)), (5, .int (nI i))] [] := by
    intro k
    induction k with
    | zero =>
      intro i k9 v hi hk hv h16 hp hk9
      omega
    | succ k ih =>
      intro i k9 v hi hk hv h16 hp hk9
      have tf : (nI f).toInt = (f : Int) := nI_toInt (by omega)
      refine g_iload (pc' := 8) (q := 5) C dX0_moveWafers_6 rfl rfl ?_
      refine g_aload_n (pc' := 9) (q := 0) C dX0_moveWafers_8 rfl rfl rfl ?_
      refine g_get (pc' := 12) (v := .int (v 0 16)) C FX 0 (by rfl) rfl 16 (by decide) (by decide +kernel) rfl (by rfl) dX0_moveWafers_9 rfl ?_
      have t_1 : (nI i).toInt = ((i : Nat) : Int) := nI_toInt (by omega)
      refine g_icmp_ge (tgt := 58) (pc' := 15) C dX0_moveWafers_12 rfl (by decide) (fun (c_2 : (v 0 16).toInt ≤ (nI i).toInt) => ?_) (fun (c_2 : ¬ ((v 0 16).toInt ≤ (nI i).toInt)) => ?_)
      · skip
        exact g_vret C hr (by rw [show v = (mvX u f t x i).1 by rw [hv]]; first | (rw [show (u 0 16).toInt.toNat = i by omega]; done) | (rw [show (u 0 16).toInt.toNat = i + ((u 0 16).toInt.toNat - i) by omega, mvX_stop u f t x (by rw [hv]; omega)]; done)) dX0_moveWafers_58
      · skip
        refine g_iload (pc' := 17) (q := 4) C dX0_moveWafers_15 rfl rfl ?_
        refine g_iload_n (pc' := 18) (q := 3) C dX0_moveWafers_17 rfl rfl rfl ?_
        have t_3 : (nI k9).toInt = ((k9 : Nat) : Int) := nI_toInt (by omega)
        refine g_icmp_ge (tgt := 58) (pc' := 21) C dX0_moveWafers_18 rfl (by decide) (fun (c_4 : (x).toInt ≤ (nI k9).toInt) => ?_) (fun (c_4 : ¬ ((x).toInt ≤ (nI k9).toInt)) => ?_)
        · skip
          exact g_vret C hr (by rw [show v = (mvX u f t x i).1 by rw [hv]]; first | (rw [show (u 0 16).toInt.toNat = i by omega]; done) | (rw [show (u 0 16).toInt.toNat = i + ((u 0 16).toInt.toNat - i) by omega, mvX_stop u f t x (by rw [hv]; omega)]; done)) dX0_moveWafers_58
        · skip
          refine g_aload_n (pc' := 22) (q := 0) C dX0_moveWafers_21 rfl rfl rfl ?_
          refine g_get (pc' := 25) (v := .ref (a 14)) C FX 0 (by rfl) rfl 13 (by decide) (by decide +kernel) rfl (by rfl) dX0_moveWafers_22 rfl ?_
          refine g_iload (pc' := 27) (q := 5) C dX0_moveWafers_25 rfl rfl ?_
          refine g_iald (pc' := 28) (n := 60) (f := v 14) C 13 0 (by rfl) rfl (vp_in_nI (by omega) (by omega)) (k := i) (nI_clamp (by omega)) dX0_moveWafers_27 rfl ?_
          refine g_iload_n (pc' := 29) (q := 1) C dX0_moveWafers_28 rfl rfl rfl ?_
          have t_5 : (nI f).toInt = ((f : Nat) : Int) := nI_toInt (by omega)
          refine g_icmp_ne (tgt := 52) (pc' := 32) C dX0_moveWafers_29 rfl (by decide) (fun (c_6 : ¬ (v 14 i).toInt = (nI f).toInt) => ?_) (fun (c_6 : (v 14 i).toInt = (nI f).toInt) => ?_)
          · skip
            refine g_iinc (pc' := 55) (v := nI (i + 1)) (L' := [(5, .int (nI (i + 1))), (0, .ref (a 0)), (1, .int (nI f)), (2, .int (nI t)), (3, .int x), (4, .int (nI k9))]) C dX0_moveWafers_52 rfl (k := 5) rfl (nI_1 _) (by decide) rfl ?_
            refine g_goto (tgt := 6) C dX0_moveWafers_55 (by decide) ?_
            refine g_sub (L' := [(0, .ref (a 0)), (1, .int (nI f)), (2, .int (nI t)), (3, .int x), (4, .int (nI k9)), (5, .int (nI (i + 1)))]) [1, 2, 3, 4, 5, 0] rfl ?_
            exact ih (i + 1) k9 v (by omega) (by omega) (mvX_f hv (by omega)) h16 hp (by omega)
          · skip
            refine g_aload_n (pc' := 33) (q := 0) C dX0_moveWafers_32 rfl rfl rfl ?_
            refine g_get (pc' := 36) (v := .ref (a 12)) C FX 0 (by rfl) rfl 11 (by decide) (by decide +kernel) rfl (by rfl) dX0_moveWafers_33 rfl ?_
            refine g_iload_n (pc' := 37) (q := 1) C dX0_moveWafers_36 rfl rfl rfl ?_
            refine g_dup2 (pc' := 38) C dX0_moveWafers_37 rfl rfl rfl ?_
            refine g_iald (pc' := 39) (n := 24) (f := v 12) C 12 0 (by rfl) rfl (vp_in_nI (by omega) (by omega)) (k := f) (nI_clamp (by omega)) dX0_moveWafers_38 rfl ?_
            refine g_iconst (pc' := 40) (v := 1) C dX0_moveWafers_39 rfl (by decide) ?_
            refine g_isub (pc' := 41) C dX0_moveWafers_40 rfl ?_
            refine g_iast (pc' := 42) (n := 24) (f := v 12) C 12 0 (by rfl) rfl (vp_in_nI (by omega) (by omega)) (k := f) (nI_clamp (by omega)) dX0_moveWafers_41 rfl (wX_set cI cZ cQ a _ (k := 10) rfl) ?_
            refine g_aload_n (pc' := 43) (q := 0) C dX0_moveWafers_42 rfl rfl rfl ?_
            refine g_iload (pc' := 45) (q := 5) C dX0_moveWafers_43 rfl rfl ?_
            refine g_iload_n (pc' := 46) (q := 2) C dX0_moveWafers_45 rfl rfl rfl ?_
            refine g_callvV (pc' := 49) (As := [.int (nI i), .int (nI t)]) (st := []) (cells' := 0) (slots' := 0) C (c_X0_putInto _ i t (by omega) (by omega) ((hp i (by omega)).1)) gX0_moveWafers_X0_putInto rfl (by decide +kernel) ⟨Nat.le_of_ble_eq_true rfl, Nat.le_of_ble_eq_true rfl⟩ 0 (by rfl) rfl (n := 2) rfl rfl (Nat.le_of_ble_eq_true rfl) dX0_moveWafers_46 rfl rfl rfl ⟨Nat.le_of_ble_eq_true rfl, Nat.le_of_ble_eq_true rfl⟩ (fun  u_7 h_8 => ?_)
            refine g_iinc (pc' := 52) (v := nI (k9 + 1)) (L' := [(4, .int (nI (k9 + 1))), (0, .ref (a 0)), (1, .int (nI f)), (2, .int (nI t)), (3, .int x), (5, .int (nI i))]) C dX0_moveWafers_49 rfl (k := 4) rfl (nI_1 _) (by decide) rfl ?_
            refine g_iinc (pc' := 55) (v := nI (i + 1)) (L' := [(5, .int (nI (i + 1))), (4, .int (nI (k9 + 1))), (0, .ref (a 0)), (1, .int (nI f)), (2, .int (nI t)), (3, .int x)]) C dX0_moveWafers_52 rfl (k := 5) rfl (nI_1 _) (by decide) rfl ?_
            refine g_goto (tgt := 6) C dX0_moveWafers_55 (by decide) ?_
            refine g_sub (L' := [(0, .ref (a 0)), (1, .int (nI f)), (2, .int (nI t)), (3, .int x), (4, .int (nI (k9 + 1))), (5, .int (nI (i + 1)))]) [2, 3, 4, 5, 1, 0] rfl ?_
            exact ih (i + 1) (k9 + 1) u_7 (by omega) (by omega) (by rw [h_8]; exact mvX_t hv (by omega) (by omega)) (by rw [h_8, putX_0]; exact h16) (by rw [h_8]; exact putX_pb (by omega) hp) (by omega)
  refine g_sub (L' := [(0, .ref (a 0)), (1, .int (nI f)), (2, .int (nI t)), (3, .int x), (4, .int (nI 0)), (5, .int (nI 0))]) [2, 3, 4, 5, 1, 0] rfl ?_
  exact loop_6 61 0 0 u (by omega) (by omega) rfl rfl hp9 (by omega)
end
section
set_option maxHeartbeats 4000000 in
set_option maxRecDepth 100000 in
theorem c_X0_time {l : Launch} {D : va_G} {cI cZ cQ : ClassId} {a : Nat → Nat} (u : LU) : KI l yX0_time wsX0_time ({ frames := 0, cells := 0, slots := 0, locals := 0 } : Room) D (tyX cI cZ cQ) (wX cI cZ cQ a) [.ref (a 0)] u (fun (r : Int32) (u' : LU) => r = u 0 17 ∧ u' = u) := by
  refine ent_I (own := RX0) (maxL := 1) (cc := cX0_time) (L0 := [(0, .ref (a 0))]) (by decide) rfl (wX_ok _ _ _ _) rfl (Nat.le_of_ble_eq_true rfl) rfl ?_
  intro p e s m args below meth c A C hr
  have FX : ∀ w ∈ wsX00, w.before args s = true := fun w h => C.2.2.2.2.1 w ((by decide +kernel : ∀ w ∈ wsX00, w ∈ wsX0_time) w h)
  refine g_aload_n (pc' := 1) (q := 0) C dX0_time_0 rfl rfl rfl ?_
  refine g_get (pc' := 4) (v := .int (u 0 17)) C FX 0 (by rfl) rfl 17 (by decide) (by decide +kernel) rfl (by rfl) dX0_time_1 rfl ?_
  exact g_iret C hr rfl ⟨rfl, rfl⟩ dX0_time_4
set_option maxHeartbeats 4000000 in
set_option maxRecDepth 100000 in
theorem c_X0_lots {l : Launch} {D : va_G} {cI cZ cQ : ClassId} {a : Nat → Nat} (u : LU) : KI l yX0_lots wsX0_lots ({ frames := 0, cells := 0, slots := 0, locals := 0 } : Room) D (tyX cI cZ cQ) (wX cI cZ cQ a) [.ref (a 0)] u (fun (r : Int32) (u' : LU) => r = u 0 12 ∧ u' = u) := by
  refine ent_I (own := RX0) (maxL := 1) (cc := cX0_lots) (L0 := [(0, .ref (a 0))]) (by decide) rfl (wX_ok _ _ _ _) rfl (Nat.le_of_ble_eq_true rfl) rfl ?_
  intro p e s m args below meth c A C hr
  have FX : ∀ w ∈ wsX00, w.before args s = true := fun w h => C.2.2.2.2.1 w ((by decide +kernel : ∀ w ∈ wsX00, w ∈ wsX0_lots) w h)
  refine g_aload_n (pc' := 1) (q := 0) C dX0_lots_0 rfl rfl rfl ?_
  refine g_get (pc' := 4) (v := .int (u 0 12)) C FX 0 (by rfl) rfl 12 (by decide) (by decide +kernel) rfl (by rfl) dX0_lots_1 rfl ?_
  exact g_iret C hr rfl ⟨rfl, rfl⟩ dX0_lots_4
set_option maxHeartbeats 4000000 in
set_option maxRecDepth 100000 in
theorem c_X0_wafers {l : Launch} {D : va_G} {cI cZ cQ : ClassId} {a : Nat → Nat} (u : LU) : KI l yX0_wafers wsX0_wafers ({ frames := 0, cells := 0, slots := 0, locals := 0 } : Room) D (tyX cI cZ cQ) (wX cI cZ cQ a) [.ref (a 0)] u (fun (r : Int32) (u' : LU) => r = u 0 16 ∧ u' = u) := by
  refine ent_I (own := RX0) (maxL := 1) (cc := cX0_wafers) (L0 := [(0, .ref (a 0))]) (by decide) rfl (wX_ok _ _ _ _) rfl (Nat.le_of_ble_eq_true rfl) rfl ?_
  intro p e s m args below meth c A C hr
  have FX : ∀ w ∈ wsX00, w.before args s = true := fun w h => C.2.2.2.2.1 w ((by decide +kernel : ∀ w ∈ wsX00, w ∈ wsX0_wafers) w h)
  refine g_aload_n (pc' := 1) (q := 0) C dX0_wafers_0 rfl rfl rfl ?_
  refine g_get (pc' := 4) (v := .int (u 0 16)) C FX 0 (by rfl) rfl 16 (by decide) (by decide +kernel) rfl (by rfl) dX0_wafers_1 rfl ?_
  exact g_iret C hr rfl ⟨rfl, rfl⟩ dX0_wafers_4
set_option maxHeartbeats 4000000 in
set_option maxRecDepth 100000 in
theorem c_X0_state {l : Launch} {D : va_G} {cI cZ cQ : ClassId} {a : Nat → Nat} (u : LU) (x : Int32) (hI : IX u) (hx : (0 ≤ x.toInt ∧ x.toInt < (u 0 12).toInt)) : KI l yX0_state wsX0_state ({ frames := 2, cells := 0, slots := 0, locals := 42 } : Room) D (tyX cI cZ cQ) (wX cI cZ cQ a) [.ref (a 0), .int x] u (fun (r : Int32) (u' : LU) => ∃ n : Nat, x = nI n ∧ (n : Int) < (u 0 12).toInt ∧ r = u 6 n ∧ u' = u) := by
  refine ent_I (own := RX0) (maxL := 2) (cc := cX0_state) (L0 := [(0, .ref (a 0)), (1, .int x)]) (by decide) rfl (wX_ok _ _ _ _) rfl (Nat.le_of_ble_eq_true rfl) rfl ?_
  intro p e s m args below meth c A C hr
  have FX : ∀ w ∈ wsX00, w.before args s = true := fun w h => C.2.2.2.2.1 w ((by decide +kernel : ∀ w ∈ wsX00, w ∈ wsX0_state) w h)
  obtain ⟨hS4, hL12, hW16, hZ9, hP16⟩ := id hI
  refine g_aload_n (pc' := 1) (q := 0) C dX0_state_0 rfl rfl rfl ?_
  refine g_iload_n (pc' := 2) (q := 1) C dX0_state_1 rfl rfl rfl ?_
  refine g_callvV (pc' := 5) (As := [.int x]) (st := []) (cells' := 0) (slots' := 0) C (c_X0_checkLot _ x (by omega)) gX0_state_X0_checkLot rfl (by decide +kernel) ⟨Nat.le_of_ble_eq_true rfl, Nat.le_of_ble_eq_true rfl⟩ 0 (by rfl) rfl (n := 1) rfl rfl (Nat.le_of_ble_eq_true rfl) dX0_state_2 rfl rfl rfl ⟨Nat.le_of_ble_eq_true rfl, Nat.le_of_ble_eq_true rfl⟩ (fun  u_1 h_2 => ?_)
  obtain ⟨qh_2, h_2⟩ := h_2
  refine g_st h_2 ?_
  obtain ⟨n, hn, rfl⟩ := nI_of_ti (n := 24) qh_2.1 (by omega) (by decide)
  have tn : (nI n).toInt = (n : Int) := nI_toInt (by omega)
  rw [tn] at qh_2
  refine g_aload_n (pc' := 6) (q := 0) C dX0_state_5 rfl rfl rfl ?_
  refine g_get (pc' := 9) (v := .ref (a 6)) C FX 0 (by rfl) rfl 5 (by decide) (by decide +kernel) rfl (by rfl) dX0_state_6 rfl ?_
  refine g_iload_n (pc' := 10) (q := 1) C dX0_state_9 rfl rfl rfl ?_
  refine g_iald (pc' := 11) (n := 24) (f := u 6) C 6 0 (by rfl) rfl (vp_in_nI (by omega) (by omega)) (k := n) (nI_clamp (by omega)) dX0_state_10 rfl ?_
  exact g_iret C hr rfl ⟨n, rfl, by omega, rfl, rfl⟩ dX0_state_11
set_option maxHeartbeats 4000000 in
set_option maxRecDepth 100000 in
theorem c_X0_stepOf {l : Launch} {D : va_G} {cI cZ cQ : ClassId} {a : Nat → Nat} (u : LU) (x : Int32) (hI : IX u) (hx : (0 ≤ x.toInt ∧ x.toInt < (u 0 12).toInt)) : KI l yX0_stepOf wsX0_stepOf ({ frames := 2, cells := 0, slots := 0, locals := 42 } : Room) D (tyX cI cZ cQ) (wX cI cZ cQ a) [.ref (a 0), .int x] u (fun (r : Int32) (u' : LU) => ∃ n : Nat, x = nI n ∧ (n : Int) < (u 0 12).toInt ∧ r = u 7 n ∧ u' = u) := by
  refine ent_I (own := RX0) (maxL := 2) (cc := cX0_stepOf) (L0 := [(0, .ref (a 0)), (1, .int x)]) (by decide) rfl (wX_ok _ _ _ _) rfl (Nat.le_of_ble_eq_true rfl) rfl ?_
  intro p e s m args below meth c A C hr
  have FX : ∀ w ∈ wsX00, w.before args s = true := fun w h => C.2.2.2.2.1 w ((by decide +kernel : ∀ w ∈ wsX00, w ∈ wsX0_stepOf) w h)
  obtain ⟨hS4, hL12, hW16, hZ9, hP16⟩ := id hI
  refine g_aload_n (pc' := 1) (q := 0) C dX0_stepOf_0 rfl rfl rfl ?_
  refine g_iload_n (pc' := 2) (q := 1) C dX0_stepOf_1 rfl rfl rfl ?_
  refine g_callvV (pc' := 5) (As := [.int x]) (st := []) (cells' := 0) (slots' := 0) C (c_X0_checkLot _ x (by omega)) gX0_stepOf_X0_checkLot rfl (by decide +kernel) ⟨Nat.le_of_ble_eq_true rfl, Nat.le_of_ble_eq_true rfl⟩ 0 (by rfl) rfl (n := 1) rfl rfl (Nat.le_of_ble_eq_true rfl) dX0_stepOf_2 rfl rfl rfl ⟨Nat.le_of_ble_eq_true rfl, Nat.le_of_ble_eq_true rfl⟩ (fun  u_1 h_2 => ?_)
  obtain ⟨qh_2, h_2⟩ := h_2
  refine g_st h_2 ?_
  obtain ⟨n, hn, rfl⟩ := nI_of_ti (n := 24) qh_2.1 (by omega) (by decide)
  have tn : (nI n).toInt = (n : Int) := nI_toInt (by omega)
  rw [tn] at qh_2
  refine g_aload_n (pc' := 6) (q := 0) C dX0_stepOf_5 rfl rfl rfl ?_
  refine g_get (pc' := 9) (v := .ref (a 7)) C FX 0 (by rfl) rfl 6 (by decide) (by decide +kernel) rfl (by rfl) dX0_stepOf_6 rfl ?_
  refine g_iload_n (pc' := 10) (q := 1) C dX0_stepOf_9 rfl rfl rfl ?_
  refine g_iald (pc' := 11) (n := 24) (f := u 7) C 7 0 (by rfl) rfl (vp_in_nI (by omega) (by omega)) (k := n) (nI_clamp (by omega)) dX0_stepOf_10 rfl ?_
  exact g_iret C hr rfl ⟨n, rfl, by omega, rfl, rfl⟩ dX0_stepOf_11
set_option maxHeartbeats 4000000 in
set_option maxRecDepth 100000 in
theorem c_X0_size {l : Launch} {D : va_G} {cI cZ cQ : ClassId} {a : Nat → Nat} (u : LU) (x : Int32) (hI : IX u) (hx : (0 ≤ x.toInt ∧ x.toInt < (u 0 12).toInt)) : KI l yX0_size wsX0_size ({ frames := 2, cells := 0, slots := 0, locals := 42 } : Room) D (tyX cI cZ cQ) (wX cI cZ cQ a) [.ref (a 0), .int x] u (fun (r : Int32) (u' : LU) => ∃ n : Nat, x = nI n ∧ (n : Int) < (u 0 12).toInt ∧ r = u 12 n ∧ u' = u) := by
  refine ent_I (own := RX0) (maxL := 2) (cc := cX0_size) (L0 := [(0, .ref (a 0)), (1, .int x)]) (by decide) rfl (wX_ok _ _ _ _) rfl (Nat.le_of_ble_eq_true rfl) rfl ?_
  intro p e s m args below meth c A C hr
  have FX : ∀ w ∈ wsX00, w.before args s = true := fun w h => C.2.2.2.2.1 w ((by decide +kernel : ∀ w ∈ wsX00, w ∈ wsX0_size) w h)
  obtain ⟨hS4, hL12, hW16, hZ9, hP16⟩ := id hI
  refine g_aload_n (pc' := 1) (q := 0) C dX0_size_0 rfl rfl rfl ?_
  refine g_iload_n (pc' := 2) (q := 1) C dX0_size_1 rfl rfl rfl ?_
  refine g_callvV (pc' := 5) (As := [.int x]) (st := []) (cells' := 0) (slots' := 0) C (c_X0_checkLot _ x (by omega)) gX0_size_X0_checkLot rfl (by decide +kernel) ⟨Nat.le_of_ble_eq_true rfl, Nat.le_of_ble_eq_true rfl⟩ 0 (by rfl) rfl (n := 1) rfl rfl (Nat.le_of_ble_eq_true rfl) dX0_size_2 rfl rfl rfl ⟨Nat.le_of_ble_eq_true rfl, Nat.le_of_ble_eq_true rfl⟩ (fun  u_1 h_2 => ?_)
  obtain ⟨qh_2, h_2⟩ := h_2
  refine g_st h_2 ?_
  obtain ⟨n, hn, rfl⟩ := nI_of_ti (n := 24) qh_2.1 (by omega) (by decide)
  have tn : (nI n).toInt = (n : Int) := nI_toInt (by omega)
  rw [tn] at qh_2
  refine g_aload_n (pc' := 6) (q := 0) C dX0_size_5 rfl rfl rfl ?_
  refine g_get (pc' := 9) (v := .ref (a 12)) C FX 0 (by rfl) rfl 11 (by decide) (by decide +kernel) rfl (by rfl) dX0_size_6 rfl ?_
  refine g_iload_n (pc' := 10) (q := 1) C dX0_size_9 rfl rfl rfl ?_
  refine g_iald (pc' := 11) (n := 24) (f := u 12) C 12 0 (by rfl) rfl (vp_in_nI (by omega) (by omega)) (k := n) (nI_clamp (by omega)) dX0_size_10 rfl ?_
  exact g_iret C hr rfl ⟨n, rfl, by omega, rfl, rfl⟩ dX0_size_11
set_option maxHeartbeats 4000000 in
set_option maxRecDepth 100000 in
theorem c_X0_reworks {l : Launch} {D : va_G} {cI cZ cQ : ClassId} {a : Nat → Nat} (u : LU) (x : Int32) (hI : IX u) (hx : (0 ≤ x.toInt ∧ x.toInt < (u 0 12).toInt)) : KI l yX0_reworks wsX0_reworks ({ frames := 2, cells := 0, slots := 0, locals := 42 } : Room) D (tyX cI cZ cQ) (wX cI cZ cQ a) [.ref (a 0), .int x] u (fun (r : Int32) (u' : LU) => ∃ n : Nat, x = nI n ∧ (n : Int) < (u 0 12).toInt ∧ r = u 10 n ∧ u' = u) := by
  refine ent_I (own := RX0) (maxL := 2) (cc := cX0_reworks) (L0 := [(0, .ref (a 0)), (1, .int x)]) (by decide) rfl (wX_ok _ _ _ _) rfl (Nat.le_of_ble_eq_true rfl) rfl ?_
  intro p e s m args below meth c A C hr
  have FX : ∀ w ∈ wsX00, w.before args s = true := fun w h => C.2.2.2.2.1 w ((by decide +kernel : ∀ w ∈ wsX00, w ∈ wsX0_reworks) w h)
  obtain ⟨hS4, hL12, hW16, hZ9, hP16⟩ := id hI
  refine g_aload_n (pc' := 1) (q := 0) C dX0_reworks_0 rfl rfl rfl ?_
  refine g_iload_n (pc' := 2) (q := 1) C dX0_reworks_1 rfl rfl rfl ?_
  refine g_callvV (pc' := 5) (As := [.int x]) (st := []) (cells' := 0) (slots' := 0) C (c_X0_checkLot _ x (by omega)) gX0_reworks_X0_checkLot rfl (by decide +kernel) ⟨Nat.le_of_ble_eq_true rfl, Nat.le_of_ble_eq_true rfl⟩ 0 (by rfl) rfl (n := 1) rfl rfl (Nat.le_of_ble_eq_true rfl) dX0_reworks_2 rfl rfl rfl ⟨Nat.le_of_ble_eq_true rfl, Nat.le_of_ble_eq_true rfl⟩ (fun  u_1 h_2 => ?_)
  obtain ⟨qh_2, h_2⟩ := h_2
  refine g_st h_2 ?_
  obtain ⟨n, hn, rfl⟩ := nI_of_ti (n := 24) qh_2.1 (by omega) (by decide)
  have tn : (nI n).toInt = (n : Int) := nI_toInt (by omega)
  rw [tn] at qh_2
  refine g_aload_n (pc' := 6) (q := 0) C dX0_reworks_5 rfl rfl rfl ?_
  refine g_get (pc' := 9) (v := .ref (a 10)) C FX 0 (by rfl) rfl 9 (by decide) (by decide +kernel) rfl (by rfl) dX0_reworks_6 rfl ?_
  refine g_iload_n (pc' := 10) (q := 1) C dX0_reworks_9 rfl rfl rfl ?_
  refine g_iald (pc' := 11) (n := 24) (f := u 10) C 10 0 (by rfl) rfl (vp_in_nI (by omega) (by omega)) (k := n) (nI_clamp (by omega)) dX0_reworks_10 rfl ?_
  exact g_iret C hr rfl ⟨n, rfl, by omega, rfl, rfl⟩ dX0_reworks_11
set_option maxHeartbeats 4000000 in
set_option maxRecDepth 100000 in
theorem c_X0_parentOf {l : Launch} {D : va_G} {cI cZ cQ : ClassId} {a : Nat → Nat} (u : LU) (x : Int32) (hI : IX u) (hx : (0 ≤ x.toInt ∧ x.toInt < (u 0 12).toInt)) : KI l yX0_parentOf wsX0_parentOf ({ frames := 2, cells := 0, slots := 0, locals := 42 } : Room) D (tyX cI cZ cQ) (wX cI cZ cQ a) [.ref (a 0), .int x] u (fun (r : Int32) (u' : LU) => ∃ n : Nat, x = nI n ∧ (n : Int) < (u 0 12).toInt ∧ r = u 11 n ∧ u' = u) := by
  refine ent_I (own := RX0) (maxL := 2) (cc := cX0_parentOf) (L0 := [(0, .ref (a 0)), (1, .int x)]) (by decide) rfl (wX_ok _ _ _ _) rfl (Nat.le_of_ble_eq_true rfl) rfl ?_
  intro p e s m args below meth c A C hr
  have FX : ∀ w ∈ wsX00, w.before args s = true := fun w h => C.2.2.2.2.1 w ((by decide +kernel : ∀ w ∈ wsX00, w ∈ wsX0_parentOf) w h)
  obtain ⟨hS4, hL12, hW16, hZ9, hP16⟩ := id hI
  refine g_aload_n (pc' := 1) (q := 0) C dX0_parentOf_0 rfl rfl rfl ?_
  refine g_iload_n (pc' := 2) (q := 1) C dX0_parentOf_1 rfl rfl rfl ?_
  refine g_callvV (pc' := 5) (As := [.int x]) (st := []) (cells' := 0) (slots' := 0) C (c_X0_checkLot _ x (by omega)) gX0_parentOf_X0_checkLot rfl (by decide +kernel) ⟨Nat.le_of_ble_eq_true rfl, Nat.le_of_ble_eq_true rfl⟩ 0 (by rfl) rfl (n := 1) rfl rfl (Nat.le_of_ble_eq_true rfl) dX0_parentOf_2 rfl rfl rfl ⟨Nat.le_of_ble_eq_true rfl, Nat.le_of_ble_eq_true rfl⟩ (fun  u_1 h_2 => ?_)
  obtain ⟨qh_2, h_2⟩ := h_2
  refine g_st h_2 ?_
  obtain ⟨n, hn, rfl⟩ := nI_of_ti (n := 24) qh_2.1 (by omega) (by decide)
  have tn : (nI n).toInt = (n : Int) := nI_toInt (by omega)
  rw [tn] at qh_2
  refine g_aload_n (pc' := 6) (q := 0) C dX0_parentOf_5 rfl rfl rfl ?_
  refine g_get (pc' := 9) (v := .ref (a 11)) C FX 0 (by rfl) rfl 10 (by decide) (by decide +kernel) rfl (by rfl) dX0_parentOf_6 rfl ?_
  refine g_iload_n (pc' := 10) (q := 1) C dX0_parentOf_9 rfl rfl rfl ?_
  refine g_iald (pc' := 11) (n := 24) (f := u 11) C 11 0 (by rfl) rfl (vp_in_nI (by omega) (by omega)) (k := n) (nI_clamp (by omega)) dX0_parentOf_10 rfl ?_
  exact g_iret C hr rfl ⟨n, rfl, by omega, rfl, rfl⟩ dX0_parentOf_11
set_option maxHeartbeats 4000000 in
set_option maxRecDepth 100000 in
theorem c_X0_lotOf {l : Launch} {D : va_G} {cI cZ cQ : ClassId} {a : Nat → Nat} (u : LU) (x : Int32) (hI : IX u) (hx : (0 ≤ x.toInt ∧ x.toInt < (u 0 16).toInt)) : KI l yX0_lotOf wsX0_lotOf ({ frames := 1, cells := 0, slots := 0, locals := 21 } : Room) D (tyX cI cZ cQ) (wX cI cZ cQ a) [.ref (a 0), .int x] u (fun (r : Int32) (u' : LU) => ∃ w : Nat, x = nI w ∧ (w : Int) < (u 0 16).toInt ∧ r = u 14 w ∧ u' = u) := by
  refine ent_I (own := RX0) (maxL := 2) (cc := cX0_lotOf) (L0 := [(0, .ref (a 0)), (1, .int x)]) (by decide) rfl (wX_ok _ _ _ _) rfl (Nat.le_of_ble_eq_true rfl) rfl ?_
  intro p e s m args below meth c A C hr
  have FX : ∀ w ∈ wsX00, w.before args s = true := fun w h => C.2.2.2.2.1 w ((by decide +kernel : ∀ w ∈ wsX00, w ∈ wsX0_lotOf) w h)
  obtain ⟨hS4, hL12, hW16, hZ9, hP16⟩ := id hI
  refine g_aload_n (pc' := 1) (q := 0) C dX0_lotOf_0 rfl rfl rfl ?_
  refine g_iload_n (pc' := 2) (q := 1) C dX0_lotOf_1 rfl rfl rfl ?_
  refine g_callvV (pc' := 5) (As := [.int x]) (st := []) (cells' := 0) (slots' := 0) C (c_X0_checkWafer _ x (by omega)) gX0_lotOf_X0_checkWafer rfl (by decide +kernel) ⟨Nat.le_of_ble_eq_true rfl, Nat.le_of_ble_eq_true rfl⟩ 0 (by rfl) rfl (n := 1) rfl rfl (Nat.le_of_ble_eq_true rfl) dX0_lotOf_2 rfl rfl rfl ⟨Nat.le_of_ble_eq_true rfl, Nat.le_of_ble_eq_true rfl⟩ (fun  u_1 h_2 => ?_)
  obtain ⟨qh_2, h_2⟩ := h_2
  refine g_st h_2 ?_
  obtain ⟨w, hw, rfl⟩ := nI_of_ti (n := 60) qh_2.1 (by omega) (by decide)
  have tw : (nI w).toInt = (w : Int) := nI_toInt (by omega)
  rw [tw] at qh_2
  refine g_aload_n (pc' := 6) (q := 0) C dX0_lotOf_5 rfl rfl rfl ?_
  refine g_get (pc' := 9) (v := .ref (a 14)) C FX 0 (by rfl) rfl 13 (by decide) (by decide +kernel) rfl (by rfl) dX0_lotOf_6 rfl ?_
  refine g_iload_n (pc' := 10) (q := 1) C dX0_lotOf_9 rfl rfl rfl ?_
  refine g_iald (pc' := 11) (n := 60) (f := u 14) C 13 0 (by rfl) rfl (vp_in_nI (by omega) (by omega)) (k := w) (nI_clamp (by omega)) dX0_lotOf_10 rfl ?_
  exact g_iret C hr rfl ⟨w, rfl, by omega, rfl, rfl⟩ dX0_lotOf_11
set_option maxHeartbeats 4000000 in
set_option maxRecDepth 100000 in
theorem c_X0_path {l : Launch} {D : va_G} {cI cZ cQ : ClassId} {a : Nat → Nat} (u : LU) (x : Int32) (hI : IX u) (hx : (0 ≤ x.toInt ∧ x.toInt < (u 0 16).toInt)) : KI l yX0_path wsX0_path ({ frames := 1, cells := 0, slots := 0, locals := 21 } : Room) D (tyX cI cZ cQ) (wX cI cZ cQ a) [.ref (a 0), .int x] u (fun (r : Int32) (u' : LU) => ∃ w : Nat, x = nI w ∧ (w : Int) < (u 0 16).toInt ∧ r = u 16 w ∧ u' = u) := by
  refine ent_I (own := RX0) (maxL := 2) (cc := cX0_path) (L0 := [(0, .ref (a 0)), (1, .int x)]) (by decide) rfl (wX_ok _ _ _ _) rfl (Nat.le_of_ble_eq_true rfl) rfl ?_
  intro p e s m args below meth c A C hr
  have FX : ∀ w ∈ wsX00, w.before args s = true := fun w h => C.2.2.2.2.1 w ((by decide +kernel : ∀ w ∈ wsX00, w ∈ wsX0_path) w h)
  obtain ⟨hS4, hL12, hW16, hZ9, hP16⟩ := id hI
  refine g_aload_n (pc' := 1) (q := 0) C dX0_path_0 rfl rfl rfl ?_
  refine g_iload_n (pc' := 2) (q := 1) C dX0_path_1 rfl rfl rfl ?_
  refine g_callvV (pc' := 5) (As := [.int x]) (st := []) (cells' := 0) (slots' := 0) C (c_X0_checkWafer _ x (by omega)) gX0_path_X0_checkWafer rfl (by decide +kernel) ⟨Nat.le_of_ble_eq_true rfl, Nat.le_of_ble_eq_true rfl⟩ 0 (by rfl) rfl (n := 1) rfl rfl (Nat.le_of_ble_eq_true rfl) dX0_path_2 rfl rfl rfl ⟨Nat.le_of_ble_eq_true rfl, Nat.le_of_ble_eq_true rfl⟩ (fun  u_1 h_2 => ?_)
  obtain ⟨qh_2, h_2⟩ := h_2
  refine g_st h_2 ?_
  obtain ⟨w, hw, rfl⟩ := nI_of_ti (n := 60) qh_2.1 (by omega) (by decide)
  have tw : (nI w).toInt = (w : Int) := nI_toInt (by omega)
  rw [tw] at qh_2
  refine g_aload_n (pc' := 6) (q := 0) C dX0_path_5 rfl rfl rfl ?_
  refine g_get (pc' := 9) (v := .ref (a 16)) C FX 0 (by rfl) rfl 15 (by decide) (by decide +kernel) rfl (by rfl) dX0_path_6 rfl ?_
  refine g_iload_n (pc' := 10) (q := 1) C dX0_path_9 rfl rfl rfl ?_
  refine g_iald (pc' := 11) (n := 60) (f := u 16) C 14 0 (by rfl) rfl (vp_in_nI (by omega) (by omega)) (k := w) (nI_clamp (by omega)) dX0_path_10 rfl ?_
  exact g_iret C hr rfl ⟨w, rfl, by omega, rfl, rfl⟩ dX0_path_11
set_option maxHeartbeats 4000000 in
set_option maxRecDepth 100000 in
theorem c_X0_slack {l : Launch} {D : va_G} {cI cZ cQ : ClassId} {a : Nat → Nat} (u : LU) (x : Int32) (hI : IX u) (hx : (0 ≤ x.toInt ∧ x.toInt < (u 0 12).toInt)) : KI l yX0_slack wsX0_slack ({ frames := 2, cells := 0, slots := 0, locals := 43 } : Room) D (tyX cI cZ cQ) (wX cI cZ cQ a) [.ref (a 0), .int x] u (fun (r : Int32) (u' : LU) => ∃ n : Nat, x = nI n ∧ (n : Int) < (u 0 12).toInt ∧ r = slX u n ∧ u' = u) := by
  refine ent_I (own := RX0) (maxL := 2) (cc := cX0_slack) (L0 := [(0, .ref (a 0)), (1, .int x)]) (by decide) rfl (wX_ok _ _ _ _) rfl (Nat.le_of_ble_eq_true rfl) rfl ?_
  intro p e s m args below meth c A C hr
  obtain ⟨hS4, hL12, hW16, hZ9, hP16⟩ := id hI
  refine g_aload_n (pc' := 1) (q := 0) C dX0_slack_0 rfl rfl rfl ?_
  refine g_iload_n (pc' := 2) (q := 1) C dX0_slack_1 rfl rfl rfl ?_
  refine g_callvV (pc' := 5) (As := [.int x]) (st := []) (cells' := 0) (slots' := 0) C (c_X0_checkLot _ x (by omega)) gX0_slack_X0_checkLot rfl (by decide +kernel) ⟨Nat.le_of_ble_eq_true rfl, Nat.le_of_ble_eq_true rfl⟩ 0 (by rfl) rfl (n := 1) rfl rfl (Nat.le_of_ble_eq_true rfl) dX0_slack_2 rfl rfl rfl ⟨Nat.le_of_ble_eq_true rfl, Nat.le_of_ble_eq_true rfl⟩ (fun  u_1 h_2 => ?_)
  obtain ⟨qh_2, h_2⟩ := h_2
  refine g_st h_2 ?_
  obtain ⟨n, hn, rfl⟩ := nI_of_ti (n := 24) qh_2.1 (by omega) (by decide)
  have tn : (nI n).toInt = (n : Int) := nI_toInt (by omega)
  rw [tn] at qh_2
  refine g_aload_n (pc' := 6) (q := 0) C dX0_slack_5 rfl rfl rfl ?_
  refine g_iload_n (pc' := 7) (q := 1) C dX0_slack_6 rfl rfl rfl ?_
  refine g_calliV (pc' := 10) (As := [.int (nI n)]) (st := []) (cells' := 0) (slots' := 0) C (c_X0_waitingLeft _ n (by omega) (by omega)) gX0_slack_X0_waitingLeft rfl (by decide +kernel) ⟨Nat.le_of_ble_eq_true rfl, Nat.le_of_ble_eq_true rfl⟩ 0 (by rfl) rfl (n := 1) rfl rfl (Nat.le_of_ble_eq_true rfl) dX0_slack_7 rfl rfl rfl ⟨Nat.le_of_ble_eq_true rfl, Nat.le_of_ble_eq_true rfl⟩ (fun r_3 u_3 h_4 => ?_)
  obtain ⟨rfl, h_4⟩ := h_4
  refine g_st h_4 ?_
  exact g_iret C hr rfl ⟨n, rfl, by omega, rfl, rfl⟩ dX0_slack_10
set_option maxHeartbeats 4000000 in
set_option maxRecDepth 100000 in
theorem c_X0_isLate {l : Launch} {D : va_G} {cI cZ cQ : ClassId} {a : Nat → Nat} (u : LU) (x : Int32) (hI : IX u) (hx : (0 ≤ x.toInt ∧ x.toInt < (u 0 12).toInt)) : KI l yX0_isLate wsX0_isLate ({ frames := 2, cells := 0, slots := 0, locals := 43 } : Room) D (tyX cI cZ cQ) (wX cI cZ cQ a) [.ref (a 0), .int x] u (fun (r : Int32) (u' : LU) => ∃ n : Nat, x = nI n ∧ (n : Int) < (u 0 12).toInt ∧ r = bP ((slX u n).toInt < 0) ∧ u' = u) := by
  refine ent_I (own := RX0) (maxL := 2) (cc := cX0_isLate) (L0 := [(0, .ref (a 0)), (1, .int x)]) (by decide) rfl (wX_ok _ _ _ _) rfl (Nat.le_of_ble_eq_true rfl) rfl ?_
  intro p e s m args below meth c A C hr
  obtain ⟨hS4, hL12, hW16, hZ9, hP16⟩ := id hI
  refine g_aload_n (pc' := 1) (q := 0) C dX0_isLate_0 rfl rfl rfl ?_
  refine g_iload_n (pc' := 2) (q := 1) C dX0_isLate_1 rfl rfl rfl ?_
  refine g_callvV (pc' := 5) (As := [.int x]) (st := []) (cells' := 0) (slots' := 0) C (c_X0_checkLot _ x (by omega)) gX0_isLate_X0_checkLot rfl (by decide +kernel) ⟨Nat.le_of_ble_eq_true rfl, Nat.le_of_ble_eq_true rfl⟩ 0 (by rfl) rfl (n := 1) rfl rfl (Nat.le_of_ble_eq_true rfl) dX0_isLate_2 rfl rfl rfl ⟨Nat.le_of_ble_eq_true rfl, Nat.le_of_ble_eq_true rfl⟩ (fun  u_1 h_2 => ?_)
  obtain ⟨qh_2, h_2⟩ := h_2
  refine g_st h_2 ?_
  obtain ⟨n, hn, rfl⟩ := nI_of_ti (n := 24) qh_2.1 (by omega) (by decide)
  have tn : (nI n).toInt = (n : Int) := nI_toInt (by omega)
  rw [tn] at qh_2
  refine g_aload_n (pc' := 6) (q := 0) C dX0_isLate_5 rfl rfl rfl ?_
  refine g_iload_n (pc' := 7) (q := 1) C dX0_isLate_6 rfl rfl rfl ?_
  refine g_calliV (pc' := 10) (As := [.int (nI n)]) (st := []) (cells' := 0) (slots' := 0) C (c_X0_waitingLeft _ n (by omega) (by omega)) gX0_isLate_X0_waitingLeft rfl (by decide +kernel) ⟨Nat.le_of_ble_eq_true rfl, Nat.le_of_ble_eq_true rfl⟩ 0 (by rfl) rfl (n := 1) rfl rfl (Nat.le_of_ble_eq_true rfl) dX0_isLate_7 rfl rfl rfl ⟨Nat.le_of_ble_eq_true rfl, Nat.le_of_ble_eq_true rfl⟩ (fun r_3 u_3 h_4 => ?_)
  obtain ⟨rfl, h_4⟩ := h_4
  refine g_st h_4 ?_
  refine g_if_ge (tgt := 17) (pc' := 13) C dX0_isLate_10 rfl (by decide) (fun (c_5 : 0 ≤ (slX u n).toInt) => ?_) (fun (c_5 : ¬ (0 ≤ (slX u n).toInt)) => ?_)
  · skip
    refine g_iconst (pc' := 18) (v := 0) C dX0_isLate_17 rfl (by decide) ?_
    exact g_iret C hr (by decide) ⟨n, rfl, by omega, (bP_f (by omega)).symm, rfl⟩ dX0_isLate_18
  · skip
    refine g_iconst (pc' := 14) (v := 1) C dX0_isLate_13 rfl (by decide) ?_
    refine g_goto (tgt := 18) C dX0_isLate_14 (by decide) ?_
    exact g_iret C hr (by decide) ⟨n, rfl, by omega, (bP_t (by omega)).symm, rfl⟩ dX0_isLate_18
set_option maxHeartbeats 4000000 in
set_option maxRecDepth 100000 in
theorem c_X0_addStep {l : Launch} {D : va_G} {cI cZ cQ : ClassId} {a : Nat → Nat} (u : LU) (x y z b : Int32) (hI : IX u) (hx : (0 ≤ x.toInt ∧ x.toInt ≤ 5)) (hy : ((1 ≤ y.toInt ∧ y.toInt ≤ 1000) ∧ (0 ≤ z.toInt ∧ z.toInt ≤ 10000) ∧ (0 ≤ b.toInt ∧ b.toInt ≤ (u 0 4).toInt))) (hz : ((u 0 4).toInt < 12 ∧ (u 0 12).toInt ≤ 0)) : KI l yX0_addStep wsX0_addStep ({ frames := 2, cells := 0, slots := 0, locals := 42 } : Room) D (tyX cI cZ cQ) (wX cI cZ cQ a) [.ref (a 0), .int x, .int y, .int z, .int b] u (fun (r : Int32) (u' : LU) => (0 ≤ x.toInt ∧ x.toInt ≤ 5) ∧ ((1 ≤ y.toInt ∧ y.toInt ≤ 1000) ∧ (0 ≤ z.toInt ∧ z.toInt ≤ 10000) ∧ (0 ≤ b.toInt ∧ b.toInt ≤ (u 0 4).toInt)) ∧ ((u 0 4).toInt < 12 ∧ (u 0 12).toInt ≤ 0) ∧ r = u 0 4 ∧ u' = asX u x y z b) := by
  refine ent_I (own := RX0) (maxL := 6) (cc := cX0_addStep) (L0 := [(0, .ref (a 0)), (1, .int x), (2, .int y), (3, .int z), (4, .int b)]) (by decide) rfl (wX_ok _ _ _ _) rfl (Nat.le_of_ble_eq_true rfl) rfl ?_
  intro p e s m args below meth c A C hr
  have FX : ∀ w ∈ wsX00, w.before args s = true := fun w h => C.2.2.2.2.1 w ((by decide +kernel : ∀ w ∈ wsX00, w ∈ wsX0_addStep) w h)
  obtain ⟨hS4, hL12, hW16, hZ9, hP16⟩ := id hI
  refine g_iload_n (pc' := 1) (q := 1) C dX0_addStep_0 rfl rfl rfl ?_
  refine g_callvS (pc' := 4) (As := [.int x]) (st := []) (cells' := 0) (slots' := 0) C (c_X0_checkTool _ x (by omega)) gX0_addStep_X0_checkTool rfl (by decide +kernel) ⟨Nat.le_of_ble_eq_true rfl, Nat.le_of_ble_eq_true rfl⟩ (n := 1) rfl rfl (Nat.le_of_ble_eq_true rfl) dX0_addStep_1 rfl rfl rfl ⟨Nat.le_of_ble_eq_true rfl, Nat.le_of_ble_eq_true rfl⟩ (fun  u_1 h_2 => ?_)
  obtain ⟨qh_2, h_2⟩ := h_2
  refine g_st h_2 ?_
  refine g_iload_n (pc' := 5) (q := 2) C dX0_addStep_4 rfl rfl rfl ?_
  refine g_iconst (pc' := 6) (v := 1) C dX0_addStep_5 rfl (by decide) ?_
  refine g_sipush (pc' := 9) (v := 1000) C dX0_addStep_6 rfl (by decide) ?_
  refine g_calliS (pc' := 12) (As := [.int y, .int 1, .int 1000]) (st := []) (cells' := 0) (slots' := 0) C (c_X0_isWithin _ y 1 1000) gX0_addStep_X0_isWithin rfl (by decide +kernel) ⟨Nat.le_of_ble_eq_true rfl, Nat.le_of_ble_eq_true rfl⟩ (n := 3) rfl rfl (Nat.le_of_ble_eq_true rfl) dX0_addStep_9 rfl rfl rfl ⟨Nat.le_of_ble_eq_true rfl, Nat.le_of_ble_eq_true rfl⟩ (fun r_3 u_3 h_4 => ?_)
  obtain ⟨rfl, h_4⟩ := h_4
  refine g_st h_4 ?_
  refine g_ifP_eq (tgt := 39) (pc' := 15) C dX0_addStep_12 rfl (by decide) (fun (c_5 : ¬ (1 ≤ y.toInt ∧ y.toInt ≤ 1000)) => ?_) (fun (c_5 : 1 ≤ y.toInt ∧ y.toInt ≤ 1000) => ?_)
  · skip
    exact False.elim (by omega)
  · skip
    refine g_iload_n (pc' := 16) (q := 3) C dX0_addStep_15 rfl rfl rfl ?_
    refine g_iconst (pc' := 17) (v := 0) C dX0_addStep_16 rfl (by decide) ?_
    refine g_sipush (pc' := 20) (v := 10000) C dX0_addStep_17 rfl (by decide) ?_
    refine g_calliS (pc' := 23) (As := [.int z, .int 0, .int 10000]) (st := []) (cells' := 0) (slots' := 0) C (c_X0_isWithin _ z 0 10000) gX0_addStep_X0_isWithin rfl (by decide +kernel) ⟨Nat.le_of_ble_eq_true rfl, Nat.le_of_ble_eq_true rfl⟩ (n := 3) rfl rfl (Nat.le_of_ble_eq_true rfl) dX0_addStep_20 rfl rfl rfl ⟨Nat.le_of_ble_eq_true rfl, Nat.le_of_ble_eq_true rfl⟩ (fun r_6 u_6 h_7 => ?_)
    obtain ⟨rfl, h_7⟩ := h_7
    refine g_st h_7 ?_
    refine g_ifP_eq (tgt := 39) (pc' := 26) C dX0_addStep_23 rfl (by decide) (fun (c_8 : ¬ (0 ≤ z.toInt ∧ z.toInt ≤ 10000)) => ?_) (fun (c_8 : 0 ≤ z.toInt ∧ z.toInt ≤ 10000) => ?_)
    · skip
      exact False.elim (by omega)
    · skip
      refine g_iload (pc' := 28) (q := 4) C dX0_addStep_26 rfl rfl ?_
      refine g_iconst (pc' := 29) (v := 0) C dX0_addStep_28 rfl (by decide) ?_
      refine g_aload_n (pc' := 30) (q := 0) C dX0_addStep_29 rfl rfl rfl ?_
      refine g_get (pc' := 33) (v := .int (u 0 4)) C FX 0 (by rfl) rfl 4 (by decide) (by decide +kernel) rfl (by rfl) dX0_addStep_30 rfl ?_
      refine g_calliS (pc' := 36) (As := [.int b, .int 0, .int (u 0 4)]) (st := []) (cells' := 0) (slots' := 0) C (c_X0_isWithin _ b 0 (u 0 4)) gX0_addStep_X0_isWithin rfl (by decide +kernel) ⟨Nat.le_of_ble_eq_true rfl, Nat.le_of_ble_eq_true rfl⟩ (n := 3) rfl rfl (Nat.le_of_ble_eq_true rfl) dX0_addStep_33 rfl rfl rfl ⟨Nat.le_of_ble_eq_true rfl, Nat.le_of_ble_eq_true rfl⟩ (fun r_9 u_9 h_10 => ?_)
      obtain ⟨rfl, h_10⟩ := h_10
      refine g_st h_10 ?_
      refine g_ifP_ne (tgt := 49) (pc' := 39) C dX0_addStep_36 rfl (by decide) (fun (c_11 : 0 ≤ b.toInt ∧ b.toInt ≤ (u 0 4).toInt) => ?_) (fun (c_11 : ¬ (0 ≤ b.toInt ∧ b.toInt ≤ (u 0 4).toInt)) => ?_)
      · skip
        refine g_aload_n (pc' := 50) (q := 0) C dX0_addStep_49 rfl rfl rfl ?_
        refine g_get (pc' := 53) (v := .int (u 0 4)) C FX 0 (by rfl) rfl 4 (by decide) (by decide +kernel) rfl (by rfl) dX0_addStep_50 rfl ?_
        refine g_bipush (pc' := 55) (v := 12) C dX0_addStep_53 rfl (by decide) ?_
        refine g_icmp_ge (tgt := 65) (pc' := 58) C dX0_addStep_55 rfl (by decide) (fun (c_12 : 12 ≤ (u 0 4).toInt) => ?_) (fun (c_12 : ¬ (12 ≤ (u 0 4).toInt)) => ?_)
        · skip
          exact False.elim (by omega)
        · skip
          refine g_aload_n (pc' := 59) (q := 0) C dX0_addStep_58 rfl rfl rfl ?_
          refine g_get (pc' := 62) (v := .int (u 0 12)) C FX 0 (by rfl) rfl 12 (by decide) (by decide +kernel) rfl (by rfl) dX0_addStep_59 rfl ?_
          refine g_if_le (tgt := 75) (pc' := 65) C dX0_addStep_62 rfl (by decide) (fun (c_13 : (u 0 12).toInt ≤ 0) => ?_) (fun (c_13 : ¬ ((u 0 12).toInt ≤ 0)) => ?_)
          · skip
            refine g_aload_n (pc' := 76) (q := 0) C dX0_addStep_75 rfl rfl rfl ?_
            refine g_get (pc' := 79) (v := .int (u 0 4)) C FX 0 (by rfl) rfl 4 (by decide) (by decide +kernel) rfl (by rfl) dX0_addStep_76 rfl ?_
            refine g_istore (pc' := 81) (L' := [(5, .int (u 0 4)), (0, .ref (a 0)), (1, .int x), (2, .int y), (3, .int z), (4, .int b)]) C dX0_addStep_79 rfl (by decide) rfl ?_
            refine g_aload_n (pc' := 82) (q := 1) C dX0_addStep_81 rfl rfl rfl ?_
            refine g_get (pc' := 85) (v := .ref (a 1)) C FX 0 (by rfl) rfl 0 (by decide) (by decide +kernel) rfl (by rfl) dX0_addStep_82 rfl ?_
            refine g_iload (pc' := 87) (q := 0) C dX0_addStep_85 rfl rfl ?_
            refine g_iload_n (pc' := 88) (q := 2) C dX0_addStep_87 rfl rfl rfl ?_
            refine g_iast (pc' := 89) (n := 12) (f := u 1) C 2 0 (by rfl) rfl (vp_of (by omega) (by omega)) (k := (u 0 4).toNatClampNeg) rfl dX0_addStep_88 rfl (wX_set cI cZ cQ a _ (k := 0) rfl) ?_
            refine g_aload_n (pc' := 90) (q := 1) C dX0_addStep_89 rfl rfl rfl ?_
            refine g_get (pc' := 93) (v := .ref (a 2)) C FX 0 (by rfl) rfl 1 (by decide) (by decide +kernel) rfl (by rfl) dX0_addStep_90 rfl ?_
            refine g_iload (pc' := 95) (q := 0) C dX0_addStep_93 rfl rfl ?_
            refine g_iload_n (pc' := 96) (q := 3) C dX0_addStep_95 rfl rfl rfl ?_
            refine g_iast (pc' := 97) (n := 12) (f := u 2) C 3 0 (by rfl) rfl (vp_of (by omega) (by omega)) (k := (u 0 4).toNatClampNeg) rfl dX0_addStep_96 rfl (wX_set cI cZ cQ a _ (k := 1) rfl) ?_
            refine g_aload_n (pc' := 98) (q := 1) C dX0_addStep_97 rfl rfl rfl ?_
            refine g_get (pc' := 101) (v := .ref (a 3)) C FX 0 (by rfl) rfl 2 (by decide) (by decide +kernel) rfl (by rfl) dX0_addStep_98 rfl ?_
            refine g_iload (pc' := 103) (q := 0) C dX0_addStep_101 rfl rfl ?_
            refine g_iload_n (pc' := 104) (q := 4) C dX0_addStep_103 rfl rfl rfl ?_
            refine g_iast (pc' := 105) (n := 12) (f := u 3) C 4 0 (by rfl) rfl (vp_of (by omega) (by omega)) (k := (u 0 4).toNatClampNeg) rfl dX0_addStep_104 rfl (wX_set cI cZ cQ a _ (k := 2) rfl) ?_
            refine g_aload_n (pc' := 106) (q := 1) C dX0_addStep_105 rfl rfl rfl ?_
            refine g_get (pc' := 109) (v := .ref (a 4)) C FX 0 (by rfl) rfl 3 (by decide) (by decide +kernel) rfl (by rfl) dX0_addStep_106 rfl ?_
            refine g_iload (pc' := 111) (q := 0) C dX0_addStep_109 rfl rfl ?_
            refine g_iload (pc' := 113) (q := 5) C dX0_addStep_111 rfl rfl ?_
            refine g_iast (pc' := 114) (n := 12) (f := u 4) C 5 0 (by rfl) rfl (vp_of (by omega) (by omega)) (k := (u 0 4).toNatClampNeg) rfl dX0_addStep_113 rfl (wX_set cI cZ cQ a _ (k := 3) rfl) ?_
            refine g_aload_n (pc' := 115) (q := 1) C dX0_addStep_114 rfl rfl rfl ?_
            refine g_iload (pc' := 117) (q := 0) C dX0_addStep_115 rfl rfl ?_
            refine g_iconst (pc' := 118) (v := 1) C dX0_addStep_117 rfl (by decide) ?_
            refine g_iadd (pc' := 119) C dX0_addStep_118 rfl ?_
            refine g_putI (pc' := 122) C FX tyX0 tyX0_ok nmX0 0 (by rfl) rfl 4 (by decide) (by decide +kernel) rfl rfl rfl (Nat.le_of_ble_eq_true rfl) dX0_addStep_119 rfl (wX_put cI cZ cQ a _ (f := (upd (u 0) 4 ((u 0 4) + 1))) rfl) ?_
            refine g_iload (pc' := 124) (q := 0) C dX0_addStep_122 rfl rfl ?_
            exact g_iret C hr rfl ⟨by omega, by omega, by omega, rfl, rfl⟩ dX0_addStep_124
          · skip
            exact False.elim (by omega)
      · skip
        exact False.elim (by omega)
set_option maxHeartbeats 4000000 in
set_option maxRecDepth 100000 in
theorem c_X0_start {l : Launch} {D : va_G} {cI cZ cQ : ClassId} {a : Nat → Nat} (u : LU) (x : Int32) (hI : IX u) (hx : (0 ≤ x.toInt ∧ x.toInt < (u 0 12).toInt)) (hy : ∀ n : Nat, n < 24 → x = nI n → (rdX u n ∧ (0 ≤ (u 7 n).toInt ∧ (u 7 n).toInt < (u 0 4).toInt) ∧ ¬ buX u (u 1 (u 7 n).toNatClampNeg))) : KI l yX0_start wsX0_start ({ frames := 3, cells := 0, slots := 0, locals := 66 } : Room) D (tyX cI cZ cQ) (wX cI cZ cQ a) [.ref (a 0), .int x] u (fun (r : Int32) (u' : LU) => ∃ n : Nat, x = nI n ∧ (n : Int) < (u 0 12).toInt ∧ (rdX u n ∧ (0 ≤ (u 7 n).toInt ∧ (u 7 n).toInt < (u 0 4).toInt) ∧ ¬ buX u (u 1 (u 7 n).toNatClampNeg)) ∧ r = u 0 17 + u 2 (u 7 n).toNatClampNeg ∧ u' = saX u n) := by
  refine ent_I (own := RX0) (maxL := 3) (cc := cX0_start) (L0 := [(0, .ref (a 0)), (1, .int x)]) (by decide) rfl (wX_ok _ _ _ _) rfl (Nat.le_of_ble_eq_true rfl) rfl ?_
  intro p e s m args below meth c A C hr
  have FX : ∀ w ∈ wsX00, w.before args s = true := fun w h => C.2.2.2.2.1 w ((by decide +kernel : ∀ w ∈ wsX00, w ∈ wsX0_start) w h)
  obtain ⟨hS4, hL12, hW16, hZ9, hP16⟩ := id hI
  refine g_aload_n (pc' := 1) (q := 0) C dX0_start_0 rfl rfl rfl ?_
  refine g_iload_n (pc' := 2) (q := 1) C dX0_start_1 rfl rfl rfl ?_
  refine g_callvV (pc' := 5) (As := [.int x]) (st := []) (cells' := 0) (slots' := 0) C (c_X0_checkLot _ x (by omega)) gX0_start_X0_checkLot rfl (by decide +kernel) ⟨Nat.le_of_ble_eq_true rfl, Nat.le_of_ble_eq_true rfl⟩ 0 (by rfl) rfl (n := 1) rfl rfl (Nat.le_of_ble_eq_true rfl) dX0_start_2 rfl rfl rfl ⟨Nat.le_of_ble_eq_true rfl, Nat.le_of_ble_eq_true rfl⟩ (fun  u_1 h_2 => ?_)
  obtain ⟨qh_2, h_2⟩ := h_2
  refine g_st h_2 ?_
  obtain ⟨n, hn, rfl⟩ := nI_of_ti (n := 24) qh_2.1 (by omega) (by decide)
  have tn : (nI n).toInt = (n : Int) := nI_toInt (by omega)
  rw [tn] at qh_2
  refine g_aload_n (pc' := 6) (q := 0) C dX0_start_5 rfl rfl rfl ?_
  refine g_get (pc' := 9) (v := .ref (a 7)) C FX 0 (by rfl) rfl 6 (by decide) (by decide +kernel) rfl (by rfl) dX0_start_6 rfl ?_
  refine g_iload_n (pc' := 10) (q := 1) C dX0_start_9 rfl rfl rfl ?_
  refine g_iald (pc' := 11) (n := 24) (f := u 7) C 7 0 (by rfl) rfl (vp_in_nI (by omega) (by omega)) (k := n) (nI_clamp (by omega)) dX0_start_10 rfl ?_
  refine g_istore_n (pc' := 12) (L' := [(2, .int (u 7 n)), (0, .ref (a 0)), (1, .int (nI n))]) C dX0_start_11 rfl rfl (by decide) rfl ?_
  refine g_aload_n (pc' := 13) (q := 1) C dX0_start_12 rfl rfl rfl ?_
  refine g_iload_n (pc' := 14) (q := 2) C dX0_start_13 rfl rfl rfl ?_
  refine g_calliV (pc' := 17) (As := [.int (nI n)]) (st := []) (cells' := 0) (slots' := 0) C (c_X0_isReady _ n (by omega) (by omega)) gX0_start_X0_isReady rfl (by decide +kernel) ⟨Nat.le_of_ble_eq_true rfl, Nat.le_of_ble_eq_true rfl⟩ 0 (by rfl) rfl (n := 1) rfl rfl (Nat.le_of_ble_eq_true rfl) dX0_start_14 rfl rfl rfl ⟨Nat.le_of_ble_eq_true rfl, Nat.le_of_ble_eq_true rfl⟩ (fun r_3 u_3 h_4 => ?_)
  obtain ⟨rfl, h_4⟩ := h_4
  refine g_st h_4 ?_
  refine g_ifP_eq (tgt := 41) (pc' := 20) C dX0_start_17 rfl (by decide) (fun (c_5 : ¬ (rdX u n)) => ?_) (fun (c_5 : rdX u n) => ?_)
  · skip
    exact False.elim (by have q9 := hy n (by omega) rfl; simp_all)
  · skip
    refine g_aload_n (pc' := 21) (q := 1) C dX0_start_20 rfl rfl rfl ?_
    refine g_iload_n (pc' := 22) (q := 0) C dX0_start_21 rfl rfl rfl ?_
    refine g_calliV (pc' := 25) (As := [.int (u 7 n)]) (st := []) (cells' := 0) (slots' := 0) C (c_X0_isStep _ (u 7 n)) gX0_start_X0_isStep rfl (by decide +kernel) ⟨Nat.le_of_ble_eq_true rfl, Nat.le_of_ble_eq_true rfl⟩ 0 (by rfl) rfl (n := 1) rfl rfl (Nat.le_of_ble_eq_true rfl) dX0_start_22 rfl rfl rfl ⟨Nat.le_of_ble_eq_true rfl, Nat.le_of_ble_eq_true rfl⟩ (fun r_6 u_6 h_7 => ?_)
    obtain ⟨rfl, h_7⟩ := h_7
    refine g_st h_7 ?_
    refine g_ifP_eq (tgt := 41) (pc' := 28) C dX0_start_25 rfl (by decide) (fun (c_8 : ¬ (0 ≤ (u 7 n).toInt ∧ (u 7 n).toInt < (u 0 4).toInt)) => ?_) (fun (c_8 : 0 ≤ (u 7 n).toInt ∧ (u 7 n).toInt < (u 0 4).toInt) => ?_)
    · skip
      exact False.elim (by have q9 := hy n (by omega) rfl; simp_all)
    · skip
      refine g_aload_n (pc' := 29) (q := 1) C dX0_start_28 rfl rfl rfl ?_
      refine g_aload_n (pc' := 30) (q := 1) C dX0_start_29 rfl rfl rfl ?_
      refine g_get (pc' := 33) (v := .ref (a 1)) C FX 0 (by rfl) rfl 0 (by decide) (by decide +kernel) rfl (by rfl) dX0_start_30 rfl ?_
      refine g_iload_n (pc' := 34) (q := 0) C dX0_start_33 rfl rfl rfl ?_
      refine g_iald (pc' := 35) (n := 12) (f := u 1) C 2 0 (by rfl) rfl (vp_of (by omega) (by omega)) (k := (u 7 n).toNatClampNeg) rfl dX0_start_34 rfl ?_
      refine g_calliV (pc' := 38) (As := [.int (u 1 (u 7 n).toNatClampNeg)]) (st := []) (cells' := 0) (slots' := 0) C (c_X0_isBusy _ (u 1 (u 7 n).toNatClampNeg) (by omega) (by omega)) gX0_start_X0_isBusy rfl (by decide +kernel) ⟨Nat.le_of_ble_eq_true rfl, Nat.le_of_ble_eq_true rfl⟩ 0 (by rfl) rfl (n := 1) rfl rfl (Nat.le_of_ble_eq_true rfl) dX0_start_35 rfl rfl rfl ⟨Nat.le_of_ble_eq_true rfl, Nat.le_of_ble_eq_true rfl⟩ (fun r_9 u_9 h_10 => ?_)
      obtain ⟨rfl, h_10⟩ := h_10
      refine g_st h_10 ?_
      refine g_ifP_eq (tgt := 51) (pc' := 41) C dX0_start_38 rfl (by decide) (fun (c_11 : ¬ (buX u (u 1 (u 7 n).toNatClampNeg))) => ?_) (fun (c_11 : buX u (u 1 (u 7 n).toNatClampNeg)) => ?_)
      · skip
        refine g_aload_n (pc' := 52) (q := 1) C dX0_start_51 rfl rfl rfl ?_
        refine g_get (pc' := 55) (v := .ref (a 6)) C FX 0 (by rfl) rfl 5 (by decide) (by decide +kernel) rfl (by rfl) dX0_start_52 rfl ?_
        refine g_iload_n (pc' := 56) (q := 2) C dX0_start_55 rfl rfl rfl ?_
        refine g_iconst (pc' := 57) (v := 1) C dX0_start_56 rfl (by decide) ?_
        refine g_iast (pc' := 58) (n := 24) (f := u 6) C 6 0 (by rfl) rfl (vp_in_nI (by omega) (by omega)) (k := n) (nI_clamp (by omega)) dX0_start_57 rfl (wX_set cI cZ cQ a _ (k := 4) rfl) ?_
        refine g_aload_n (pc' := 59) (q := 1) C dX0_start_58 rfl rfl rfl ?_
        refine g_get (pc' := 62) (v := .ref (a 8)) C FX 0 (by rfl) rfl 7 (by decide) (by decide +kernel) rfl (by rfl) dX0_start_59 rfl ?_
        refine g_iload_n (pc' := 63) (q := 2) C dX0_start_62 rfl rfl rfl ?_
        refine g_aload_n (pc' := 64) (q := 1) C dX0_start_63 rfl rfl rfl ?_
        refine g_get (pc' := 67) (v := .int (u 0 17)) C FX 0 (by rfl) rfl 17 (by decide) (by decide +kernel) rfl (by rfl) dX0_start_64 rfl ?_
        refine g_aload_n (pc' := 68) (q := 1) C dX0_start_67 rfl rfl rfl ?_
        refine g_get (pc' := 71) (v := .ref (a 2)) C FX 0 (by rfl) rfl 1 (by decide) (by decide +kernel) rfl (by rfl) dX0_start_68 rfl ?_
        refine g_iload_n (pc' := 72) (q := 0) C dX0_start_71 rfl rfl rfl ?_
        refine g_iald (pc' := 73) (n := 12) (f := u 2) C 3 0 (by rfl) rfl (vp_of (by omega) (by omega)) (k := (u 7 n).toNatClampNeg) rfl dX0_start_72 rfl ?_
        refine g_iadd (pc' := 74) C dX0_start_73 rfl ?_
        refine g_iast (pc' := 75) (n := 24) (f := u 8) C 8 0 (by rfl) rfl (vp_in_nI (by omega) (by omega)) (k := n) (nI_clamp (by omega)) dX0_start_74 rfl (wX_set cI cZ cQ a _ (k := 6) rfl) ?_
        refine g_aload_n (pc' := 76) (q := 1) C dX0_start_75 rfl rfl rfl ?_
        refine g_get (pc' := 79) (v := .ref (a 8)) C FX 0 (by rfl) rfl 7 (by decide) (by decide +kernel) rfl (by rfl) dX0_start_76 rfl ?_
        refine g_iload_n (pc' := 80) (q := 2) C dX0_start_79 rfl rfl rfl ?_
        refine g_iald (pc' := 81) (n := 24) (f := (upd (u 8) n ((u 0 17) + (u 2 (u 7 n).toNatClampNeg)))) C 8 0 (by rfl) rfl (vp_in_nI (by omega) (by omega)) (k := n) (nI_clamp (by omega)) dX0_start_80 rfl ?_
        refine g_conv (show (upd (u 8) n ((u 0 17) + (u 2 (u 7 n).toNatClampNeg))) n = (u 0 17) + (u 2 (u 7 n).toNatClampNeg) from pk_us) ?_
        exact g_iret C hr rfl ⟨n, rfl, by omega, ⟨by assumption, by assumption, by assumption⟩, rfl, rfl⟩ dX0_start_81
      · skip
        exact False.elim (by have q9 := hy n (by omega) rfl; simp_all)
set_option maxHeartbeats 4000000 in
set_option maxRecDepth 100000 in
theorem c_X0_hold {l : Launch} {D : va_G} {cI cZ cQ : ClassId} {a : Nat → Nat} (u : LU) (x : Int32) (P9 : Prop) (hI : IX u) (hx : (0 ≤ x.toInt ∧ x.toInt < (u 0 12).toInt)) (hy : ∀ n : Nat, n < 24 → x = nI n → (¬ (u 6 n).toInt = 2 ∧ ¬ (u 6 n).toInt = 3)) : KI l yX0_hold wsX0_hold ({ frames := 2, cells := 0, slots := 0, locals := 42 } : Room) D (tyX cI cZ cQ) (wX cI cZ cQ a) [.ref (a 0), .int x, .int (bP P9)] u (fun (r : Int32) (u' : LU) => ∃ n : Nat, x = nI n ∧ (n : Int) < (u 0 12).toInt ∧ (¬ (u 6 n).toInt = 2 ∧ ¬ (u 6 n).toInt = 3) ∧ r = u 9 n ∧ u' = up u 9 (upd (u 9) n (bP P9))) := by
  refine ent_I (own := RX0) (maxL := 4) (cc := cX0_hold) (L0 := [(0, .ref (a 0)), (1, .int x), (2, .int (bP (P9)))]) (by decide) rfl (wX_ok _ _ _ _) rfl (Nat.le_of_ble_eq_true rfl) rfl ?_
  intro p e s m args below meth c A C hr
  have FX : ∀ w ∈ wsX00, w.before args s = true := fun w h => C.2.2.2.2.1 w ((by decide +kernel : ∀ w ∈ wsX00, w ∈ wsX0_hold) w h)
  obtain ⟨hS4, hL12, hW16, hZ9, hP16⟩ := id hI
  refine g_aload_n (pc' := 1) (q := 0) C dX0_hold_0 rfl rfl rfl ?_
  refine g_iload_n (pc' := 2) (q := 1) C dX0_hold_1 rfl rfl rfl ?_
  refine g_callvV (pc' := 5) (As := [.int x]) (st := []) (cells' := 0) (slots' := 0) C (c_X0_checkLot _ x (by omega)) gX0_hold_X0_checkLot rfl (by decide +kernel) ⟨Nat.le_of_ble_eq_true rfl, Nat.le_of_ble_eq_true rfl⟩ 0 (by rfl) rfl (n := 1) rfl rfl (Nat.le_of_ble_eq_true rfl) dX0_hold_2 rfl rfl rfl ⟨Nat.le_of_ble_eq_true rfl, Nat.le_of_ble_eq_true rfl⟩ (fun  u_1 h_2 => ?_)
  obtain ⟨qh_2, h_2⟩ := h_2
  refine g_st h_2 ?_
  obtain ⟨n, hn, rfl⟩ := nI_of_ti (n := 24) qh_2.1 (by omega) (by decide)
  have tn : (nI n).toInt = (n : Int) := nI_toInt (by omega)
  rw [tn] at qh_2
  refine g_aload_n (pc' := 6) (q := 0) C dX0_hold_5 rfl rfl rfl ?_
  refine g_get (pc' := 9) (v := .ref (a 6)) C FX 0 (by rfl) rfl 5 (by decide) (by decide +kernel) rfl (by rfl) dX0_hold_6 rfl ?_
  refine g_iload_n (pc' := 10) (q := 1) C dX0_hold_9 rfl rfl rfl ?_
  refine g_iald (pc' := 11) (n := 24) (f := u 6) C 6 0 (by rfl) rfl (vp_in_nI (by omega) (by omega)) (k := n) (nI_clamp (by omega)) dX0_hold_10 rfl ?_
  refine g_iconst (pc' := 12) (v := 2) C dX0_hold_11 rfl (by decide) ?_
  refine g_icmp_eq (tgt := 25) (pc' := 15) C dX0_hold_12 rfl (by decide) (fun (c_3 : (u 6 n).toInt = 2) => ?_) (fun (c_3 : ¬ ((u 6 n).toInt = 2)) => ?_)
  · skip
    exact False.elim (by have q9 := hy n (by omega) rfl; omega)
  · skip
    refine g_aload_n (pc' := 16) (q := 0) C dX0_hold_15 rfl rfl rfl ?_
    refine g_get (pc' := 19) (v := .ref (a 6)) C FX 0 (by rfl) rfl 5 (by decide) (by decide +kernel) rfl (by rfl) dX0_hold_16 rfl ?_
    refine g_iload_n (pc' := 20) (q := 1) C dX0_hold_19 rfl rfl rfl ?_
    refine g_iald (pc' := 21) (n := 24) (f := u 6) C 6 0 (by rfl) rfl (vp_in_nI (by omega) (by omega)) (k := n) (nI_clamp (by omega)) dX0_hold_20 rfl ?_
    refine g_iconst (pc' := 22) (v := 3) C dX0_hold_21 rfl (by decide) ?_
    refine g_icmp_ne (tgt := 35) (pc' := 25) C dX0_hold_22 rfl (by decide) (fun (c_4 : ¬ (u 6 n).toInt = 3) => ?_) (fun (c_4 : (u 6 n).toInt = 3) => ?_)
    · skip
      refine g_aload_n (pc' := 36) (q := 0) C dX0_hold_35 rfl rfl rfl ?_
      refine g_get (pc' := 39) (v := .ref (a 9)) C FX 0 (by rfl) rfl 8 (by decide) (by decide +kernel) rfl (by rfl) dX0_hold_36 rfl ?_
      refine g_iload_n (pc' := 40) (q := 1) C dX0_hold_39 rfl rfl rfl ?_
      refine g_zald (pc' := 41) (n := 24) (f := u 9) C 9 1 (by rfl) rfl (vp_in_nI (by omega) (by omega)) (k := n) (nI_clamp (by omega)) dX0_hold_40 rfl ?_
      refine g_istore_n (pc' := 42) (L' := [(3, .int (u 9 n)), (0, .ref (a 0)), (1, .int (nI n)), (2, .int (bP (P9)))]) C dX0_hold_41 rfl rfl (by decide) rfl ?_
      refine g_aload_n (pc' := 43) (q := 1) C dX0_hold_42 rfl rfl rfl ?_
      refine g_get (pc' := 46) (v := .ref (a 9)) C FX 0 (by rfl) rfl 8 (by decide) (by decide +kernel) rfl (by rfl) dX0_hold_43 rfl ?_
      refine g_iload_n (pc' := 47) (q := 2) C dX0_hold_46 rfl rfl rfl ?_
      refine g_iload_n (pc' := 48) (q := 3) C dX0_hold_47 rfl rfl rfl ?_
      refine g_zast (pc' := 49) (n := 24) (f := u 9) C 9 1 (by rfl) rfl (bP_vp _) (vp_in_nI (by omega) (by omega)) (k := n) (nI_clamp (by omega)) dX0_hold_48 rfl (wX_set cI cZ cQ a _ (k := 7) rfl) ?_
      refine g_iload_n (pc' := 50) (q := 0) C dX0_hold_49 rfl rfl rfl ?_
      exact g_iret C hr ((hZ9 n (by omega)).2) ⟨n, rfl, by omega, by omega, rfl, rfl⟩ dX0_hold_50
    · skip
      exact False.elim (by have q9 := hy n (by omega) rfl; omega)
end
section
set_option maxHeartbeats 4000000 in
set_option maxRecDepth 100000 in
theorem c_X0_enter {l : Launch} {D : va_G} {cI cZ cQ : ClassId} {a : Nat → Nat} (u : LU) (x : Int32) (hI : IX u) (hx : (1 ≤ x.toInt ∧ x.toInt ≤ 12)) (hy : (¬ (u 0 4).toInt = 0 ∧ (u 0 12).toInt < 24 ∧ (u 0 16).toInt + x.toInt ≤ 60)) : KI l yX0_enter wsX0_enter ({ frames := 2, cells := 0, slots := 0, locals := 45 } : Room) D (tyX cI cZ cQ) (wX cI cZ cQ a) [.ref (a 0), .int x] u (fun (r : Int32) (u' : LU) => (1 ≤ x.toInt ∧ x.toInt ≤ 12) ∧ (¬ (u 0 4).toInt = 0 ∧ (u 0 12).toInt < 24 ∧ (u 0 16).toInt + x.toInt ≤ 60) ∧ ∃ n w0 : Nat, n < 24 ∧ w0 < 60 ∧ u 0 12 = nI n ∧ u 0 16 = nI w0 ∧ r = nI n ∧ u' = enX (mkLX u n 0 (u 0 17) 0 0 (-1)) w0 n x.toInt.toNat) := by
  refine ent_I (own := RX0) (maxL := 4) (cc := cX0_enter) (L0 := [(0, .ref (a 0)), (1, .int x)]) (by decide) rfl (wX_ok _ _ _ _) rfl (Nat.le_of_ble_eq_true rfl) rfl ?_
  intro p e s m args below meth c A C hr
  have FX : ∀ w ∈ wsX00, w.before args s = true := fun w h => C.2.2.2.2.1 w ((by decide +kernel : ∀ w ∈ wsX00, w ∈ wsX0_enter) w h)
  obtain ⟨hS4, hL12, hW16, hZ9, hP16⟩ := id hI
  refine g_iload_n (pc' := 1) (q := 1) C dX0_enter_0 rfl rfl rfl ?_
  refine g_iconst (pc' := 2) (v := 1) C dX0_enter_1 rfl (by decide) ?_
  refine g_bipush (pc' := 4) (v := 12) C dX0_enter_2 rfl (by decide) ?_
  refine g_calliS (pc' := 7) (As := [.int x, .int 1, .int 12]) (st := []) (cells' := 0) (slots' := 0) C (c_X0_isWithin _ x 1 12) gX0_enter_X0_isWithin rfl (by decide +kernel) ⟨Nat.le_of_ble_eq_true rfl, Nat.le_of_ble_eq_true rfl⟩ (n := 3) rfl rfl (Nat.le_of_ble_eq_true rfl) dX0_enter_4 rfl rfl rfl ⟨Nat.le_of_ble_eq_true rfl, Nat.le_of_ble_eq_true rfl⟩ (fun r_1 u_1 h_2 => ?_)
  obtain ⟨rfl, h_2⟩ := h_2
  refine g_st h_2 ?_
  refine g_ifP_ne (tgt := 20) (pc' := 10) C dX0_enter_7 rfl (by decide) (fun (c_3 : 1 ≤ x.toInt ∧ x.toInt ≤ 12) => ?_) (fun (c_3 : ¬ (1 ≤ x.toInt ∧ x.toInt ≤ 12)) => ?_)
  · skip
    refine g_aload_n (pc' := 21) (q := 0) C dX0_enter_20 rfl rfl rfl ?_
    refine g_get (pc' := 24) (v := .int (u 0 4)) C FX 0 (by rfl) rfl 4 (by decide) (by decide +kernel) rfl (by rfl) dX0_enter_21 rfl ?_
    refine g_if_eq (tgt := 47) (pc' := 27) C dX0_enter_24 rfl (by decide) (fun (c_4 : (u 0 4).toInt = 0) => ?_) (fun (c_4 : ¬ ((u 0 4).toInt = 0)) => ?_)
    · skip
      exact False.elim (by omega)
    · skip
      refine g_aload_n (pc' := 28) (q := 0) C dX0_enter_27 rfl rfl rfl ?_
      refine g_get (pc' := 31) (v := .int (u 0 12)) C FX 0 (by rfl) rfl 12 (by decide) (by decide +kernel) rfl (by rfl) dX0_enter_28 rfl ?_
      refine g_bipush (pc' := 33) (v := 24) C dX0_enter_31 rfl (by decide) ?_
      refine g_icmp_ge (tgt := 47) (pc' := 36) C dX0_enter_33 rfl (by decide) (fun (c_5 : 24 ≤ (u 0 12).toInt) => ?_) (fun (c_5 : ¬ (24 ≤ (u 0 12).toInt)) => ?_)
      · skip
        exact False.elim (by omega)
      · skip
        refine g_aload_n (pc' := 37) (q := 0) C dX0_enter_36 rfl rfl rfl ?_
        refine g_get (pc' := 40) (v := .int (u 0 16)) C FX 0 (by rfl) rfl 16 (by decide) (by decide +kernel) rfl (by rfl) dX0_enter_37 rfl ?_
        refine g_iload_n (pc' := 41) (q := 1) C dX0_enter_40 rfl rfl rfl ?_
        refine g_iadd (pc' := 42) C dX0_enter_41 rfl ?_
        refine g_bipush (pc' := 44) (v := 60) C dX0_enter_42 rfl (by decide) ?_
        have t9 : (u 0 16 + x).toInt = (u 0 16).toInt + x.toInt := ti_add (by omega) (by omega)
        refine g_icmp_le (tgt := 57) (pc' := 47) C dX0_enter_44 rfl (by decide) (fun (c_6 : ((u 0 16) + x).toInt ≤ 60) => ?_) (fun (c_6 : ¬ (((u 0 16) + x).toInt ≤ 60)) => ?_)
        · skip
          obtain ⟨n, hn, hc⟩ := nI_of_ti (x := u 0 12) (n := 24) (by omega) (by omega) (by decide)
          obtain ⟨w0, hw0, hcw⟩ := nI_of_ti (x := u 0 16) (n := 60) (by omega) (by omega) (by decide)
          have tw : (u 0 16).toInt = (w0 : Int) := by rw [hcw]; exact nI_toInt (by omega)
          refine g_aload_n (pc' := 58) (q := 0) C dX0_enter_57 rfl rfl rfl ?_
          refine g_iconst (pc' := 59) (v := 0) C dX0_enter_58 rfl (by decide) ?_
          refine g_aload_n (pc' := 60) (q := 0) C dX0_enter_59 rfl rfl rfl ?_
          refine g_get (pc' := 63) (v := .int (u 0 17)) C FX 0 (by rfl) rfl 17 (by decide) (by decide +kernel) rfl (by rfl) dX0_enter_60 rfl ?_
          refine g_iconst (pc' := 64) (v := 0) C dX0_enter_63 rfl (by decide) ?_
          refine g_iconst (pc' := 65) (v := 0) C dX0_enter_64 rfl (by decide) ?_
          refine g_iconst (pc' := 66) (v := (-1)) C dX0_enter_65 rfl (by decide) ?_
          refine g_calliV (pc' := 69) (As := [.int 0, .int (u 0 17), .int 0, .int 0, .int ((-1))]) (st := []) (cells' := 0) (slots' := 0) C (c_X0_makeLot _ n 0 (u 0 17) 0 0 ((-1)) (by omega) (by assumption) (by decide)) gX0_enter_X0_makeLot rfl (by decide +kernel) ⟨Nat.le_of_ble_eq_true rfl, Nat.le_of_ble_eq_true rfl⟩ 0 (by rfl) rfl (n := 5) rfl rfl (Nat.le_of_ble_eq_true rfl) dX0_enter_66 rfl rfl rfl ⟨Nat.le_of_ble_eq_true rfl, Nat.le_of_ble_eq_true rfl⟩ (fun r_7 u_7 h_8 => ?_)
          obtain ⟨rfl, h_8⟩ := h_8
          refine g_istore_n (pc' := 70) (L' := [(2, .int (nI n)), (0, .ref (a 0)), (1, .int x)]) C dX0_enter_69 rfl rfl (by decide) rfl ?_
          refine g_iconst (pc' := 71) (v := 0) C dX0_enter_70 rfl (by decide) ?_
          refine g_istore_n (pc' := 72) (L' := [(3, .int 0), (2, .int (nI n)), (0, .ref (a 0)), (1, .int x)]) C dX0_enter_71 rfl rfl (by decide) rfl ?_
          have loop_72 : ∀ (k : Nat) (i : Nat) (v : LU), (i : Int) ≤ x.toInt → x.toInt + 1 ≤ i + k → v = enX u_7 w0 n i → v 0 16 = nI (w0 + i) → G p l e ({ frames := 2, cells := 0, slots := 0, locals := 45 } : Room) s m args below meth c D A 4 (wX cI cZ cQ a) 0 0 (MQ below (va_Qi (fun (r : Int32) (u' : LU) => (1 ≤ x.toInt ∧ x.toInt ≤ 12) ∧ (¬ (u 0 4).toInt = 0 ∧ (u 0 12).toInt < 24 ∧ (u 0 16).toInt + x.toInt ≤ 60) ∧ ∃ n w0 : Nat, n < 24 ∧ w0 < 60 ∧ u 0 12 = nI n ∧ u 0 16 = nI w0 ∧ r = nI n ∧ u' = enX (mkLX u n 0 (u 0 17) 0 0 (-1)) w0 n x.toInt.toNat) (KE D (tyX cI cZ cQ) (wX cI cZ cQ a)) A) args s 0 0 A) v 72 [(0, .ref (a 0)), (1, .int x), (2, .int (nI n)), (3, .int (nI i))] [] := by
            intro k
            induction k with
            | zero =>
              intro i v hi hk hv h16
              omega
            | succ k ih =>
              intro i v hi hk hv h16
              refine g_iload_n (pc' := 73) (q := 3) C dX0_enter_72 rfl rfl rfl ?_
              refine g_iload_n (pc' := 74) (q := 1) C dX0_enter_73 rfl rfl rfl ?_
              have t_9 : (nI i).toInt = ((i : Nat) : Int) := nI_toInt (by omega)
              refine g_icmp_ge (tgt := 88) (pc' := 77) C dX0_enter_74 rfl (by decide) (fun (c_10 : (x).toInt ≤ (nI i).toInt) => ?_) (fun (c_10 : ¬ ((x).toInt ≤ (nI i).toInt)) => ?_)
              · skip
                refine g_iload_n (pc' := 89) (q := 2) C dX0_enter_88 rfl rfl rfl ?_
                exact g_iret C hr rfl ⟨by omega, by omega, n, w0, hn, hw0, hc, hcw, rfl, by rw [hv, h_8, show x.toInt.toNat = i by omega]⟩ dX0_enter_89
              · skip
                refine g_aload_n (pc' := 78) (q := 0) C dX0_enter_77 rfl rfl rfl ?_
                refine g_iload_n (pc' := 79) (q := 2) C dX0_enter_78 rfl rfl rfl ?_
                refine g_callvV (pc' := 82) (As := [.int (nI n)]) (st := []) (cells' := 0) (slots' := 0) C (c_X0_makeWafer _ (w0 + i) n (by omega) (by omega) (by assumption)) gX0_enter_X0_makeWafer rfl (by decide +kernel) ⟨Nat.le_of_ble_eq_true rfl, Nat.le_of_ble_eq_true rfl⟩ 0 (by rfl) rfl (n := 1) rfl rfl (Nat.le_of_ble_eq_true rfl) dX0_enter_79 rfl rfl rfl ⟨Nat.le_of_ble_eq_true rfl, Nat.le_of_ble_eq_true rfl⟩ (fun  u_11 h_12 => ?_)
                refine g_iinc (pc' := 85) (v := nI (i + 1)) (L' := [(3, .int (nI (i + 1))), (0, .ref (a 0)), (1, .int x), (2, .int (nI n))]) C dX0_enter_82 rfl (k := 3) rfl (nI_1 _) (by decide) rfl ?_
                refine g_goto (tgt := 72) C dX0_enter_85 (by decide) ?_
                refine g_sub (L' := [(0, .ref (a 0)), (1, .int x), (2, .int (nI n)), (3, .int (nI (i + 1)))]) [1, 2, 3, 0] rfl ?_
                exact ih (i + 1) u_11 (by omega) (by omega) (by rw [h_12, hv]; rfl) (by rw [h_12]; exact mwX_16 _ _ _)
          refine g_sub (L' := [(0, .ref (a 0)), (1, .int x), (2, .int (nI n)), (3, .int (nI 0))]) [2, 3, 1, 0] rfl ?_
          exact loop_72 13 0 u_7 (by omega) (by omega) rfl (by rw [h_8]; exact hcw)
        · skip
          exact False.elim (by omega)
  · skip
    exact False.elim (by omega)
set_option maxHeartbeats 4000000 in
set_option maxRecDepth 100000 in
theorem c_X0_split {l : Launch} {D : va_G} {cI cZ cQ : ClassId} {a : Nat → Nat} (u : LU) (x y : Int32) (hI : IX u) (hx : (0 ≤ x.toInt ∧ x.toInt < (u 0 12).toInt)) (hy : ∀ n : Nat, n < 24 → x = nI n → (1 ≤ y.toInt ∧ y.toInt ≤ (u 12 n - 1).toInt) ∧ ((u 6 n).toInt = 0 ∧ (u 0 12).toInt < 24)) : KI l yX0_split wsX0_split ({ frames := 2, cells := 0, slots := 0, locals := 48 } : Room) D (tyX cI cZ cQ) (wX cI cZ cQ a) [.ref (a 0), .int x, .int y] u (fun (r : Int32) (u' : LU) => ∃ n k : Nat, x = nI n ∧ (n : Int) < (u 0 12).toInt ∧ (1 ≤ y.toInt ∧ y.toInt ≤ (u 12 n - 1).toInt) ∧ ((u 6 n).toInt = 0 ∧ (u 0 12).toInt < 24) ∧ k < 24 ∧ u 0 12 = nI k ∧ r = nI k ∧ u' = spX u n k y) := by
  refine ent_I (own := RX0) (maxL := 4) (cc := cX0_split) (L0 := [(0, .ref (a 0)), (1, .int x), (2, .int y)]) (by decide) rfl (wX_ok _ _ _ _) rfl (Nat.le_of_ble_eq_true rfl) rfl ?_
  intro p e s m args below meth c A C hr
  have FX : ∀ w ∈ wsX00, w.before args s = true := fun w h => C.2.2.2.2.1 w ((by decide +kernel : ∀ w ∈ wsX00, w ∈ wsX0_split) w h)
  obtain ⟨hS4, hL12, hW16, hZ9, hP16⟩ := id hI
  refine g_aload_n (pc' := 1) (q := 0) C dX0_split_0 rfl rfl rfl ?_
  refine g_iload_n (pc' := 2) (q := 1) C dX0_split_1 rfl rfl rfl ?_
  refine g_callvV (pc' := 5) (As := [.int x]) (st := []) (cells' := 0) (slots' := 0) C (c_X0_checkLot _ x (by omega)) gX0_split_X0_checkLot rfl (by decide +kernel) ⟨Nat.le_of_ble_eq_true rfl, Nat.le_of_ble_eq_true rfl⟩ 0 (by rfl) rfl (n := 1) rfl rfl (Nat.le_of_ble_eq_true rfl) dX0_split_2 rfl rfl rfl ⟨Nat.le_of_ble_eq_true rfl, Nat.le_of_ble_eq_true rfl⟩ (fun  u_1 h_2 => ?_)
  obtain ⟨qh_2, h_2⟩ := h_2
  refine g_st h_2 ?_
  obtain ⟨n, hn, rfl⟩ := nI_of_ti (n := 24) qh_2.1 (by omega) (by decide)
  have tn : (nI n).toInt = (n : Int) := nI_toInt (by omega)
  rw [tn] at qh_2
  refine g_iload_n (pc' := 6) (q := 2) C dX0_split_5 rfl rfl rfl ?_
  refine g_iconst (pc' := 7) (v := 1) C dX0_split_6 rfl (by decide) ?_
  refine g_aload_n (pc' := 8) (q := 0) C dX0_split_7 rfl rfl rfl ?_
  refine g_get (pc' := 11) (v := .ref (a 12)) C FX 0 (by rfl) rfl 11 (by decide) (by decide +kernel) rfl (by rfl) dX0_split_8 rfl ?_
  refine g_iload_n (pc' := 12) (q := 1) C dX0_split_11 rfl rfl rfl ?_
  refine g_iald (pc' := 13) (n := 24) (f := u 12) C 12 0 (by rfl) rfl (vp_in_nI (by omega) (by omega)) (k := n) (nI_clamp (by omega)) dX0_split_12 rfl ?_
  refine g_iconst (pc' := 14) (v := 1) C dX0_split_13 rfl (by decide) ?_
  refine g_isub (pc' := 15) C dX0_split_14 rfl ?_
  refine g_calliS (pc' := 18) (As := [.int y, .int 1, .int ((u 12 n) - 1)]) (st := []) (cells' := 0) (slots' := 0) C (c_X0_isWithin _ y 1 ((u 12 n) - 1)) gX0_split_X0_isWithin rfl (by decide +kernel) ⟨Nat.le_of_ble_eq_true rfl, Nat.le_of_ble_eq_true rfl⟩ (n := 3) rfl rfl (Nat.le_of_ble_eq_true rfl) dX0_split_15 rfl rfl rfl ⟨Nat.le_of_ble_eq_true rfl, Nat.le_of_ble_eq_true rfl⟩ (fun r_3 u_3 h_4 => ?_)
  obtain ⟨rfl, h_4⟩ := h_4
  refine g_st h_4 ?_
  refine g_ifP_ne (tgt := 31) (pc' := 21) C dX0_split_18 rfl (by decide) (fun (c_5 : 1 ≤ y.toInt ∧ y.toInt ≤ ((u 12 n) - 1).toInt) => ?_) (fun (c_5 : ¬ (1 ≤ y.toInt ∧ y.toInt ≤ ((u 12 n) - 1).toInt)) => ?_)
  · skip
    refine g_aload_n (pc' := 32) (q := 0) C dX0_split_31 rfl rfl rfl ?_
    refine g_get (pc' := 35) (v := .ref (a 6)) C FX 0 (by rfl) rfl 5 (by decide) (by decide +kernel) rfl (by rfl) dX0_split_32 rfl ?_
    refine g_iload_n (pc' := 36) (q := 1) C dX0_split_35 rfl rfl rfl ?_
    refine g_iald (pc' := 37) (n := 24) (f := u 6) C 6 0 (by rfl) rfl (vp_in_nI (by omega) (by omega)) (k := n) (nI_clamp (by omega)) dX0_split_36 rfl ?_
    refine g_if_ne (tgt := 49) (pc' := 40) C dX0_split_37 rfl (by decide) (fun (c_6 : ¬ (u 6 n).toInt = 0) => ?_) (fun (c_6 : (u 6 n).toInt = 0) => ?_)
    · skip
      exact False.elim (by have q9 := hy n (by omega) rfl; omega)
    · skip
      refine g_aload_n (pc' := 41) (q := 0) C dX0_split_40 rfl rfl rfl ?_
      refine g_get (pc' := 44) (v := .int (u 0 12)) C FX 0 (by rfl) rfl 12 (by decide) (by decide +kernel) rfl (by rfl) dX0_split_41 rfl ?_
      refine g_bipush (pc' := 46) (v := 24) C dX0_split_44 rfl (by decide) ?_
      refine g_icmp_lt (tgt := 59) (pc' := 49) C dX0_split_46 rfl (by decide) (fun (c_7 : (u 0 12).toInt < 24) => ?_) (fun (c_7 : ¬ ((u 0 12).toInt < 24)) => ?_)
      · skip
        obtain ⟨k, hk, hc⟩ := nI_of_ti (x := u 0 12) (n := 24) (by omega) (by omega) (by decide)
        refine g_aload_n (pc' := 60) (q := 0) C dX0_split_59 rfl rfl rfl ?_
        refine g_aload_n (pc' := 61) (q := 0) C dX0_split_60 rfl rfl rfl ?_
        refine g_get (pc' := 64) (v := .ref (a 7)) C FX 0 (by rfl) rfl 6 (by decide) (by decide +kernel) rfl (by rfl) dX0_split_61 rfl ?_
        refine g_iload_n (pc' := 65) (q := 1) C dX0_split_64 rfl rfl rfl ?_
        refine g_iald (pc' := 66) (n := 24) (f := u 7) C 7 0 (by rfl) rfl (vp_in_nI (by omega) (by omega)) (k := n) (nI_clamp (by omega)) dX0_split_65 rfl ?_
        refine g_aload_n (pc' := 67) (q := 0) C dX0_split_66 rfl rfl rfl ?_
        refine g_get (pc' := 70) (v := .ref (a 8)) C FX 0 (by rfl) rfl 7 (by decide) (by decide +kernel) rfl (by rfl) dX0_split_67 rfl ?_
        refine g_iload_n (pc' := 71) (q := 1) C dX0_split_70 rfl rfl rfl ?_
        refine g_iald (pc' := 72) (n := 24) (f := u 8) C 8 0 (by rfl) rfl (vp_in_nI (by omega) (by omega)) (k := n) (nI_clamp (by omega)) dX0_split_71 rfl ?_
        refine g_aload_n (pc' := 73) (q := 0) C dX0_split_72 rfl rfl rfl ?_
        refine g_get (pc' := 76) (v := .ref (a 9)) C FX 0 (by rfl) rfl 8 (by decide) (by decide +kernel) rfl (by rfl) dX0_split_73 rfl ?_
        refine g_iload_n (pc' := 77) (q := 1) C dX0_split_76 rfl rfl rfl ?_
        refine g_zald (pc' := 78) (n := 24) (f := u 9) C 9 1 (by rfl) rfl (vp_in_nI (by omega) (by omega)) (k := n) (nI_clamp (by omega)) dX0_split_77 rfl ?_
        refine g_aload_n (pc' := 79) (q := 0) C dX0_split_78 rfl rfl rfl ?_
        refine g_get (pc' := 82) (v := .ref (a 10)) C FX 0 (by rfl) rfl 9 (by decide) (by decide +kernel) rfl (by rfl) dX0_split_79 rfl ?_
        refine g_iload_n (pc' := 83) (q := 1) C dX0_split_82 rfl rfl rfl ?_
        refine g_iald (pc' := 84) (n := 24) (f := u 10) C 10 0 (by rfl) rfl (vp_in_nI (by omega) (by omega)) (k := n) (nI_clamp (by omega)) dX0_split_83 rfl ?_
        refine g_iload_n (pc' := 85) (q := 1) C dX0_split_84 rfl rfl rfl ?_
        refine g_calliV (pc' := 88) (As := [.int (u 7 n), .int (u 8 n), .int (u 9 n), .int (u 10 n), .int (nI n)]) (st := []) (cells' := 0) (slots' := 0) C (c_X0_makeLot _ k (u 7 n) (u 8 n) (u 9 n) (u 10 n) (nI n) (by omega) (by assumption) ((hZ9 n (by omega)).1)) gX0_split_X0_makeLot rfl (by decide +kernel) ⟨Nat.le_of_ble_eq_true rfl, Nat.le_of_ble_eq_true rfl⟩ 0 (by rfl) rfl (n := 5) rfl rfl (Nat.le_of_ble_eq_true rfl) dX0_split_85 rfl rfl rfl ⟨Nat.le_of_ble_eq_true rfl, Nat.le_of_ble_eq_true rfl⟩ (fun r_8 u_8 h_9 => ?_)
        obtain ⟨rfl, h_9⟩ := h_9
        refine g_istore_n (pc' := 89) (L' := [(3, .int (nI k)), (0, .ref (a 0)), (1, .int (nI n)), (2, .int y)]) C dX0_split_88 rfl rfl (by decide) rfl ?_
        refine g_aload_n (pc' := 90) (q := 1) C dX0_split_89 rfl rfl rfl ?_
        refine g_iload_n (pc' := 91) (q := 2) C dX0_split_90 rfl rfl rfl ?_
        refine g_iload_n (pc' := 92) (q := 0) C dX0_split_91 rfl rfl rfl ?_
        refine g_iload_n (pc' := 93) (q := 3) C dX0_split_92 rfl rfl rfl ?_
        refine g_callvV (pc' := 96) (As := [.int (nI n), .int (nI k), .int y]) (st := []) (cells' := 0) (slots' := 0) C (c_X0_moveWafers _ n k y (by omega) (by omega) (by rw [h_9]; exact hW16) (by rw [h_9]; exact hP16)) gX0_split_X0_moveWafers rfl (by decide +kernel) ⟨Nat.le_of_ble_eq_true rfl, Nat.le_of_ble_eq_true rfl⟩ 0 (by rfl) rfl (n := 3) rfl rfl (Nat.le_of_ble_eq_true rfl) dX0_split_93 rfl rfl rfl ⟨Nat.le_of_ble_eq_true rfl, Nat.le_of_ble_eq_true rfl⟩ (fun  u_10 h_11 => ?_)
        refine g_iload_n (pc' := 97) (q := 0) C dX0_split_96 rfl rfl rfl ?_
        exact g_iret C hr rfl ⟨n, k, rfl, by omega, by omega, by omega, hk, hc, rfl, by rw [h_11, h_9]; rfl⟩ dX0_split_97
      · skip
        exact False.elim (by have q9 := hy n (by omega) rfl; omega)
  · skip
    exact False.elim (by have q9 := hy n (by omega) rfl; omega)
set_option maxHeartbeats 4000000 in
set_option maxRecDepth 100000 in
theorem c_X0_scrap {l : Launch} {D : va_G} {cI cZ cQ : ClassId} {a : Nat → Nat} (u : LU) (x : Int32) (hI : IX u) (hx : (0 ≤ x.toInt ∧ x.toInt < (u 0 16).toInt)) (hy : ∀ w : Nat, w < 60 → x = nI w → (∃ k : Nat, u 14 w = nI k ∧ (k : Int) < (u 0 12).toInt ∧ (u 6 k).toInt = 0)) : KI l yX0_scrap wsX0_scrap ({ frames := 1, cells := 0, slots := 0, locals := 22 } : Room) D (tyX cI cZ cQ) (wX cI cZ cQ a) [.ref (a 0), .int x] u (fun (r : Int32) (u' : LU) => ∃ w k : Nat, x = nI w ∧ (w : Int) < (u 0 16).toInt ∧ u 14 w = nI k ∧ (k : Int) < (u 0 12).toInt ∧ (u 6 k).toInt = 0 ∧ r = u 12 k - 1 ∧ u' = scX u w k) := by
  refine ent_I (own := RX0) (maxL := 3) (cc := cX0_scrap) (L0 := [(0, .ref (a 0)), (1, .int x)]) (by decide) rfl (wX_ok _ _ _ _) rfl (Nat.le_of_ble_eq_true rfl) rfl ?_
  intro p e s m args below meth c A C hr
  have FX : ∀ w ∈ wsX00, w.before args s = true := fun w h => C.2.2.2.2.1 w ((by decide +kernel : ∀ w ∈ wsX00, w ∈ wsX0_scrap) w h)
  obtain ⟨hS4, hL12, hW16, hZ9, hP16⟩ := id hI
  refine g_aload_n (pc' := 1) (q := 0) C dX0_scrap_0 rfl rfl rfl ?_
  refine g_iload_n (pc' := 2) (q := 1) C dX0_scrap_1 rfl rfl rfl ?_
  refine g_callvV (pc' := 5) (As := [.int x]) (st := []) (cells' := 0) (slots' := 0) C (c_X0_checkWafer _ x (by omega)) gX0_scrap_X0_checkWafer rfl (by decide +kernel) ⟨Nat.le_of_ble_eq_true rfl, Nat.le_of_ble_eq_true rfl⟩ 0 (by rfl) rfl (n := 1) rfl rfl (Nat.le_of_ble_eq_true rfl) dX0_scrap_2 rfl rfl rfl ⟨Nat.le_of_ble_eq_true rfl, Nat.le_of_ble_eq_true rfl⟩ (fun  u_1 h_2 => ?_)
  obtain ⟨qh_2, h_2⟩ := h_2
  refine g_st h_2 ?_
  obtain ⟨w, hw, rfl⟩ := nI_of_ti (n := 60) qh_2.1 (by omega) (by decide)
  have tw : (nI w).toInt = (w : Int) := nI_toInt (by omega)
  rw [tw] at qh_2
  refine g_aload_n (pc' := 6) (q := 0) C dX0_scrap_5 rfl rfl rfl ?_
  refine g_get (pc' := 9) (v := .ref (a 14)) C FX 0 (by rfl) rfl 13 (by decide) (by decide +kernel) rfl (by rfl) dX0_scrap_6 rfl ?_
  refine g_iload_n (pc' := 10) (q := 1) C dX0_scrap_9 rfl rfl rfl ?_
  refine g_iald (pc' := 11) (n := 60) (f := u 14) C 13 0 (by rfl) rfl (vp_in_nI (by omega) (by omega)) (k := w) (nI_clamp (by omega)) dX0_scrap_10 rfl ?_
  refine g_istore_n (pc' := 12) (L' := [(2, .int (u 14 w)), (0, .ref (a 0)), (1, .int (nI w))]) C dX0_scrap_11 rfl rfl (by decide) rfl ?_
  refine g_aload_n (pc' := 13) (q := 1) C dX0_scrap_12 rfl rfl rfl ?_
  refine g_iload_n (pc' := 14) (q := 0) C dX0_scrap_13 rfl rfl rfl ?_
  refine g_calliV (pc' := 17) (As := [.int (u 14 w)]) (st := []) (cells' := 0) (slots' := 0) C (c_X0_isLot _ (u 14 w)) gX0_scrap_X0_isLot rfl (by decide +kernel) ⟨Nat.le_of_ble_eq_true rfl, Nat.le_of_ble_eq_true rfl⟩ 0 (by rfl) rfl (n := 1) rfl rfl (Nat.le_of_ble_eq_true rfl) dX0_scrap_14 rfl rfl rfl ⟨Nat.le_of_ble_eq_true rfl, Nat.le_of_ble_eq_true rfl⟩ (fun r_3 u_3 h_4 => ?_)
  obtain ⟨rfl, h_4⟩ := h_4
  refine g_st h_4 ?_
  refine g_ifP_eq (tgt := 29) (pc' := 20) C dX0_scrap_17 rfl (by decide) (fun (c_5 : ¬ (0 ≤ (u 14 w).toInt ∧ (u 14 w).toInt < (u 0 12).toInt)) => ?_) (fun (c_5 : 0 ≤ (u 14 w).toInt ∧ (u 14 w).toInt < (u 0 12).toInt) => ?_)
  · skip
    exact False.elim (scX_no (by first | exact Or.inl (by omega) | exact Or.inr ⟨k, hkk, hk, by omega⟩) (hy w (by omega) rfl))
  · skip
    obtain ⟨k, hk, hkk⟩ := nI_of_ti (x := u 14 w) (n := 24) (by omega) (by omega) (by decide)
    have tk : (u 14 w).toInt = (k : Int) := by rw [hkk]; exact nI_toInt (by omega)
    refine g_sub (L' := [(2, .int (nI k)), (0, .ref (a 0)), (1, .int (nI w))]) [0, 1, 2] (by rw [← hkk]; rfl) ?_
    refine g_aload_n (pc' := 21) (q := 1) C dX0_scrap_20 rfl rfl rfl ?_
    refine g_get (pc' := 24) (v := .ref (a 6)) C FX 0 (by rfl) rfl 5 (by decide) (by decide +kernel) rfl (by rfl) dX0_scrap_21 rfl ?_
    refine g_iload_n (pc' := 25) (q := 0) C dX0_scrap_24 rfl rfl rfl ?_
    refine g_iald (pc' := 26) (n := 24) (f := u 6) C 6 0 (by rfl) rfl (vp_in_nI (by omega) (by omega)) (k := k) (nI_clamp (by omega)) dX0_scrap_25 rfl ?_
    refine g_if_eq (tgt := 39) (pc' := 29) C dX0_scrap_26 rfl (by decide) (fun (c_6 : (u 6 k).toInt = 0) => ?_) (fun (c_6 : ¬ ((u 6 k).toInt = 0)) => ?_)
    · skip
      refine g_aload_n (pc' := 40) (q := 1) C dX0_scrap_39 rfl rfl rfl ?_
      refine g_get (pc' := 43) (v := .ref (a 14)) C FX 0 (by rfl) rfl 13 (by decide) (by decide +kernel) rfl (by rfl) dX0_scrap_40 rfl ?_
      refine g_iload_n (pc' := 44) (q := 2) C dX0_scrap_43 rfl rfl rfl ?_
      refine g_iconst (pc' := 45) (v := (-1)) C dX0_scrap_44 rfl (by decide) ?_
      refine g_iast (pc' := 46) (n := 60) (f := u 14) C 13 0 (by rfl) rfl (vp_in_nI (by omega) (by omega)) (k := w) (nI_clamp (by omega)) dX0_scrap_45 rfl (wX_set cI cZ cQ a _ (k := 11) rfl) ?_
      refine g_aload_n (pc' := 47) (q := 1) C dX0_scrap_46 rfl rfl rfl ?_
      refine g_get (pc' := 50) (v := .ref (a 12)) C FX 0 (by rfl) rfl 11 (by decide) (by decide +kernel) rfl (by rfl) dX0_scrap_47 rfl ?_
      refine g_iload_n (pc' := 51) (q := 0) C dX0_scrap_50 rfl rfl rfl ?_
      refine g_dup2 (pc' := 52) C dX0_scrap_51 rfl rfl rfl ?_
      refine g_iald (pc' := 53) (n := 24) (f := u 12) C 12 0 (by rfl) rfl (vp_in_nI (by omega) (by omega)) (k := k) (nI_clamp (by omega)) dX0_scrap_52 rfl ?_
      refine g_iconst (pc' := 54) (v := 1) C dX0_scrap_53 rfl (by decide) ?_
      refine g_isub (pc' := 55) C dX0_scrap_54 rfl ?_
      refine g_iast (pc' := 56) (n := 24) (f := u 12) C 12 0 (by rfl) rfl (vp_in_nI (by omega) (by omega)) (k := k) (nI_clamp (by omega)) dX0_scrap_55 rfl (wX_set cI cZ cQ a _ (k := 10) rfl) ?_
      refine g_aload_n (pc' := 57) (q := 1) C dX0_scrap_56 rfl rfl rfl ?_
      refine g_get (pc' := 60) (v := .ref (a 12)) C FX 0 (by rfl) rfl 11 (by decide) (by decide +kernel) rfl (by rfl) dX0_scrap_57 rfl ?_
      refine g_iload_n (pc' := 61) (q := 0) C dX0_scrap_60 rfl rfl rfl ?_
      refine g_iald (pc' := 62) (n := 24) (f := (upd (u 12) k ((u 12 k) - 1))) C 12 0 (by rfl) rfl (vp_in_nI (by omega) (by omega)) (k := k) (nI_clamp (by omega)) dX0_scrap_61 rfl ?_
      refine g_conv (show (upd (u 12) k ((u 12 k) - 1)) k = (u 12 k) - 1 from pk_us) ?_
      refine g_if_ne (tgt := 71) (pc' := 65) C dX0_scrap_62 rfl (by decide) (fun (c_7 : ¬ ((u 12 k) - 1).toInt = 0) => ?_) (fun (c_7 : ((u 12 k) - 1).toInt = 0) => ?_)
      · skip
        refine g_aload_n (pc' := 72) (q := 1) C dX0_scrap_71 rfl rfl rfl ?_
        refine g_get (pc' := 75) (v := .ref (a 12)) C FX 0 (by rfl) rfl 11 (by decide) (by decide +kernel) rfl (by rfl) dX0_scrap_72 rfl ?_
        refine g_iload_n (pc' := 76) (q := 0) C dX0_scrap_75 rfl rfl rfl ?_
        refine g_iald (pc' := 77) (n := 24) (f := (upd (u 12) k ((u 12 k) - 1))) C 12 0 (by rfl) rfl (vp_in_nI (by omega) (by omega)) (k := k) (nI_clamp (by omega)) dX0_scrap_76 rfl ?_
        refine g_conv (show (upd (u 12) k ((u 12 k) - 1)) k = (u 12 k) - 1 from pk_us) ?_
        exact g_iret C hr rfl ⟨w, k, rfl, by omega, hkk, by omega, by omega, rfl, by unfold scX; rw [if_neg (by assumption)]; rfl⟩ dX0_scrap_77
      · skip
        refine g_aload_n (pc' := 66) (q := 1) C dX0_scrap_65 rfl rfl rfl ?_
        refine g_iload_n (pc' := 67) (q := 0) C dX0_scrap_66 rfl rfl rfl ?_
        refine g_iconst (pc' := 68) (v := 3) C dX0_scrap_67 rfl (by decide) ?_
        refine g_callvV (pc' := 71) (As := [.int (nI k), .int 3]) (st := []) (cells' := 0) (slots' := 0) C (c_X0_leaveRoute _ k 3 (by omega)) gX0_scrap_X0_leaveRoute rfl (by decide +kernel) ⟨Nat.le_of_ble_eq_true rfl, Nat.le_of_ble_eq_true rfl⟩ 0 (by rfl) rfl (n := 2) rfl rfl (Nat.le_of_ble_eq_true rfl) dX0_scrap_68 rfl rfl rfl ⟨Nat.le_of_ble_eq_true rfl, Nat.le_of_ble_eq_true rfl⟩ (fun  u_8 h_9 => ?_)
        refine g_aload_n (pc' := 72) (q := 1) C dX0_scrap_71 rfl rfl rfl ?_
        refine g_get (pc' := 75) (v := .ref (a 12)) C FX 0 (by rfl) rfl 11 (by decide) (by decide +kernel) rfl (by rfl) dX0_scrap_72 rfl ?_
        refine g_iload_n (pc' := 76) (q := 0) C dX0_scrap_75 rfl rfl rfl ?_
        refine g_iald (pc' := 77) (n := 24) (f := u_8 12) C 12 0 (by rfl) rfl (vp_in_nI (by omega) (by omega)) (k := k) (nI_clamp (by omega)) dX0_scrap_76 rfl ?_
        exact g_iret C hr rfl ⟨w, k, rfl, by omega, hkk, by omega, by omega, by rw [h_9]; exact pk_us, by rw [h_9]; unfold scX; rw [if_pos (by assumption)]; rfl⟩ dX0_scrap_77
    · skip
      exact False.elim (scX_no (by first | exact Or.inl (by omega) | exact Or.inr ⟨k, hkk, hk, by omega⟩) (hy w (by omega) rfl))
set_option maxHeartbeats 4000000 in
set_option maxRecDepth 100000 in
theorem c_X0_advance {l : Launch} {D : va_G} {cI cZ cQ : ClassId} {a : Nat → Nat} (u : LU) (x : Int32) (hI : IX u) (hx : (1 ≤ x.toInt ∧ x.toInt ≤ 10000)) : KI l yX0_advance wsX0_advance ({ frames := 2, cells := 0, slots := 0, locals := 44 } : Room) D (tyX cI cZ cQ) (wX cI cZ cQ a) [.ref (a 0), .int x] u (fun (r : Int32) (u' : LU) => (1 ≤ x.toInt ∧ x.toInt ≤ 10000) ∧ r = nI (avX (up u 0 (upd (u 0) 17 (u 0 17 + x))) (u 0 12).toInt.toNat).2 ∧ u' = (avX (up u 0 (upd (u 0) 17 (u 0 17 + x))) (u 0 12).toInt.toNat).1) := by
  refine ent_I (own := RX0) (maxL := 4) (cc := cX0_advance) (L0 := [(0, .ref (a 0)), (1, .int x)]) (by decide) rfl (wX_ok _ _ _ _) rfl (Nat.le_of_ble_eq_true rfl) rfl ?_
  intro p e s m args below meth c A C hr
  have FX : ∀ w ∈ wsX00, w.before args s = true := fun w h => C.2.2.2.2.1 w ((by decide +kernel : ∀ w ∈ wsX00, w ∈ wsX0_advance) w h)
  obtain ⟨hS4, hL12, hW16, hZ9, hP16⟩ := id hI
  refine g_iload_n (pc' := 1) (q := 1) C dX0_advance_0 rfl rfl rfl ?_
  refine g_iconst (pc' := 2) (v := 1) C dX0_advance_1 rfl (by decide) ?_
  refine g_sipush (pc' := 5) (v := 10000) C dX0_advance_2 rfl (by decide) ?_
  refine g_calliS (pc' := 8) (As := [.int x, .int 1, .int 10000]) (st := []) (cells' := 0) (slots' := 0) C (c_X0_isWithin _ x 1 10000) gX0_advance_X0_isWithin rfl (by decide +kernel) ⟨Nat.le_of_ble_eq_true rfl, Nat.le_of_ble_eq_true rfl⟩ (n := 3) rfl rfl (Nat.le_of_ble_eq_true rfl) dX0_advance_5 rfl rfl rfl ⟨Nat.le_of_ble_eq_true rfl, Nat.le_of_ble_eq_true rfl⟩ (fun r_1 u_1 h_2 => ?_)
  obtain ⟨rfl, h_2⟩ := h_2
  refine g_st h_2 ?_
  refine g_ifP_ne (tgt := 21) (pc' := 11) C dX0_advance_8 rfl (by decide) (fun (c_3 : 1 ≤ x.toInt ∧ x.toInt ≤ 10000) => ?_) (fun (c_3 : ¬ (1 ≤ x.toInt ∧ x.toInt ≤ 10000)) => ?_)
  · skip
    refine g_aload_n (pc' := 22) (q := 0) C dX0_advance_21 rfl rfl rfl ?_
    refine g_dup (pc' := 23) C dX0_advance_22 rfl rfl ?_
    refine g_get (pc' := 26) (v := .int (u 0 17)) C FX 0 (by rfl) rfl 17 (by decide) (by decide +kernel) rfl (by rfl) dX0_advance_23 rfl ?_
    refine g_iload_n (pc' := 27) (q := 1) C dX0_advance_26 rfl rfl rfl ?_
    refine g_iadd (pc' := 28) C dX0_advance_27 rfl ?_
    refine g_putI (pc' := 31) C FX tyX0 tyX0_ok nmX0 0 (by rfl) rfl 17 (by decide) (by decide +kernel) rfl rfl rfl (Nat.le_of_ble_eq_true rfl) dX0_advance_28 rfl (wX_put cI cZ cQ a _ (f := (upd (u 0) 17 ((u 0 17) + x))) rfl) ?_
    refine g_iconst (pc' := 32) (v := 0) C dX0_advance_31 rfl (by decide) ?_
    refine g_istore_n (pc' := 33) (L' := [(2, .int 0), (0, .ref (a 0)), (1, .int x)]) C dX0_advance_32 rfl rfl (by decide) rfl ?_
    refine g_iconst (pc' := 34) (v := 0) C dX0_advance_33 rfl (by decide) ?_
    refine g_istore_n (pc' := 35) (L' := [(3, .int 0), (2, .int 0), (0, .ref (a 0)), (1, .int x)]) C dX0_advance_34 rfl rfl (by decide) rfl ?_
    have loop_35 : ∀ (k : Nat) (i k9 : Nat) (v : LU), (i : Int) ≤ (u 0 12).toInt → (u 0 12).toInt + 1 ≤ i + k → avX (up u 0 (upd (u 0) 17 (u 0 17 + x))) i = (v, k9) → v 0 = upd (u 0) 17 (u 0 17 + x) → G p l e ({ frames := 2, cells := 0, slots := 0, locals := 44 } : Room) s m args below meth c D A 4 (wX cI cZ cQ a) 0 0 (MQ below (va_Qi (fun (r : Int32) (u' : LU) => (1 ≤ x.toInt ∧ x.toInt ≤ 10000) ∧ r = nI (avX (up u 0 (upd (u 0) 17 (u 0 17 + x))) (u 0 12).toInt.toNat).2 ∧ u' = (avX (up u 0 (upd (u 0) 17 (u 0 17 + x))) (u 0 12).toInt.toNat).1) (KE D (tyX cI cZ cQ) (wX cI cZ cQ a)) A) args s 0 0 A) v 35 [(0, .ref (a 0)), (1, .int x), (2, .int (nI k9)), (3, .int (nI i))] [] := by
      intro k
      induction k with
      | zero =>
        intro i k9 v hi hk hv h12
        omega
      | succ k ih =>
        intro i k9 v hi hk hv h12
        have t12 : (v 0 12).toInt = (u 0 12).toInt := by rw [h12]; rfl
        refine g_iload_n (pc' := 36) (q := 3) C dX0_advance_35 rfl rfl rfl ?_
        refine g_aload_n (pc' := 37) (q := 0) C dX0_advance_36 rfl rfl rfl ?_
        refine g_get (pc' := 40) (v := .int (v 0 12)) C FX 0 (by rfl) rfl 12 (by decide) (by decide +kernel) rfl (by rfl) dX0_advance_37 rfl ?_
        have t_4 : (nI i).toInt = ((i : Nat) : Int) := nI_toInt (by omega)
        refine g_icmp_ge (tgt := 80) (pc' := 43) C dX0_advance_40 rfl (by decide) (fun (c_5 : (v 0 12).toInt ≤ (nI i).toInt) => ?_) (fun (c_5 : ¬ ((v 0 12).toInt ≤ (nI i).toInt)) => ?_)
        · skip
          refine g_iload_n (pc' := 81) (q := 2) C dX0_advance_80 rfl rfl rfl ?_
          exact g_iret C hr rfl ⟨by omega, by rw [show (u 0 12).toInt.toNat = i by omega, hv], by rw [show (u 0 12).toInt.toNat = i by omega, hv]⟩ dX0_advance_81
        · skip
          refine g_aload_n (pc' := 44) (q := 0) C dX0_advance_43 rfl rfl rfl ?_
          refine g_get (pc' := 47) (v := .ref (a 6)) C FX 0 (by rfl) rfl 5 (by decide) (by decide +kernel) rfl (by rfl) dX0_advance_44 rfl ?_
          refine g_iload_n (pc' := 48) (q := 3) C dX0_advance_47 rfl rfl rfl ?_
          refine g_iald (pc' := 49) (n := 24) (f := v 6) C 6 0 (by rfl) rfl (vp_in_nI (by omega) (by omega)) (k := i) (nI_clamp (by omega)) dX0_advance_48 rfl ?_
          refine g_iconst (pc' := 50) (v := 1) C dX0_advance_49 rfl (by decide) ?_
          refine g_icmp_ne (tgt := 74) (pc' := 53) C dX0_advance_50 rfl (by decide) (fun (c_6 : ¬ (v 6 i).toInt = 1) => ?_) (fun (c_6 : (v 6 i).toInt = 1) => ?_)
          · skip
            refine g_iinc (pc' := 77) (v := nI (i + 1)) (L' := [(3, .int (nI (i + 1))), (0, .ref (a 0)), (1, .int x), (2, .int (nI k9))]) C dX0_advance_74 rfl (k := 3) rfl (nI_1 _) (by decide) rfl ?_
            refine g_goto (tgt := 35) C dX0_advance_77 (by decide) ?_
            refine g_sub (L' := [(0, .ref (a 0)), (1, .int x), (2, .int (nI k9)), (3, .int (nI (i + 1)))]) [1, 2, 3, 0] rfl ?_
            exact ih (i + 1) k9 v (by omega) (by omega) (avX_f hv (by omega)) h12
          · skip
            refine g_aload_n (pc' := 54) (q := 0) C dX0_advance_53 rfl rfl rfl ?_
            refine g_get (pc' := 57) (v := .ref (a 8)) C FX 0 (by rfl) rfl 7 (by decide) (by decide +kernel) rfl (by rfl) dX0_advance_54 rfl ?_
            refine g_iload_n (pc' := 58) (q := 3) C dX0_advance_57 rfl rfl rfl ?_
            refine g_iald (pc' := 59) (n := 24) (f := v 8) C 8 0 (by rfl) rfl (vp_in_nI (by omega) (by omega)) (k := i) (nI_clamp (by omega)) dX0_advance_58 rfl ?_
            refine g_aload_n (pc' := 60) (q := 0) C dX0_advance_59 rfl rfl rfl ?_
            refine g_get (pc' := 63) (v := .int (v 0 17)) C FX 0 (by rfl) rfl 17 (by decide) (by decide +kernel) rfl (by rfl) dX0_advance_60 rfl ?_
            refine g_icmp_gt (tgt := 74) (pc' := 66) C dX0_advance_63 rfl (by decide) (fun (c_7 : (v 0 17).toInt < (v 8 i).toInt) => ?_) (fun (c_7 : ¬ ((v 0 17).toInt < (v 8 i).toInt)) => ?_)
            · skip
              refine g_iinc (pc' := 77) (v := nI (i + 1)) (L' := [(3, .int (nI (i + 1))), (0, .ref (a 0)), (1, .int x), (2, .int (nI k9))]) C dX0_advance_74 rfl (k := 3) rfl (nI_1 _) (by decide) rfl ?_
              refine g_goto (tgt := 35) C dX0_advance_77 (by decide) ?_
              refine g_sub (L' := [(0, .ref (a 0)), (1, .int x), (2, .int (nI k9)), (3, .int (nI (i + 1)))]) [1, 2, 3, 0] rfl ?_
              exact ih (i + 1) k9 v (by omega) (by omega) (avX_f hv (by omega)) h12
            · skip
              refine g_aload_n (pc' := 67) (q := 0) C dX0_advance_66 rfl rfl rfl ?_
              refine g_iload_n (pc' := 68) (q := 3) C dX0_advance_67 rfl rfl rfl ?_
              refine g_callvV (pc' := 71) (As := [.int (nI i)]) (st := []) (cells' := 0) (slots' := 0) C (c_X0_endProcessing _ i (by omega)) gX0_advance_X0_endProcessing rfl (by decide +kernel) ⟨Nat.le_of_ble_eq_true rfl, Nat.le_of_ble_eq_true rfl⟩ 0 (by rfl) rfl (n := 1) rfl rfl (Nat.le_of_ble_eq_true rfl) dX0_advance_68 rfl rfl rfl ⟨Nat.le_of_ble_eq_true rfl, Nat.le_of_ble_eq_true rfl⟩ (fun  u_8 h_9 => ?_)
              refine g_iinc (pc' := 74) (v := nI (k9 + 1)) (L' := [(2, .int (nI (k9 + 1))), (0, .ref (a 0)), (1, .int x), (3, .int (nI i))]) C dX0_advance_71 rfl (k := 2) rfl (nI_1 _) (by decide) rfl ?_
              refine g_iinc (pc' := 77) (v := nI (i + 1)) (L' := [(3, .int (nI (i + 1))), (2, .int (nI (k9 + 1))), (0, .ref (a 0)), (1, .int x)]) C dX0_advance_74 rfl (k := 3) rfl (nI_1 _) (by decide) rfl ?_
              refine g_goto (tgt := 35) C dX0_advance_77 (by decide) ?_
              refine g_sub (L' := [(0, .ref (a 0)), (1, .int x), (2, .int (nI (k9 + 1))), (3, .int (nI (i + 1)))]) [2, 3, 1, 0] rfl ?_
              exact ih (i + 1) (k9 + 1) u_8 (by omega) (by omega) (by rw [h_9]; exact avX_t hv (by omega) (by omega)) (by rw [h_9, epX_0]; exact h12)
    refine g_sub (L' := [(0, .ref (a 0)), (1, .int x), (2, .int (nI 0)), (3, .int (nI 0))]) [2, 3, 1, 0] rfl ?_
    exact loop_35 25 0 0 _ (by omega) (by omega) rfl rfl
  · skip
    exact False.elim (by omega)
set_option maxHeartbeats 4000000 in
set_option maxRecDepth 100000 in
theorem c_X0_nextFor {l : Launch} {D : va_G} {cI cZ cQ : ClassId} {a : Nat → Nat} (u : LU) (x : Int32) (hI : IX u) (hx : (0 ≤ x.toInt ∧ x.toInt ≤ 5)) : KI l yX0_nextFor wsX0_nextFor ({ frames := 3, cells := 0, slots := 0, locals := 66 } : Room) D (tyX cI cZ cQ) (wX cI cZ cQ a) [.ref (a 0), .int x] u (fun (r : Int32) (u' : LU) => (0 ≤ x.toInt ∧ x.toInt ≤ 5) ∧ ((buX u x ∧ r = -1) ∨ (¬ buX u x ∧ r = (nfX u x (u 0 12).toInt.toNat).1)) ∧ u' = u) := by
  refine ent_I (own := RX0) (maxL := 5) (cc := cX0_nextFor) (L0 := [(0, .ref (a 0)), (1, .int x)]) (by decide) rfl (wX_ok _ _ _ _) rfl (Nat.le_of_ble_eq_true rfl) rfl ?_
  intro p e s m args below meth c A C hr
  have FX : ∀ w ∈ wsX00, w.before args s = true := fun w h => C.2.2.2.2.1 w ((by decide +kernel : ∀ w ∈ wsX00, w ∈ wsX0_nextFor) w h)
  obtain ⟨hS4, hL12, hW16, hZ9, hP16⟩ := id hI
  refine g_iload_n (pc' := 1) (q := 1) C dX0_nextFor_0 rfl rfl rfl ?_
  refine g_callvS (pc' := 4) (As := [.int x]) (st := []) (cells' := 0) (slots' := 0) C (c_X0_checkTool _ x (by omega)) gX0_nextFor_X0_checkTool rfl (by decide +kernel) ⟨Nat.le_of_ble_eq_true rfl, Nat.le_of_ble_eq_true rfl⟩ (n := 1) rfl rfl (Nat.le_of_ble_eq_true rfl) dX0_nextFor_1 rfl rfl rfl ⟨Nat.le_of_ble_eq_true rfl, Nat.le_of_ble_eq_true rfl⟩ (fun  u_1 h_2 => ?_)
  obtain ⟨qh_2, h_2⟩ := h_2
  refine g_st h_2 ?_
  refine g_aload_n (pc' := 5) (q := 0) C dX0_nextFor_4 rfl rfl rfl ?_
  refine g_iload_n (pc' := 6) (q := 1) C dX0_nextFor_5 rfl rfl rfl ?_
  refine g_calliV (pc' := 9) (As := [.int x]) (st := []) (cells' := 0) (slots' := 0) C (c_X0_isBusy _ x (by omega) (by omega)) gX0_nextFor_X0_isBusy rfl (by decide +kernel) ⟨Nat.le_of_ble_eq_true rfl, Nat.le_of_ble_eq_true rfl⟩ 0 (by rfl) rfl (n := 1) rfl rfl (Nat.le_of_ble_eq_true rfl) dX0_nextFor_6 rfl rfl rfl ⟨Nat.le_of_ble_eq_true rfl, Nat.le_of_ble_eq_true rfl⟩ (fun r_3 u_3 h_4 => ?_)
  obtain ⟨rfl, h_4⟩ := h_4
  refine g_st h_4 ?_
  refine g_ifP_eq (tgt := 14) (pc' := 12) C dX0_nextFor_9 rfl (by decide) (fun (c_5 : ¬ (buX u x)) => ?_) (fun (c_5 : buX u x) => ?_)
  · skip
    refine g_iconst (pc' := 15) (v := (-1)) C dX0_nextFor_14 rfl (by decide) ?_
    refine g_istore_n (pc' := 16) (L' := [(2, .int ((-1))), (0, .ref (a 0)), (1, .int x)]) C dX0_nextFor_15 rfl rfl (by decide) rfl ?_
    refine g_ldc (pc' := 18) (v := 2000000) C dX0_nextFor_16 rfl (by decide +kernel) ?_
    refine g_istore_n (pc' := 19) (L' := [(3, .int 2000000), (2, .int ((-1))), (0, .ref (a 0)), (1, .int x)]) C dX0_nextFor_18 rfl rfl (by decide) rfl ?_
    refine g_iconst (pc' := 20) (v := 0) C dX0_nextFor_19 rfl (by decide) ?_
    refine g_istore (pc' := 22) (L' := [(4, .int 0), (3, .int 2000000), (2, .int ((-1))), (0, .ref (a 0)), (1, .int x)]) C dX0_nextFor_20 rfl (by decide) rfl ?_
    have loop_22 : ∀ (k : Nat) (i : Nat) (b9 s9 : Int32), (i : Int) ≤ (u 0 12).toInt → (u 0 12).toInt + 1 ≤ i + k → nfX u x i = (b9, s9) → G p l e ({ frames := 3, cells := 0, slots := 0, locals := 66 } : Room) s m args below meth c D A 5 (wX cI cZ cQ a) 0 0 (MQ below (va_Qi (fun (r : Int32) (u' : LU) => (0 ≤ x.toInt ∧ x.toInt ≤ 5) ∧ ((buX u x ∧ r = -1) ∨ (¬ buX u x ∧ r = (nfX u x (u 0 12).toInt.toNat).1)) ∧ u' = u) (KE D (tyX cI cZ cQ) (wX cI cZ cQ a)) A) args s 0 0 A) u 22 [(0, .ref (a 0)), (1, .int x), (2, .int b9), (3, .int s9), (4, .int (nI i))] [] := by
      intro k
      induction k with
      | zero =>
        intro i b9 s9 hi hk hv
        omega
      | succ k ih =>
        intro i b9 s9 hi hk hv
        refine g_iload (pc' := 24) (q := 4) C dX0_nextFor_22 rfl rfl ?_
        refine g_aload_n (pc' := 25) (q := 0) C dX0_nextFor_24 rfl rfl rfl ?_
        refine g_get (pc' := 28) (v := .int (u 0 12)) C FX 0 (by rfl) rfl 12 (by decide) (by decide +kernel) rfl (by rfl) dX0_nextFor_25 rfl ?_
        have t_6 : (nI i).toInt = ((i : Nat) : Int) := nI_toInt (by omega)
        refine g_icmp_ge (tgt := 76) (pc' := 31) C dX0_nextFor_28 rfl (by decide) (fun (c_7 : (u 0 12).toInt ≤ (nI i).toInt) => ?_) (fun (c_7 : ¬ ((u 0 12).toInt ≤ (nI i).toInt)) => ?_)
        · skip
          refine g_iload_n (pc' := 77) (q := 2) C dX0_nextFor_76 rfl rfl rfl ?_
          exact g_iret C hr rfl ⟨by omega, Or.inr ⟨by assumption, by rw [show (u 0 12).toInt.toNat = i by omega, hv]⟩, rfl⟩ dX0_nextFor_77
        · skip
          refine g_aload_n (pc' := 32) (q := 0) C dX0_nextFor_31 rfl rfl rfl ?_
          refine g_iload (pc' := 34) (q := 4) C dX0_nextFor_32 rfl rfl ?_
          refine g_calliV (pc' := 37) (As := [.int (nI i)]) (st := []) (cells' := 0) (slots' := 0) C (c_X0_isReady _ i (by omega) (by omega)) gX0_nextFor_X0_isReady rfl (by decide +kernel) ⟨Nat.le_of_ble_eq_true rfl, Nat.le_of_ble_eq_true rfl⟩ 0 (by rfl) rfl (n := 1) rfl rfl (Nat.le_of_ble_eq_true rfl) dX0_nextFor_34 rfl rfl rfl ⟨Nat.le_of_ble_eq_true rfl, Nat.le_of_ble_eq_true rfl⟩ (fun r_8 u_8 h_9 => ?_)
          obtain ⟨rfl, h_9⟩ := h_9
          refine g_st h_9 ?_
          refine g_ifP_eq (tgt := 70) (pc' := 40) C dX0_nextFor_37 rfl (by decide) (fun (c_10 : ¬ (rdX u i)) => ?_) (fun (c_10 : rdX u i) => ?_)
          · skip
            refine g_iinc (pc' := 73) (v := nI (i + 1)) (L' := [(4, .int (nI (i + 1))), (0, .ref (a 0)), (1, .int x), (2, .int b9), (3, .int s9)]) C dX0_nextFor_70 rfl (k := 4) rfl (nI_1 _) (by decide) rfl ?_
            refine g_goto (tgt := 22) C dX0_nextFor_73 (by decide) ?_
            refine g_sub (L' := [(0, .ref (a 0)), (1, .int x), (2, .int b9), (3, .int s9), (4, .int (nI (i + 1)))]) [1, 2, 3, 4, 0] rfl ?_
            exact ih (i + 1) b9 s9 (by omega) (by omega) (nfX_f hv (by intro q9; first | exact absurd q9.1 (by assumption) | exact absurd q9.2.1 (by assumption) | exact absurd q9.2.2 (by omega)))
          · skip
            refine g_aload_n (pc' := 41) (q := 0) C dX0_nextFor_40 rfl rfl rfl ?_
            refine g_iload (pc' := 43) (q := 4) C dX0_nextFor_41 rfl rfl ?_
            refine g_iload_n (pc' := 44) (q := 1) C dX0_nextFor_43 rfl rfl rfl ?_
            refine g_calliV (pc' := 47) (As := [.int (nI i), .int x]) (st := []) (cells' := 0) (slots' := 0) C (c_X0_usesTool _ i x (by omega) (by omega)) gX0_nextFor_X0_usesTool rfl (by decide +kernel) ⟨Nat.le_of_ble_eq_true rfl, Nat.le_of_ble_eq_true rfl⟩ 0 (by rfl) rfl (n := 2) rfl rfl (Nat.le_of_ble_eq_true rfl) dX0_nextFor_44 rfl rfl rfl ⟨Nat.le_of_ble_eq_true rfl, Nat.le_of_ble_eq_true rfl⟩ (fun r_11 u_11 h_12 => ?_)
            obtain ⟨rfl, h_12⟩ := h_12
            refine g_st h_12 ?_
            refine g_ifP_eq (tgt := 70) (pc' := 50) C dX0_nextFor_47 rfl (by decide) (fun (c_13 : ¬ (utX u i x)) => ?_) (fun (c_13 : utX u i x) => ?_)
            · skip
              refine g_iinc (pc' := 73) (v := nI (i + 1)) (L' := [(4, .int (nI (i + 1))), (0, .ref (a 0)), (1, .int x), (2, .int b9), (3, .int s9)]) C dX0_nextFor_70 rfl (k := 4) rfl (nI_1 _) (by decide) rfl ?_
              refine g_goto (tgt := 22) C dX0_nextFor_73 (by decide) ?_
              refine g_sub (L' := [(0, .ref (a 0)), (1, .int x), (2, .int b9), (3, .int s9), (4, .int (nI (i + 1)))]) [1, 2, 3, 4, 0] rfl ?_
              exact ih (i + 1) b9 s9 (by omega) (by omega) (nfX_f hv (by intro q9; first | exact absurd q9.1 (by assumption) | exact absurd q9.2.1 (by assumption) | exact absurd q9.2.2 (by omega)))
            · skip
              refine g_aload_n (pc' := 51) (q := 0) C dX0_nextFor_50 rfl rfl rfl ?_
              refine g_iload (pc' := 53) (q := 4) C dX0_nextFor_51 rfl rfl ?_
              refine g_calliV (pc' := 56) (As := [.int (nI i)]) (st := []) (cells' := 0) (slots' := 0) C (c_X0_waitingLeft _ i (by omega) (by omega)) gX0_nextFor_X0_waitingLeft rfl (by decide +kernel) ⟨Nat.le_of_ble_eq_true rfl, Nat.le_of_ble_eq_true rfl⟩ 0 (by rfl) rfl (n := 1) rfl rfl (Nat.le_of_ble_eq_true rfl) dX0_nextFor_53 rfl rfl rfl ⟨Nat.le_of_ble_eq_true rfl, Nat.le_of_ble_eq_true rfl⟩ (fun r_14 u_14 h_15 => ?_)
              obtain ⟨rfl, h_15⟩ := h_15
              refine g_st h_15 ?_
              refine g_iload_n (pc' := 57) (q := 3) C dX0_nextFor_56 rfl rfl rfl ?_
              refine g_icmp_ge (tgt := 70) (pc' := 60) C dX0_nextFor_57 rfl (by decide) (fun (c_16 : (s9).toInt ≤ (slX u i).toInt) => ?_) (fun (c_16 : ¬ ((s9).toInt ≤ (slX u i).toInt)) => ?_)
              · skip
                refine g_iinc (pc' := 73) (v := nI (i + 1)) (L' := [(4, .int (nI (i + 1))), (0, .ref (a 0)), (1, .int x), (2, .int b9), (3, .int s9)]) C dX0_nextFor_70 rfl (k := 4) rfl (nI_1 _) (by decide) rfl ?_
                refine g_goto (tgt := 22) C dX0_nextFor_73 (by decide) ?_
                refine g_sub (L' := [(0, .ref (a 0)), (1, .int x), (2, .int b9), (3, .int s9), (4, .int (nI (i + 1)))]) [1, 2, 3, 4, 0] rfl ?_
                exact ih (i + 1) b9 s9 (by omega) (by omega) (nfX_f hv (by intro q9; first | exact absurd q9.1 (by assumption) | exact absurd q9.2.1 (by assumption) | exact absurd q9.2.2 (by omega)))
              · skip
                refine g_iload (pc' := 62) (q := 4) C dX0_nextFor_60 rfl rfl ?_
                refine g_istore_n (pc' := 63) (L' := [(2, .int (nI i)), (0, .ref (a 0)), (1, .int x), (3, .int s9), (4, .int (nI i))]) C dX0_nextFor_62 rfl rfl (by decide) rfl ?_
                refine g_aload_n (pc' := 64) (q := 1) C dX0_nextFor_63 rfl rfl rfl ?_
                refine g_iload (pc' := 66) (q := 4) C dX0_nextFor_64 rfl rfl ?_
                refine g_calliV (pc' := 69) (As := [.int (nI i)]) (st := []) (cells' := 0) (slots' := 0) C (c_X0_waitingLeft _ i (by omega) (by omega)) gX0_nextFor_X0_waitingLeft rfl (by decide +kernel) ⟨Nat.le_of_ble_eq_true rfl, Nat.le_of_ble_eq_true rfl⟩ 0 (by rfl) rfl (n := 1) rfl rfl (Nat.le_of_ble_eq_true rfl) dX0_nextFor_66 rfl rfl rfl ⟨Nat.le_of_ble_eq_true rfl, Nat.le_of_ble_eq_true rfl⟩ (fun r_17 u_17 h_18 => ?_)
                obtain ⟨rfl, h_18⟩ := h_18
                refine g_st h_18 ?_
                refine g_istore_n (pc' := 70) (L' := [(3, .int (slX u i)), (2, .int (nI i)), (0, .ref (a 0)), (1, .int x), (4, .int (nI i))]) C dX0_nextFor_69 rfl rfl (by decide) rfl ?_
                refine g_iinc (pc' := 73) (v := nI (i + 1)) (L' := [(4, .int (nI (i + 1))), (3, .int (slX u i)), (2, .int (nI i)), (0, .ref (a 0)), (1, .int x)]) C dX0_nextFor_70 rfl (k := 4) rfl (nI_1 _) (by decide) rfl ?_
                refine g_goto (tgt := 22) C dX0_nextFor_73 (by decide) ?_
                refine g_sub (L' := [(0, .ref (a 0)), (1, .int x), (2, .int (nI i)), (3, .int (slX u i)), (4, .int (nI (i + 1)))]) [3, 4, 2, 1, 0] rfl ?_
                exact ih (i + 1) _ _ (by omega) (by omega) (nfX_t hv (by assumption) (by assumption) (by omega))
    refine g_sub (L' := [(0, .ref (a 0)), (1, .int x), (2, .int ((-1))), (3, .int 2000000), (4, .int (nI 0))]) [3, 4, 2, 1, 0] rfl ?_
    exact loop_22 25 0 _ _ (by omega) (by omega) rfl
  · skip
    refine g_iconst (pc' := 13) (v := (-1)) C dX0_nextFor_12 rfl (by decide) ?_
    exact g_iret C hr rfl ⟨by omega, Or.inl ⟨by assumption, rfl⟩, rfl⟩ dX0_nextFor_13
set_option maxHeartbeats 4000000 in
set_option maxRecDepth 100000 in
theorem c_X0_wafersAt {l : Launch} {D : va_G} {cI cZ cQ : ClassId} {a : Nat → Nat} (u : LU) (x : Int32) (hI : IX u) (hx : (0 ≤ x.toInt ∧ x.toInt < (u 0 4).toInt)) : KI l yX0_wafersAt wsX0_wafersAt ({ frames := 2, cells := 0, slots := 0, locals := 42 } : Room) D (tyX cI cZ cQ) (wX cI cZ cQ a) [.ref (a 0), .int x] u (fun (r : Int32) (u' : LU) => (0 ≤ x.toInt ∧ x.toInt < (u 0 4).toInt) ∧ r = waX u x (u 0 12).toInt.toNat ∧ u' = u) := by
  refine ent_I (own := RX0) (maxL := 4) (cc := cX0_wafersAt) (L0 := [(0, .ref (a 0)), (1, .int x)]) (by decide) rfl (wX_ok _ _ _ _) rfl (Nat.le_of_ble_eq_true rfl) rfl ?_
  intro p e s m args below meth c A C hr
  have FX : ∀ w ∈ wsX00, w.before args s = true := fun w h => C.2.2.2.2.1 w ((by decide +kernel : ∀ w ∈ wsX00, w ∈ wsX0_wafersAt) w h)
  obtain ⟨hS4, hL12, hW16, hZ9, hP16⟩ := id hI
  refine g_aload_n (pc' := 1) (q := 0) C dX0_wafersAt_0 rfl rfl rfl ?_
  refine g_iload_n (pc' := 2) (q := 1) C dX0_wafersAt_1 rfl rfl rfl ?_
  refine g_callvV (pc' := 5) (As := [.int x]) (st := []) (cells' := 0) (slots' := 0) C (c_X0_checkStep _ x (by omega)) gX0_wafersAt_X0_checkStep rfl (by decide +kernel) ⟨Nat.le_of_ble_eq_true rfl, Nat.le_of_ble_eq_true rfl⟩ 0 (by rfl) rfl (n := 1) rfl rfl (Nat.le_of_ble_eq_true rfl) dX0_wafersAt_2 rfl rfl rfl ⟨Nat.le_of_ble_eq_true rfl, Nat.le_of_ble_eq_true rfl⟩ (fun  u_1 h_2 => ?_)
  obtain ⟨qh_2, h_2⟩ := h_2
  refine g_st h_2 ?_
  refine g_iconst (pc' := 6) (v := 0) C dX0_wafersAt_5 rfl (by decide) ?_
  refine g_istore_n (pc' := 7) (L' := [(2, .int 0), (0, .ref (a 0)), (1, .int x)]) C dX0_wafersAt_6 rfl rfl (by decide) rfl ?_
  refine g_iconst (pc' := 8) (v := 0) C dX0_wafersAt_7 rfl (by decide) ?_
  refine g_istore_n (pc' := 9) (L' := [(3, .int 0), (2, .int 0), (0, .ref (a 0)), (1, .int x)]) C dX0_wafersAt_8 rfl rfl (by decide) rfl ?_
  have loop_9 : ∀ (k : Nat) (i : Nat), (i : Int) ≤ (u 0 12).toInt → (u 0 12).toInt + 1 ≤ i + k → G p l e ({ frames := 2, cells := 0, slots := 0, locals := 42 } : Room) s m args below meth c D A 4 (wX cI cZ cQ a) 0 0 (MQ below (va_Qi (fun (r : Int32) (u' : LU) => (0 ≤ x.toInt ∧ x.toInt < (u 0 4).toInt) ∧ r = waX u x (u 0 12).toInt.toNat ∧ u' = u) (KE D (tyX cI cZ cQ) (wX cI cZ cQ a)) A) args s 0 0 A) u 9 [(0, .ref (a 0)), (1, .int x), (2, .int (waX u x i)), (3, .int (nI i))] [] := by
    intro k
    induction k with
    | zero =>
      intro i hi hk
      omega
    | succ k ih =>
      intro i hi hk
      refine g_iload_n (pc' := 10) (q := 3) C dX0_wafersAt_9 rfl rfl rfl ?_
      refine g_aload_n (pc' := 11) (q := 0) C dX0_wafersAt_10 rfl rfl rfl ?_
      refine g_get (pc' := 14) (v := .int (u 0 12)) C FX 0 (by rfl) rfl 12 (by decide) (by decide +kernel) rfl (by rfl) dX0_wafersAt_11 rfl ?_
      have t_3 : (nI i).toInt = ((i : Nat) : Int) := nI_toInt (by omega)
      refine g_icmp_ge (tgt := 42) (pc' := 17) C dX0_wafersAt_14 rfl (by decide) (fun (c_4 : (u 0 12).toInt ≤ (nI i).toInt) => ?_) (fun (c_4 : ¬ ((u 0 12).toInt ≤ (nI i).toInt)) => ?_)
      · skip
        refine g_iload_n (pc' := 43) (q := 2) C dX0_wafersAt_42 rfl rfl rfl ?_
        exact g_iret C hr rfl ⟨by omega, by rw [show (u 0 12).toInt.toNat = i by omega], rfl⟩ dX0_wafersAt_43
      · skip
        refine g_aload_n (pc' := 18) (q := 0) C dX0_wafersAt_17 rfl rfl rfl ?_
        refine g_get (pc' := 21) (v := .ref (a 7)) C FX 0 (by rfl) rfl 6 (by decide) (by decide +kernel) rfl (by rfl) dX0_wafersAt_18 rfl ?_
        refine g_iload_n (pc' := 22) (q := 3) C dX0_wafersAt_21 rfl rfl rfl ?_
        refine g_iald (pc' := 23) (n := 24) (f := u 7) C 7 0 (by rfl) rfl (vp_in_nI (by omega) (by omega)) (k := i) (nI_clamp (by omega)) dX0_wafersAt_22 rfl ?_
        refine g_iload_n (pc' := 24) (q := 1) C dX0_wafersAt_23 rfl rfl rfl ?_
        refine g_icmp_ne (tgt := 36) (pc' := 27) C dX0_wafersAt_24 rfl (by decide) (fun (c_5 : ¬ (u 7 i).toInt = (x).toInt) => ?_) (fun (c_5 : (u 7 i).toInt = (x).toInt) => ?_)
        · skip
          refine g_iinc (pc' := 39) (v := nI (i + 1)) (L' := [(3, .int (nI (i + 1))), (0, .ref (a 0)), (1, .int x), (2, .int (waX u x i))]) C dX0_wafersAt_36 rfl (k := 3) rfl (nI_1 _) (by decide) rfl ?_
          refine g_goto (tgt := 9) C dX0_wafersAt_39 (by decide) ?_
          have e_2 : (waX u x i : Int32) = waX u x (i + 1) := (by simp only [waX]; rw [if_neg (by assumption)])
          refine g_sub (L' := [(0, .ref (a 0)), (1, .int x), (2, .int (waX u x (i + 1))), (3, .int (nI (i + 1)))]) [1, 2, 3, 0] (by rw [← e_2]; rfl) ?_
          exact ih (i + 1) (by omega) (by omega)
        · skip
          refine g_iload_n (pc' := 28) (q := 2) C dX0_wafersAt_27 rfl rfl rfl ?_
          refine g_aload_n (pc' := 29) (q := 0) C dX0_wafersAt_28 rfl rfl rfl ?_
          refine g_get (pc' := 32) (v := .ref (a 12)) C FX 0 (by rfl) rfl 11 (by decide) (by decide +kernel) rfl (by rfl) dX0_wafersAt_29 rfl ?_
          refine g_iload_n (pc' := 33) (q := 3) C dX0_wafersAt_32 rfl rfl rfl ?_
          refine g_iald (pc' := 34) (n := 24) (f := u 12) C 12 0 (by rfl) rfl (vp_in_nI (by omega) (by omega)) (k := i) (nI_clamp (by omega)) dX0_wafersAt_33 rfl ?_
          refine g_iadd (pc' := 35) C dX0_wafersAt_34 rfl ?_
          refine g_istore_n (pc' := 36) (L' := [(2, .int ((waX u x i) + (u 12 i))), (0, .ref (a 0)), (1, .int x), (3, .int (nI i))]) C dX0_wafersAt_35 rfl rfl (by decide) rfl ?_
          refine g_iinc (pc' := 39) (v := nI (i + 1)) (L' := [(3, .int (nI (i + 1))), (2, .int ((waX u x i) + (u 12 i))), (0, .ref (a 0)), (1, .int x)]) C dX0_wafersAt_36 rfl (k := 3) rfl (nI_1 _) (by decide) rfl ?_
          refine g_goto (tgt := 9) C dX0_wafersAt_39 (by decide) ?_
          have e_2 : ((waX u x i) + (u 12 i) : Int32) = waX u x (i + 1) := (by simp only [waX]; rw [if_pos (by assumption)])
          refine g_sub (L' := [(0, .ref (a 0)), (1, .int x), (2, .int (waX u x (i + 1))), (3, .int (nI (i + 1)))]) [2, 3, 1, 0] (by rw [← e_2]; rfl) ?_
          exact ih (i + 1) (by omega) (by omega)
  refine g_sub (L' := [(0, .ref (a 0)), (1, .int x), (2, .int (waX u x 0)), (3, .int (nI 0))]) [2, 3, 1, 0] rfl ?_
  exact loop_9 25 0 (by omega) (by omega)
set_option maxHeartbeats 4000000 in
set_option maxRecDepth 100000 in
theorem c_X0_wafersAtByWafers {l : Launch} {D : va_G} {cI cZ cQ : ClassId} {a : Nat → Nat} (u : LU) (x : Int32) (hI : IX u) (hx : (0 ≤ x.toInt ∧ x.toInt < (u 0 4).toInt)) : KI l yX0_wafersAtByWafers wsX0_wafersAtByWafers ({ frames := 2, cells := 0, slots := 0, locals := 42 } : Room) D (tyX cI cZ cQ) (wX cI cZ cQ a) [.ref (a 0), .int x] u (fun (r : Int32) (u' : LU) => (0 ≤ x.toInt ∧ x.toInt < (u 0 4).toInt) ∧ r = nI (wbX u x (u 0 16).toInt.toNat) ∧ u' = u) := by
  refine ent_I (own := RX0) (maxL := 5) (cc := cX0_wafersAtByWafers) (L0 := [(0, .ref (a 0)), (1, .int x)]) (by decide) rfl (wX_ok _ _ _ _) rfl (Nat.le_of_ble_eq_true rfl) rfl ?_
  intro p e s m args below meth c A C hr
  have FX : ∀ w ∈ wsX00, w.before args s = true := fun w h => C.2.2.2.2.1 w ((by decide +kernel : ∀ w ∈ wsX00, w ∈ wsX0_wafersAtByWafers) w h)
  obtain ⟨hS4, hL12, hW16, hZ9, hP16⟩ := id hI
  refine g_aload_n (pc' := 1) (q := 0) C dX0_wafersAtByWafers_0 rfl rfl rfl ?_
  refine g_iload_n (pc' := 2) (q := 1) C dX0_wafersAtByWafers_1 rfl rfl rfl ?_
  refine g_callvV (pc' := 5) (As := [.int x]) (st := []) (cells' := 0) (slots' := 0) C (c_X0_checkStep _ x (by omega)) gX0_wafersAtByWafers_X0_checkStep rfl (by decide +kernel) ⟨Nat.le_of_ble_eq_true rfl, Nat.le_of_ble_eq_true rfl⟩ 0 (by rfl) rfl (n := 1) rfl rfl (Nat.le_of_ble_eq_true rfl) dX0_wafersAtByWafers_2 rfl rfl rfl ⟨Nat.le_of_ble_eq_true rfl, Nat.le_of_ble_eq_true rfl⟩ (fun  u_1 h_2 => ?_)
  obtain ⟨qh_2, h_2⟩ := h_2
  refine g_st h_2 ?_
  refine g_iconst (pc' := 6) (v := 0) C dX0_wafersAtByWafers_5 rfl (by decide) ?_
  refine g_istore_n (pc' := 7) (L' := [(2, .int 0), (0, .ref (a 0)), (1, .int x)]) C dX0_wafersAtByWafers_6 rfl rfl (by decide) rfl ?_
  refine g_iconst (pc' := 8) (v := 0) C dX0_wafersAtByWafers_7 rfl (by decide) ?_
  refine g_istore_n (pc' := 9) (L' := [(3, .int 0), (2, .int 0), (0, .ref (a 0)), (1, .int x)]) C dX0_wafersAtByWafers_8 rfl rfl (by decide) rfl ?_
  have loop_9 : ∀ (k : Nat) (i : Nat), (i : Int) ≤ (u 0 16).toInt → (u 0 16).toInt + 1 ≤ i + k → G p l e ({ frames := 2, cells := 0, slots := 0, locals := 42 } : Room) s m args below meth c D A 5 (wX cI cZ cQ a) 0 0 (MQ below (va_Qi (fun (r : Int32) (u' : LU) => (0 ≤ x.toInt ∧ x.toInt < (u 0 4).toInt) ∧ r = nI (wbX u x (u 0 16).toInt.toNat) ∧ u' = u) (KE D (tyX cI cZ cQ) (wX cI cZ cQ a)) A) args s 0 0 A) u 9 [(0, .ref (a 0)), (1, .int x), (2, .int (nI (wbX u x i))), (3, .int (nI i))] [] := by
    intro k
    induction k with
    | zero =>
      intro i hi hk
      omega
    | succ k ih =>
      intro i hi hk
      refine g_iload_n (pc' := 10) (q := 3) C dX0_wafersAtByWafers_9 rfl rfl rfl ?_
      refine g_aload_n (pc' := 11) (q := 0) C dX0_wafersAtByWafers_10 rfl rfl rfl ?_
      refine g_get (pc' := 14) (v := .int (u 0 16)) C FX 0 (by rfl) rfl 16 (by decide) (by decide +kernel) rfl (by rfl) dX0_wafersAtByWafers_11 rfl ?_
      have t_3 : (nI i).toInt = ((i : Nat) : Int) := nI_toInt (by omega)
      refine g_icmp_ge (tgt := 54) (pc' := 17) C dX0_wafersAtByWafers_14 rfl (by decide) (fun (c_4 : (u 0 16).toInt ≤ (nI i).toInt) => ?_) (fun (c_4 : ¬ ((u 0 16).toInt ≤ (nI i).toInt)) => ?_)
      · skip
        refine g_iload_n (pc' := 55) (q := 2) C dX0_wafersAtByWafers_54 rfl rfl rfl ?_
        exact g_iret C hr rfl ⟨by omega, by rw [show (u 0 16).toInt.toNat = i by omega], rfl⟩ dX0_wafersAtByWafers_55
      · skip
        refine g_aload_n (pc' := 18) (q := 0) C dX0_wafersAtByWafers_17 rfl rfl rfl ?_
        refine g_get (pc' := 21) (v := .ref (a 14)) C FX 0 (by rfl) rfl 13 (by decide) (by decide +kernel) rfl (by rfl) dX0_wafersAtByWafers_18 rfl ?_
        refine g_iload_n (pc' := 22) (q := 3) C dX0_wafersAtByWafers_21 rfl rfl rfl ?_
        refine g_iald (pc' := 23) (n := 60) (f := u 14) C 13 0 (by rfl) rfl (vp_in_nI (by omega) (by omega)) (k := i) (nI_clamp (by omega)) dX0_wafersAtByWafers_22 rfl ?_
        refine g_istore (pc' := 25) (L' := [(4, .int (u 14 i)), (0, .ref (a 0)), (1, .int x), (2, .int (nI (wbX u x i))), (3, .int (nI i))]) C dX0_wafersAtByWafers_23 rfl (by decide) rfl ?_
        refine g_aload_n (pc' := 26) (q := 1) C dX0_wafersAtByWafers_25 rfl rfl rfl ?_
        refine g_iload (pc' := 28) (q := 0) C dX0_wafersAtByWafers_26 rfl rfl ?_
        refine g_calliV (pc' := 31) (As := [.int (u 14 i)]) (st := []) (cells' := 0) (slots' := 0) C (c_X0_isLot _ (u 14 i)) gX0_wafersAtByWafers_X0_isLot rfl (by decide +kernel) ⟨Nat.le_of_ble_eq_true rfl, Nat.le_of_ble_eq_true rfl⟩ 0 (by rfl) rfl (n := 1) rfl rfl (Nat.le_of_ble_eq_true rfl) dX0_wafersAtByWafers_28 rfl rfl rfl ⟨Nat.le_of_ble_eq_true rfl, Nat.le_of_ble_eq_true rfl⟩ (fun r_5 u_5 h_6 => ?_)
        obtain ⟨rfl, h_6⟩ := h_6
        refine g_st h_6 ?_
        refine g_ifP_eq (tgt := 48) (pc' := 34) C dX0_wafersAtByWafers_31 rfl (by decide) (fun (c_7 : ¬ (0 ≤ (u 14 i).toInt ∧ (u 14 i).toInt < (u 0 12).toInt)) => ?_) (fun (c_7 : 0 ≤ (u 14 i).toInt ∧ (u 14 i).toInt < (u 0 12).toInt) => ?_)
        · skip
          refine g_iinc (pc' := 51) (v := nI (i + 1)) (L' := [(3, .int (nI (i + 1))), (4, .int (u 14 i)), (0, .ref (a 0)), (1, .int x), (2, .int (nI (wbX u x i)))]) C dX0_wafersAtByWafers_48 rfl (k := 4) rfl (nI_1 _) (by decide) rfl ?_
          refine g_goto (tgt := 9) C dX0_wafersAtByWafers_51 (by decide) ?_
          have e_2 : (nI (wbX u x i) : Int32) = nI (wbX u x (i + 1)) := congrArg _ (by simp only [wbX]; rw [if_neg (by intro q9; first | exact absurd q9.1 (by assumption) | exact absurd q9.2 (by assumption))])
          refine g_sub (L' := [(0, .ref (a 0)), (1, .int x), (2, .int (nI (wbX u x (i + 1)))), (3, .int (nI (i + 1)))]) [2, 3, 4, 0] (by rw [← e_2]; rfl) ?_
          exact ih (i + 1) (by omega) (by omega)
        · skip
          refine g_aload_n (pc' := 35) (q := 1) C dX0_wafersAtByWafers_34 rfl rfl rfl ?_
          refine g_get (pc' := 38) (v := .ref (a 7)) C FX 0 (by rfl) rfl 6 (by decide) (by decide +kernel) rfl (by rfl) dX0_wafersAtByWafers_35 rfl ?_
          refine g_iload (pc' := 40) (q := 0) C dX0_wafersAtByWafers_38 rfl rfl ?_
          refine g_iald (pc' := 41) (n := 24) (f := u 7) C 7 0 (by rfl) rfl (vp_of (by omega) (by omega)) (k := (u 14 i).toNatClampNeg) rfl dX0_wafersAtByWafers_40 rfl ?_
          refine g_iload_n (pc' := 42) (q := 2) C dX0_wafersAtByWafers_41 rfl rfl rfl ?_
          refine g_icmp_ne (tgt := 48) (pc' := 45) C dX0_wafersAtByWafers_42 rfl (by decide) (fun (c_8 : ¬ (u 7 (u 14 i).toNatClampNeg).toInt = (x).toInt) => ?_) (fun (c_8 : (u 7 (u 14 i).toNatClampNeg).toInt = (x).toInt) => ?_)
          · skip
            refine g_iinc (pc' := 51) (v := nI (i + 1)) (L' := [(3, .int (nI (i + 1))), (4, .int (u 14 i)), (0, .ref (a 0)), (1, .int x), (2, .int (nI (wbX u x i)))]) C dX0_wafersAtByWafers_48 rfl (k := 4) rfl (nI_1 _) (by decide) rfl ?_
            refine g_goto (tgt := 9) C dX0_wafersAtByWafers_51 (by decide) ?_
            have e_2 : (nI (wbX u x i) : Int32) = nI (wbX u x (i + 1)) := congrArg _ (by simp only [wbX]; rw [if_neg (by intro q9; first | exact absurd q9.1 (by assumption) | exact absurd q9.2 (by assumption))])
            refine g_sub (L' := [(0, .ref (a 0)), (1, .int x), (2, .int (nI (wbX u x (i + 1)))), (3, .int (nI (i + 1)))]) [2, 3, 4, 0] (by rw [← e_2]; rfl) ?_
            exact ih (i + 1) (by omega) (by omega)
          · skip
            refine g_iinc (pc' := 48) (v := nI (wbX u x i + 1)) (L' := [(2, .int (nI (wbX u x i + 1))), (4, .int (u 14 i)), (0, .ref (a 0)), (1, .int x), (3, .int (nI i))]) C dX0_wafersAtByWafers_45 rfl (k := 3) rfl (nI_1 _) (by decide) rfl ?_
            refine g_iinc (pc' := 51) (v := nI (i + 1)) (L' := [(3, .int (nI (i + 1))), (2, .int (nI (wbX u x i + 1))), (4, .int (u 14 i)), (0, .ref (a 0)), (1, .int x)]) C dX0_wafersAtByWafers_48 rfl (k := 4) rfl (nI_1 _) (by decide) rfl ?_
            refine g_goto (tgt := 9) C dX0_wafersAtByWafers_51 (by decide) ?_
            have e_2 : (nI (wbX u x i + 1) : Int32) = nI (wbX u x (i + 1)) := congrArg _ (by simp only [wbX]; rw [if_pos ⟨by assumption, by assumption⟩])
            refine g_sub (L' := [(0, .ref (a 0)), (1, .int x), (2, .int (nI (wbX u x (i + 1)))), (3, .int (nI (i + 1)))]) [3, 4, 1, 0] (by rw [← e_2]; rfl) ?_
            exact ih (i + 1) (by omega) (by omega)
  refine g_sub (L' := [(0, .ref (a 0)), (1, .int x), (2, .int (nI (wbX u x 0))), (3, .int (nI 0))]) [2, 3, 1, 0] rfl ?_
  exact loop_9 61 0 (by omega) (by omega)
set_option maxHeartbeats 4000000 in
set_option maxRecDepth 100000 in
theorem c_X0_common {l : Launch} {D : va_G} {cI cZ cQ : ClassId} {a : Nat → Nat} (u : LU) (x y : Int32) (hI : IX u) (hx : (0 ≤ x.toInt ∧ x.toInt < (u 0 12).toInt)) (hy : (0 ≤ y.toInt ∧ y.toInt < (u 0 12).toInt)) : KI l yX0_common wsX0_common ({ frames := 2, cells := 0, slots := 0, locals := 42 } : Room) D (tyX cI cZ cQ) (wX cI cZ cQ a) [.ref (a 0), .int x, .int y] u (fun (r : Int32) (u' : LU) => (0 ≤ x.toInt ∧ x.toInt < (u 0 12).toInt) ∧ (0 ≤ y.toInt ∧ y.toInt < (u 0 12).toInt) ∧ r = coX u 48 x y ∧ u' = u) := by
  refine ent_I (own := RX0) (maxL := 6) (cc := cX0_common) (L0 := [(0, .ref (a 0)), (1, .int x), (2, .int y)]) (by decide) rfl (wX_ok _ _ _ _) rfl (Nat.le_of_ble_eq_true rfl) rfl ?_
  intro p e s m args below meth c A C hr
  obtain ⟨hS4, hL12, hW16, hZ9, hP16⟩ := id hI
  refine g_aload_n (pc' := 1) (q := 0) C dX0_common_0 rfl rfl rfl ?_
  refine g_iload_n (pc' := 2) (q := 1) C dX0_common_1 rfl rfl rfl ?_
  refine g_callvV (pc' := 5) (As := [.int x]) (st := []) (cells' := 0) (slots' := 0) C (c_X0_checkLot _ x (by omega)) gX0_common_X0_checkLot rfl (by decide +kernel) ⟨Nat.le_of_ble_eq_true rfl, Nat.le_of_ble_eq_true rfl⟩ 0 (by rfl) rfl (n := 1) rfl rfl (Nat.le_of_ble_eq_true rfl) dX0_common_2 rfl rfl rfl ⟨Nat.le_of_ble_eq_true rfl, Nat.le_of_ble_eq_true rfl⟩ (fun  u_1 h_2 => ?_)
  obtain ⟨qh_2, h_2⟩ := h_2
  refine g_st h_2 ?_
  refine g_aload_n (pc' := 6) (q := 0) C dX0_common_5 rfl rfl rfl ?_
  refine g_iload_n (pc' := 7) (q := 2) C dX0_common_6 rfl rfl rfl ?_
  refine g_callvV (pc' := 10) (As := [.int y]) (st := []) (cells' := 0) (slots' := 0) C (c_X0_checkLot _ y (by omega)) gX0_common_X0_checkLot rfl (by decide +kernel) ⟨Nat.le_of_ble_eq_true rfl, Nat.le_of_ble_eq_true rfl⟩ 0 (by rfl) rfl (n := 1) rfl rfl (Nat.le_of_ble_eq_true rfl) dX0_common_7 rfl rfl rfl ⟨Nat.le_of_ble_eq_true rfl, Nat.le_of_ble_eq_true rfl⟩ (fun  u_3 h_4 => ?_)
  obtain ⟨qh_4, h_4⟩ := h_4
  refine g_st h_4 ?_
  refine g_iload_n (pc' := 11) (q := 1) C dX0_common_10 rfl rfl rfl ?_
  refine g_istore_n (pc' := 12) (L' := [(3, .int x), (0, .ref (a 0)), (1, .int x), (2, .int y)]) C dX0_common_11 rfl rfl (by decide) rfl ?_
  refine g_iload_n (pc' := 13) (q := 3) C dX0_common_12 rfl rfl rfl ?_
  refine g_istore (pc' := 15) (L' := [(4, .int y), (3, .int x), (0, .ref (a 0)), (1, .int x), (2, .int y)]) C dX0_common_13 rfl (by decide) rfl ?_
  refine g_iconst (pc' := 16) (v := 0) C dX0_common_15 rfl (by decide) ?_
  refine g_istore (pc' := 18) (L' := [(5, .int 0), (4, .int y), (3, .int x), (0, .ref (a 0)), (1, .int x), (2, .int y)]) C dX0_common_16 rfl (by decide) rfl ?_
  have loop_18 : ∀ (k : Nat) (i : Nat) (a9 b9 : Int32), i ≤ 48 → 49 ≤ i + k → coX u (48 - i) a9 b9 = coX u 48 x y → G p l e ({ frames := 2, cells := 0, slots := 0, locals := 42 } : Room) s m args below meth c D A 6 (wX cI cZ cQ a) 0 0 (MQ below (va_Qi (fun (r : Int32) (u' : LU) => (0 ≤ x.toInt ∧ x.toInt < (u 0 12).toInt) ∧ (0 ≤ y.toInt ∧ y.toInt < (u 0 12).toInt) ∧ r = coX u 48 x y ∧ u' = u) (KE D (tyX cI cZ cQ) (wX cI cZ cQ a)) A) args s 0 0 A) u 18 [(0, .ref (a 0)), (1, .int x), (2, .int y), (3, .int a9), (4, .int b9), (5, .int (nI i))] [] := by
    intro k
    induction k with
    | zero =>
      intro i a9 b9 hi hk hv
      omega
    | succ k ih =>
      intro i a9 b9 hi hk hv
      refine g_iload (pc' := 20) (q := 5) C dX0_common_18 rfl rfl ?_
      refine g_bipush (pc' := 22) (v := 48) C dX0_common_20 rfl (by decide) ?_
      have t_5 : (nI i).toInt = ((i : Nat) : Int) := nI_toInt (by omega)
      refine g_icmp_ge (tgt := 60) (pc' := 25) C dX0_common_22 rfl (by decide) (fun (c_6 : 48 ≤ (nI i).toInt) => ?_) (fun (c_6 : ¬ (48 ≤ (nI i).toInt)) => ?_)
      · skip
        refine g_iload_n (pc' := 61) (q := 3) C dX0_common_60 rfl rfl rfl ?_
        exact g_iret C hr rfl ⟨by omega, by omega, coX_end hv (by omega), rfl⟩ dX0_common_61
      · skip
        refine g_iload_n (pc' := 26) (q := 3) C dX0_common_25 rfl rfl rfl ?_
        refine g_iload (pc' := 28) (q := 4) C dX0_common_26 rfl rfl ?_
        refine g_icmp_eq (tgt := 60) (pc' := 31) C dX0_common_28 rfl (by decide) (fun (c_7 : (a9).toInt = (b9).toInt) => ?_) (fun (c_7 : ¬ ((a9).toInt = (b9).toInt)) => ?_)
        · skip
          refine g_iload_n (pc' := 61) (q := 3) C dX0_common_60 rfl rfl rfl ?_
          exact g_iret C hr rfl ⟨by omega, by omega, coX_end hv (by omega), rfl⟩ dX0_common_61
        · skip
          refine g_iload_n (pc' := 32) (q := 3) C dX0_common_31 rfl rfl rfl ?_
          refine g_iload (pc' := 34) (q := 4) C dX0_common_32 rfl rfl ?_
          refine g_icmp_le (tgt := 46) (pc' := 37) C dX0_common_34 rfl (by decide) (fun (c_8 : (a9).toInt ≤ (b9).toInt) => ?_) (fun (c_8 : ¬ ((a9).toInt ≤ (b9).toInt)) => ?_)
          · skip
            refine g_aload_n (pc' := 47) (q := 0) C dX0_common_46 rfl rfl rfl ?_
            refine g_iload (pc' := 49) (q := 4) C dX0_common_47 rfl rfl ?_
            refine g_calliV (pc' := 52) (As := [.int b9]) (st := []) (cells' := 0) (slots' := 0) C (c_X0_parentOrNone _ b9 (by omega)) gX0_common_X0_parentOrNone rfl (by decide +kernel) ⟨Nat.le_of_ble_eq_true rfl, Nat.le_of_ble_eq_true rfl⟩ 0 (by rfl) rfl (n := 1) rfl rfl (Nat.le_of_ble_eq_true rfl) dX0_common_49 rfl rfl rfl ⟨Nat.le_of_ble_eq_true rfl, Nat.le_of_ble_eq_true rfl⟩ (fun r_9 u_9 h_10 => ?_)
            obtain ⟨rfl, h_10⟩ := h_10
            refine g_st h_10 ?_
            refine g_istore (pc' := 54) (L' := [(4, .int (ponX u b9)), (0, .ref (a 0)), (1, .int x), (2, .int y), (3, .int a9), (5, .int (nI i))]) C dX0_common_52 rfl (by decide) rfl ?_
            refine g_iinc (pc' := 57) (v := nI (i + 1)) (L' := [(5, .int (nI (i + 1))), (4, .int (ponX u b9)), (0, .ref (a 0)), (1, .int x), (2, .int y), (3, .int a9)]) C dX0_common_54 rfl (k := 5) rfl (nI_1 _) (by decide) rfl ?_
            refine g_goto (tgt := 18) C dX0_common_57 (by decide) ?_
            refine g_sub (L' := [(0, .ref (a 0)), (1, .int x), (2, .int y), (3, .int a9), (4, .int (ponX u b9)), (5, .int (nI (i + 1)))]) [2, 3, 4, 5, 1, 0] rfl ?_
            exact ih (i + 1) _ _ (by omega) (by omega) (by rw [← hv, show 48 - i = (48 - (i + 1)) + 1 by omega]; simp only [coX]; rw [if_neg (by omega), if_neg (by omega)])
          · skip
            refine g_aload_n (pc' := 38) (q := 0) C dX0_common_37 rfl rfl rfl ?_
            refine g_iload_n (pc' := 39) (q := 3) C dX0_common_38 rfl rfl rfl ?_
            refine g_calliV (pc' := 42) (As := [.int a9]) (st := []) (cells' := 0) (slots' := 0) C (c_X0_parentOrNone _ a9 (by omega)) gX0_common_X0_parentOrNone rfl (by decide +kernel) ⟨Nat.le_of_ble_eq_true rfl, Nat.le_of_ble_eq_true rfl⟩ 0 (by rfl) rfl (n := 1) rfl rfl (Nat.le_of_ble_eq_true rfl) dX0_common_39 rfl rfl rfl ⟨Nat.le_of_ble_eq_true rfl, Nat.le_of_ble_eq_true rfl⟩ (fun r_11 u_11 h_12 => ?_)
            obtain ⟨rfl, h_12⟩ := h_12
            refine g_st h_12 ?_
            refine g_istore_n (pc' := 43) (L' := [(3, .int (ponX u a9)), (0, .ref (a 0)), (1, .int x), (2, .int y), (4, .int b9), (5, .int (nI i))]) C dX0_common_42 rfl rfl (by decide) rfl ?_
            refine g_goto (tgt := 54) C dX0_common_43 (by decide) ?_
            refine g_iinc (pc' := 57) (v := nI (i + 1)) (L' := [(5, .int (nI (i + 1))), (3, .int (ponX u a9)), (0, .ref (a 0)), (1, .int x), (2, .int y), (4, .int b9)]) C dX0_common_54 rfl (k := 5) rfl (nI_1 _) (by decide) rfl ?_
            refine g_goto (tgt := 18) C dX0_common_57 (by decide) ?_
            refine g_sub (L' := [(0, .ref (a 0)), (1, .int x), (2, .int y), (3, .int (ponX u a9)), (4, .int b9), (5, .int (nI (i + 1)))]) [2, 3, 4, 1, 5, 0] rfl ?_
            exact ih (i + 1) _ _ (by omega) (by omega) (by rw [← hv, show 48 - i = (48 - (i + 1)) + 1 by omega]; simp only [coX]; rw [if_neg (by omega), if_pos (by omega)])
  refine g_sub (L' := [(0, .ref (a 0)), (1, .int x), (2, .int y), (3, .int x), (4, .int y), (5, .int (nI 0))]) [3, 4, 5, 2, 1, 0] rfl ?_
  exact loop_18 49 0 x y (by omega) (by omega) rfl
set_option maxHeartbeats 4000000 in
set_option maxRecDepth 100000 in
theorem c_X0_pathAt {l : Launch} {D : va_G} {cI cZ cQ : ClassId} {a : Nat → Nat} (u : LU) (x y : Int32) (hI : IX u) (hx : (0 ≤ x.toInt ∧ x.toInt < (u 0 16).toInt)) (hy : ∀ w : Nat, w < 60 → x = nI w → (0 ≤ y.toInt ∧ y.toInt ≤ (u 16 w - 1).toInt)) : KI l yX0_pathAt wsX0_pathAt ({ frames := 1, cells := 0, slots := 0, locals := 22 } : Room) D (tyX cI cZ cQ) (wX cI cZ cQ a) [.ref (a 0), .int x, .int y] u (fun (r : Int32) (u' : LU) => ∃ w : Nat, x = nI w ∧ (w : Int) < (u 0 16).toInt ∧ (0 ≤ y.toInt ∧ y.toInt ≤ (u 16 w - 1).toInt) ∧ r = u (100 + w) y.toNatClampNeg ∧ u' = u) := by
  refine ent_I (own := RX0) (maxL := 3) (cc := cX0_pathAt) (L0 := [(0, .ref (a 0)), (1, .int x), (2, .int y)]) (by decide) rfl (wX_ok _ _ _ _) rfl (Nat.le_of_ble_eq_true rfl) rfl ?_
  intro p e s m args below meth c A C hr
  have FX : ∀ w ∈ wsX00, w.before args s = true := fun w h => C.2.2.2.2.1 w ((by decide +kernel : ∀ w ∈ wsX00, w ∈ wsX0_pathAt) w h)
  obtain ⟨hS4, hL12, hW16, hZ9, hP16⟩ := id hI
  refine g_aload_n (pc' := 1) (q := 0) C dX0_pathAt_0 rfl rfl rfl ?_
  refine g_iload_n (pc' := 2) (q := 1) C dX0_pathAt_1 rfl rfl rfl ?_
  refine g_callvV (pc' := 5) (As := [.int x]) (st := []) (cells' := 0) (slots' := 0) C (c_X0_checkWafer _ x (by omega)) gX0_pathAt_X0_checkWafer rfl (by decide +kernel) ⟨Nat.le_of_ble_eq_true rfl, Nat.le_of_ble_eq_true rfl⟩ 0 (by rfl) rfl (n := 1) rfl rfl (Nat.le_of_ble_eq_true rfl) dX0_pathAt_2 rfl rfl rfl ⟨Nat.le_of_ble_eq_true rfl, Nat.le_of_ble_eq_true rfl⟩ (fun  u_1 h_2 => ?_)
  obtain ⟨qh_2, h_2⟩ := h_2
  refine g_st h_2 ?_
  obtain ⟨w, hw, rfl⟩ := nI_of_ti (n := 60) qh_2.1 (by omega) (by decide)
  have tw : (nI w).toInt = (w : Int) := nI_toInt (by omega)
  rw [tw] at qh_2
  refine g_iload_n (pc' := 6) (q := 2) C dX0_pathAt_5 rfl rfl rfl ?_
  refine g_iconst (pc' := 7) (v := 0) C dX0_pathAt_6 rfl (by decide) ?_
  refine g_aload_n (pc' := 8) (q := 0) C dX0_pathAt_7 rfl rfl rfl ?_
  refine g_get (pc' := 11) (v := .ref (a 16)) C FX 0 (by rfl) rfl 15 (by decide) (by decide +kernel) rfl (by rfl) dX0_pathAt_8 rfl ?_
  refine g_iload_n (pc' := 12) (q := 1) C dX0_pathAt_11 rfl rfl rfl ?_
  refine g_iald (pc' := 13) (n := 60) (f := u 16) C 14 0 (by rfl) rfl (vp_in_nI (by omega) (by omega)) (k := w) (nI_clamp (by omega)) dX0_pathAt_12 rfl ?_
  refine g_iconst (pc' := 14) (v := 1) C dX0_pathAt_13 rfl (by decide) ?_
  refine g_isub (pc' := 15) C dX0_pathAt_14 rfl ?_
  refine g_calliS (pc' := 18) (As := [.int y, .int 0, .int ((u 16 w) - 1)]) (st := []) (cells' := 0) (slots' := 0) C (c_X0_isWithin _ y 0 ((u 16 w) - 1)) gX0_pathAt_X0_isWithin rfl (by decide +kernel) ⟨Nat.le_of_ble_eq_true rfl, Nat.le_of_ble_eq_true rfl⟩ (n := 3) rfl rfl (Nat.le_of_ble_eq_true rfl) dX0_pathAt_15 rfl rfl rfl ⟨Nat.le_of_ble_eq_true rfl, Nat.le_of_ble_eq_true rfl⟩ (fun r_3 u_3 h_4 => ?_)
  obtain ⟨rfl, h_4⟩ := h_4
  refine g_st h_4 ?_
  refine g_ifP_ne (tgt := 31) (pc' := 21) C dX0_pathAt_18 rfl (by decide) (fun (c_5 : 0 ≤ y.toInt ∧ y.toInt ≤ ((u 16 w) - 1).toInt) => ?_) (fun (c_5 : ¬ (0 ≤ y.toInt ∧ y.toInt ≤ ((u 16 w) - 1).toInt)) => ?_)
  · skip
    have p9 := hP16 w (by omega)
    have t9 : (u 16 w - 1).toInt = (u 16 w).toInt - (1 : Int32).toInt := ti_sub (by rw [show (1 : Int32).toInt = 1 from rfl]; omega) (by rw [show (1 : Int32).toInt = 1 from rfl]; omega)
    rw [show (1 : Int32).toInt = 1 from rfl] at t9
    refine g_aload_n (pc' := 32) (q := 0) C dX0_pathAt_31 rfl rfl rfl ?_
    refine g_get (pc' := 35) (v := .ref (a 15)) C FX 0 (by rfl) rfl 14 (by decide) (by decide +kernel) rfl (by rfl) dX0_pathAt_32 rfl ?_
    refine g_iload_n (pc' := 36) (q := 1) C dX0_pathAt_35 rfl rfl rfl ?_
    refine g_aald (pc' := 37) (x := a (100 + w)) C 1 2 rfl rfl (vp_in_nI (by omega) (by omega)) (by rw [nI_clamp (by omega)]; exact if_pos (by omega)) dX0_pathAt_36 rfl ?_
    refine g_iload_n (pc' := 38) (q := 2) C dX0_pathAt_37 rfl rfl rfl ?_
    refine g_iald (pc' := 39) C (15 + w) 0 (row_get _ _ _ _ _ (by omega)) rfl (vp_of (by omega) (by omega)) (k := y.toNatClampNeg) rfl dX0_pathAt_38 rfl ?_
    exact g_iret C hr rfl ⟨w, rfl, by omega, by assumption, rfl, rfl⟩ dX0_pathAt_39
  · skip
    exact False.elim (by have q9 := hy w (by omega) rfl; simp_all)
end
section
/-! lemmas: counts, paths, ancestors; what a call answers at a place -/
theorem tnc {x : Int32} (h : 0 ≤ x.toInt) : (x.toNatClampNeg : Int) = x.toInt := Int.toNat_of_nonneg h
theorem ti_inj {x y : Int32} (h : x.toInt = y.toInt) : x = y := Int32.toInt.inj h
theorem ti_nI {n : Nat} (h : n < 2000000000) : (nI n).toInt = (n : Int) := nI_toInt (by omega)
theorem tn_nI {n : Nat} (h : n < 2000000000) : (nI n).toNatClampNeg = n := nI_clamp (by omega)
theorem nI_inj2 {n w : Nat} (h : nI n = nI w) (h1 : n < 2000000000) (h2 : w < 2000000000) : w = n := by
  have e1 := ti_nI h1
  have e2 := ti_nI h2
  rw [h] at e1
  omega
def ctA (f : Nat → Int32) (x : Int32) : Nat → Nat
  | 0 => 0
  | i + 1 => if (f i).toInt = x.toInt then ctA f x i + 1 else ctA f x i
theorem ctA_t {f : Nat → Int32} {x : Int32} {i : Nat} (h : (f i).toInt = x.toInt) : nI (ctA f x i) + 1 = nI (ctA f x (i + 1)) := by
  simp only [ctA]
  rw [if_pos h, nI_1]
theorem ctA_f {f : Nat → Int32} {x : Int32} {i : Nat} (h : ¬ (f i).toInt = x.toInt) : nI (ctA f x i) + 0 = nI (ctA f x (i + 1)) := by
  simp only [ctA]
  rw [if_neg h, Int32.add_zero]
theorem ctA_le (f : Nat → Int32) (x : Int32) : ∀ n, ctA f x n ≤ n
  | 0 => Nat.le_refl 0
  | n + 1 => by
    have h := ctA_le f x n
    simp only [ctA]
    split <;> omega
theorem ctA_g {f g : Nat → Int32} {x : Int32} : ∀ L, (∀ l, l < L → f l = g l) → ctA f x L = ctA g x L
  | 0, _ => rfl
  | L + 1, h => by
    simp only [ctA]
    rw [ctA_g L (fun l hl => h l (by omega)), h L (by omega)]
theorem ctA_z {f : Nat → Int32} {x : Int32} : ∀ L, (∀ l, l < L → ¬ (f l).toInt = x.toInt) → ctA f x L = 0
  | 0, _ => rfl
  | L + 1, h => by
    simp only [ctA]
    rw [if_neg (h L (by omega))]
    exact ctA_z L (fun l hl => h l (by omega))
theorem ctA_mono (f : Nat → Int32) (x : Int32) (i : Nat) : ∀ d, ctA f x i ≤ ctA f x (i + d)
  | 0 => Nat.le_refl _
  | d + 1 => by
    have h := ctA_mono f x i d
    show _ ≤ ctA f x ((i + d) + 1)
    simp only [ctA]
    split <;> omega
theorem ctA_lt {f : Nat → Int32} {x : Int32} {i W : Nat} (h : (f i).toInt = x.toInt) (hi : i < W) : ctA f x i + 1 ≤ ctA f x W := by
  have h1 : ctA f x (i + 1) = ctA f x i + 1 := by simp only [ctA]; exact if_pos h
  have h2 := ctA_mono f x (i + 1) (W - (i + 1))
  rw [show i + 1 + (W - (i + 1)) = W by omega] at h2
  omega
theorem ctA_upd (f : Nat → Int32) (x v : Int32) (n : Nat) : ∀ L, ctA (upd f n v) x L + (if n < L ∧ (f n).toInt = x.toInt then 1 else 0) = ctA f x L + (if n < L ∧ v.toInt = x.toInt then 1 else 0)
  | 0 => by
    rw [if_neg (by omega), if_neg (by omega)]
    rfl
  | L + 1 => by
    have ih := ctA_upd f x v n L
    simp only [ctA]
    by_cases e : L = n
    · subst e
      rw [if_neg (by omega), if_neg (by omega)] at ih
      rw [upd_s]
      by_cases q1 : (f L).toInt = x.toInt <;> by_cases q2 : v.toInt = x.toInt
      · rw [if_pos q2, if_pos ⟨by omega, q1⟩, if_pos q1, if_pos ⟨by omega, q2⟩]
        omega
      · rw [if_neg q2, if_pos ⟨by omega, q1⟩, if_pos q1, if_neg (fun z => q2 z.2)]
        omega
      · rw [if_pos q2, if_neg (fun z => q1 z.2), if_neg q1, if_pos ⟨by omega, q2⟩]
        omega
      · rw [if_neg q2, if_neg (fun z => q1 z.2), if_neg q1, if_neg (fun z => q2 z.2)]
        omega
    · rw [upd_n e]
      have hn : ∀ P : Prop, (n < L + 1 ∧ P) ↔ (n < L ∧ P) := fun P => ⟨fun z => ⟨by omega, z.2⟩, fun z => ⟨by omega, z.2⟩⟩
      have e1 : (if n < L + 1 ∧ (f n).toInt = x.toInt then 1 else 0) = (if n < L ∧ (f n).toInt = x.toInt then 1 else 0) := by simp only [hn]
      have e2 : (if n < L + 1 ∧ v.toInt = x.toInt then 1 else 0) = (if n < L ∧ v.toInt = x.toInt then 1 else 0) := by simp only [hn]
      rw [e1, e2]
      split <;> omega
/-- neither the old nor the new value counts -/
theorem ctA_n {f : Nat → Int32} {x v : Int32} {n : Nat} (L : Nat) (h1 : ¬ (f n).toInt = x.toInt) (h2 : ¬ v.toInt = x.toInt) : ctA (upd f n v) x L = ctA f x L := by
  have h := ctA_upd f x v n L
  rw [if_neg (fun z => h1 z.2), if_neg (fun z => h2 z.2)] at h
  exact h
theorem cif_c {α : Type} {P P' : Prop} {a b : α} (h : P ↔ P') : cif P a b = cif P' a b := congrArg (fun q => cif q a b) (propext h)
/-- the wafers of f below W that lie in a lot below i which keeps P -/
noncomputable def cw (f : Nat → Int32) (P : Nat → Prop) (i : Nat) : Nat → Nat
  | 0 => 0
  | w + 1 => cw f P i w + cif ((0 ≤ (f w).toInt ∧ (f w).toInt < i) ∧ P (f w).toNatClampNeg) 1 0
theorem cw_0 (f : Nat → Int32) (P : Nat → Prop) : ∀ W, cw f P 0 W = 0
  | 0 => rfl
  | W + 1 => by
    simp only [cw]
    rw [cw_0 f P W, cif_f (fun q => by have := q.1; omega)]
theorem cw_s (f : Nat → Int32) (P : Nat → Prop) {i : Nat} (hi : i < 2000000000) : ∀ W, cw f P (i + 1) W = cw f P i W + cif (P i) (ctA f (nI i) W) 0
  | 0 => by
    simp only [cw, ctA]
    rcases Classical.em (P i) with q | q
    · rw [cif_t q]
    · rw [cif_f q]
  | W + 1 => by
    have ih := cw_s f P hi W
    have hii : (nI i).toInt = (i : Int) := ti_nI hi
    simp only [cw, ctA]
    rw [ih]
    by_cases e : (f W).toInt = (i : Int)
    · have ec : (f W).toNatClampNeg = i := by
        have := tnc (x := f W) (by omega)
        omega
      rw [ec, if_pos (by omega)]
      rw [cif_f (fun z : (0 ≤ (f W).toInt ∧ (f W).toInt < (i : Int)) ∧ P i => by have := z.1; omega)]
      rcases Classical.em (P i) with q | q
      · rw [cif_t q, cif_t q, cif_t ⟨⟨by omega, by omega⟩, q⟩]
        omega
      · rw [cif_f q, cif_f q, cif_f (fun z => q z.2)]
    · rw [if_neg (by omega)]
      rw [cif_c (show ((0 ≤ (f W).toInt ∧ (f W).toInt < ((i + 1 : Nat) : Int)) ∧ P (f W).toNatClampNeg) ↔ ((0 ≤ (f W).toInt ∧ (f W).toInt < (i : Int)) ∧ P (f W).toNatClampNeg) from ⟨fun z => ⟨⟨z.1.1, by have := z.1; omega⟩, z.2⟩, fun z => ⟨⟨z.1.1, by have := z.1; omega⟩, z.2⟩⟩)]
      omega
theorem putX_lo (u : LU) (w n : Nat) {j : Nat} (h : j < 100) (h16 : j ≠ 16) : putX u w n j = put1 u w n j := by
  unfold putX
  split
  · rw [up_n _ _ _ h16]
    unfold put2
    rw [up_n _ _ _ (by omega)]
  · rfl
theorem put1_row (u : LU) (w n q : Nat) : put1 u w n (100 + q) = u (100 + q) := by
  unfold put1
  rw [up_n _ _ _ (by omega), up_n _ _ _ (by omega)]
theorem putX_row {u : LU} {w n : Nat} (h : (u 16 w).toInt < 47) (q : Nat) : putX u w n (100 + q) = if q = w then upd (u (100 + w)) (u 16 w).toNatClampNeg (nI n) else u (100 + q) := by
  unfold putX
  rw [if_pos h, up_n _ _ _ (by omega)]
  unfold put2
  rw [put1_row]
  by_cases e : q = w
  · subst e
    rw [if_pos rfl]
    exact if_pos rfl
  · rw [if_neg e, up_n _ _ _ (by omega), put1_row]
theorem mv1_lo (U : LU) (f i t : Nat) {j : Nat} (h : j < 100) (h12 : j ≠ 12) (h14 : j ≠ 14) (h16 : j ≠ 16) : mv1 U f i t j = U j := by
  unfold mv1
  rw [putX_lo _ _ _ h h16]
  unfold put1
  rw [up_n _ _ _ h12, up_n _ _ _ h14, up_n _ _ _ h12]
theorem mv1_12 (U : LU) (f i t : Nat) : mv1 U f i t 12 = upd (upd (U 12) f (U 12 f - 1)) t (upd (U 12) f (U 12 f - 1) t + 1) := by
  unfold mv1
  rw [putX_lo _ _ _ (by decide) (by decide)]
  rfl
theorem mv1_14 (U : LU) (f i t : Nat) : mv1 U f i t 14 = upd (U 14) i (nI t) := by
  unfold mv1
  rw [putX_lo _ _ _ (by decide) (by decide)]
  rfl
theorem mv1_16 (U : LU) (f t : Nat) {i : Nat} (hi : i < 60) (h : (U 16 i).toInt < 47) : mv1 U f i t 16 = upd (U 16) i (U 16 i + 1) := by
  unfold mv1
  rw [putX_16 _ _ _ hi]
  exact if_pos h
theorem mv1_row (U : LU) (f t : Nat) {i : Nat} (h : (U 16 i).toInt < 47) (q : Nat) : mv1 U f i t (100 + q) = if q = i then upd (U (100 + i)) (U 16 i).toNatClampNeg (nI t) else U (100 + q) := by
  unfold mv1
  rw [putX_row (u := up U 12 (upd (U 12) f (U 12 f - 1))) h]
  by_cases e : q = i
  · rw [if_pos e, if_pos e, up_n _ _ _ (by omega)]
    rfl
  · rw [if_neg e, if_neg e, up_n _ _ _ (by omega)]
def itX (u : LU) : Nat → Int32 → Int32
  | 0, a => a
  | k + 1, a => itX u k (ponX u a)
/-- every parent is older than its child -/
def OLD (u : LU) : Prop := ∀ l : Nat, (l : Int) < (u 0 12).toInt → -1 ≤ (u 11 l).toInt ∧ (u 11 l).toInt < l
theorem pon_le {u : LU} (h : OLD u) (a : Int32) (h1 : -1 ≤ a.toInt) : -1 ≤ (ponX u a).toInt ∧ (ponX u a).toInt ≤ a.toInt ∧ (0 ≤ a.toInt → (ponX u a).toInt < a.toInt) := by
  have e : (-1 : Int32).toInt = -1 := rfl
  unfold ponX
  split
  · next q =>
    have hk := tnc q.1
    have := h a.toNatClampNeg (by omega)
    omega
  · omega
theorem it_le {u : LU} (h : OLD u) : ∀ j b, -1 ≤ b.toInt → (itX u j b).toInt ≤ b.toInt
  | 0, b, _ => Int.le_refl _
  | j + 1, b, hb => by
    have h1 := pon_le h b hb
    have := it_le h j (ponX u b) h1.1
    simp only [itX]
    omega
theorem bool01 {x : Int32} (h : x = 0 ∨ x = 1) : vp_nar .boolean x = x ∧ narrow .boolean (.int x) = .int x := by
  rcases h with h | h <;> rw [h] <;> exact ⟨rfl, rfl⟩
theorem KI.mono {S : Type} {l : Launch} {D : va_G} {tys : List (ClassId × FieldType)} {wf : S → va_W} {u : S} {As : List Value} {y : MethodName} {ws : List Cond} {rm : Room} {p1 p2 : Int32 → S → Prop} (hM : KI l y ws rm D tys wf As u p1) (h : ∀ r v, p1 r v → p2 r v) : KI l y ws rm D tys wf As u p2 := by
  intro sz p e ha hc hk s m args below hf happ hP hx
  obtain ⟨n, o, h1, h2, h3, ⟨⟨r, v, ho, hp, hB⟩, hF⟩, L, hFE, hL⟩ := hM sz p e ha hc hk s m args below hf happ hP hx
  exact ⟨n, o, h1, h2, h3, ⟨⟨r, v, ho, h r v hp, hB⟩, hF⟩, L, hFE, hL⟩
theorem IX.l24 {u : LU} (h : IX u) {n : Nat} (hn : (n : Int) < (u 0 12).toInt) : n < 24 := by
  have := h.2.1
  omega
theorem IX.w60 {u : LU} (h : IX u) {n : Nat} (hn : (n : Int) < (u 0 16).toInt) : n < 60 := by
  have := h.2.2.1
  omega
theorem q_state {l : Launch} {D : va_G} {cI cZ cQ : ClassId} {a : Nat → Nat} (u : LU) (n : Nat) (hI : IX u) (hn : (n : Int) < (u 0 12).toInt) : KI l yX0_state wsX0_state ({ frames := 2, cells := 0, slots := 0, locals := 42 } : Room) D (tyX cI cZ cQ) (wX cI cZ cQ a) [.ref (a 0), .int (nI n)] u (fun (r : Int32) (u' : LU) => r = u 6 n ∧ u' = u) := by
  have h24 := hI.l24 hn
  have en := ti_nI (n := n) (by omega)
  refine (c_X0_state u (nI n) hI ⟨by omega, by omega⟩).mono (fun r u' h => ?_)
  obtain ⟨n1, e1, h1, h2, h3⟩ := h
  have b1 := hI.l24 h1
  have e9 := nI_inj2 e1 (by omega) (by omega)
  subst e9
  exact ⟨h2, h3⟩
theorem q_stepOf {l : Launch} {D : va_G} {cI cZ cQ : ClassId} {a : Nat → Nat} (u : LU) (n : Nat) (hI : IX u) (hn : (n : Int) < (u 0 12).toInt) : KI l yX0_stepOf wsX0_stepOf ({ frames := 2, cells := 0, slots := 0, locals := 42 } : Room) D (tyX cI cZ cQ) (wX cI cZ cQ a) [.ref (a 0), .int (nI n)] u (fun (r : Int32) (u' : LU) => r = u 7 n ∧ u' = u) := by
  have h24 := hI.l24 hn
  have en := ti_nI (n := n) (by omega)
  refine (c_X0_stepOf u (nI n) hI ⟨by omega, by omega⟩).mono (fun r u' h => ?_)
  obtain ⟨n1, e1, h1, h2, h3⟩ := h
  have b1 := hI.l24 h1
  have e9 := nI_inj2 e1 (by omega) (by omega)
  subst e9
  exact ⟨h2, h3⟩
theorem q_size {l : Launch} {D : va_G} {cI cZ cQ : ClassId} {a : Nat → Nat} (u : LU) (n : Nat) (hI : IX u) (hn : (n : Int) < (u 0 12).toInt) : KI l yX0_size wsX0_size ({ frames := 2, cells := 0, slots := 0, locals := 42 } : Room) D (tyX cI cZ cQ) (wX cI cZ cQ a) [.ref (a 0), .int (nI n)] u (fun (r : Int32) (u' : LU) => r = u 12 n ∧ u' = u) := by
  have h24 := hI.l24 hn
  have en := ti_nI (n := n) (by omega)
  refine (c_X0_size u (nI n) hI ⟨by omega, by omega⟩).mono (fun r u' h => ?_)
  obtain ⟨n1, e1, h1, h2, h3⟩ := h
  have b1 := hI.l24 h1
  have e9 := nI_inj2 e1 (by omega) (by omega)
  subst e9
  exact ⟨h2, h3⟩
theorem q_reworks {l : Launch} {D : va_G} {cI cZ cQ : ClassId} {a : Nat → Nat} (u : LU) (n : Nat) (hI : IX u) (hn : (n : Int) < (u 0 12).toInt) : KI l yX0_reworks wsX0_reworks ({ frames := 2, cells := 0, slots := 0, locals := 42 } : Room) D (tyX cI cZ cQ) (wX cI cZ cQ a) [.ref (a 0), .int (nI n)] u (fun (r : Int32) (u' : LU) => r = u 10 n ∧ u' = u) := by
  have h24 := hI.l24 hn
  have en := ti_nI (n := n) (by omega)
  refine (c_X0_reworks u (nI n) hI ⟨by omega, by omega⟩).mono (fun r u' h => ?_)
  obtain ⟨n1, e1, h1, h2, h3⟩ := h
  have b1 := hI.l24 h1
  have e9 := nI_inj2 e1 (by omega) (by omega)
  subst e9
  exact ⟨h2, h3⟩
theorem q_parentOf {l : Launch} {D : va_G} {cI cZ cQ : ClassId} {a : Nat → Nat} (u : LU) (n : Nat) (hI : IX u) (hn : (n : Int) < (u 0 12).toInt) : KI l yX0_parentOf wsX0_parentOf ({ frames := 2, cells := 0, slots := 0, locals := 42 } : Room) D (tyX cI cZ cQ) (wX cI cZ cQ a) [.ref (a 0), .int (nI n)] u (fun (r : Int32) (u' : LU) => r = u 11 n ∧ u' = u) := by
  have h24 := hI.l24 hn
  have en := ti_nI (n := n) (by omega)
  refine (c_X0_parentOf u (nI n) hI ⟨by omega, by omega⟩).mono (fun r u' h => ?_)
  obtain ⟨n1, e1, h1, h2, h3⟩ := h
  have b1 := hI.l24 h1
  have e9 := nI_inj2 e1 (by omega) (by omega)
  subst e9
  exact ⟨h2, h3⟩
theorem q_slack {l : Launch} {D : va_G} {cI cZ cQ : ClassId} {a : Nat → Nat} (u : LU) (n : Nat) (hI : IX u) (hn : (n : Int) < (u 0 12).toInt) : KI l yX0_slack wsX0_slack ({ frames := 2, cells := 0, slots := 0, locals := 43 } : Room) D (tyX cI cZ cQ) (wX cI cZ cQ a) [.ref (a 0), .int (nI n)] u (fun (r : Int32) (u' : LU) => r = slX u n ∧ u' = u) := by
  have h24 := hI.l24 hn
  have en := ti_nI (n := n) (by omega)
  refine (c_X0_slack u (nI n) hI ⟨by omega, by omega⟩).mono (fun r u' h => ?_)
  obtain ⟨n1, e1, h1, h2, h3⟩ := h
  have b1 := hI.l24 h1
  have e9 := nI_inj2 e1 (by omega) (by omega)
  subst e9
  exact ⟨h2, h3⟩
theorem q_isLate {l : Launch} {D : va_G} {cI cZ cQ : ClassId} {a : Nat → Nat} (u : LU) (n : Nat) (hI : IX u) (hn : (n : Int) < (u 0 12).toInt) : KI l yX0_isLate wsX0_isLate ({ frames := 2, cells := 0, slots := 0, locals := 43 } : Room) D (tyX cI cZ cQ) (wX cI cZ cQ a) [.ref (a 0), .int (nI n)] u (fun (r : Int32) (u' : LU) => r = bP ((slX u n).toInt < 0) ∧ u' = u) := by
  have h24 := hI.l24 hn
  have en := ti_nI (n := n) (by omega)
  refine (c_X0_isLate u (nI n) hI ⟨by omega, by omega⟩).mono (fun r u' h => ?_)
  obtain ⟨n1, e1, h1, h2, h3⟩ := h
  have b1 := hI.l24 h1
  have e9 := nI_inj2 e1 (by omega) (by omega)
  subst e9
  exact ⟨h2, h3⟩
theorem q_lotOf {l : Launch} {D : va_G} {cI cZ cQ : ClassId} {a : Nat → Nat} (u : LU) (n : Nat) (hI : IX u) (hn : (n : Int) < (u 0 16).toInt) : KI l yX0_lotOf wsX0_lotOf ({ frames := 1, cells := 0, slots := 0, locals := 21 } : Room) D (tyX cI cZ cQ) (wX cI cZ cQ a) [.ref (a 0), .int (nI n)] u (fun (r : Int32) (u' : LU) => r = u 14 n ∧ u' = u) := by
  have h24 := hI.w60 hn
  have en := ti_nI (n := n) (by omega)
  refine (c_X0_lotOf u (nI n) hI ⟨by omega, by omega⟩).mono (fun r u' h => ?_)
  obtain ⟨n1, e1, h1, h2, h3⟩ := h
  have b1 := hI.w60 h1
  have e9 := nI_inj2 e1 (by omega) (by omega)
  subst e9
  exact ⟨h2, h3⟩
theorem q_path {l : Launch} {D : va_G} {cI cZ cQ : ClassId} {a : Nat → Nat} (u : LU) (n : Nat) (hI : IX u) (hn : (n : Int) < (u 0 16).toInt) : KI l yX0_path wsX0_path ({ frames := 1, cells := 0, slots := 0, locals := 21 } : Room) D (tyX cI cZ cQ) (wX cI cZ cQ a) [.ref (a 0), .int (nI n)] u (fun (r : Int32) (u' : LU) => r = u 16 n ∧ u' = u) := by
  have h24 := hI.w60 hn
  have en := ti_nI (n := n) (by omega)
  refine (c_X0_path u (nI n) hI ⟨by omega, by omega⟩).mono (fun r u' h => ?_)
  obtain ⟨n1, e1, h1, h2, h3⟩ := h
  have b1 := hI.w60 h1
  have e9 := nI_inj2 e1 (by omega) (by omega)
  subst e9
  exact ⟨h2, h3⟩
theorem q_pathAt {l : Launch} {D : va_G} {cI cZ cQ : ClassId} {a : Nat → Nat} (u : LU) (n j : Nat) (hI : IX u) (hn : (n : Int) < (u 0 16).toInt) (hj : (j : Int) < (u 16 n).toInt) : KI l yX0_pathAt wsX0_pathAt ({ frames := 1, cells := 0, slots := 0, locals := 22 } : Room) D (tyX cI cZ cQ) (wX cI cZ cQ a) [.ref (a 0), .int (nI n), .int (nI j)] u (fun (r : Int32) (u' : LU) => r = u (100 + n) j ∧ u' = u) := by
  have h24 := hI.w60 hn
  have en := ti_nI (n := n) (by omega)
  refine (c_X0_pathAt u (nI n) (nI j) hI ⟨by omega, by omega⟩ (fun w hw e => by have e9 := nI_inj2 e (by omega) (by omega); subst e9; have p9 := hI.2.2.2.2 w (by omega); have ej := ti_nI (n := j) (by omega); have t1 : (1 : Int32).toInt = 1 := rfl; have t9 : (u 16 w - 1).toInt = (u 16 w).toInt - (1 : Int32).toInt := ti_sub (by omega) (by omega); omega)).mono (fun r u' h => ?_)
  obtain ⟨n1, e1, h1, h2, h3, h4⟩ := h
  have b1 := hI.w60 h1
  have e9 := nI_inj2 e1 (by omega) (by omega)
  subst e9
  exact ⟨by rw [h3, tn_nI (by have p9 := hI.2.2.2.2 n1 (by omega); omega)], h4⟩
theorem q_start {l : Launch} {D : va_G} {cI cZ cQ : ClassId} {a : Nat → Nat} (u : LU) (n : Nat) (hI : IX u) (hn : (n : Int) < (u 0 12).toInt) (hy : rdX u n ∧ (0 ≤ (u 7 n).toInt ∧ (u 7 n).toInt < (u 0 4).toInt) ∧ ¬ buX u (u 1 (u 7 n).toNatClampNeg)) : KI l yX0_start wsX0_start ({ frames := 3, cells := 0, slots := 0, locals := 66 } : Room) D (tyX cI cZ cQ) (wX cI cZ cQ a) [.ref (a 0), .int (nI n)] u (fun (r : Int32) (u' : LU) => r = u 0 17 + u 2 (u 7 n).toNatClampNeg ∧ u' = saX u n) := by
  have h24 := hI.l24 hn
  have en := ti_nI (n := n) (by omega)
  refine (c_X0_start u (nI n) hI ⟨by omega, by omega⟩ (fun w hw e => by have e9 := nI_inj2 e (by omega) (by omega); subst e9; exact hy)).mono (fun r u' h => ?_)
  obtain ⟨n1, e1, h1, h2, h3, h4⟩ := h
  have b1 := hI.l24 h1
  have e9 := nI_inj2 e1 (by omega) (by omega)
  subst e9
  exact ⟨h3, h4⟩
theorem q_split {l : Launch} {D : va_G} {cI cZ cQ : ClassId} {a : Nat → Nat} (u : LU) (n : Nat) (y : Int32) (hI : IX u) (hn : (n : Int) < (u 0 12).toInt) (hy : (1 ≤ y.toInt ∧ y.toInt ≤ (u 12 n - 1).toInt) ∧ ((u 6 n).toInt = 0 ∧ (u 0 12).toInt < 24)) : KI l yX0_split wsX0_split ({ frames := 2, cells := 0, slots := 0, locals := 48 } : Room) D (tyX cI cZ cQ) (wX cI cZ cQ a) [.ref (a 0), .int (nI n), .int y] u (fun (r : Int32) (u' : LU) => ∃ k : Nat, k < 24 ∧ u 0 12 = nI k ∧ r = nI k ∧ u' = spX u n k y) := by
  have h24 := hI.l24 hn
  have en := ti_nI (n := n) (by omega)
  refine (c_X0_split u (nI n) y hI ⟨by omega, by omega⟩ (fun w hw e => by have e9 := nI_inj2 e (by omega) (by omega); subst e9; exact hy)).mono (fun r u' h => ?_)
  obtain ⟨n1, k, e1, h1, h2, h3, h4, h5, h6, h7⟩ := h
  have b1 := hI.l24 h1
  have e9 := nI_inj2 e1 (by omega) (by omega)
  subst e9
  exact ⟨k, h4, h5, h6, h7⟩
theorem q_hold {l : Launch} {D : va_G} {cI cZ cQ : ClassId} {a : Nat → Nat} (u : LU) (n : Nat) (P9 : Prop) (hI : IX u) (hn : (n : Int) < (u 0 12).toInt) (hy : ¬ (u 6 n).toInt = 2 ∧ ¬ (u 6 n).toInt = 3) : KI l yX0_hold wsX0_hold ({ frames := 2, cells := 0, slots := 0, locals := 42 } : Room) D (tyX cI cZ cQ) (wX cI cZ cQ a) [.ref (a 0), .int (nI n), .int (bP P9)] u (fun (r : Int32) (u' : LU) => r = u 9 n ∧ u' = up u 9 (upd (u 9) n (bP P9))) := by
  have h24 := hI.l24 hn
  have en := ti_nI (n := n) (by omega)
  refine (c_X0_hold u (nI n) P9 hI ⟨by omega, by omega⟩ (fun w hw e => by have e9 := nI_inj2 e (by omega) (by omega); subst e9; exact hy)).mono (fun r u' h => ?_)
  obtain ⟨n1, e1, h1, h2, h3, h4⟩ := h
  have b1 := hI.l24 h1
  have e9 := nI_inj2 e1 (by omega) (by omega)
  subst e9
  exact ⟨h3, h4⟩
theorem q_scrap {l : Launch} {D : va_G} {cI cZ cQ : ClassId} {a : Nat → Nat} (u : LU) (n k : Nat) (hI : IX u) (hn : (n : Int) < (u 0 16).toInt) (hk : u 14 n = nI k) (hkl : (k : Int) < (u 0 12).toInt) (h6 : (u 6 k).toInt = 0) : KI l yX0_scrap wsX0_scrap ({ frames := 1, cells := 0, slots := 0, locals := 22 } : Room) D (tyX cI cZ cQ) (wX cI cZ cQ a) [.ref (a 0), .int (nI n)] u (fun (_ : Int32) (u' : LU) => u' = scX u n k) := by
  have h60 := hI.w60 hn
  have h24 := hI.l24 hkl
  have en := ti_nI (n := n) (by omega)
  refine (c_X0_scrap u (nI n) hI ⟨by omega, by omega⟩ (fun w hw e => by have e9 := nI_inj2 e (by omega) (by omega); subst e9; exact ⟨k, hk, hkl, h6⟩)).mono (fun r u' h => ?_)
  obtain ⟨n1, k1, e1, h1, h2, h3, h4, h5, h7⟩ := h
  have b1 := hI.w60 h1
  have b3 := hI.l24 h3
  have e9 := nI_inj2 e1 (by omega) (by omega)
  subst e9
  rw [hk] at h2
  have e8 := nI_inj2 h2 (by omega) (by omega)
  subst e8
  exact h7
end
section
/-! THE INVARIANT of the class's state, as the law uses it: no merge, no rework -/
def LO (s : Nat) (u : LU) (l : Nat) : Prop := (0 ≤ (u 6 l).toInt ∧ (u 6 l).toInt ≤ 3) ∧ (0 ≤ (u 10 l).toInt ∧ (u 10 l).toInt ≤ 2) ∧ (-1 ≤ (u 11 l).toInt ∧ (u 11 l).toInt < l) ∧ ((u 6 l).toInt ≤ 1 → 0 ≤ (u 7 l).toInt ∧ (u 7 l).toInt < s) ∧ (2 ≤ (u 6 l).toInt → (u 7 l).toInt = -1)
/-- wafer w has the path q 0 .. q m: each is the parent of the next, the last one is its lot -/
def PA (u : LU) (w m : Nat) (q : Nat → Nat) : Prop := u 16 w = nI (m + 1) ∧ (∀ j, j ≤ m → u (100 + w) j = nI (q j) ∧ (q j : Int) < (u 0 12).toInt) ∧ u 11 (q 0) = -1 ∧ (∀ j, j < m → u 11 (q (j + 1)) = nI (q j)) ∧ (u 14 w = -1 ∨ u 14 w = nI (q m))
def JC (s : Nat) (B : Int) (u : LU) : Prop := u 0 4 = nI s ∧ (0 ≤ (u 0 12).toInt ∧ (u 0 12).toInt ≤ 24) ∧ (0 ≤ (u 0 16).toInt ∧ (u 0 16).toInt ≤ 60) ∧ (0 ≤ (u 0 17).toInt ∧ (u 0 17).toInt ≤ B)
def JS (s : Nat) (u : LU) : Prop := ∀ k : Nat, k < s → 1 ≤ (u 2 k).toInt ∧ (u 2 k).toInt ≤ 1000
def JH (u : LU) : Prop := ∀ n : Nat, n < 24 → u 9 n = 0 ∨ u 9 n = 1
def JL (s : Nat) (u : LU) : Prop := ∀ l : Nat, (l : Int) < (u 0 12).toInt → LO s u l
def JN (u : LU) : Prop := ∀ l : Nat, (l : Int) < (u 0 12).toInt → u 12 l = nI (ctA (u 14) (nI l) (u 0 16).toInt.toNat)
def JW (u : LU) : Prop := ∀ w : Nat, (w : Int) < (u 0 16).toInt → ∃ m q, m < 24 ∧ PA u w m q
def JP (u : LU) : Prop := ∀ w : Nat, w < 60 → 0 ≤ (u 16 w).toInt ∧ (u 16 w).toInt ≤ 47
def JV (s : Nat) (B : Int) (u : LU) : Prop := JC s B u ∧ JS s u ∧ JH u ∧ JL s u ∧ JN u ∧ JW u ∧ JP u
/-- a lot is ended just if it has no wafers -/
def JE (u : LU) : Prop := ∀ l : Nat, (l : Int) < (u 0 12).toInt → ((u 6 l).toInt = 3 ↔ (u 12 l).toInt = 0)
theorem JV.ix {s : Nat} {B : Int} {u : LU} (h : JV s B u) (hs : s ≤ 12) : IX u := by
  obtain ⟨⟨e4, h12, h16, h17⟩, -, h9, -, -, -, hP⟩ := h
  have es : (u 0 4).toInt = (s : Int) := by rw [e4]; exact ti_nI (by omega)
  exact ⟨by omega, h12, h16, fun n hn => bool01 (h9 n hn), hP⟩
theorem JV.up {s : Nat} {B B' : Int} {u : LU} (h : JV s B u) (hB : B ≤ B') : JV s B' u := by
  obtain ⟨⟨e4, h12, h16, h17⟩, r⟩ := h
  exact ⟨⟨e4, h12, h16, by omega⟩, r⟩
theorem m1_ti : (-1 : Int32).toInt = -1 := rfl
theorem p1_ti : (1 : Int32).toInt = 1 := rfl
theorem nI_m1 {n : Nat} (h : n < 2000000000) : ¬ nI n = -1 := fun e => by
  have := ti_nI h
  rw [e, m1_ti] at this
  omega
/-- a path grows -/
theorem PA.grow {s : Nat} {u : LU} {w m : Nat} {q : Nat → Nat} (hL : JL s u) (h24 : (u 0 12).toInt ≤ 24) (h : PA u w m q) : ∀ j, j ≤ m → j ≤ q j ∧ q j < 24 := by
  obtain ⟨-, p2, -, p4, -⟩ := h
  intro j
  induction j with
  | zero =>
    intro hj
    have := (p2 0 hj).2
    omega
  | succ j ih =>
    intro hj
    have h1 := ih (by omega)
    have h2 := (p2 (j + 1) hj).2
    have h3 := (hL _ h2).2.2.1
    rw [p4 j (by omega), ti_nI (by omega)] at h3
    omega
theorem JV.frame {s : Nat} {B : Int} {u u' : LU} (hJ : JV s B u) (h : ∀ j, j ≠ 6 → j ≠ 7 → j ≠ 8 → u' j = u j) (hl : JL s u') : JV s B u' := by
  obtain ⟨hC, hS, h9, hL, hN, hW, hP⟩ := hJ
  have g (j : Nat) (h1 : j ≠ 6) (h2 : j ≠ 7) (h3 : j ≠ 8) := h j h1 h2 h3
  have g0 := g 0 (by decide) (by decide) (by decide)
  have g2 := g 2 (by decide) (by decide) (by decide)
  have g9 := g 9 (by decide) (by decide) (by decide)
  have g11 := g 11 (by decide) (by decide) (by decide)
  have g12 := g 12 (by decide) (by decide) (by decide)
  have g14 := g 14 (by decide) (by decide) (by decide)
  have g16 := g 16 (by decide) (by decide) (by decide)
  refine ⟨?_, ?_, ?_, hl, ?_, ?_, ?_⟩
  · unfold JC; rw [g0]; exact hC
  · unfold JS; rw [g2]; exact hS
  · unfold JH; rw [g9]; exact h9
  · unfold JN; rw [g0, g12, g14]; exact hN
  · intro w hw
    rw [g0] at hw
    obtain ⟨m, q, hm, p1, p2, p3, p4, p5⟩ := hW w hw
    refine ⟨m, q, hm, ?_⟩
    unfold PA
    rw [g16, g0, g11, g14, g (100 + w) (by omega) (by omega) (by omega)]
    exact ⟨p1, p2, p3, p4, p5⟩
  · unfold JP; rw [g16]; exact hP
/-- the new lot -/
theorem mk_o (u : LU) (k : Nat) (st si hd r9 pa : Int32) {j : Nat} (h0 : j ≠ 0) (h : j < 6 ∨ 12 < j) : mkLX u k st si hd r9 pa j = u j := by
  unfold mkLX
  rw [up_n _ _ _ h0, up_n _ _ _ (by omega), up_n _ _ _ (by omega), up_n _ _ _ (by omega), up_n _ _ _ (by omega), up_n _ _ _ (by omega), up_n _ _ _ (by omega), up_n _ _ _ (by omega)]
theorem J_mk {s : Nat} {B : Int} {u : LU} {k : Nat} {st si hd r9 pa : Int32} (hJ : JV s B u) (hk : u 0 12 = nI k) (hk24 : k < 24) (hst : 0 ≤ st.toInt ∧ st.toInt < s) (hhd : hd = 0 ∨ hd = 1) (hr : 0 ≤ r9.toInt ∧ r9.toInt ≤ 2) (hpa : -1 ≤ pa.toInt ∧ pa.toInt < k) : JV s B (mkLX u k st si hd r9 pa) := by
  obtain ⟨⟨e4, h12, h16, h17⟩, hS, h9, hL, hN, hW, hP⟩ := hJ
  have ek : (u 0 12).toInt = (k : Int) := by rw [hk]; exact ti_nI (by omega)
  have g0 : mkLX u k st si hd r9 pa 0 = upd (u 0) 12 (nI k + 1) := rfl
  have e12 : (mkLX u k st si hd r9 pa 0 12).toInt = (k : Int) + 1 := by
    rw [g0, upd_s, nI_1, ti_nI (by omega)]
    rfl
  have e16 : mkLX u k st si hd r9 pa 0 16 = u 0 16 := rfl
  have g6 : mkLX u k st si hd r9 pa 6 = upd (u 6) k 0 := rfl
  have g7 : mkLX u k st si hd r9 pa 7 = upd (u 7) k st := rfl
  have g9 : mkLX u k st si hd r9 pa 9 = upd (u 9) k hd := rfl
  have g10 : mkLX u k st si hd r9 pa 10 = upd (u 10) k r9 := rfl
  have g11 : mkLX u k st si hd r9 pa 11 = upd (u 11) k pa := rfl
  have g12 : mkLX u k st si hd r9 pa 12 = upd (u 12) k 0 := rfl
  have g14 : mkLX u k st si hd r9 pa 14 = u 14 := rfl
  have g16 : mkLX u k st si hd r9 pa 16 = u 16 := rfl
  have hlot : ∀ w : Nat, (w : Int) < (u 0 16).toInt → (u 14 w).toInt < k := fun w hw => by
    obtain ⟨m, q, hm, p1, p2, p3, p4, p5⟩ := hW w hw
    rcases p5 with p5 | p5
    · rw [p5, m1_ti]; omega
    · have h1 := (p2 m (Nat.le_refl m)).2
      rw [p5, ti_nI (by omega)]
      omega
  refine ⟨⟨e4, by omega, h16, h17⟩, hS, ?_, ?_, ?_, ?_, hP⟩
  · intro n hn
    rw [g9]
    by_cases e : n = k
    · subst e; rw [upd_s]; exact hhd
    · rw [upd_n e]; exact h9 n hn
  · intro l hl
    unfold LO
    rw [g6, g7, g10, g11]
    by_cases e : l = k
    · subst e
      rw [upd_s, upd_s, upd_s, upd_s]
      exact ⟨by decide, hr, hpa, fun _ => hst, fun z => absurd z (by decide)⟩
    · rw [upd_n e, upd_n e, upd_n e, upd_n e]
      exact hL l (by omega)
  · intro l hl
    rw [g12, g14, e16]
    by_cases e : l = k
    · subst e
      rw [upd_s, ctA_z _ (fun w hw => by
        have := hlot w (by omega)
        rw [ti_nI (by omega)]
        omega)]
      rfl
    · rw [upd_n e]
      exact hN l (by omega)
  · intro w hw
    rw [e16] at hw
    obtain ⟨m, q, hm, p1, p2, p3, p4, p5⟩ := hW w hw
    have hq : ∀ j, j ≤ m → q j ≠ k := fun j hj => by
      have := (p2 j hj).2
      omega
    refine ⟨m, q, hm, ?_, ?_, ?_, ?_, ?_⟩
    · exact p1
    · intro j hj
      rw [mk_o _ _ _ _ _ _ _ (by omega) (by omega), e12]
      have := p2 j hj
      exact ⟨this.1, by omega⟩
    · rw [g11, upd_n (hq 0 (by omega))]; exact p3
    · intro j hj
      rw [g11, upd_n (hq (j + 1) (by omega))]; exact p4 j hj
    · exact p5
/-- the new wafer -/
theorem mw_o (u : LU) (w n : Nat) {j : Nat} (h : j < 100) (h0 : j ≠ 0) (h12 : j ≠ 12) (h14 : j ≠ 14) (h16 : j ≠ 16) : mwX u w n j = u j := by
  unfold mwX
  rw [putX_lo _ _ _ h h16]
  unfold put1
  rw [up_n _ _ _ h12, up_n _ _ _ h14, up_n _ _ _ h0, up_n _ _ _ h16]
theorem mw_0 (u : LU) (w n : Nat) : mwX u w n 0 = upd (u 0) 16 (nI (w + 1)) := by
  unfold mwX
  rw [putX_0, ← nI_1]
  rfl
theorem mw_12 (u : LU) (w n : Nat) : mwX u w n 12 = upd (u 12) n (u 12 n + 1) := by
  unfold mwX
  rw [putX_lo _ _ _ (by decide) (by decide)]
  rfl
theorem mw_14 (u : LU) (w n : Nat) : mwX u w n 14 = upd (u 14) w (nI n) := by
  unfold mwX
  rw [putX_lo _ _ _ (by decide) (by decide)]
  rfl
theorem mw_z (u : LU) (w : Nat) : (up (up u 16 (upd (u 16) w 0)) 0 (upd (u 0) 16 (nI w + 1))) 16 w = 0 := by
  show upd (u 16) w 0 w = 0
  exact upd_s
theorem mw_16 (u : LU) {w : Nat} (n : Nat) (hw : w < 60) : mwX u w n 16 = upd (upd (u 16) w 0) w (nI 1) := by
  unfold mwX
  rw [putX_16 _ _ _ hw, mw_z, if_pos (by decide)]
  rfl
theorem mw_row (u : LU) (w n q : Nat) : mwX u w n (100 + q) = if q = w then upd (u (100 + w)) 0 (nI n) else u (100 + q) := by
  unfold mwX
  rw [putX_row (by rw [mw_z]; decide), mw_z]
  by_cases e : q = w
  · rw [if_pos e, if_pos e, up_n _ _ _ (by omega), up_n _ _ _ (by omega)]
    rfl
  · rw [if_neg e, if_neg e, up_n _ _ _ (by omega), up_n _ _ _ (by omega)]
theorem J_mw {s : Nat} {B : Int} {u : LU} {w n : Nat} (hJ : JV s B u) (hw : u 0 16 = nI w) (hw60 : w < 60) (hn : (n : Int) < (u 0 12).toInt) (hp : u 11 n = -1) : JV s B (mwX u w n) := by
  obtain ⟨⟨e4, h12, h16, h17⟩, hS, h9, hL, hN, hW, hP⟩ := hJ
  have ew : (u 0 16).toInt = (w : Int) := by rw [hw]; exact ti_nI (by omega)
  have g (j : Nat) (a : j < 100) (b : j ≠ 0) (c : j ≠ 12) (d : j ≠ 14) (e : j ≠ 16) := mw_o u w n a b c d e
  have g0 := mw_0 u w n
  have e12 : mwX u w n 0 12 = u 0 12 := by rw [g0]; rfl
  have e16 : (mwX u w n 0 16).toInt = (w : Int) + 1 := by rw [g0, upd_s, ti_nI (by omega)]; rfl
  have g11 := g 11 (by decide) (by decide) (by decide) (by decide) (by decide)
  refine ⟨⟨by rw [g0]; exact e4, by rw [e12]; exact h12, by omega, by rw [g0]; exact h17⟩, ?_, ?_, ?_, ?_, ?_, ?_⟩
  · unfold JS
    rw [g 2 (by decide) (by decide) (by decide) (by decide) (by decide)]
    exact hS
  · unfold JH
    rw [g 9 (by decide) (by decide) (by decide) (by decide) (by decide)]
    exact h9
  · unfold JL LO
    rw [e12, g11, g 6 (by decide) (by decide) (by decide) (by decide) (by decide), g 7 (by decide) (by decide) (by decide) (by decide) (by decide), g 10 (by decide) (by decide) (by decide) (by decide) (by decide)]
    exact hL
  · intro l hl
    rw [e12] at hl
    have el := ti_nI (n := l) (by omega)
    have en := ti_nI (n := n) (by omega)
    rw [mw_12, mw_14, show (mwX u w n 0 16).toInt.toNat = w + 1 by omega]
    simp only [ctA]
    rw [upd_s, ctA_g (g := u 14) w (fun z hz => upd_n (by omega))]
    have h := hN l hl
    rw [show (u 0 16).toInt.toNat = w by omega] at h
    by_cases e : l = n
    · subst e
      rw [upd_s, if_pos rfl, h, nI_1]
    · rw [upd_n e, if_neg (by omega)]
      exact h
  · intro z hz
    rw [e16] at hz
    by_cases e : z = w
    · subst e
      refine ⟨0, fun _ => n, by decide, ?_, ?_, ?_, ?_, ?_⟩
      · rw [mw_16 _ _ hw60, upd_s]
      · intro j hj
        have : j = 0 := by omega
        subst this
        rw [mw_row, if_pos rfl, upd_s, e12]
        exact ⟨rfl, hn⟩
      · rw [g11]; exact hp
      · exact fun j hj => absurd hj (Nat.not_lt_zero j)
      · rw [mw_14, upd_s]; exact Or.inr rfl
    · obtain ⟨m, q, hm, p1, p2, p3, p4, p5⟩ := hW z (by omega)
      refine ⟨m, q, hm, ?_⟩
      unfold PA
      rw [mw_16 _ _ hw60, mw_14, mw_row, if_neg e, upd_n e, upd_n e, upd_n e, g11, e12]
      exact ⟨p1, p2, p3, p4, p5⟩
  · intro z hz
    rw [mw_16 _ _ hw60]
    by_cases e : z = w
    · subst e; rw [upd_s]; decide
    · rw [upd_n e, upd_n e]; exact hP z hz
/-- a wafer goes from f to its child t -/
theorem J_mv {s : Nat} {B : Int} {u : LU} {f t i : Nat} (hJ : JV s B u) (hi : (i : Int) < (u 0 16).toInt) (hf : u 14 i = nI f) (hfl : (f : Int) < (u 0 12).toInt) (htl : (t : Int) < (u 0 12).toInt) (hp : u 11 t = nI f) : JV s B (mv1 u f i t) := by
  obtain ⟨⟨e4, h12, h16, h17⟩, hS, h9, hL, hN, hW, hP⟩ := hJ
  have ef := ti_nI (n := f) (by omega)
  have et := ti_nI (n := t) (by omega)
  have hft : f < t := by
    have := (hL t htl).2.2.1
    rw [hp] at this
    omega
  obtain ⟨m0, q0, hm0, hPA⟩ := hW i hi
  have hgr := hPA.grow hL h12.2
  obtain ⟨p1, p2, p3, p4, p5⟩ := hPA
  have p5 : u 14 i = nI (q0 m0) := p5.resolve_left (fun z => nI_m1 (n := f) (by omega) (hf.symm.trans z))
  have eq0 : q0 m0 = f := nI_inj2 (hf.symm.trans p5) (by omega) (by have := hgr m0 (Nat.le_refl _); omega)
  have hm1 := (hgr m0 (Nat.le_refl _)).1
  have t16 : (u 16 i).toInt = (m0 : Int) + 1 := by rw [p1, ti_nI (by omega)]; rfl
  have h47 : (u 16 i).toInt < 47 := by omega
  have g (j : Nat) (a : j < 100) (b : j ≠ 12) (c : j ≠ 14) (d : j ≠ 16) := mv1_lo u f i t a b c d
  have g0 := g 0 (by decide) (by decide) (by decide) (by decide)
  have g11 := g 11 (by decide) (by decide) (by decide) (by decide)
  have g14 := mv1_14 u f i t
  have g16 := mv1_16 u f t (i := i) (by omega) h47
  refine ⟨by unfold JC; rw [g0]; exact ⟨e4, h12, h16, h17⟩, ?_, ?_, ?_, ?_, ?_, ?_⟩
  · unfold JS
    rw [g 2 (by decide) (by decide) (by decide) (by decide)]
    exact hS
  · unfold JH
    rw [g 9 (by decide) (by decide) (by decide) (by decide)]
    exact h9
  · unfold JL LO
    rw [g0, g11, g 6 (by decide) (by decide) (by decide) (by decide), g 7 (by decide) (by decide) (by decide) (by decide), g 10 (by decide) (by decide) (by decide) (by decide)]
    exact hL
  · intro l hl
    rw [g0] at hl
    have el := ti_nI (n := l) (by omega)
    rw [mv1_12, g14, g0]
    have h := ctA_upd (u 14) (nI l) (nI t) i (u 0 16).toInt.toNat
    rw [hf, et, ef, el] at h
    by_cases e : l = t
    · subst e
      rw [if_neg (by omega), if_pos ⟨by omega, rfl⟩] at h
      rw [upd_s, upd_n (by omega), hN l hl, nI_1]
      exact congrArg nI (by omega)
    · rw [upd_n e]
      by_cases e2 : l = f
      · subst e2
        rw [if_pos ⟨by omega, rfl⟩, if_neg (by omega)] at h
        rw [upd_s, hN l hl, show ctA (u 14) (nI l) (u 0 16).toInt.toNat = ctA (upd (u 14) i (nI t)) (nI l) (u 0 16).toInt.toNat + 1 by omega]
        exact nI_pred _
      · rw [if_neg (by omega), if_neg (by omega)] at h
        rw [upd_n e2, hN l hl]
        exact congrArg nI (by omega)
  · intro z hz
    rw [g0] at hz
    by_cases e : z = i
    · subst e
      obtain ⟨q1, hq1, hq2⟩ : ∃ q1 : Nat → Nat, (∀ j, j ≤ m0 → q1 j = q0 j) ∧ q1 (m0 + 1) = t := ⟨fun j => if j ≤ m0 then q0 j else t, fun j h => if_pos h, if_neg (by omega)⟩
      refine ⟨m0 + 1, q1, by omega, ?_, ?_, ?_, ?_, ?_⟩
      · rw [g16, upd_s, p1, nI_1]
      · intro j hj
        rw [mv1_row u f t h47, if_pos rfl, p1, tn_nI (by omega), g0]
        by_cases ej : j ≤ m0
        · rw [hq1 j ej, upd_n (by omega)]
          exact p2 j ej
        · have : j = m0 + 1 := by omega
          subst this
          rw [hq2, upd_s]
          exact ⟨rfl, htl⟩
      · rw [hq1 0 (by omega), g11]; exact p3
      · intro j hj
        rw [g11, hq1 j (by omega)]
        by_cases ej : j + 1 ≤ m0
        · rw [hq1 _ ej]
          exact p4 j (by omega)
        · have : j = m0 := by omega
          subst this
          rw [hq2, hp, eq0]
      · rw [g14, upd_s, hq2]
        exact Or.inr rfl
    · obtain ⟨m, q, hm, r1, r2, r3, r4, r5⟩ := hW z hz
      refine ⟨m, q, hm, ?_⟩
      unfold PA
      rw [g16, g14, mv1_row u f t h47, if_neg e, upd_n e, upd_n e, g11, g0]
      exact ⟨r1, r2, r3, r4, r5⟩
  · intro z hz
    rw [g16]
    by_cases e : z = i
    · subst e
      rw [upd_s, p1, nI_1, ti_nI (by omega)]
      omega
    · rw [upd_n e]; exact hP z hz
theorem J_hold {s : Nat} {B : Int} {u : LU} (hJ : JV s B u) (n : Nat) (P : Prop) : JV s B (up u 9 (upd (u 9) n (bP P))) := by
  obtain ⟨hC, hS, h9, hL, hN, hW, hP⟩ := hJ
  refine ⟨hC, hS, ?_, hL, hN, ?_, hP⟩
  · intro l hl
    show upd (u 9) n (bP P) l = 0 ∨ upd (u 9) n (bP P) l = 1
    by_cases e : l = n
    · subst e; rw [upd_s]; exact bP_or P
    · rw [upd_n e]; exact h9 l hl
  · intro w hw
    obtain ⟨m, q, hm, p1, p2, p3, p4, p5⟩ := hW w hw
    refine ⟨m, q, hm, p1, ?_, p3, p4, p5⟩
    rw [up_n _ _ _ (by omega)]
    exact p2
theorem J_sc {s : Nat} {B : Int} {u : LU} {w k : Nat} (hJ : JV s B u) (hw : (w : Int) < (u 0 16).toInt) (hk : u 14 w = nI k) (hkl : (k : Int) < (u 0 12).toInt) : JV s B (sc1X u w k) ∧ 1 ≤ (u 12 k).toInt := by
  obtain ⟨⟨e4, h12, h16, h17⟩, hS, h9, hL, hN, hW, hP⟩ := hJ
  have ek := ti_nI (n := k) (by omega)
  have hc (l : Nat) := ctA_upd (u 14) (nI l) (-1) w (u 0 16).toInt.toNat
  have hkc := hc k
  rw [hk, if_pos ⟨by omega, rfl⟩, m1_ti, if_neg (by omega), Nat.add_zero] at hkc
  have hle := ctA_le (u 14) (nI k) (u 0 16).toInt.toNat
  refine ⟨⟨⟨e4, h12, h16, h17⟩, hS, h9, hL, ?_, ?_, hP⟩, ?_⟩
  · intro l hl
    have hl : (l : Int) < (u 0 12).toInt := hl
    have el := ti_nI (n := l) (by omega)
    show upd (u 12) k (u 12 k - 1) l = nI (ctA (upd (u 14) w (-1)) (nI l) (u 0 16).toInt.toNat)
    by_cases e : l = k
    · subst e
      rw [upd_s, hN l hl, show ctA (u 14) (nI l) (u 0 16).toInt.toNat = ctA (upd (u 14) w (-1)) (nI l) (u 0 16).toInt.toNat + 1 from hkc.symm]
      exact nI_pred _
    · have h := hc l
      rw [hk, ek, el, if_neg (by omega), m1_ti, if_neg (by omega)] at h
      rw [upd_n e, hN l hl]
      exact congrArg nI (by omega)
  · intro z hz
    obtain ⟨m, q, hm, p1, p2, p3, p4, p5⟩ := hW z hz
    refine ⟨m, q, hm, p1, ?_, p3, p4, ?_⟩
    · unfold sc1X
      rw [up_n _ _ _ (by omega), up_n _ _ _ (by omega)]
      exact p2
    · show upd (u 14) w (-1) z = -1 ∨ upd (u 14) w (-1) z = nI (q m)
      by_cases e : z = w
      · subst e; rw [upd_s]; exact Or.inl rfl
      · rw [upd_n e]; exact p5
  · rw [hN k hkl, ti_nI (by omega)]
    omega
theorem J_time {s : Nat} {B : Int} {u : LU} {x : Int32} (hJ : JV s B u) (hB : B ≤ 1000000) (hx : 1 ≤ x.toInt ∧ x.toInt ≤ 40) : JV s (B + 40) (up u 0 (upd (u 0) 17 (u 0 17 + x))) := by
  obtain ⟨⟨e4, h12, h16, h17⟩, hS, h9, hL, hN, hW, hP⟩ := hJ
  refine ⟨⟨e4, h12, h16, ?_⟩, hS, h9, hL, hN, ?_, hP⟩
  · show 0 ≤ (upd (u 0) 17 (u 0 17 + x) 17).toInt ∧ (upd (u 0) 17 (u 0 17 + x) 17).toInt ≤ B + 40
    rw [upd_s, ti_add (by omega) (by omega)]
    omega
  · intro w hw
    obtain ⟨m, q, hm, p1, p2, p3, p4, p5⟩ := hW w hw
    refine ⟨m, q, hm, p1, ?_, p3, p4, p5⟩
    rw [up_n _ _ _ (by omega)]
    exact p2
end
section
/-! THE INVARIANT over the calls that change -/
def Inv (s : Nat) (B : Int) (u : LU) : Prop := JV s B u ∧ JE u
theorem Inv.up {s : Nat} {B B' : Int} {u : LU} (h : Inv s B u) (hB : B ≤ B') : Inv s B' u := ⟨h.1.up hB, h.2⟩
theorem z_ti : (0 : Int32).toInt = 0 := rfl
theorem en_loop {s : Nat} {B : Int} {v : LU} {n w : Nat} (hJ : JV s B v) (hn : (n : Int) < (v 0 12).toInt) (hp : v 11 n = -1) (hw : v 0 16 = nI w) (hz : v 12 n = 0) : ∀ c : Nat, w + c ≤ 60 → JV s B (enX v w n c) ∧ enX v w n c 0 16 = nI (w + c) ∧ enX v w n c 0 12 = v 0 12 ∧ enX v w n c 6 = v 6 ∧ enX v w n c 11 = v 11 ∧ enX v w n c 12 n = nI c ∧ ∀ l, l ≠ n → enX v w n c 12 l = v 12 l
  | 0, _ => ⟨hJ, hw, rfl, rfl, rfl, hz, fun _ _ => rfl⟩
  | c + 1, hc => by
    obtain ⟨h1, h2, h3, h4, h5, h6, h7⟩ := en_loop hJ hn hp hw hz c (by omega)
    have g (j : Nat) (a : j < 100) (b : j ≠ 0) (c1 : j ≠ 12) (d : j ≠ 14) (e : j ≠ 16) := mw_o (enX v w n c) (w + c) n a b c1 d e
    refine ⟨J_mw h1 h2 (by omega) (by rw [h3]; exact hn) (by rw [h5]; exact hp), ?_, ?_, ?_, ?_, ?_, fun l hl => ?_⟩
    · show mwX (enX v w n c) (w + c) n 0 16 = _
      rw [mw_0, upd_s]
      rfl
    · show mwX (enX v w n c) (w + c) n 0 12 = _
      rw [mw_0, upd_n (by decide)]
      exact h3
    · exact (g 6 (by decide) (by decide) (by decide) (by decide) (by decide)).trans h4
    · exact (g 11 (by decide) (by decide) (by decide) (by decide) (by decide)).trans h5
    · show mwX (enX v w n c) (w + c) n 12 n = _
      rw [mw_12, upd_s, h6, nI_1]
    · show mwX (enX v w n c) (w + c) n 12 l = _
      rw [mw_12, upd_n hl]
      exact h7 l hl
theorem I_enter {s : Nat} {B : Int} {u : LU} {n w c : Nat} (hI : Inv s B u) (hs : 1 ≤ s) (h12 : u 0 12 = nI n) (hn : n < 24) (h16 : u 0 16 = nI w) (hc : 1 ≤ c) (hwc : w + c ≤ 60) : Inv s B (enX (mkLX u n 0 (u 0 17) 0 0 (-1)) w n c) ∧ enX (mkLX u n 0 (u 0 17) 0 0 (-1)) w n c 0 12 = nI (n + 1) ∧ enX (mkLX u n 0 (u 0 17) 0 0 (-1)) w n c 0 16 = nI (w + c) := by
  obtain ⟨hJ, hE⟩ := hI
  have en := ti_nI (n := n) (by omega)
  have eL : (u 0 12).toInt = (n : Int) := by rw [h12]; exact en
  have hJv := J_mk (st := 0) (si := u 0 17) (hd := 0) (r9 := 0) (pa := -1) hJ h12 hn (by rw [z_ti]; omega) (Or.inl rfl) (by decide) (by rw [m1_ti]; omega)
  have g12 : mkLX u n 0 (u 0 17) 0 0 (-1) 0 12 = nI (n + 1) := by rw [← nI_1]; rfl
  have g6 : mkLX u n 0 (u 0 17) 0 0 (-1) 6 = upd (u 6) n 0 := rfl
  have g12' : mkLX u n 0 (u 0 17) 0 0 (-1) 12 = upd (u 12) n 0 := rfl
  have hL1 : (mkLX u n 0 (u 0 17) 0 0 (-1) 0 12).toInt = (n : Int) + 1 := by rw [g12, ti_nI (by omega)]; rfl
  obtain ⟨h1, h2, h3, h4, h5, h6, h7⟩ := en_loop (n := n) (w := w) hJv (by omega) (by show upd (u 11) n (-1) n = -1; exact upd_s) h16 (by show upd (u 12) n 0 n = 0; exact upd_s) c hwc
  refine ⟨⟨h1, fun l hl => ?_⟩, h3.trans g12, h2⟩
  rw [h3, hL1] at hl
  rw [h4, g6]
  by_cases e : l = n
  · subst e
    rw [upd_s, h6, ti_nI (by omega), z_ti]
    omega
  · rw [upd_n e, h7 l e, g12', upd_n e]
    exact hE l (by omega)
theorem sp_loop {s : Nat} {B : Int} {v : LU} {n k : Nat} {y : Int32} (hJ : JV s B v) (hn : (n : Int) < (v 0 12).toInt) (hk : (k : Int) < (v 0 12).toInt) (hnk : n ≠ k) (hp : v 11 k = nI n) (hy : 0 ≤ y.toInt) : ∀ i : Nat, (i : Int) ≤ (v 0 16).toInt → JV s B (mvX v n k y i).1 ∧ ((mvX v n k y i).2 : Int) ≤ y.toInt ∧ (∀ w, i ≤ w → (mvX v n k y i).1 14 w = v 14 w) ∧ (∀ j, j < 100 → j ≠ 12 → j ≠ 14 → j ≠ 16 → (mvX v n k y i).1 j = v j) ∧ ctA ((mvX v n k y i).1 14) (nI n) (v 0 16).toInt.toNat + (mvX v n k y i).2 = ctA (v 14) (nI n) (v 0 16).toInt.toNat ∧ ctA ((mvX v n k y i).1 14) (nI k) (v 0 16).toInt.toNat = ctA (v 14) (nI k) (v 0 16).toInt.toNat + (mvX v n k y i).2 ∧ (∀ l, l ≠ n → l ≠ k → (mvX v n k y i).1 12 l = v 12 l) ∧ (((mvX v n k y i).2 : Int) < y.toInt → (mvX v n k y i).2 = ctA (v 14) (nI n) i)
  | 0, _ => ⟨hJ, hy, fun _ _ => rfl, fun _ _ _ _ _ => rfl, rfl, rfl, fun _ _ _ => rfl, fun _ => rfl⟩
  | i + 1, hi => by
    obtain ⟨h1, h2, h3, h4, h5, h6, h7, h8⟩ := sp_loop hJ hn hk hnk hp hy i (by omega)
    simp only [mvX, ctA]
    revert h1 h2 h3 h4 h5 h6 h7 h8
    generalize mvX v n k y i = P
    obtain ⟨U, a⟩ := P
    intro h1 h2 h3 h4 h5 h6 h7 h8
    dsimp only at h1 h2 h3 h4 h5 h6 h7 h8 ⊢
    have hL24 := hJ.1.2.1
    have hW60 := hJ.1.2.2.1
    have en := ti_nI (n := n) (by omega)
    have ek := ti_nI (n := k) (by omega)
    have g0 := h4 0 (by decide) (by decide) (by decide) (by decide)
    have g11 := h4 11 (by decide) (by decide) (by decide) (by decide)
    have g14 := h3 i (Nat.le_refl i)
    by_cases q : (a : Int) < y.toInt ∧ (U 14 i).toInt = n
    · rw [if_pos q]
      dsimp only
      have hUi : U 14 i = nI n := ti_inj (by rw [q.2, en])
      have u14 := mv1_14 U n i k
      have c1 := ctA_upd (U 14) (nI n) (nI k) i (v 0 16).toInt.toNat
      have c2 := ctA_upd (U 14) (nI k) (nI k) i (v 0 16).toInt.toNat
      rw [hUi, en, ek, if_pos ⟨by omega, rfl⟩, if_neg (by omega)] at c1
      rw [hUi, en, ek, if_neg (by omega), if_pos ⟨by omega, rfl⟩] at c2
      refine ⟨J_mv h1 (by rw [g0]; omega) hUi (by rw [g0]; exact hn) (by rw [g0]; exact hk) (by rw [g11]; exact hp), by omega, fun w hw => ?_, fun j j1 j2 j3 j4 => ?_, ?_, ?_, fun l l1 l2 => ?_, fun hlt => ?_⟩
      · rw [u14, upd_n (by omega)]
        exact h3 w (by omega)
      · rw [mv1_lo U n i k j1 j2 j3 j4]
        exact h4 j j1 j2 j3 j4
      · rw [u14]
        omega
      · rw [u14]
        omega
      · rw [mv1_12, upd_n l2, upd_n l1]
        exact h7 l l1 l2
      · rw [if_pos (by rw [← g14, q.2, en])]
        have := h8 q.1
        omega
    · rw [if_neg q]
      refine ⟨h1, h2, fun w hw => h3 w (by omega), h4, h5, h6, h7, fun hlt => ?_⟩
      rw [if_neg (by rw [← g14, en]; exact fun z => q ⟨hlt, z⟩)]
      exact h8 hlt
theorem I_split {s : Nat} {B : Int} {u : LU} {n k : Nat} {y : Int32} (hI : Inv s B u) (hn : (n : Int) < (u 0 12).toInt) (h6 : (u 6 n).toInt = 0) (h12 : u 0 12 = nI k) (hk : k < 24) (hy : 1 ≤ y.toInt ∧ y.toInt ≤ (u 12 n - 1).toInt) : Inv s B (spX u n k y) ∧ spX u n k y 0 12 = nI (k + 1) ∧ spX u n k y 0 16 = u 0 16 ∧ (spX u n k y 12 k).toInt = y.toInt ∧ (spX u n k y 12 n).toInt = (u 12 n - y).toInt ∧ spX u n k y 11 k = nI n ∧ slX (spX u n k y) k = slX (spX u n k y) n := by
  obtain ⟨hJ, hE⟩ := hI
  have hL24 := hJ.1.2.1
  have hW60 := hJ.1.2.2.1
  have en := ti_nI (n := n) (by omega)
  have ek := ti_nI (n := k) (by omega)
  have eL : (u 0 12).toInt = (k : Int) := by rw [h12]; exact ek
  have hnk : n ≠ k := by omega
  obtain ⟨a6, a10, a11, a7, -⟩ := hJ.2.2.2.1 n hn
  have hJv := J_mk (st := u 7 n) (si := u 8 n) (hd := u 9 n) (r9 := u 10 n) (pa := nI n) hJ h12 hk (a7 (by omega)) (hJ.2.2.1 n (by omega)) a10 (by omega)
  have hS : spX u n k y = (mvX (mkLX u k (u 7 n) (u 8 n) (u 9 n) (u 10 n) (nI n)) n k y (u 0 16).toInt.toNat).1 := rfl
  have v16 : mkLX u k (u 7 n) (u 8 n) (u 9 n) (u 10 n) (nI n) 0 16 = u 0 16 := rfl
  have v12 : mkLX u k (u 7 n) (u 8 n) (u 9 n) (u 10 n) (nI n) 0 12 = nI (k + 1) := by rw [← nI_1]; rfl
  have v6 : mkLX u k (u 7 n) (u 8 n) (u 9 n) (u 10 n) (nI n) 6 = upd (u 6) k 0 := rfl
  have v7 : mkLX u k (u 7 n) (u 8 n) (u 9 n) (u 10 n) (nI n) 7 = upd (u 7) k (u 7 n) := rfl
  have v8 : mkLX u k (u 7 n) (u 8 n) (u 9 n) (u 10 n) (nI n) 8 = upd (u 8) k (u 8 n) := rfl
  have v11 : mkLX u k (u 7 n) (u 8 n) (u 9 n) (u 10 n) (nI n) 11 = upd (u 11) k (nI n) := rfl
  have v12' : mkLX u k (u 7 n) (u 8 n) (u 9 n) (u 10 n) (nI n) 12 = upd (u 12) k 0 := rfl
  have v14 : mkLX u k (u 7 n) (u 8 n) (u 9 n) (u 10 n) (nI n) 14 = u 14 := rfl
  rw [hS]
  generalize mkLX u k (u 7 n) (u 8 n) (u 9 n) (u 10 n) (nI n) = v at hJv v16 v12 v6 v7 v8 v11 v12' v14 ⊢
  have vL : (v 0 12).toInt = (k : Int) + 1 := by rw [v12, ti_nI (by omega)]; rfl
  obtain ⟨h1, h2, -, h4, h5, h6', h7, h8⟩ := sp_loop (n := n) (k := k) (y := y) hJv (by omega) (by omega) hnk (by rw [v11, upd_s]) (by omega) (u 0 16).toInt.toNat (by rw [v16]; omega)
  generalize mvX v n k y (u 0 16).toInt.toNat = P at h1 h2 h4 h5 h6' h7 h8 ⊢
  obtain ⟨U, a⟩ := P
  dsimp only at h1 h2 h4 h5 h6' h7 h8 ⊢
  have g0 := h4 0 (by decide) (by decide) (by decide) (by decide)
  have g3 := h4 3 (by decide) (by decide) (by decide) (by decide)
  have g6 := h4 6 (by decide) (by decide) (by decide) (by decide)
  have g7 := h4 7 (by decide) (by decide) (by decide) (by decide)
  have g8 := h4 8 (by decide) (by decide) (by decide) (by decide)
  have g11 := h4 11 (by decide) (by decide) (by decide) (by decide)
  have hle := ctA_le (u 14) (nI n) (u 0 16).toInt.toNat
  have sn : (u 12 n).toInt = (ctA (u 14) (nI n) (u 0 16).toInt.toNat : Nat) := by rw [hJ.2.2.2.2.1 n hn]; exact ti_nI (by omega)
  have s1 : (u 12 n - 1).toInt = (u 12 n).toInt - (1 : Int32).toInt := ti_sub (by rw [p1_ti]; omega) (by rw [p1_ti]; omega)
  rw [p1_ti] at s1
  have ck : ctA (v 14) (nI k) (v 0 16).toInt.toNat = 0 := by
    have h := hJv.2.2.2.2.1 k (by omega)
    have hl := ctA_le (v 14) (nI k) (v 0 16).toInt.toNat
    rw [v12', upd_s] at h
    have h9 := congrArg Int32.toInt h
    rw [v16] at hl h9 ⊢
    rw [ti_nI (by omega), z_ti] at h9
    omega
  rw [v14] at h8
  have ha : (a : Int) = y.toInt := by
    rcases Int.lt_or_le (a : Int) y.toInt with q | q
    · have := h8 q
      omega
    · omega
  rw [v14] at h5
  rw [ck] at h6'
  have b1 := h1.2.2.2.2.1 n (by rw [g0]; omega)
  have b2 := h1.2.2.2.2.1 k (by rw [g0]; omega)
  rw [g0] at b1 b2
  rw [v16] at b1 b2 h5 h6'
  have t1 : (U 12 n).toInt = (u 12 n).toInt - y.toInt := by rw [b1, ti_nI (by omega)]; omega
  have t2 : (U 12 k).toInt = y.toInt := by rw [b2, ti_nI (by omega)]; omega
  refine ⟨⟨h1, fun l hl => ?_⟩, by rw [g0]; exact v12, by rw [g0]; exact v16, t2, ?_, by rw [g11, v11, upd_s], ?_⟩
  · rw [g0] at hl
    rw [g6, v6]
    by_cases e : l = k
    · subst e
      rw [upd_s, z_ti]
      omega
    · rw [upd_n e]
      by_cases e2 : l = n
      · subst e2
        omega
      · rw [h7 l e2 e, v12', upd_n e]
        exact hE l (by omega)
  · rw [t1, ti_sub (by omega) (by omega)]
  · unfold slX
    rw [g6, g7, g8, g0, g3, v6, v7, v8, upd_s, upd_s, upd_s, upd_n hnk, upd_n hnk, upd_n hnk, h6, z_ti]
theorem I_scrap {s : Nat} {B : Int} {u : LU} {w k : Nat} (hI : Inv s B u) (hw : (w : Int) < (u 0 16).toInt) (hk : u 14 w = nI k) (hkl : (k : Int) < (u 0 12).toInt) (h6 : (u 6 k).toInt = 0) : Inv s B (scX u w k) ∧ scX u w k 0 = u 0 := by
  obtain ⟨hJ, hE⟩ := hI
  obtain ⟨hJ1, hsz⟩ := J_sc hJ hw hk hkl
  have hr := ti_rng (u 12 k)
  have s1 : (u 12 k - 1).toInt = (u 12 k).toInt - (1 : Int32).toInt := ti_sub (by rw [p1_ti]; omega) (by rw [p1_ti]; omega)
  rw [p1_ti] at s1
  have f12 : sc1X u w k 12 = upd (u 12) k (u 12 k - 1) := rfl
  have f6 : sc1X u w k 6 = u 6 := rfl
  have f0 : sc1X u w k 0 = u 0 := rfl
  unfold scX
  by_cases q : (u 12 k - 1).toInt = 0
  · rw [if_pos q]
    refine ⟨⟨hJ1.frame (fun j j6 j7 j8 => ?_) (fun l hl => ?_), fun l hl => ?_⟩, rfl⟩
    · unfold lvX
      rw [up_n _ _ _ j7, up_n _ _ _ j6]
    · have hl : (l : Int) < (u 0 12).toInt := hl
      have h := hJ.2.2.2.1 l hl
      show (0 ≤ (upd (u 6) k 3 l).toInt ∧ (upd (u 6) k 3 l).toInt ≤ 3) ∧ (0 ≤ (u 10 l).toInt ∧ (u 10 l).toInt ≤ 2) ∧ (-1 ≤ (u 11 l).toInt ∧ (u 11 l).toInt < l) ∧ ((upd (u 6) k 3 l).toInt ≤ 1 → 0 ≤ (upd (u 7) k (-1) l).toInt ∧ (upd (u 7) k (-1) l).toInt < s) ∧ (2 ≤ (upd (u 6) k 3 l).toInt → (upd (u 7) k (-1) l).toInt = -1)
      by_cases e : l = k
      · subst e
        rw [upd_s, upd_s]
        exact ⟨by decide, h.2.1, h.2.2.1, fun z => absurd z (by decide), fun _ => rfl⟩
      · rw [upd_n e, upd_n e]
        exact h
    · have hl : (l : Int) < (u 0 12).toInt := hl
      show (upd (u 6) k 3 l).toInt = 3 ↔ (upd (u 12) k (u 12 k - 1) l).toInt = 0
      by_cases e : l = k
      · subst e
        rw [upd_s, upd_s]
        exact ⟨fun _ => q, fun _ => rfl⟩
      · rw [upd_n e, upd_n e]
        exact hE l hl
  · rw [if_neg q]
    refine ⟨⟨hJ1, fun l hl => ?_⟩, rfl⟩
    have hl : (l : Int) < (u 0 12).toInt := hl
    rw [f6, f12]
    by_cases e : l = k
    · subst e
      rw [upd_s]
      omega
    · rw [upd_n e]
      exact hE l hl
theorem I_hold {s : Nat} {B : Int} {u : LU} (hI : Inv s B u) (n : Nat) (P : Prop) : Inv s B (up u 9 (upd (u 9) n (bP P))) := ⟨J_hold hI.1 n P, hI.2⟩
theorem I_start {s : Nat} {B : Int} {u : LU} {n : Nat} (hI : Inv s B u) (hs : s ≤ 12) (hB : B ≤ 1000000) (hn : (n : Int) < (u 0 12).toInt) (h6 : (u 6 n).toInt = 0) : Inv s B (saX u n) ∧ saX u n 0 = u 0 ∧ (u 0 17).toInt < (u 0 17 + u 2 (u 7 n).toNatClampNeg).toInt := by
  obtain ⟨hJ, hE⟩ := hI
  have h17 := hJ.1.2.2.2
  have h0 := hJ.2.2.2.1 n hn
  have h7 := h0.2.2.2.1 (by omega)
  have hk := tnc h7.1
  have h2 := hJ.2.1 (u 7 n).toNatClampNeg (by omega)
  refine ⟨⟨hJ.frame (fun j j6 j7 j8 => ?_) (fun l hl => ?_), fun l hl => ?_⟩, rfl, ?_⟩
  · unfold saX
    rw [up_n _ _ _ j8, up_n _ _ _ j6]
  · have hl : (l : Int) < (u 0 12).toInt := hl
    have h := hJ.2.2.2.1 l hl
    show (0 ≤ (upd (u 6) n 1 l).toInt ∧ (upd (u 6) n 1 l).toInt ≤ 3) ∧ (0 ≤ (u 10 l).toInt ∧ (u 10 l).toInt ≤ 2) ∧ (-1 ≤ (u 11 l).toInt ∧ (u 11 l).toInt < l) ∧ ((upd (u 6) n 1 l).toInt ≤ 1 → 0 ≤ (u 7 l).toInt ∧ (u 7 l).toInt < s) ∧ (2 ≤ (upd (u 6) n 1 l).toInt → (u 7 l).toInt = -1)
    by_cases e : l = n
    · subst e
      rw [upd_s]
      exact ⟨by decide, h.2.1, h.2.2.1, fun _ => h7, fun z => absurd z (by decide)⟩
    · rw [upd_n e]
      exact h
  · have hl : (l : Int) < (u 0 12).toInt := hl
    show (upd (u 6) n 1 l).toInt = 3 ↔ (u 12 l).toInt = 0
    by_cases e : l = n
    · subst e
      have := hE l hl
      rw [upd_s, p1_ti]
      omega
    · rw [upd_n e]
      exact hE l hl
  · rw [ti_add (by omega) (by omega)]
    omega
theorem I_ep {s : Nat} {B : Int} {u : LU} {i : Nat} (hI : Inv s B u) (hs : s ≤ 12) (hi : (i : Int) < (u 0 12).toInt) (h6 : (u 6 i).toInt = 1) : Inv s B (epX u i) := by
  obtain ⟨hJ, hE⟩ := hI
  have h0 := hJ.2.2.2.1 i hi
  have h7 := h0.2.2.2.1 (by omega)
  have hz := hE i hi
  have t7 : (u 7 i + 1).toInt = (u 7 i).toInt + (1 : Int32).toInt := ti_add (by rw [p1_ti]; omega) (by rw [p1_ti]; omega)
  rw [p1_ti] at t7
  have e4 : (u 0 4).toInt = (s : Int) := by rw [hJ.1.1]; exact ti_nI (by omega)
  unfold epX
  by_cases q : 0 ≤ (u 7 i + 1).toInt ∧ (u 7 i + 1).toInt < (u 0 4).toInt
  · rw [if_pos q]
    refine ⟨hJ.frame (fun j j6 j7 j8 => ?_) (fun l hl => ?_), fun l hl => ?_⟩
    · rw [up_n _ _ _ j7, up_n _ _ _ j6]
    · have hl : (l : Int) < (u 0 12).toInt := hl
      have h := hJ.2.2.2.1 l hl
      show (0 ≤ (upd (u 6) i 0 l).toInt ∧ (upd (u 6) i 0 l).toInt ≤ 3) ∧ (0 ≤ (u 10 l).toInt ∧ (u 10 l).toInt ≤ 2) ∧ (-1 ≤ (u 11 l).toInt ∧ (u 11 l).toInt < l) ∧ ((upd (u 6) i 0 l).toInt ≤ 1 → 0 ≤ (upd (u 7) i (u 7 i + 1) l).toInt ∧ (upd (u 7) i (u 7 i + 1) l).toInt < s) ∧ (2 ≤ (upd (u 6) i 0 l).toInt → (upd (u 7) i (u 7 i + 1) l).toInt = -1)
      by_cases e : l = i
      · subst e
        rw [upd_s, upd_s]
        exact ⟨by decide, h.2.1, h.2.2.1, fun _ => by omega, fun z => absurd z (by decide)⟩
      · rw [upd_n e, upd_n e]
        exact h
    · have hl : (l : Int) < (u 0 12).toInt := hl
      show (upd (u 6) i 0 l).toInt = 3 ↔ (u 12 l).toInt = 0
      by_cases e : l = i
      · subst e
        rw [upd_s, z_ti]
        omega
      · rw [upd_n e]
        exact hE l hl
  · rw [if_neg q]
    refine ⟨hJ.frame (fun j j6 j7 j8 => ?_) (fun l hl => ?_), fun l hl => ?_⟩
    · unfold lvX
      rw [up_n _ _ _ j7, up_n _ _ _ j6]
    · have hl : (l : Int) < (u 0 12).toInt := hl
      have h := hJ.2.2.2.1 l hl
      show (0 ≤ (upd (u 6) i 2 l).toInt ∧ (upd (u 6) i 2 l).toInt ≤ 3) ∧ (0 ≤ (u 10 l).toInt ∧ (u 10 l).toInt ≤ 2) ∧ (-1 ≤ (u 11 l).toInt ∧ (u 11 l).toInt < l) ∧ ((upd (u 6) i 2 l).toInt ≤ 1 → 0 ≤ (upd (u 7) i (-1) l).toInt ∧ (upd (u 7) i (-1) l).toInt < s) ∧ (2 ≤ (upd (u 6) i 2 l).toInt → (upd (u 7) i (-1) l).toInt = -1)
      by_cases e : l = i
      · subst e
        rw [upd_s, upd_s]
        exact ⟨by decide, h.2.1, h.2.2.1, fun z => absurd z (by decide), fun _ => rfl⟩
      · rw [upd_n e, upd_n e]
        exact h
    · have hl : (l : Int) < (u 0 12).toInt := hl
      show (upd (u 6) i 2 l).toInt = 3 ↔ (u 12 l).toInt = 0
      by_cases e : l = i
      · subst e
        rw [upd_s, show (2 : Int32).toInt = 2 from rfl]
        omega
      · rw [upd_n e]
        exact hE l hl
theorem I_av {s : Nat} {B : Int} {u : LU} (hI : Inv s B u) (hs : s ≤ 12) : ∀ i : Nat, (i : Int) ≤ (u 0 12).toInt → Inv s B (avX u i).1 ∧ (avX u i).1 0 = u 0
  | 0, _ => ⟨hI, rfl⟩
  | i + 1, hi => by
    obtain ⟨h1, h2⟩ := I_av hI hs i (by omega)
    simp only [avX]
    generalize avX u i = P at h1 h2 ⊢
    obtain ⟨U, a⟩ := P
    dsimp only at h1 h2 ⊢
    by_cases q : (U 6 i).toInt = 1 ∧ (U 8 i).toInt ≤ (U 0 17).toInt
    · rw [if_pos q]
      exact ⟨I_ep h1 hs (by rw [h2]; omega) q.1, (epX_0 U i).trans h2⟩
    · rw [if_neg q]
      exact ⟨h1, h2⟩
theorem I_adv {s : Nat} {B : Int} {u : LU} {x : Int32} (hI : Inv s B u) (hs : s ≤ 12) (hB : B ≤ 1000000) (hx : 1 ≤ x.toInt ∧ x.toInt ≤ 40) : Inv s (B + 40) (avX (up u 0 (upd (u 0) 17 (u 0 17 + x))) (u 0 12).toInt.toNat).1 ∧ (avX (up u 0 (upd (u 0) 17 (u 0 17 + x))) (u 0 12).toInt.toNat).1 0 12 = u 0 12 ∧ (avX (up u 0 (upd (u 0) 17 (u 0 17 + x))) (u 0 12).toInt.toNat).1 0 16 = u 0 16 := by
  have h12 := hI.1.1.2.1
  have hI1 : Inv s (B + 40) (up u 0 (upd (u 0) 17 (u 0 17 + x))) := ⟨J_time hI.1 hB hx, hI.2⟩
  obtain ⟨h1, h2⟩ := I_av hI1 hs (u 0 12).toInt.toNat (by show (((u 0 12).toInt.toNat : Nat) : Int) ≤ (u 0 12).toInt; omega)
  exact ⟨h1, by rw [h2]; rfl, by rw [h2]; rfl⟩
/-- the route, ahead of the first lot -/
theorem J_as {k : Nat} {u : LU} {x y z b : Int32} (hJ : JV k 0 u) (h12 : u 0 12 = 0) (h16 : u 0 16 = 0) (hk : k < 12) (hy : 1 ≤ y.toInt ∧ y.toInt ≤ 1000) : JV (k + 1) 0 (asX u x y z b) ∧ asX u x y z b 0 12 = 0 ∧ asX u x y z b 0 16 = 0 := by
  obtain ⟨⟨e4, -, -, h17⟩, hS, h9, -, -, -, hP⟩ := hJ
  have g12 : asX u x y z b 0 12 = 0 := h12
  have g16 : asX u x y z b 0 16 = 0 := h16
  refine ⟨⟨⟨?_, by rw [g12]; decide, by rw [g16]; decide, h17⟩, ?_, h9, ?_, ?_, ?_, hP⟩, g12, g16⟩
  · show upd (u 0) 4 (u 0 4 + 1) 4 = _
    rw [upd_s, e4, nI_1]
  · intro j hj
    show 1 ≤ (upd (u 2) (u 0 4).toNatClampNeg y j).toInt ∧ (upd (u 2) (u 0 4).toNatClampNeg y j).toInt ≤ 1000
    rw [e4, tn_nI (by omega)]
    by_cases e : j = k
    · subst e
      rw [upd_s]
      exact hy
    · rw [upd_n e]
      exact hS j (by omega)
  · intro l hl
    rw [g12, z_ti] at hl
    omega
  · intro l hl
    rw [g12, z_ti] at hl
    omega
  · intro l hl
    rw [g16, z_ti] at hl
    omega
theorem J_init : JV 0 0 (fun _ _ => 0) := by
  refine ⟨⟨rfl, by decide, by decide, by decide⟩, fun k hk => absurd hk (Nat.not_lt_zero k), fun _ _ => Or.inl rfl, fun l hl => ?_, fun l hl => ?_, fun l hl => ?_, fun _ _ => (by decide : 0 ≤ (0 : Int32).toInt ∧ (0 : Int32).toInt ≤ 47)⟩
  · have hl : (l : Int) < 0 := hl
    omega
  · have hl : (l : Int) < 0 := hl
    omega
  · have hl : (l : Int) < 0 := hl
    omega
theorem JE_none {u : LU} (h : u 0 12 = 0) : JE u := fun l hl => by
  rw [h, z_ti] at hl
  omega
end
section
/-! what the law asks of the answers, from the invariant -/
/-- sizes of the lots below i, summed over the steps below t -/
def sumX (u : LU) (i : Nat) : Nat → Int32
  | 0 => 0
  | t + 1 => sumX u i t + waX u (nI t) i
/-- sizes of the lots below i that wait or run -/
def allX (u : LU) : Nat → Int32
  | 0 => 0
  | i + 1 => if (u 6 i).toInt < 2 then allX u i + u 12 i else allX u i
theorem sum_0 (u : LU) : ∀ t, sumX u 0 t = 0
  | 0 => rfl
  | t + 1 => by
    simp only [sumX, waX]
    rw [sum_0 u t]
    rfl
theorem sum_s (u : LU) (i : Nat) : ∀ t : Nat, t < 1000 → sumX u (i + 1) t = (if 0 ≤ (u 7 i).toInt ∧ (u 7 i).toInt < t then sumX u i t + u 12 i else sumX u i t)
  | 0, _ => by
    rw [if_neg (by omega)]
    rfl
  | t + 1, ht => by
    have et := ti_nI (n := t) (by omega)
    have ih := sum_s u i t (by omega)
    simp only [sumX, waX]
    rw [ih]
    by_cases e : (u 7 i).toInt = (nI t).toInt
    · rw [if_pos e, if_neg (by omega), if_pos (by omega), Int32.add_assoc]
    · rw [if_neg e]
      by_cases q : 0 ≤ (u 7 i).toInt ∧ (u 7 i).toInt < t
      · rw [if_pos q, if_pos (by omega), Int32.add_assoc, Int32.add_comm (u 12 i), ← Int32.add_assoc]
      · rw [if_neg q, if_neg (by omega)]
theorem sum_all {s : Nat} {u : LU} (hs : s ≤ 12) (hL : JL s u) : ∀ i : Nat, (i : Int) ≤ (u 0 12).toInt → sumX u i s = allX u i
  | 0, _ => sum_0 u s
  | i + 1, hi => by
    have h := hL i (by omega)
    obtain ⟨h6, -, -, h7, h7'⟩ := h
    simp only [allX]
    rw [sum_s u i s (by omega), sum_all hs hL i (by omega)]
    by_cases q : (u 6 i).toInt < 2
    · rw [if_pos q, if_pos (h7 (by omega))]
    · rw [if_neg q, if_neg (by omega)]
theorem wa_cw {u : LU} (h24 : (u 0 12).toInt ≤ 24) (hN : JN u) (x : Int32) : ∀ i : Nat, (i : Int) ≤ (u 0 12).toInt → waX u x i = nI (cw (u 14) (fun j => (u 7 j).toInt = x.toInt) i (u 0 16).toInt.toNat)
  | 0, _ => by
    rw [cw_0]
    rfl
  | i + 1, hi => by
    have ih := wa_cw h24 hN x i (by omega)
    simp only [waX]
    rw [ih, cw_s _ _ (by omega), hN i (by omega)]
    by_cases q : (u 7 i).toInt = x.toInt
    · rw [if_pos q, cif_t q, nI_add]
    · rw [if_neg q, cif_f q, Nat.add_zero]
theorem wb_cw {u : LU} (h12 : 0 ≤ (u 0 12).toInt) (x : Int32) : ∀ W : Nat, wbX u x W = cw (u 14) (fun j => (u 7 j).toInt = x.toInt) (u 0 12).toInt.toNat W
  | 0 => rfl
  | W + 1 => by
    have hT : (((u 0 12).toInt.toNat : Nat) : Int) = (u 0 12).toInt := Int.toNat_of_nonneg h12
    simp only [wbX, cw]
    rw [wb_cw h12 x W, hT]
    by_cases z : ((0 ≤ (u 14 W).toInt ∧ (u 14 W).toInt < (u 0 12).toInt) ∧ (u 7 (u 14 W).toNatClampNeg).toInt = x.toInt)
    · rw [if_pos z, cif_t z]
    · rw [if_neg z, cif_f z, Nat.add_zero]
theorem wb_wa {s : Nat} {B : Int} {u : LU} (hJ : JV s B u) (x : Int32) : nI (wbX u x (u 0 16).toInt.toNat) = waX u x (u 0 12).toInt.toNat := by
  have h12 := hJ.1.2.1
  rw [wb_cw h12.1, wa_cw h12.2 hJ.2.2.2.2.1 x _ (by omega)]
theorem JL.old {s : Nat} {u : LU} (h : JL s u) : OLD u := fun l hl => (h l hl).2.2.1
theorem co_com {u : LU} (h : OLD u) : ∀ (k : Nat) (a b : Int32), -1 ≤ a.toInt → -1 ≤ b.toInt → a.toInt + b.toInt + 2 ≤ k → coX u k a b = coX u k b a
  | 0, a, b, ha, hb, hk => by
    have : a = b := ti_inj (by omega)
    rw [this]
  | k + 1, a, b, ha, hb, hk => by
    simp only [coX]
    by_cases e : a.toInt = b.toInt
    · rw [if_pos e, if_pos e.symm]
      exact ti_inj e
    · rw [if_neg e, if_neg (show ¬ b.toInt = a.toInt from fun z => e z.symm)]
      by_cases q : b.toInt < a.toInt
      · have h1 := pon_le h a ha
        have h2 := h1.2.2 (by omega)
        rw [if_pos q, if_neg (by omega)]
        exact co_com h k (ponX u a) b h1.1 hb (by omega)
      · have h1 := pon_le h b hb
        have h2 := h1.2.2 (by omega)
        rw [if_neg q, if_pos (by omega)]
        exact co_com h k a (ponX u b) ha h1.1 (by omega)
theorem co_self (u : LU) (a : Int32) : coX u 48 a a = a := by
  show (if a.toInt = a.toInt then a else _) = a
  exact if_pos rfl
theorem co_le {u : LU} (h : OLD u) : ∀ (k : Nat) (a b : Int32), -1 ≤ a.toInt → -1 ≤ b.toInt → a.toInt + b.toInt + 2 ≤ k → -1 ≤ (coX u k a b).toInt ∧ (coX u k a b).toInt ≤ a.toInt ∧ (coX u k a b).toInt ≤ b.toInt
  | 0, a, b, ha, hb, hk => by
    simp only [coX]
    omega
  | k + 1, a, b, ha, hb, hk => by
    simp only [coX]
    by_cases e : a.toInt = b.toInt
    · rw [if_pos e]
      omega
    · rw [if_neg e]
      by_cases q : b.toInt < a.toInt
      · have h1 := pon_le h a ha
        have h2 := h1.2.2 (by omega)
        have h3 := co_le h k (ponX u a) b h1.1 hb (by omega)
        rw [if_pos q]
        omega
      · have h1 := pon_le h b hb
        have h2 := h1.2.2 (by omega)
        have h3 := co_le h k a (ponX u b) ha h1.1 (by omega)
        rw [if_neg q]
        omega
theorem co_it (u : LU) : ∀ (k : Nat) (a b : Int32), ∃ j, itX u j a = coX u k a b
  | 0, a, b => ⟨0, rfl⟩
  | k + 1, a, b => by
    simp only [coX]
    by_cases e : a.toInt = b.toInt
    · rw [if_pos e]
      exact ⟨0, rfl⟩
    · rw [if_neg e]
      by_cases q : b.toInt < a.toInt
      · rw [if_pos q]
        obtain ⟨j, hj⟩ := co_it u k (ponX u a) b
        exact ⟨j + 1, hj⟩
      · rw [if_neg q]
        exact co_it u k a (ponX u b)
/-- a climb that has not met z yet: one further -/
theorem it_next {u : LU} {a z : Int32} (h : ∃ j, itX u j a = z) (hne : ¬ a.toInt = z.toInt) : ∃ j, itX u j (ponX u a) = z := by
  obtain ⟨j, hj⟩ := h
  cases j with
  | zero => exact absurd (congrArg Int32.toInt hj) hne
  | succ j => exact ⟨j, hj⟩
/-- nothing lies above no lot -/
theorem it_m1 {u : LU} (h : OLD u) {a z : Int32} (ha : a.toInt = -1) (hz : -1 ≤ z.toInt) (hj : ∃ j, itX u j a = z) : z.toInt = -1 := by
  obtain ⟨j, rfl⟩ := hj
  have := it_le h j a (by omega)
  omega
theorem q_pon {l : Launch} {D : va_G} {cI cZ cQ : ClassId} {a : Nat → Nat} (u : LU) (x : Int32) (hI : IX u) (hx : 0 ≤ x.toInt ∧ x.toInt < (u 0 12).toInt) : KI l yX0_parentOf wsX0_parentOf ({ frames := 2, cells := 0, slots := 0, locals := 42 } : Room) D (tyX cI cZ cQ) (wX cI cZ cQ a) [.ref (a 0), .int x] u (fun (r : Int32) (u' : LU) => r = ponX u x ∧ u' = u) := by
  refine (c_X0_parentOf u x hI hx).mono (fun r u' h => ?_)
  obtain ⟨n1, e1, h1, h2, h3⟩ := h
  have b1 := hI.l24 h1
  refine ⟨?_, h3⟩
  rw [h2]
  unfold ponX
  rw [if_pos hx, e1, tn_nI (by omega)]
theorem q_common {l : Launch} {D : va_G} {cI cZ cQ : ClassId} {a : Nat → Nat} (u : LU) (x y : Int32) (hI : IX u) (hx : 0 ≤ x.toInt ∧ x.toInt < (u 0 12).toInt) (hy : 0 ≤ y.toInt ∧ y.toInt < (u 0 12).toInt) : KI l yX0_common wsX0_common ({ frames := 2, cells := 0, slots := 0, locals := 42 } : Room) D (tyX cI cZ cQ) (wX cI cZ cQ a) [.ref (a 0), .int x, .int y] u (fun (r : Int32) (u' : LU) => r = coX u 48 x y ∧ u' = u) := (c_X0_common u x y hI hx hy).mono (fun r u' h => h.2.2)
theorem q_wafersAt {l : Launch} {D : va_G} {cI cZ cQ : ClassId} {a : Nat → Nat} (u : LU) (x : Int32) (hI : IX u) (hx : 0 ≤ x.toInt ∧ x.toInt < (u 0 4).toInt) : KI l yX0_wafersAt wsX0_wafersAt ({ frames := 2, cells := 0, slots := 0, locals := 42 } : Room) D (tyX cI cZ cQ) (wX cI cZ cQ a) [.ref (a 0), .int x] u (fun (r : Int32) (u' : LU) => r = waX u x (u 0 12).toInt.toNat ∧ u' = u) := (c_X0_wafersAt u x hI hx).mono (fun r u' h => h.2)
theorem q_wafersAtByWafers {l : Launch} {D : va_G} {cI cZ cQ : ClassId} {a : Nat → Nat} {s : Nat} {B : Int} (u : LU) (x : Int32) (hJ : JV s B u) (hI : IX u) (hx : 0 ≤ x.toInt ∧ x.toInt < (u 0 4).toInt) : KI l yX0_wafersAtByWafers wsX0_wafersAtByWafers ({ frames := 2, cells := 0, slots := 0, locals := 42 } : Room) D (tyX cI cZ cQ) (wX cI cZ cQ a) [.ref (a 0), .int x] u (fun (r : Int32) (u' : LU) => r = waX u x (u 0 12).toInt.toNat ∧ u' = u) := (c_X0_wafersAtByWafers u x hI hx).mono (fun r u' h => ⟨h.2.1.trans (wb_wa hJ x), h.2.2⟩)
/-- the lot of a wafer is not ended -/
theorem lot_alive {s : Nat} {B : Int} {u : LU} (hI : Inv s B u) {w l : Nat} (hw : (w : Int) < (u 0 16).toInt) (hl : (l : Int) < (u 0 12).toInt) (h : u 14 w = nI l) : ¬ (u 6 l).toInt = 3 := by
  have h12 := hI.1.1.2.1
  have h16 := hI.1.1.2.2.1
  have h1 := ctA_lt (f := u 14) (x := nI l) (i := w) (W := (u 0 16).toInt.toNat) (by rw [h]) (by omega)
  have h2 := ctA_le (u 14) (nI l) (u 0 16).toInt.toNat
  have h3 := hI.1.2.2.2.2.1 l hl
  have h4 : (u 12 l).toInt = _ := (congrArg Int32.toInt h3).trans (ti_nI (by omega))
  have h5 := hI.2 l hl
  omega
theorem low_ok {v n : Int32} (hn : 0 < n.toInt) : 0 ≤ ((v &&& 2147483647) - (v &&& 2147483647) / n * n).toInt ∧ ((v &&& 2147483647) - (v &&& 2147483647) / n * n).toInt < n.toInt := by
  obtain ⟨k, hk, e⟩ := pk_andE v (m := 2147483647) 31 (by decide)
  rw [e, rem_toInt, nI_toInt hk]
  exact ⟨Int.tmod_nonneg _ (by omega), Int.tmod_lt_of_pos _ hn⟩
end
section
/-! the law's helpers -/
section GSL
variable {S : Type} {p : Program} {l : Launch} {e : Env} {R : Room} {s : State} {m : MethodId} {args : Array Value} {below : List Frame} {meth : Method} {c : Code} {D : va_G} {tys : List (ClassId × FieldType)} {A : Nat → Prop} {own : String} {cc : ByteArray} {Ts : List Cond} {nL : Nat} {wf : S → va_W} {cells slots cells' slots' : Nat} {Q : State → Prop} {u : S} {pc pc' : Nat} {L : List (Nat × Value)} {st st0 As : List Value} {tx : List (Nat × String)}
theorem g_sld (C : CX p s m args meth c D tys A own cc Ts nL wf) {b L9 k : Nat} {xs : Nat → Int32} (hX : va_X b L9 xs s s.heap) (hbl : b < s.heap.size) (hbA : ¬ A b) {i : Int32} (hin : vp_in i L9) (hk : i.toNatClampNeg = k) (hdg : decode cc pc = .ok (.iaload, 1)) (hp : pc + 1 = pc')
    (kk : G p l e R s m args below meth c D A nL wf cells slots Q u pc' L (.int (xs k) :: st)) : G p l e R s m args below meth c D A nL wf cells slots Q u pc L (.int i :: .ref b :: st) := by
  subst hp; subst hk; exact fun H locs ls hP hS hl => va_sld C.1 C.2.1 hX hbl hbA hS hin hdg (kk H locs ls hP hS hl)
theorem g_slen (C : CX p s m args meth c D tys A own cc Ts nL wf) {b L9 : Nat} {xs : Nat → Int32} (hX : va_X b L9 xs s s.heap) (hbl : b < s.heap.size) (hbA : ¬ A b) (hdg : decode cc pc = .ok (.arraylength, 1)) (hp : pc + 1 = pc')
    (kk : G p l e R s m args below meth c D A nL wf cells slots Q u pc' L (.int (nI L9) :: st)) : G p l e R s m args below meth c D A nL wf cells slots Q u pc L (.ref b :: st) := by
  subst hp; exact fun H locs ls hP hS hl => va_slen C.1 C.2.1 hX hbl hbA hS hdg (kk H locs ls hP hS hl)
end GSL
set_option maxHeartbeats 4000000 in
set_option maxRecDepth 100000 in
theorem c_L_cell {l : Launch} {D : va_G} {b L9 : Nat} {xs : Nat → Int32} (k : Int32) (hL : L9 < 2 ^ 31) (hk : 0 ≤ k.toInt) : KS l yL_cell wsL_cell ({ frames := 0, cells := 0, slots := 0, locals := 0 } : Room) D b L9 xs [.ref b, .int k] := by
  refine ent_S (own := RL) (maxL := 2) (cc := cL_cell) (L0 := [(0, .ref b), (1, .int k)]) (by decide) rfl rfl (Nat.le_of_ble_eq_true rfl) rfl ?_
  intro p e s m args below meth c A C hr hX hbl hbA
  have tL : (nI L9).toInt = (L9 : Int) := nI_toInt hL
  refine g_iload_n (pc' := 1) (q := 1) C dL_cell_0 rfl rfl rfl ?_
  refine g_aload_n (pc' := 2) (q := 0) C dL_cell_1 rfl rfl rfl ?_
  refine g_slen (pc' := 3) C hX hbl hbA dL_cell_2 rfl ?_
  refine g_icmp_ge (tgt := 12) (pc' := 6) C dL_cell_3 rfl (by decide) (fun c1 => ?_) (fun c1 => ?_)
  · refine g_sipush (pc' := 15) (v := 7919) C dL_cell_12 rfl (by decide) ?_
    refine g_iload_n (pc' := 16) (q := 1) C dL_cell_15 rfl rfl rfl ?_
    refine g_iconst (pc' := 17) (v := 3) C dL_cell_16 rfl (by decide) ?_
    refine g_iadd (pc' := 18) C dL_cell_17 rfl ?_
    refine g_imul (pc' := 19) C dL_cell_18 rfl ?_
    refine g_iload_n (pc' := 20) (q := 1) C dL_cell_19 rfl rfl rfl ?_
    refine g_bipush (pc' := 22) (v := 11) C dL_cell_20 rfl (by decide) ?_
    refine g_iadd (pc' := 23) C dL_cell_22 rfl ?_
    refine g_imul (pc' := 24) C dL_cell_23 rfl ?_
    exact g_iret C hr rfl trivial dL_cell_24
  · refine g_aload_n (pc' := 7) (q := 0) C dL_cell_6 rfl rfl rfl ?_
    refine g_iload_n (pc' := 8) (q := 1) C dL_cell_7 rfl rfl rfl ?_
    refine g_sld (pc' := 9) (k := k.toNatClampNeg) C hX hbl hbA (vp_of (by omega) (by omega)) rfl dL_cell_8 rfl ?_
    refine g_goto (tgt := 24) C dL_cell_9 (by decide) ?_
    exact g_iret C hr rfl trivial dL_cell_24
set_option maxHeartbeats 4000000 in
set_option maxRecDepth 100000 in
theorem c_L_low {l : Launch} {D : va_G} {cI cZ cQ : ClassId} {a : Nat → Nat} (u : LU) (v n : Int32) (hn : 0 < n.toInt) : KI l yL_low wsL_low ({ frames := 0, cells := 0, slots := 0, locals := 0 } : Room) D (tyX cI cZ cQ) (wX cI cZ cQ a) [.int v, .int n] u (fun (r : Int32) (u' : LU) => (0 ≤ r.toInt ∧ r.toInt < n.toInt) ∧ u' = u) := by
  refine ent_I (own := RL) (maxL := 2) (cc := cL_low) (L0 := [(0, .int v), (1, .int n)]) (by decide) rfl (wX_ok _ _ _ _) rfl (Nat.le_of_ble_eq_true rfl) rfl ?_
  intro p e s m args below meth c A C hr
  refine g_iload_n (pc' := 1) (q := 0) C dL_low_0 rfl rfl rfl ?_
  refine g_ldc (pc' := 3) (v := 2147483647) C dL_low_1 rfl (by decide +kernel) ?_
  refine g_iand (pc' := 4) C dL_low_3 rfl ?_
  refine g_iload_n (pc' := 5) (q := 1) C dL_low_4 rfl rfl rfl ?_
  refine g_irem (pc' := 6) C dL_low_5 rfl (fun z => by rw [z] at hn; exact absurd hn (by decide)) ?_
  exact g_iret C hr rfl ⟨low_ok hn, rfl⟩ dL_low_6
set_option maxHeartbeats 4000000 in
set_option maxRecDepth 100000 in
theorem c_L_isWafer {l : Launch} {D : va_G} {cI cZ cQ : ClassId} {a : Nat → Nat} (u : LU) (w : Nat) {sn : Nat} {B : Int} (hI : Inv sn B u) (hs : sn ≤ 12) (hw : (w : Int) < (u 0 16).toInt) : KI l yL_isWafer wsL_isWafer ({ frames := 3, cells := 0, slots := 0, locals := 63 } : Room) D (tyX cI cZ cQ) (wX cI cZ cQ a) [.ref (a 0), .int (nI w)] u (fun (r : Int32) (u' : LU) => r = 1 ∧ u' = u) := by
  refine ent_I (own := RL) (maxL := 8) (cc := cL_isWafer) (L0 := [(0, .ref (a 0)), (1, .int (nI w))]) (by decide) rfl (wX_ok _ _ _ _) rfl (Nat.le_of_ble_eq_true rfl) rfl ?_
  intro p e s m args below meth c A C hr
  have hIX := hI.1.ix hs
  have h12 := hI.1.1.2.1
  have h16 := hI.1.1.2.2.1
  obtain ⟨mm, qq, hm, hPA⟩ := hI.1.2.2.2.2.2.1 w hw
  have hgr := hPA.grow hI.1.2.2.2.1 h12.2
  obtain ⟨p1, p2, p3, p4, p5⟩ := hPA
  have t16 : (u 16 w).toInt = (mm : Int) + 1 := by rw [p1, ti_nI (by omega)]; rfl
  have hup : ∀ j, j < mm → qq j < qq (j + 1) := fun j hj => by
    have h2 := (p2 (j + 1) (by omega)).2
    have h3 := (hI.1.2.2.2.1 _ h2).2.2.1
    have h4 := hgr j (by omega)
    rw [p4 j hj, ti_nI (by omega)] at h3
    omega
  have hqm := p2 mm (Nat.le_refl mm)
  have hq0 := p2 0 (Nat.zero_le mm)
  refine g_aload_n (pc' := 1) (q := 0) C dL_isWafer_0 rfl rfl rfl ?_
  refine g_iload_n (pc' := 2) (q := 1) C dL_isWafer_1 rfl rfl rfl ?_
  refine g_calliV (pc' := 5) (As := [.int (nI w)]) (st := []) (cells' := 0) (slots' := 0) C (q_lotOf u w hIX (by omega)) gL_isWafer_X0_lotOf rfl (by decide +kernel) ⟨Nat.le_of_ble_eq_true rfl, Nat.le_of_ble_eq_true rfl⟩ 0 (by rfl) rfl (n := 1) rfl rfl (Nat.le_of_ble_eq_true rfl) dL_isWafer_2 rfl rfl rfl ⟨Nat.le_of_ble_eq_true rfl, Nat.le_of_ble_eq_true rfl⟩ (fun r_1 u_1 h_2 => ?_)
  obtain ⟨rfl, h_2⟩ := h_2
  refine g_st h_2 ?_
  refine g_istore_n (pc' := 6) (L' := [(2, .int (u 14 w)), (0, .ref (a 0)), (1, .int (nI w))]) C dL_isWafer_5 rfl rfl (by decide) rfl ?_
  refine g_aload_n (pc' := 7) (q := 1) C dL_isWafer_6 rfl rfl rfl ?_
  refine g_iload_n (pc' := 8) (q := 2) C dL_isWafer_7 rfl rfl rfl ?_
  refine g_calliV (pc' := 11) (As := [.int (nI w)]) (st := []) (cells' := 0) (slots' := 0) C (q_path u w hIX (by omega)) gL_isWafer_X0_path rfl (by decide +kernel) ⟨Nat.le_of_ble_eq_true rfl, Nat.le_of_ble_eq_true rfl⟩ 0 (by rfl) rfl (n := 1) rfl rfl (Nat.le_of_ble_eq_true rfl) dL_isWafer_8 rfl rfl rfl ⟨Nat.le_of_ble_eq_true rfl, Nat.le_of_ble_eq_true rfl⟩ (fun r_3 u_3 h_4 => ?_)
  obtain ⟨rfl, h_4⟩ := h_4
  refine g_st h_4 ?_
  refine g_conv (show (u 16 w : Int32) = nI (mm + 1) from p1) ?_
  refine g_istore_n (pc' := 12) (L' := [(3, .int (nI (mm + 1))), (2, .int (u 14 w)), (0, .ref (a 0)), (1, .int (nI w))]) C dL_isWafer_11 rfl rfl (by decide) rfl ?_
  refine g_iload_n (pc' := 13) (q := 0) C dL_isWafer_12 rfl rfl rfl ?_
  refine g_iconst (pc' := 14) (v := 1) C dL_isWafer_13 rfl (by decide) ?_
  have t_5 : (nI (mm + 1)).toInt = ((mm + 1 : Nat) : Int) := nI_toInt (by omega)
  refine g_icmp_lt (tgt := 61) (pc' := 17) C dL_isWafer_14 rfl (by decide) (fun (c_6 : (nI (mm + 1)).toInt < 1) => ?_) (fun (c_6 : ¬ ((nI (mm + 1)).toInt < 1)) => ?_)
  · exact absurd (show False by omega) id
  · skip
    refine g_aload_n (pc' := 18) (q := 2) C dL_isWafer_17 rfl rfl rfl ?_
    refine g_aload_n (pc' := 19) (q := 2) C dL_isWafer_18 rfl rfl rfl ?_
    refine g_iload_n (pc' := 20) (q := 3) C dL_isWafer_19 rfl rfl rfl ?_
    refine g_iconst (pc' := 21) (v := 0) C dL_isWafer_20 rfl (by decide) ?_
    refine g_conv (show (0 : Int32) = nI 0 from rfl) ?_
    refine g_calliV (pc' := 24) (As := [.int (nI w), .int (nI 0)]) (st := [.ref (a 0)]) (cells' := 0) (slots' := 0) C (q_pathAt u w 0 hIX (by omega) (by omega)) gL_isWafer_X0_pathAt rfl (by decide +kernel) ⟨Nat.le_of_ble_eq_true rfl, Nat.le_of_ble_eq_true rfl⟩ 0 (by rfl) rfl (n := 2) rfl rfl (Nat.le_of_ble_eq_true rfl) dL_isWafer_21 rfl rfl rfl ⟨Nat.le_of_ble_eq_true rfl, Nat.le_of_ble_eq_true rfl⟩ (fun r_7 u_7 h_8 => ?_)
    obtain ⟨rfl, h_8⟩ := h_8
    refine g_st h_8 ?_
    refine g_conv (show (u (100 + w) 0 : Int32) = nI (qq 0) from hq0.1) ?_
    refine g_calliV (pc' := 27) (As := [.int (nI (qq 0))]) (st := []) (cells' := 0) (slots' := 0) C (q_parentOf u (qq 0) hIX hq0.2) gL_isWafer_X0_parentOf rfl (by decide +kernel) ⟨Nat.le_of_ble_eq_true rfl, Nat.le_of_ble_eq_true rfl⟩ 0 (by rfl) rfl (n := 1) rfl rfl (Nat.le_of_ble_eq_true rfl) dL_isWafer_24 rfl rfl rfl ⟨Nat.le_of_ble_eq_true rfl, Nat.le_of_ble_eq_true rfl⟩ (fun r_9 u_9 h_10 => ?_)
    obtain ⟨rfl, h_10⟩ := h_10
    refine g_st h_10 ?_
    refine g_conv (show (u 11 (qq 0) : Int32) = (-1) from p3) ?_
    refine g_iconst (pc' := 28) (v := (-1)) C dL_isWafer_27 rfl (by decide) ?_
    refine g_icmp_ne (tgt := 61) (pc' := 31) C dL_isWafer_28 rfl (by decide) (fun h => absurd h (by decide)) (fun _ => ?_)
    refine g_iload_n (pc' := 32) (q := 1) C dL_isWafer_31 rfl rfl rfl ?_
    refine g_iconst (pc' := 33) (v := (-1)) C dL_isWafer_32 rfl (by decide) ?_
    refine g_icmp_eq (tgt := 57) (pc' := 36) C dL_isWafer_33 rfl (by decide) (fun (c_11 : (u 14 w).toInt = -1) => ?_) (fun (c_11 : ¬ ((u 14 w).toInt = -1)) => ?_)
    · skip
      refine g_iconst (pc' := 58) (v := 1) C dL_isWafer_57 rfl (by decide) ?_
      refine g_goto (tgt := 62) C dL_isWafer_58 (by decide) ?_
      refine g_istore (pc' := 64) (L' := [(4, .int 1), (3, .int (nI (mm + 1))), (2, .int (u 14 w)), (0, .ref (a 0)), (1, .int (nI w))]) C dL_isWafer_62 rfl (by decide) rfl ?_
      refine g_iconst (pc' := 65) (v := 1) C dL_isWafer_64 rfl (by decide) ?_
      refine g_istore (pc' := 67) (L' := [(5, .int 1), (4, .int 1), (3, .int (nI (mm + 1))), (2, .int (u 14 w)), (0, .ref (a 0)), (1, .int (nI w))]) C dL_isWafer_65 rfl (by decide) rfl ?_
      have loop_67 : ∀ (k : Nat) (i : Nat), i ≤ mm → mm + 1 ≤ i + k → G p l e ({ frames := 3, cells := 0, slots := 0, locals := 63 } : Room) s m args below meth c D A 8 (wX cI cZ cQ a) 0 0 (MQ below (va_Qi (fun (r : Int32) (u' : LU) => r = 1 ∧ u' = u) (KE D (tyX cI cZ cQ) (wX cI cZ cQ a)) A) args s 0 0 A) u 67 [(0, .ref (a 0)), (1, .int (nI w)), (2, .int (u 14 w)), (3, .int (nI (mm + 1))), (4, .int 1), (5, .int (nI (i + 1)))] [] := by
        intro k
        induction k with
        | zero =>
          intro i hi hk
          omega
        | succ k ih_67 =>
          intro i hi hk
          refine g_iload (pc' := 69) (q := 5) C dL_isWafer_67 rfl rfl ?_
          refine g_iload_n (pc' := 70) (q := 3) C dL_isWafer_69 rfl rfl rfl ?_
          have t_12 : (nI (i + 1)).toInt = ((i + 1 : Nat) : Int) := nI_toInt (by omega)
          have t_13 : (nI (mm + 1)).toInt = ((mm + 1 : Nat) : Int) := nI_toInt (by omega)
          refine g_icmp_ge (tgt := 139) (pc' := 73) C dL_isWafer_70 rfl (by decide) (fun (c_14 : (nI (mm + 1)).toInt ≤ (nI (i + 1)).toInt) => ?_) (fun (c_14 : ¬ ((nI (mm + 1)).toInt ≤ (nI (i + 1)).toInt)) => ?_)
          · skip
            refine g_iload (pc' := 141) (q := 4) C dL_isWafer_139 rfl rfl ?_
            exact g_iret C hr (by decide) ⟨rfl, rfl⟩ dL_isWafer_141
          · skip
            refine g_iload (pc' := 75) (q := 4) C dL_isWafer_73 rfl rfl ?_
            refine g_if_eq (tgt := 139) (pc' := 78) C dL_isWafer_75 rfl (by decide) (fun h => absurd h (by decide)) (fun _ => ?_)
            refine g_aload_n (pc' := 79) (q := 0) C dL_isWafer_78 rfl rfl rfl ?_
            refine g_iload_n (pc' := 80) (q := 1) C dL_isWafer_79 rfl rfl rfl ?_
            refine g_iload (pc' := 82) (q := 5) C dL_isWafer_80 rfl rfl ?_
            refine g_iconst (pc' := 83) (v := 1) C dL_isWafer_82 rfl (by decide) ?_
            refine g_isub (pc' := 84) C dL_isWafer_83 rfl ?_
            refine g_conv (show ((nI (i + 1)) - 1 : Int32) = nI i from nI_pred i) ?_
            refine g_calliV (pc' := 87) (As := [.int (nI w), .int (nI i)]) (st := []) (cells' := 0) (slots' := 0) C (q_pathAt u w i hIX (by omega) (by omega)) gL_isWafer_X0_pathAt rfl (by decide +kernel) ⟨Nat.le_of_ble_eq_true rfl, Nat.le_of_ble_eq_true rfl⟩ 0 (by rfl) rfl (n := 2) rfl rfl (Nat.le_of_ble_eq_true rfl) dL_isWafer_84 rfl rfl rfl ⟨Nat.le_of_ble_eq_true rfl, Nat.le_of_ble_eq_true rfl⟩ (fun r_15 u_15 h_16 => ?_)
            obtain ⟨rfl, h_16⟩ := h_16
            refine g_st h_16 ?_
            refine g_conv (show (u (100 + w) i : Int32) = nI (qq i) from (p2 i (by omega)).1) ?_
            refine g_istore (pc' := 89) (L' := [(6, .int (nI (qq i))), (0, .ref (a 0)), (1, .int (nI w)), (2, .int (u 14 w)), (3, .int (nI (mm + 1))), (4, .int 1), (5, .int (nI (i + 1)))]) C dL_isWafer_87 rfl (by decide) rfl ?_
            refine g_aload_n (pc' := 90) (q := 1) C dL_isWafer_89 rfl rfl rfl ?_
            refine g_iload_n (pc' := 91) (q := 2) C dL_isWafer_90 rfl rfl rfl ?_
            refine g_iload (pc' := 93) (q := 6) C dL_isWafer_91 rfl rfl ?_
            refine g_calliV (pc' := 96) (As := [.int (nI w), .int (nI (i + 1))]) (st := []) (cells' := 0) (slots' := 0) C (q_pathAt u w (i + 1) hIX (by omega) (by omega)) gL_isWafer_X0_pathAt rfl (by decide +kernel) ⟨Nat.le_of_ble_eq_true rfl, Nat.le_of_ble_eq_true rfl⟩ 0 (by rfl) rfl (n := 2) rfl rfl (Nat.le_of_ble_eq_true rfl) dL_isWafer_93 rfl rfl rfl ⟨Nat.le_of_ble_eq_true rfl, Nat.le_of_ble_eq_true rfl⟩ (fun r_17 u_17 h_18 => ?_)
            obtain ⟨rfl, h_18⟩ := h_18
            refine g_st h_18 ?_
            refine g_conv (show (u (100 + w) (i + 1) : Int32) = nI (qq (i + 1)) from (p2 (i + 1) (by omega)).1) ?_
            refine g_istore (pc' := 98) (L' := [(7, .int (nI (qq (i + 1)))), (6, .int (nI (qq i))), (0, .ref (a 0)), (1, .int (nI w)), (2, .int (u 14 w)), (3, .int (nI (mm + 1))), (4, .int 1), (5, .int (nI (i + 1)))]) C dL_isWafer_96 rfl (by decide) rfl ?_
            have hu8 := hup i (by omega)
            have hg8 := hgr (i + 1) (by omega)
            refine g_iload (pc' := 100) (q := 1) C dL_isWafer_98 rfl rfl ?_
            refine g_iload (pc' := 102) (q := 0) C dL_isWafer_100 rfl rfl ?_
            have t_19 : (nI (qq i)).toInt = ((qq i : Nat) : Int) := nI_toInt (by omega)
            have t_20 : (nI (qq (i + 1))).toInt = ((qq (i + 1) : Nat) : Int) := nI_toInt (by omega)
            refine g_icmp_eq (tgt := 130) (pc' := 105) C dL_isWafer_102 rfl (by decide) (fun (c_21 : (nI (qq i)).toInt = (nI (qq (i + 1))).toInt) => ?_) (fun (c_21 : ¬ ((nI (qq i)).toInt = (nI (qq (i + 1))).toInt)) => ?_)
            · have hu9 := hup i (by omega)
              have hg9 := hgr (i + 1) (by omega)
              exact absurd (show False by omega) id
            · skip
              refine g_aload_n (pc' := 106) (q := 2) C dL_isWafer_105 rfl rfl rfl ?_
              refine g_iload (pc' := 108) (q := 0) C dL_isWafer_106 rfl rfl ?_
              refine g_calliV (pc' := 111) (As := [.int (nI (qq (i + 1)))]) (st := []) (cells' := 0) (slots' := 0) C (q_parentOf u (qq (i + 1)) hIX (p2 (i + 1) (by omega)).2) gL_isWafer_X0_parentOf rfl (by decide +kernel) ⟨Nat.le_of_ble_eq_true rfl, Nat.le_of_ble_eq_true rfl⟩ 0 (by rfl) rfl (n := 1) rfl rfl (Nat.le_of_ble_eq_true rfl) dL_isWafer_108 rfl rfl rfl ⟨Nat.le_of_ble_eq_true rfl, Nat.le_of_ble_eq_true rfl⟩ (fun r_22 u_22 h_23 => ?_)
              obtain ⟨rfl, h_23⟩ := h_23
              refine g_st h_23 ?_
              refine g_conv (show (u 11 (qq (i + 1)) : Int32) = nI (qq i) from p4 i (by omega)) ?_
              refine g_iload (pc' := 113) (q := 1) C dL_isWafer_111 rfl rfl ?_
              have t_24 : (nI (qq i)).toInt = ((qq i : Nat) : Int) := nI_toInt (by omega)
              have t_25 : (nI (qq i)).toInt = ((qq i : Nat) : Int) := nI_toInt (by omega)
              refine g_icmp_eq (tgt := 126) (pc' := 116) C dL_isWafer_113 rfl (by decide) (fun (c_26 : (nI (qq i)).toInt = (nI (qq i)).toInt) => ?_) (fun (c_26 : ¬ ((nI (qq i)).toInt = (nI (qq i)).toInt)) => ?_)
              · skip
                refine g_iconst (pc' := 127) (v := 1) C dL_isWafer_126 rfl (by decide) ?_
                refine g_goto (tgt := 131) C dL_isWafer_127 (by decide) ?_
                refine g_istore (pc' := 133) (L' := [(4, .int 1), (7, .int (nI (qq (i + 1)))), (6, .int (nI (qq i))), (0, .ref (a 0)), (1, .int (nI w)), (2, .int (u 14 w)), (3, .int (nI (mm + 1))), (5, .int (nI (i + 1)))]) C dL_isWafer_131 rfl (by decide) rfl ?_
                refine g_iinc (pc' := 136) (v := nI (i + 1 + 1)) (L' := [(5, .int (nI (i + 1 + 1))), (4, .int 1), (7, .int (nI (qq (i + 1)))), (6, .int (nI (qq i))), (0, .ref (a 0)), (1, .int (nI w)), (2, .int (u 14 w)), (3, .int (nI (mm + 1)))]) C dL_isWafer_133 rfl (k := 7) rfl (nI_1 _) (by decide) rfl ?_
                refine g_goto (tgt := 67) C dL_isWafer_136 (by decide) ?_
                refine g_sub (L' := [(0, .ref (a 0)), (1, .int (nI w)), (2, .int (u 14 w)), (3, .int (nI (mm + 1))), (4, .int 1), (5, .int (nI (i + 1 + 1)))]) [4, 5, 6, 7, 1, 0] rfl ?_
                exact ih_67 (i + 1) (by omega) (by omega)
              · exact absurd (show False by omega) id
      refine g_sub (L' := [(0, .ref (a 0)), (1, .int (nI w)), (2, .int (u 14 w)), (3, .int (nI (mm + 1))), (4, .int 1), (5, .int (nI (0 + 1)))]) [4, 5, 3, 2, 1, 0] rfl ?_
      exact loop_67 (mm + 1) 0 (by omega) (by omega)
    · have hlot : u 14 w = nI (qq mm) := p5.resolve_left (fun z => absurd (by rw [z]; rfl : (u 14 w).toInt = -1) (by assumption))
      have tl : (u 14 w).toInt = (qq mm : Int) := by rw [hlot]; exact ti_nI (by omega)
      have hst := lot_alive hI hw hqm.2 hlot
      refine g_aload_n (pc' := 37) (q := 2) C dL_isWafer_36 rfl rfl rfl ?_
      refine g_iload_n (pc' := 38) (q := 3) C dL_isWafer_37 rfl rfl rfl ?_
      refine g_iload_n (pc' := 39) (q := 0) C dL_isWafer_38 rfl rfl rfl ?_
      refine g_iconst (pc' := 40) (v := 1) C dL_isWafer_39 rfl (by decide) ?_
      refine g_isub (pc' := 41) C dL_isWafer_40 rfl ?_
      refine g_conv (show ((nI (mm + 1)) - 1 : Int32) = nI mm from nI_pred mm) ?_
      refine g_calliV (pc' := 44) (As := [.int (nI w), .int (nI mm)]) (st := []) (cells' := 0) (slots' := 0) C (q_pathAt u w mm hIX (by omega) (by omega)) gL_isWafer_X0_pathAt rfl (by decide +kernel) ⟨Nat.le_of_ble_eq_true rfl, Nat.le_of_ble_eq_true rfl⟩ 0 (by rfl) rfl (n := 2) rfl rfl (Nat.le_of_ble_eq_true rfl) dL_isWafer_41 rfl rfl rfl ⟨Nat.le_of_ble_eq_true rfl, Nat.le_of_ble_eq_true rfl⟩ (fun r_27 u_27 h_28 => ?_)
      obtain ⟨rfl, h_28⟩ := h_28
      refine g_st h_28 ?_
      refine g_conv (show (u (100 + w) mm : Int32) = nI (qq mm) from hqm.1) ?_
      refine g_iload_n (pc' := 45) (q := 1) C dL_isWafer_44 rfl rfl rfl ?_
      have t_29 : (nI (qq mm)).toInt = ((qq mm : Nat) : Int) := nI_toInt (by omega)
      refine g_icmp_ne (tgt := 61) (pc' := 48) C dL_isWafer_45 rfl (by decide) (fun (c_30 : ¬ (nI (qq mm)).toInt = (u 14 w).toInt) => ?_) (fun (c_30 : (nI (qq mm)).toInt = (u 14 w).toInt) => ?_)
      · exact absurd (show False by omega) id
      · skip
        refine g_aload_n (pc' := 49) (q := 2) C dL_isWafer_48 rfl rfl rfl ?_
        refine g_iload_n (pc' := 50) (q := 1) C dL_isWafer_49 rfl rfl rfl ?_
        refine g_conv (show (u 14 w : Int32) = nI (qq mm) from hlot) ?_
        refine g_calliV (pc' := 53) (As := [.int (nI (qq mm))]) (st := []) (cells' := 0) (slots' := 0) C (q_state u (qq mm) hIX hqm.2) gL_isWafer_X0_state rfl (by decide +kernel) ⟨Nat.le_of_ble_eq_true rfl, Nat.le_of_ble_eq_true rfl⟩ 0 (by rfl) rfl (n := 1) rfl rfl (Nat.le_of_ble_eq_true rfl) dL_isWafer_50 rfl rfl rfl ⟨Nat.le_of_ble_eq_true rfl, Nat.le_of_ble_eq_true rfl⟩ (fun r_31 u_31 h_32 => ?_)
        obtain ⟨rfl, h_32⟩ := h_32
        refine g_st h_32 ?_
        refine g_iconst (pc' := 54) (v := 3) C dL_isWafer_53 rfl (by decide) ?_
        refine g_icmp_eq (tgt := 61) (pc' := 57) C dL_isWafer_54 rfl (by decide) (fun (c_33 : (u 6 (qq mm)).toInt = 3) => ?_) (fun (c_33 : ¬ ((u 6 (qq mm)).toInt = 3)) => ?_)
        · exact absurd (show False by omega) id
        · skip
          refine g_iconst (pc' := 58) (v := 1) C dL_isWafer_57 rfl (by decide) ?_
          refine g_goto (tgt := 62) C dL_isWafer_58 (by decide) ?_
          refine g_istore (pc' := 64) (L' := [(4, .int 1), (3, .int (nI (mm + 1))), (2, .int (u 14 w)), (0, .ref (a 0)), (1, .int (nI w))]) C dL_isWafer_62 rfl (by decide) rfl ?_
          refine g_iconst (pc' := 65) (v := 1) C dL_isWafer_64 rfl (by decide) ?_
          refine g_istore (pc' := 67) (L' := [(5, .int 1), (4, .int 1), (3, .int (nI (mm + 1))), (2, .int (u 14 w)), (0, .ref (a 0)), (1, .int (nI w))]) C dL_isWafer_65 rfl (by decide) rfl ?_
          have loop_67 : ∀ (k : Nat) (i : Nat), i ≤ mm → mm + 1 ≤ i + k → G p l e ({ frames := 3, cells := 0, slots := 0, locals := 63 } : Room) s m args below meth c D A 8 (wX cI cZ cQ a) 0 0 (MQ below (va_Qi (fun (r : Int32) (u' : LU) => r = 1 ∧ u' = u) (KE D (tyX cI cZ cQ) (wX cI cZ cQ a)) A) args s 0 0 A) u 67 [(0, .ref (a 0)), (1, .int (nI w)), (2, .int (u 14 w)), (3, .int (nI (mm + 1))), (4, .int 1), (5, .int (nI (i + 1)))] [] := by
            intro k
            induction k with
            | zero =>
              intro i hi hk
              omega
            | succ k ih_67 =>
              intro i hi hk
              refine g_iload (pc' := 69) (q := 5) C dL_isWafer_67 rfl rfl ?_
              refine g_iload_n (pc' := 70) (q := 3) C dL_isWafer_69 rfl rfl rfl ?_
              have t_34 : (nI (i + 1)).toInt = ((i + 1 : Nat) : Int) := nI_toInt (by omega)
              have t_35 : (nI (mm + 1)).toInt = ((mm + 1 : Nat) : Int) := nI_toInt (by omega)
              refine g_icmp_ge (tgt := 139) (pc' := 73) C dL_isWafer_70 rfl (by decide) (fun (c_36 : (nI (mm + 1)).toInt ≤ (nI (i + 1)).toInt) => ?_) (fun (c_36 : ¬ ((nI (mm + 1)).toInt ≤ (nI (i + 1)).toInt)) => ?_)
              · skip
                refine g_iload (pc' := 141) (q := 4) C dL_isWafer_139 rfl rfl ?_
                exact g_iret C hr (by decide) ⟨rfl, rfl⟩ dL_isWafer_141
              · skip
                refine g_iload (pc' := 75) (q := 4) C dL_isWafer_73 rfl rfl ?_
                refine g_if_eq (tgt := 139) (pc' := 78) C dL_isWafer_75 rfl (by decide) (fun h => absurd h (by decide)) (fun _ => ?_)
                refine g_aload_n (pc' := 79) (q := 0) C dL_isWafer_78 rfl rfl rfl ?_
                refine g_iload_n (pc' := 80) (q := 1) C dL_isWafer_79 rfl rfl rfl ?_
                refine g_iload (pc' := 82) (q := 5) C dL_isWafer_80 rfl rfl ?_
                refine g_iconst (pc' := 83) (v := 1) C dL_isWafer_82 rfl (by decide) ?_
                refine g_isub (pc' := 84) C dL_isWafer_83 rfl ?_
                refine g_conv (show ((nI (i + 1)) - 1 : Int32) = nI i from nI_pred i) ?_
                refine g_calliV (pc' := 87) (As := [.int (nI w), .int (nI i)]) (st := []) (cells' := 0) (slots' := 0) C (q_pathAt u w i hIX (by omega) (by omega)) gL_isWafer_X0_pathAt rfl (by decide +kernel) ⟨Nat.le_of_ble_eq_true rfl, Nat.le_of_ble_eq_true rfl⟩ 0 (by rfl) rfl (n := 2) rfl rfl (Nat.le_of_ble_eq_true rfl) dL_isWafer_84 rfl rfl rfl ⟨Nat.le_of_ble_eq_true rfl, Nat.le_of_ble_eq_true rfl⟩ (fun r_37 u_37 h_38 => ?_)
                obtain ⟨rfl, h_38⟩ := h_38
                refine g_st h_38 ?_
                refine g_conv (show (u (100 + w) i : Int32) = nI (qq i) from (p2 i (by omega)).1) ?_
                refine g_istore (pc' := 89) (L' := [(6, .int (nI (qq i))), (0, .ref (a 0)), (1, .int (nI w)), (2, .int (u 14 w)), (3, .int (nI (mm + 1))), (4, .int 1), (5, .int (nI (i + 1)))]) C dL_isWafer_87 rfl (by decide) rfl ?_
                refine g_aload_n (pc' := 90) (q := 1) C dL_isWafer_89 rfl rfl rfl ?_
                refine g_iload_n (pc' := 91) (q := 2) C dL_isWafer_90 rfl rfl rfl ?_
                refine g_iload (pc' := 93) (q := 6) C dL_isWafer_91 rfl rfl ?_
                refine g_calliV (pc' := 96) (As := [.int (nI w), .int (nI (i + 1))]) (st := []) (cells' := 0) (slots' := 0) C (q_pathAt u w (i + 1) hIX (by omega) (by omega)) gL_isWafer_X0_pathAt rfl (by decide +kernel) ⟨Nat.le_of_ble_eq_true rfl, Nat.le_of_ble_eq_true rfl⟩ 0 (by rfl) rfl (n := 2) rfl rfl (Nat.le_of_ble_eq_true rfl) dL_isWafer_93 rfl rfl rfl ⟨Nat.le_of_ble_eq_true rfl, Nat.le_of_ble_eq_true rfl⟩ (fun r_39 u_39 h_40 => ?_)
                obtain ⟨rfl, h_40⟩ := h_40
                refine g_st h_40 ?_
                refine g_conv (show (u (100 + w) (i + 1) : Int32) = nI (qq (i + 1)) from (p2 (i + 1) (by omega)).1) ?_
                refine g_istore (pc' := 98) (L' := [(7, .int (nI (qq (i + 1)))), (6, .int (nI (qq i))), (0, .ref (a 0)), (1, .int (nI w)), (2, .int (u 14 w)), (3, .int (nI (mm + 1))), (4, .int 1), (5, .int (nI (i + 1)))]) C dL_isWafer_96 rfl (by decide) rfl ?_
                have hu8 := hup i (by omega)
                have hg8 := hgr (i + 1) (by omega)
                refine g_iload (pc' := 100) (q := 1) C dL_isWafer_98 rfl rfl ?_
                refine g_iload (pc' := 102) (q := 0) C dL_isWafer_100 rfl rfl ?_
                have t_41 : (nI (qq i)).toInt = ((qq i : Nat) : Int) := nI_toInt (by omega)
                have t_42 : (nI (qq (i + 1))).toInt = ((qq (i + 1) : Nat) : Int) := nI_toInt (by omega)
                refine g_icmp_eq (tgt := 130) (pc' := 105) C dL_isWafer_102 rfl (by decide) (fun (c_43 : (nI (qq i)).toInt = (nI (qq (i + 1))).toInt) => ?_) (fun (c_43 : ¬ ((nI (qq i)).toInt = (nI (qq (i + 1))).toInt)) => ?_)
                · have hu9 := hup i (by omega)
                  have hg9 := hgr (i + 1) (by omega)
                  exact absurd (show False by omega) id
                · skip
                  refine g_aload_n (pc' := 106) (q := 2) C dL_isWafer_105 rfl rfl rfl ?_
                  refine g_iload (pc' := 108) (q := 0) C dL_isWafer_106 rfl rfl ?_
                  refine g_calliV (pc' := 111) (As := [.int (nI (qq (i + 1)))]) (st := []) (cells' := 0) (slots' := 0) C (q_parentOf u (qq (i + 1)) hIX (p2 (i + 1) (by omega)).2) gL_isWafer_X0_parentOf rfl (by decide +kernel) ⟨Nat.le_of_ble_eq_true rfl, Nat.le_of_ble_eq_true rfl⟩ 0 (by rfl) rfl (n := 1) rfl rfl (Nat.le_of_ble_eq_true rfl) dL_isWafer_108 rfl rfl rfl ⟨Nat.le_of_ble_eq_true rfl, Nat.le_of_ble_eq_true rfl⟩ (fun r_44 u_44 h_45 => ?_)
                  obtain ⟨rfl, h_45⟩ := h_45
                  refine g_st h_45 ?_
                  refine g_conv (show (u 11 (qq (i + 1)) : Int32) = nI (qq i) from p4 i (by omega)) ?_
                  refine g_iload (pc' := 113) (q := 1) C dL_isWafer_111 rfl rfl ?_
                  have t_46 : (nI (qq i)).toInt = ((qq i : Nat) : Int) := nI_toInt (by omega)
                  have t_47 : (nI (qq i)).toInt = ((qq i : Nat) : Int) := nI_toInt (by omega)
                  refine g_icmp_eq (tgt := 126) (pc' := 116) C dL_isWafer_113 rfl (by decide) (fun (c_48 : (nI (qq i)).toInt = (nI (qq i)).toInt) => ?_) (fun (c_48 : ¬ ((nI (qq i)).toInt = (nI (qq i)).toInt)) => ?_)
                  · skip
                    refine g_iconst (pc' := 127) (v := 1) C dL_isWafer_126 rfl (by decide) ?_
                    refine g_goto (tgt := 131) C dL_isWafer_127 (by decide) ?_
                    refine g_istore (pc' := 133) (L' := [(4, .int 1), (7, .int (nI (qq (i + 1)))), (6, .int (nI (qq i))), (0, .ref (a 0)), (1, .int (nI w)), (2, .int (u 14 w)), (3, .int (nI (mm + 1))), (5, .int (nI (i + 1)))]) C dL_isWafer_131 rfl (by decide) rfl ?_
                    refine g_iinc (pc' := 136) (v := nI (i + 1 + 1)) (L' := [(5, .int (nI (i + 1 + 1))), (4, .int 1), (7, .int (nI (qq (i + 1)))), (6, .int (nI (qq i))), (0, .ref (a 0)), (1, .int (nI w)), (2, .int (u 14 w)), (3, .int (nI (mm + 1)))]) C dL_isWafer_133 rfl (k := 7) rfl (nI_1 _) (by decide) rfl ?_
                    refine g_goto (tgt := 67) C dL_isWafer_136 (by decide) ?_
                    refine g_sub (L' := [(0, .ref (a 0)), (1, .int (nI w)), (2, .int (u 14 w)), (3, .int (nI (mm + 1))), (4, .int 1), (5, .int (nI (i + 1 + 1)))]) [4, 5, 6, 7, 1, 0] rfl ?_
                    exact ih_67 (i + 1) (by omega) (by omega)
                  · exact absurd (show False by omega) id
          refine g_sub (L' := [(0, .ref (a 0)), (1, .int (nI w)), (2, .int (u 14 w)), (3, .int (nI (mm + 1))), (4, .int 1), (5, .int (nI (0 + 1)))]) [4, 5, 3, 2, 1, 0] rfl ?_
          exact loop_67 (mm + 1) 0 (by omega) (by omega)
set_option maxHeartbeats 4000000 in
set_option maxRecDepth 100000 in
theorem c_L_isLot {l : Launch} {D : va_G} {cI cZ cQ : ClassId} {a : Nat → Nat} (u : LU) (n : Nat) {sn : Nat} {B : Int} (hI : Inv sn B u) (hs : sn ≤ 12) (hn : (n : Int) < (u 0 12).toInt) : KI l yL_isLot wsL_isLot ({ frames := 3, cells := 0, slots := 0, locals := 64 } : Room) D (tyX cI cZ cQ) (wX cI cZ cQ a) [.ref (a 0), .int (nI n)] u (fun (r : Int32) (u' : LU) => r = 1 ∧ u' = u) := by
  refine ent_I (own := RL) (maxL := 5) (cc := cL_isLot) (L0 := [(0, .ref (a 0)), (1, .int (nI n))]) (by decide) rfl (wX_ok _ _ _ _) rfl (Nat.le_of_ble_eq_true rfl) rfl ?_
  intro p e s m args below meth c A C hr
  have hIX := hI.1.ix hs
  have h12 := hI.1.1.2.1
  have h16 := hI.1.1.2.2.1
  obtain ⟨l6, l10, l11, l7, l7'⟩ := hI.1.2.2.2.1 n hn
  have hsz := hI.1.2.2.2.2.1 n hn
  have hend := hI.2 n hn
  refine g_iconst (pc' := 1) (v := 0) C dL_isLot_0 rfl (by decide) ?_
  refine g_istore_n (pc' := 2) (L' := [(2, .int 0), (0, .ref (a 0)), (1, .int (nI n))]) C dL_isLot_1 rfl rfl (by decide) rfl ?_
  refine g_iconst (pc' := 3) (v := 0) C dL_isLot_2 rfl (by decide) ?_
  refine g_istore_n (pc' := 4) (L' := [(3, .int 0), (2, .int 0), (0, .ref (a 0)), (1, .int (nI n))]) C dL_isLot_3 rfl rfl (by decide) rfl ?_
  have loop_4 : ∀ (k : Nat) (i : Nat), (i : Int) ≤ (u 0 16).toInt → (u 0 16).toInt + 1 ≤ i + k → G p l e ({ frames := 3, cells := 0, slots := 0, locals := 64 } : Room) s m args below meth c D A 5 (wX cI cZ cQ a) 0 0 (MQ below (va_Qi (fun (r : Int32) (u' : LU) => r = 1 ∧ u' = u) (KE D (tyX cI cZ cQ) (wX cI cZ cQ a)) A) args s 0 0 A) u 4 [(0, .ref (a 0)), (1, .int (nI n)), (2, .int (nI (ctA (u 14) (nI n) i))), (3, .int (nI i))] [] := by
    intro k
    induction k with
    | zero =>
      intro i hi hk
      omega
    | succ k ih_4 =>
      intro i hi hk
      refine g_iload_n (pc' := 5) (q := 3) C dL_isLot_4 rfl rfl rfl ?_
      refine g_aload_n (pc' := 6) (q := 0) C dL_isLot_5 rfl rfl rfl ?_
      refine g_calliV (pc' := 9) (As := []) (st := [.int (nI i)]) (cells' := 0) (slots' := 0) C (c_X0_wafers u) gL_isLot_X0_wafers rfl (by decide +kernel) ⟨Nat.le_of_ble_eq_true rfl, Nat.le_of_ble_eq_true rfl⟩ 0 (by rfl) rfl (n := 0) rfl rfl (Nat.le_of_ble_eq_true rfl) dL_isLot_6 rfl rfl rfl ⟨Nat.le_of_ble_eq_true rfl, Nat.le_of_ble_eq_true rfl⟩ (fun r_1 u_1 h_2 => ?_)
      obtain ⟨rfl, h_2⟩ := h_2
      refine g_st h_2 ?_
      have t_3 : (nI i).toInt = ((i : Nat) : Int) := nI_toInt (by omega)
      refine g_icmp_ge (tgt := 35) (pc' := 12) C dL_isLot_9 rfl (by decide) (fun (c_4 : (u 0 16).toInt ≤ (nI i).toInt) => ?_) (fun (c_4 : ¬ ((u 0 16).toInt ≤ (nI i).toInt)) => ?_)
      · skip
        have hct := ctA_le (u 14) (nI n) i
        have hsz9 : u 12 n = nI (ctA (u 14) (nI n) i) := by rw [show i = (u 0 16).toInt.toNat by omega]; exact hsz
        have tsz : (u 12 n).toInt = (ctA (u 14) (nI n) i : Nat) := by rw [hsz9]; exact ti_nI (by omega)
        refine g_aload_n (pc' := 36) (q := 0) C dL_isLot_35 rfl rfl rfl ?_
        refine g_iload_n (pc' := 37) (q := 1) C dL_isLot_36 rfl rfl rfl ?_
        refine g_calliV (pc' := 40) (As := [.int (nI n)]) (st := []) (cells' := 0) (slots' := 0) C (q_state u n hIX (by omega)) gL_isLot_X0_state rfl (by decide +kernel) ⟨Nat.le_of_ble_eq_true rfl, Nat.le_of_ble_eq_true rfl⟩ 0 (by rfl) rfl (n := 1) rfl rfl (Nat.le_of_ble_eq_true rfl) dL_isLot_37 rfl rfl rfl ⟨Nat.le_of_ble_eq_true rfl, Nat.le_of_ble_eq_true rfl⟩ (fun r_5 u_5 h_6 => ?_)
        obtain ⟨rfl, h_6⟩ := h_6
        refine g_st h_6 ?_
        refine g_istore_n (pc' := 41) (L' := [(3, .int (u 6 n)), (0, .ref (a 0)), (1, .int (nI n)), (2, .int (nI (ctA (u 14) (nI n) i)))]) C dL_isLot_40 rfl rfl (by decide) rfl ?_
        refine g_aload_n (pc' := 42) (q := 1) C dL_isLot_41 rfl rfl rfl ?_
        refine g_iload_n (pc' := 43) (q := 2) C dL_isLot_42 rfl rfl rfl ?_
        refine g_calliV (pc' := 46) (As := [.int (nI n)]) (st := []) (cells' := 0) (slots' := 0) C (q_size u n hIX (by omega)) gL_isLot_X0_size rfl (by decide +kernel) ⟨Nat.le_of_ble_eq_true rfl, Nat.le_of_ble_eq_true rfl⟩ 0 (by rfl) rfl (n := 1) rfl rfl (Nat.le_of_ble_eq_true rfl) dL_isLot_43 rfl rfl rfl ⟨Nat.le_of_ble_eq_true rfl, Nat.le_of_ble_eq_true rfl⟩ (fun r_7 u_7 h_8 => ?_)
        obtain ⟨rfl, h_8⟩ := h_8
        refine g_st h_8 ?_
        refine g_conv (show (u 12 n : Int32) = nI (ctA (u 14) (nI n) i) from hsz9) ?_
        refine g_iload_n (pc' := 47) (q := 3) C dL_isLot_46 rfl rfl rfl ?_
        have b_9 := ctA_le (u 14) (nI n) i
        have t_10 : (nI (ctA (u 14) (nI n) i)).toInt = ((ctA (u 14) (nI n) i : Nat) : Int) := nI_toInt (by omega)
        have b_11 := ctA_le (u 14) (nI n) i
        have t_12 : (nI (ctA (u 14) (nI n) i)).toInt = ((ctA (u 14) (nI n) i : Nat) : Int) := nI_toInt (by omega)
        refine g_icmp_ne (tgt := 112) (pc' := 50) C dL_isLot_47 rfl (by decide) (fun (c_13 : ¬ (nI (ctA (u 14) (nI n) i)).toInt = (nI (ctA (u 14) (nI n) i)).toInt) => ?_) (fun (c_13 : (nI (ctA (u 14) (nI n) i)).toInt = (nI (ctA (u 14) (nI n) i)).toInt) => ?_)
        · exact absurd (show False by omega) id
        · skip
          refine g_iload_n (pc' := 51) (q := 0) C dL_isLot_50 rfl rfl rfl ?_
          refine g_iconst (pc' := 52) (v := 3) C dL_isLot_51 rfl (by decide) ?_
          refine g_icmp_ne (tgt := 59) (pc' := 55) C dL_isLot_52 rfl (by decide) (fun (c_14 : ¬ (u 6 n).toInt = 3) => ?_) (fun (c_14 : (u 6 n).toInt = 3) => ?_)
          · skip
            refine g_iconst (pc' := 60) (v := 0) C dL_isLot_59 rfl (by decide) ?_
            refine g_iload_n (pc' := 61) (q := 3) C dL_isLot_60 rfl rfl rfl ?_
            have b_15 := ctA_le (u 14) (nI n) i
            have t_16 : (nI (ctA (u 14) (nI n) i)).toInt = ((ctA (u 14) (nI n) i : Nat) : Int) := nI_toInt (by omega)
            refine g_if_ne (tgt := 68) (pc' := 64) C dL_isLot_61 rfl (by decide) (fun (c_17 : ¬ (nI (ctA (u 14) (nI n) i)).toInt = 0) => ?_) (fun (c_17 : (nI (ctA (u 14) (nI n) i)).toInt = 0) => ?_)
            · skip
              refine g_iconst (pc' := 69) (v := 0) C dL_isLot_68 rfl (by decide) ?_
              refine g_icmp_ne (tgt := 112) (pc' := 72) C dL_isLot_69 rfl (by decide) (fun h => absurd h (by decide)) (fun _ => ?_)
              refine g_iload_n (pc' := 73) (q := 0) C dL_isLot_72 rfl rfl rfl ?_
              refine g_iconst (pc' := 74) (v := 1) C dL_isLot_73 rfl (by decide) ?_
              refine g_icmp_le (tgt := 81) (pc' := 77) C dL_isLot_74 rfl (by decide) (fun (c_18 : (u 6 n).toInt ≤ 1) => ?_) (fun (c_18 : ¬ ((u 6 n).toInt ≤ 1)) => ?_)
              · skip
                refine g_iconst (pc' := 82) (v := 0) C dL_isLot_81 rfl (by decide) ?_
                refine g_aload_n (pc' := 83) (q := 1) C dL_isLot_82 rfl rfl rfl ?_
                refine g_iload_n (pc' := 84) (q := 2) C dL_isLot_83 rfl rfl rfl ?_
                refine g_calliV (pc' := 87) (As := [.int (nI n)]) (st := [.int 0]) (cells' := 0) (slots' := 0) C (q_stepOf u n hIX (by omega)) gL_isLot_X0_stepOf rfl (by decide +kernel) ⟨Nat.le_of_ble_eq_true rfl, Nat.le_of_ble_eq_true rfl⟩ 0 (by rfl) rfl (n := 1) rfl rfl (Nat.le_of_ble_eq_true rfl) dL_isLot_84 rfl rfl rfl ⟨Nat.le_of_ble_eq_true rfl, Nat.le_of_ble_eq_true rfl⟩ (fun r_19 u_19 h_20 => ?_)
                obtain ⟨rfl, h_20⟩ := h_20
                refine g_st h_20 ?_
                refine g_iconst (pc' := 88) (v := (-1)) C dL_isLot_87 rfl (by decide) ?_
                refine g_icmp_ne (tgt := 95) (pc' := 91) C dL_isLot_88 rfl (by decide) (fun (c_21 : ¬ (u 7 n).toInt = -1) => ?_) (fun (c_21 : (u 7 n).toInt = -1) => ?_)
                · skip
                  refine g_iconst (pc' := 96) (v := 0) C dL_isLot_95 rfl (by decide) ?_
                  refine g_icmp_ne (tgt := 112) (pc' := 99) C dL_isLot_96 rfl (by decide) (fun h => absurd h (by decide)) (fun _ => ?_)
                  refine g_aload_n (pc' := 100) (q := 1) C dL_isLot_99 rfl rfl rfl ?_
                  refine g_iload_n (pc' := 101) (q := 2) C dL_isLot_100 rfl rfl rfl ?_
                  refine g_calliV (pc' := 104) (As := [.int (nI n)]) (st := []) (cells' := 0) (slots' := 0) C (q_parentOf u n hIX (by omega)) gL_isLot_X0_parentOf rfl (by decide +kernel) ⟨Nat.le_of_ble_eq_true rfl, Nat.le_of_ble_eq_true rfl⟩ 0 (by rfl) rfl (n := 1) rfl rfl (Nat.le_of_ble_eq_true rfl) dL_isLot_101 rfl rfl rfl ⟨Nat.le_of_ble_eq_true rfl, Nat.le_of_ble_eq_true rfl⟩ (fun r_22 u_22 h_23 => ?_)
                  obtain ⟨rfl, h_23⟩ := h_23
                  refine g_st h_23 ?_
                  refine g_iload_n (pc' := 105) (q := 2) C dL_isLot_104 rfl rfl rfl ?_
                  have t_24 : (nI n).toInt = ((n : Nat) : Int) := nI_toInt (by omega)
                  refine g_icmp_ge (tgt := 112) (pc' := 108) C dL_isLot_105 rfl (by decide) (fun (c_25 : (nI n).toInt ≤ (u 11 n).toInt) => ?_) (fun (c_25 : ¬ ((nI n).toInt ≤ (u 11 n).toInt)) => ?_)
                  · skip
                    exact absurd (show False by omega) id
                  · skip
                    refine g_iconst (pc' := 109) (v := 1) C dL_isLot_108 rfl (by decide) ?_
                    refine g_goto (tgt := 113) C dL_isLot_109 (by decide) ?_
                    refine g_istore (pc' := 115) (L' := [(4, .int 1), (3, .int (u 6 n)), (0, .ref (a 0)), (1, .int (nI n)), (2, .int (nI (ctA (u 14) (nI n) i)))]) C dL_isLot_113 rfl (by decide) rfl ?_
                    refine g_iload (pc' := 117) (q := 0) C dL_isLot_115 rfl rfl ?_
                    refine g_if_eq (tgt := 176) (pc' := 120) C dL_isLot_117 rfl (by decide) (fun h => absurd h (by decide)) (fun _ => ?_)
                    refine g_aload_n (pc' := 121) (q := 2) C dL_isLot_120 rfl rfl rfl ?_
                    refine g_iload_n (pc' := 122) (q := 3) C dL_isLot_121 rfl rfl rfl ?_
                    refine g_calliV (pc' := 125) (As := [.int (nI n)]) (st := []) (cells' := 0) (slots' := 0) C (q_isLate u n hIX (by omega)) gL_isLot_X0_isLate rfl (by decide +kernel) ⟨Nat.le_of_ble_eq_true rfl, Nat.le_of_ble_eq_true rfl⟩ 0 (by rfl) rfl (n := 1) rfl rfl (Nat.le_of_ble_eq_true rfl) dL_isLot_122 rfl rfl rfl ⟨Nat.le_of_ble_eq_true rfl, Nat.le_of_ble_eq_true rfl⟩ (fun r_26 u_26 h_27 => ?_)
                    obtain ⟨rfl, h_27⟩ := h_27
                    refine g_st h_27 ?_
                    refine g_aload_n (pc' := 126) (q := 2) C dL_isLot_125 rfl rfl rfl ?_
                    refine g_iload_n (pc' := 127) (q := 3) C dL_isLot_126 rfl rfl rfl ?_
                    refine g_calliV (pc' := 130) (As := [.int (nI n)]) (st := [.int (bP ((slX u n).toInt < 0))]) (cells' := 0) (slots' := 0) C (q_slack u n hIX (by omega)) gL_isLot_X0_slack rfl (by decide +kernel) ⟨Nat.le_of_ble_eq_true rfl, Nat.le_of_ble_eq_true rfl⟩ 0 (by rfl) rfl (n := 1) rfl rfl (Nat.le_of_ble_eq_true rfl) dL_isLot_127 rfl rfl rfl ⟨Nat.le_of_ble_eq_true rfl, Nat.le_of_ble_eq_true rfl⟩ (fun r_28 u_28 h_29 => ?_)
                    obtain ⟨rfl, h_29⟩ := h_29
                    refine g_st h_29 ?_
                    refine g_if_ge (tgt := 137) (pc' := 133) C dL_isLot_130 rfl (by decide) (fun (c_30 : 0 ≤ (slX u n).toInt) => ?_) (fun (c_30 : ¬ (0 ≤ (slX u n).toInt)) => ?_)
                    · have hb : (bP ((slX u n).toInt < 0)).toInt = 0 := by rw [bP_f (by omega)]; rfl
                      refine g_iconst (pc' := 138) (v := 0) C dL_isLot_137 rfl (by decide) ?_
                      refine g_icmp_ne (tgt := 176) (pc' := 141) C dL_isLot_138 rfl (by decide) (fun (c_31 : ¬ (bP ((slX u n).toInt < 0)).toInt = 0) => ?_) (fun (c_31 : (bP ((slX u n).toInt < 0)).toInt = 0) => ?_)
                      · skip
                        exact absurd (show False by omega) id
                      · skip
                        refine g_iload_n (pc' := 142) (q := 1) C dL_isLot_141 rfl rfl rfl ?_
                        refine g_if_eq (tgt := 155) (pc' := 145) C dL_isLot_142 rfl (by decide) (fun (c_32 : (u 6 n).toInt = 0) => ?_) (fun (c_32 : ¬ ((u 6 n).toInt = 0)) => ?_)
                        · skip
                          refine g_aload_n (pc' := 156) (q := 2) C dL_isLot_155 rfl rfl rfl ?_
                          refine g_iload_n (pc' := 157) (q := 3) C dL_isLot_156 rfl rfl rfl ?_
                          refine g_calliV (pc' := 160) (As := [.int (nI n)]) (st := []) (cells' := 0) (slots' := 0) C (q_reworks u n hIX (by omega)) gL_isLot_X0_reworks rfl (by decide +kernel) ⟨Nat.le_of_ble_eq_true rfl, Nat.le_of_ble_eq_true rfl⟩ 0 (by rfl) rfl (n := 1) rfl rfl (Nat.le_of_ble_eq_true rfl) dL_isLot_157 rfl rfl rfl ⟨Nat.le_of_ble_eq_true rfl, Nat.le_of_ble_eq_true rfl⟩ (fun r_33 u_33 h_34 => ?_)
                          obtain ⟨rfl, h_34⟩ := h_34
                          refine g_st h_34 ?_
                          refine g_if_lt (tgt := 176) (pc' := 163) C dL_isLot_160 rfl (by decide) (fun (c_35 : (u 10 n).toInt < 0) => ?_) (fun (c_35 : ¬ ((u 10 n).toInt < 0)) => ?_)
                          · skip
                            exact absurd (show False by omega) id
                          · skip
                            refine g_aload_n (pc' := 164) (q := 2) C dL_isLot_163 rfl rfl rfl ?_
                            refine g_iload_n (pc' := 165) (q := 3) C dL_isLot_164 rfl rfl rfl ?_
                            refine g_calliV (pc' := 168) (As := [.int (nI n)]) (st := []) (cells' := 0) (slots' := 0) C (q_reworks u n hIX (by omega)) gL_isLot_X0_reworks rfl (by decide +kernel) ⟨Nat.le_of_ble_eq_true rfl, Nat.le_of_ble_eq_true rfl⟩ 0 (by rfl) rfl (n := 1) rfl rfl (Nat.le_of_ble_eq_true rfl) dL_isLot_165 rfl rfl rfl ⟨Nat.le_of_ble_eq_true rfl, Nat.le_of_ble_eq_true rfl⟩ (fun r_36 u_36 h_37 => ?_)
                            obtain ⟨rfl, h_37⟩ := h_37
                            refine g_st h_37 ?_
                            refine g_iconst (pc' := 169) (v := 2) C dL_isLot_168 rfl (by decide) ?_
                            refine g_icmp_gt (tgt := 176) (pc' := 172) C dL_isLot_169 rfl (by decide) (fun (c_38 : 2 < (u 10 n).toInt) => ?_) (fun (c_38 : ¬ (2 < (u 10 n).toInt)) => ?_)
                            · skip
                              exact absurd (show False by omega) id
                            · skip
                              refine g_iconst (pc' := 173) (v := 1) C dL_isLot_172 rfl (by decide) ?_
                              refine g_goto (tgt := 177) C dL_isLot_173 (by decide) ?_
                              exact g_iret C hr (by decide) ⟨rfl, rfl⟩ dL_isLot_177
                        · skip
                          have hs2 : (slX u n).toInt = 2000000 := by unfold slX; rw [if_neg (fun z => absurd z.1 (by assumption))]; rfl
                          refine g_aload_n (pc' := 146) (q := 2) C dL_isLot_145 rfl rfl rfl ?_
                          refine g_iload_n (pc' := 147) (q := 3) C dL_isLot_146 rfl rfl rfl ?_
                          refine g_calliV (pc' := 150) (As := [.int (nI n)]) (st := []) (cells' := 0) (slots' := 0) C (q_slack u n hIX (by omega)) gL_isLot_X0_slack rfl (by decide +kernel) ⟨Nat.le_of_ble_eq_true rfl, Nat.le_of_ble_eq_true rfl⟩ 0 (by rfl) rfl (n := 1) rfl rfl (Nat.le_of_ble_eq_true rfl) dL_isLot_147 rfl rfl rfl ⟨Nat.le_of_ble_eq_true rfl, Nat.le_of_ble_eq_true rfl⟩ (fun r_39 u_39 h_40 => ?_)
                          obtain ⟨rfl, h_40⟩ := h_40
                          refine g_st h_40 ?_
                          refine g_ldc (pc' := 152) (v := 2000000) C dL_isLot_150 rfl (by decide +kernel) ?_
                          refine g_icmp_ne (tgt := 176) (pc' := 155) C dL_isLot_152 rfl (by decide) (fun (c_41 : ¬ (slX u n).toInt = 2000000) => ?_) (fun (c_41 : (slX u n).toInt = 2000000) => ?_)
                          · skip
                            exact absurd (show False by omega) id
                          · skip
                            refine g_aload_n (pc' := 156) (q := 2) C dL_isLot_155 rfl rfl rfl ?_
                            refine g_iload_n (pc' := 157) (q := 3) C dL_isLot_156 rfl rfl rfl ?_
                            refine g_calliV (pc' := 160) (As := [.int (nI n)]) (st := []) (cells' := 0) (slots' := 0) C (q_reworks u n hIX (by omega)) gL_isLot_X0_reworks rfl (by decide +kernel) ⟨Nat.le_of_ble_eq_true rfl, Nat.le_of_ble_eq_true rfl⟩ 0 (by rfl) rfl (n := 1) rfl rfl (Nat.le_of_ble_eq_true rfl) dL_isLot_157 rfl rfl rfl ⟨Nat.le_of_ble_eq_true rfl, Nat.le_of_ble_eq_true rfl⟩ (fun r_42 u_42 h_43 => ?_)
                            obtain ⟨rfl, h_43⟩ := h_43
                            refine g_st h_43 ?_
                            refine g_if_lt (tgt := 176) (pc' := 163) C dL_isLot_160 rfl (by decide) (fun (c_44 : (u 10 n).toInt < 0) => ?_) (fun (c_44 : ¬ ((u 10 n).toInt < 0)) => ?_)
                            · skip
                              exact absurd (show False by omega) id
                            · skip
                              refine g_aload_n (pc' := 164) (q := 2) C dL_isLot_163 rfl rfl rfl ?_
                              refine g_iload_n (pc' := 165) (q := 3) C dL_isLot_164 rfl rfl rfl ?_
                              refine g_calliV (pc' := 168) (As := [.int (nI n)]) (st := []) (cells' := 0) (slots' := 0) C (q_reworks u n hIX (by omega)) gL_isLot_X0_reworks rfl (by decide +kernel) ⟨Nat.le_of_ble_eq_true rfl, Nat.le_of_ble_eq_true rfl⟩ 0 (by rfl) rfl (n := 1) rfl rfl (Nat.le_of_ble_eq_true rfl) dL_isLot_165 rfl rfl rfl ⟨Nat.le_of_ble_eq_true rfl, Nat.le_of_ble_eq_true rfl⟩ (fun r_45 u_45 h_46 => ?_)
                              obtain ⟨rfl, h_46⟩ := h_46
                              refine g_st h_46 ?_
                              refine g_iconst (pc' := 169) (v := 2) C dL_isLot_168 rfl (by decide) ?_
                              refine g_icmp_gt (tgt := 176) (pc' := 172) C dL_isLot_169 rfl (by decide) (fun (c_47 : 2 < (u 10 n).toInt) => ?_) (fun (c_47 : ¬ (2 < (u 10 n).toInt)) => ?_)
                              · skip
                                exact absurd (show False by omega) id
                              · skip
                                refine g_iconst (pc' := 173) (v := 1) C dL_isLot_172 rfl (by decide) ?_
                                refine g_goto (tgt := 177) C dL_isLot_173 (by decide) ?_
                                exact g_iret C hr (by decide) ⟨rfl, rfl⟩ dL_isLot_177
                    · have hb : (bP ((slX u n).toInt < 0)).toInt = 1 := by rw [bP_t (by omega)]; rfl
                      refine g_iconst (pc' := 134) (v := 1) C dL_isLot_133 rfl (by decide) ?_
                      refine g_goto (tgt := 138) C dL_isLot_134 (by decide) ?_
                      refine g_icmp_ne (tgt := 176) (pc' := 141) C dL_isLot_138 rfl (by decide) (fun (c_48 : ¬ (bP ((slX u n).toInt < 0)).toInt = 1) => ?_) (fun (c_48 : (bP ((slX u n).toInt < 0)).toInt = 1) => ?_)
                      · skip
                        exact absurd (show False by omega) id
                      · skip
                        refine g_iload_n (pc' := 142) (q := 1) C dL_isLot_141 rfl rfl rfl ?_
                        refine g_if_eq (tgt := 155) (pc' := 145) C dL_isLot_142 rfl (by decide) (fun (c_49 : (u 6 n).toInt = 0) => ?_) (fun (c_49 : ¬ ((u 6 n).toInt = 0)) => ?_)
                        · skip
                          refine g_aload_n (pc' := 156) (q := 2) C dL_isLot_155 rfl rfl rfl ?_
                          refine g_iload_n (pc' := 157) (q := 3) C dL_isLot_156 rfl rfl rfl ?_
                          refine g_calliV (pc' := 160) (As := [.int (nI n)]) (st := []) (cells' := 0) (slots' := 0) C (q_reworks u n hIX (by omega)) gL_isLot_X0_reworks rfl (by decide +kernel) ⟨Nat.le_of_ble_eq_true rfl, Nat.le_of_ble_eq_true rfl⟩ 0 (by rfl) rfl (n := 1) rfl rfl (Nat.le_of_ble_eq_true rfl) dL_isLot_157 rfl rfl rfl ⟨Nat.le_of_ble_eq_true rfl, Nat.le_of_ble_eq_true rfl⟩ (fun r_50 u_50 h_51 => ?_)
                          obtain ⟨rfl, h_51⟩ := h_51
                          refine g_st h_51 ?_
                          refine g_if_lt (tgt := 176) (pc' := 163) C dL_isLot_160 rfl (by decide) (fun (c_52 : (u 10 n).toInt < 0) => ?_) (fun (c_52 : ¬ ((u 10 n).toInt < 0)) => ?_)
                          · skip
                            exact absurd (show False by omega) id
                          · skip
                            refine g_aload_n (pc' := 164) (q := 2) C dL_isLot_163 rfl rfl rfl ?_
                            refine g_iload_n (pc' := 165) (q := 3) C dL_isLot_164 rfl rfl rfl ?_
                            refine g_calliV (pc' := 168) (As := [.int (nI n)]) (st := []) (cells' := 0) (slots' := 0) C (q_reworks u n hIX (by omega)) gL_isLot_X0_reworks rfl (by decide +kernel) ⟨Nat.le_of_ble_eq_true rfl, Nat.le_of_ble_eq_true rfl⟩ 0 (by rfl) rfl (n := 1) rfl rfl (Nat.le_of_ble_eq_true rfl) dL_isLot_165 rfl rfl rfl ⟨Nat.le_of_ble_eq_true rfl, Nat.le_of_ble_eq_true rfl⟩ (fun r_53 u_53 h_54 => ?_)
                            obtain ⟨rfl, h_54⟩ := h_54
                            refine g_st h_54 ?_
                            refine g_iconst (pc' := 169) (v := 2) C dL_isLot_168 rfl (by decide) ?_
                            refine g_icmp_gt (tgt := 176) (pc' := 172) C dL_isLot_169 rfl (by decide) (fun (c_55 : 2 < (u 10 n).toInt) => ?_) (fun (c_55 : ¬ (2 < (u 10 n).toInt)) => ?_)
                            · skip
                              exact absurd (show False by omega) id
                            · skip
                              refine g_iconst (pc' := 173) (v := 1) C dL_isLot_172 rfl (by decide) ?_
                              refine g_goto (tgt := 177) C dL_isLot_173 (by decide) ?_
                              exact g_iret C hr (by decide) ⟨rfl, rfl⟩ dL_isLot_177
                        · skip
                          have hs2 : (slX u n).toInt = 2000000 := by unfold slX; rw [if_neg (fun z => absurd z.1 (by assumption))]; rfl
                          refine g_aload_n (pc' := 146) (q := 2) C dL_isLot_145 rfl rfl rfl ?_
                          refine g_iload_n (pc' := 147) (q := 3) C dL_isLot_146 rfl rfl rfl ?_
                          refine g_calliV (pc' := 150) (As := [.int (nI n)]) (st := []) (cells' := 0) (slots' := 0) C (q_slack u n hIX (by omega)) gL_isLot_X0_slack rfl (by decide +kernel) ⟨Nat.le_of_ble_eq_true rfl, Nat.le_of_ble_eq_true rfl⟩ 0 (by rfl) rfl (n := 1) rfl rfl (Nat.le_of_ble_eq_true rfl) dL_isLot_147 rfl rfl rfl ⟨Nat.le_of_ble_eq_true rfl, Nat.le_of_ble_eq_true rfl⟩ (fun r_56 u_56 h_57 => ?_)
                          obtain ⟨rfl, h_57⟩ := h_57
                          refine g_st h_57 ?_
                          refine g_ldc (pc' := 152) (v := 2000000) C dL_isLot_150 rfl (by decide +kernel) ?_
                          refine g_icmp_ne (tgt := 176) (pc' := 155) C dL_isLot_152 rfl (by decide) (fun (c_58 : ¬ (slX u n).toInt = 2000000) => ?_) (fun (c_58 : (slX u n).toInt = 2000000) => ?_)
                          · skip
                            exact absurd (show False by omega) id
                          · skip
                            refine g_aload_n (pc' := 156) (q := 2) C dL_isLot_155 rfl rfl rfl ?_
                            refine g_iload_n (pc' := 157) (q := 3) C dL_isLot_156 rfl rfl rfl ?_
                            refine g_calliV (pc' := 160) (As := [.int (nI n)]) (st := []) (cells' := 0) (slots' := 0) C (q_reworks u n hIX (by omega)) gL_isLot_X0_reworks rfl (by decide +kernel) ⟨Nat.le_of_ble_eq_true rfl, Nat.le_of_ble_eq_true rfl⟩ 0 (by rfl) rfl (n := 1) rfl rfl (Nat.le_of_ble_eq_true rfl) dL_isLot_157 rfl rfl rfl ⟨Nat.le_of_ble_eq_true rfl, Nat.le_of_ble_eq_true rfl⟩ (fun r_59 u_59 h_60 => ?_)
                            obtain ⟨rfl, h_60⟩ := h_60
                            refine g_st h_60 ?_
                            refine g_if_lt (tgt := 176) (pc' := 163) C dL_isLot_160 rfl (by decide) (fun (c_61 : (u 10 n).toInt < 0) => ?_) (fun (c_61 : ¬ ((u 10 n).toInt < 0)) => ?_)
                            · skip
                              exact absurd (show False by omega) id
                            · skip
                              refine g_aload_n (pc' := 164) (q := 2) C dL_isLot_163 rfl rfl rfl ?_
                              refine g_iload_n (pc' := 165) (q := 3) C dL_isLot_164 rfl rfl rfl ?_
                              refine g_calliV (pc' := 168) (As := [.int (nI n)]) (st := []) (cells' := 0) (slots' := 0) C (q_reworks u n hIX (by omega)) gL_isLot_X0_reworks rfl (by decide +kernel) ⟨Nat.le_of_ble_eq_true rfl, Nat.le_of_ble_eq_true rfl⟩ 0 (by rfl) rfl (n := 1) rfl rfl (Nat.le_of_ble_eq_true rfl) dL_isLot_165 rfl rfl rfl ⟨Nat.le_of_ble_eq_true rfl, Nat.le_of_ble_eq_true rfl⟩ (fun r_62 u_62 h_63 => ?_)
                              obtain ⟨rfl, h_63⟩ := h_63
                              refine g_st h_63 ?_
                              refine g_iconst (pc' := 169) (v := 2) C dL_isLot_168 rfl (by decide) ?_
                              refine g_icmp_gt (tgt := 176) (pc' := 172) C dL_isLot_169 rfl (by decide) (fun (c_64 : 2 < (u 10 n).toInt) => ?_) (fun (c_64 : ¬ (2 < (u 10 n).toInt)) => ?_)
                              · skip
                                exact absurd (show False by omega) id
                              · skip
                                refine g_iconst (pc' := 173) (v := 1) C dL_isLot_172 rfl (by decide) ?_
                                refine g_goto (tgt := 177) C dL_isLot_173 (by decide) ?_
                                exact g_iret C hr (by decide) ⟨rfl, rfl⟩ dL_isLot_177
                · skip
                  refine g_iconst (pc' := 92) (v := 1) C dL_isLot_91 rfl (by decide) ?_
                  refine g_goto (tgt := 96) C dL_isLot_92 (by decide) ?_
                  refine g_icmp_ne (tgt := 112) (pc' := 99) C dL_isLot_96 rfl (by decide) (fun _ => ?_) (fun h => absurd h (by decide))
                  exact absurd (show False by omega) id
              · skip
                refine g_iconst (pc' := 78) (v := 1) C dL_isLot_77 rfl (by decide) ?_
                refine g_goto (tgt := 82) C dL_isLot_78 (by decide) ?_
                refine g_aload_n (pc' := 83) (q := 1) C dL_isLot_82 rfl rfl rfl ?_
                refine g_iload_n (pc' := 84) (q := 2) C dL_isLot_83 rfl rfl rfl ?_
                refine g_calliV (pc' := 87) (As := [.int (nI n)]) (st := [.int 1]) (cells' := 0) (slots' := 0) C (q_stepOf u n hIX (by omega)) gL_isLot_X0_stepOf rfl (by decide +kernel) ⟨Nat.le_of_ble_eq_true rfl, Nat.le_of_ble_eq_true rfl⟩ 0 (by rfl) rfl (n := 1) rfl rfl (Nat.le_of_ble_eq_true rfl) dL_isLot_84 rfl rfl rfl ⟨Nat.le_of_ble_eq_true rfl, Nat.le_of_ble_eq_true rfl⟩ (fun r_65 u_65 h_66 => ?_)
                obtain ⟨rfl, h_66⟩ := h_66
                refine g_st h_66 ?_
                refine g_iconst (pc' := 88) (v := (-1)) C dL_isLot_87 rfl (by decide) ?_
                refine g_icmp_ne (tgt := 95) (pc' := 91) C dL_isLot_88 rfl (by decide) (fun (c_67 : ¬ (u 7 n).toInt = -1) => ?_) (fun (c_67 : (u 7 n).toInt = -1) => ?_)
                · skip
                  refine g_iconst (pc' := 96) (v := 0) C dL_isLot_95 rfl (by decide) ?_
                  refine g_icmp_ne (tgt := 112) (pc' := 99) C dL_isLot_96 rfl (by decide) (fun _ => ?_) (fun h => absurd h (by decide))
                  exact absurd (show False by omega) id
                · skip
                  refine g_iconst (pc' := 92) (v := 1) C dL_isLot_91 rfl (by decide) ?_
                  refine g_goto (tgt := 96) C dL_isLot_92 (by decide) ?_
                  refine g_icmp_ne (tgt := 112) (pc' := 99) C dL_isLot_96 rfl (by decide) (fun h => absurd h (by decide)) (fun _ => ?_)
                  refine g_aload_n (pc' := 100) (q := 1) C dL_isLot_99 rfl rfl rfl ?_
                  refine g_iload_n (pc' := 101) (q := 2) C dL_isLot_100 rfl rfl rfl ?_
                  refine g_calliV (pc' := 104) (As := [.int (nI n)]) (st := []) (cells' := 0) (slots' := 0) C (q_parentOf u n hIX (by omega)) gL_isLot_X0_parentOf rfl (by decide +kernel) ⟨Nat.le_of_ble_eq_true rfl, Nat.le_of_ble_eq_true rfl⟩ 0 (by rfl) rfl (n := 1) rfl rfl (Nat.le_of_ble_eq_true rfl) dL_isLot_101 rfl rfl rfl ⟨Nat.le_of_ble_eq_true rfl, Nat.le_of_ble_eq_true rfl⟩ (fun r_68 u_68 h_69 => ?_)
                  obtain ⟨rfl, h_69⟩ := h_69
                  refine g_st h_69 ?_
                  refine g_iload_n (pc' := 105) (q := 2) C dL_isLot_104 rfl rfl rfl ?_
                  have t_70 : (nI n).toInt = ((n : Nat) : Int) := nI_toInt (by omega)
                  refine g_icmp_ge (tgt := 112) (pc' := 108) C dL_isLot_105 rfl (by decide) (fun (c_71 : (nI n).toInt ≤ (u 11 n).toInt) => ?_) (fun (c_71 : ¬ ((nI n).toInt ≤ (u 11 n).toInt)) => ?_)
                  · skip
                    exact absurd (show False by omega) id
                  · skip
                    refine g_iconst (pc' := 109) (v := 1) C dL_isLot_108 rfl (by decide) ?_
                    refine g_goto (tgt := 113) C dL_isLot_109 (by decide) ?_
                    refine g_istore (pc' := 115) (L' := [(4, .int 1), (3, .int (u 6 n)), (0, .ref (a 0)), (1, .int (nI n)), (2, .int (nI (ctA (u 14) (nI n) i)))]) C dL_isLot_113 rfl (by decide) rfl ?_
                    refine g_iload (pc' := 117) (q := 0) C dL_isLot_115 rfl rfl ?_
                    refine g_if_eq (tgt := 176) (pc' := 120) C dL_isLot_117 rfl (by decide) (fun h => absurd h (by decide)) (fun _ => ?_)
                    refine g_aload_n (pc' := 121) (q := 2) C dL_isLot_120 rfl rfl rfl ?_
                    refine g_iload_n (pc' := 122) (q := 3) C dL_isLot_121 rfl rfl rfl ?_
                    refine g_calliV (pc' := 125) (As := [.int (nI n)]) (st := []) (cells' := 0) (slots' := 0) C (q_isLate u n hIX (by omega)) gL_isLot_X0_isLate rfl (by decide +kernel) ⟨Nat.le_of_ble_eq_true rfl, Nat.le_of_ble_eq_true rfl⟩ 0 (by rfl) rfl (n := 1) rfl rfl (Nat.le_of_ble_eq_true rfl) dL_isLot_122 rfl rfl rfl ⟨Nat.le_of_ble_eq_true rfl, Nat.le_of_ble_eq_true rfl⟩ (fun r_72 u_72 h_73 => ?_)
                    obtain ⟨rfl, h_73⟩ := h_73
                    refine g_st h_73 ?_
                    refine g_aload_n (pc' := 126) (q := 2) C dL_isLot_125 rfl rfl rfl ?_
                    refine g_iload_n (pc' := 127) (q := 3) C dL_isLot_126 rfl rfl rfl ?_
                    refine g_calliV (pc' := 130) (As := [.int (nI n)]) (st := [.int (bP ((slX u n).toInt < 0))]) (cells' := 0) (slots' := 0) C (q_slack u n hIX (by omega)) gL_isLot_X0_slack rfl (by decide +kernel) ⟨Nat.le_of_ble_eq_true rfl, Nat.le_of_ble_eq_true rfl⟩ 0 (by rfl) rfl (n := 1) rfl rfl (Nat.le_of_ble_eq_true rfl) dL_isLot_127 rfl rfl rfl ⟨Nat.le_of_ble_eq_true rfl, Nat.le_of_ble_eq_true rfl⟩ (fun r_74 u_74 h_75 => ?_)
                    obtain ⟨rfl, h_75⟩ := h_75
                    refine g_st h_75 ?_
                    refine g_if_ge (tgt := 137) (pc' := 133) C dL_isLot_130 rfl (by decide) (fun (c_76 : 0 ≤ (slX u n).toInt) => ?_) (fun (c_76 : ¬ (0 ≤ (slX u n).toInt)) => ?_)
                    · have hb : (bP ((slX u n).toInt < 0)).toInt = 0 := by rw [bP_f (by omega)]; rfl
                      refine g_iconst (pc' := 138) (v := 0) C dL_isLot_137 rfl (by decide) ?_
                      refine g_icmp_ne (tgt := 176) (pc' := 141) C dL_isLot_138 rfl (by decide) (fun (c_77 : ¬ (bP ((slX u n).toInt < 0)).toInt = 0) => ?_) (fun (c_77 : (bP ((slX u n).toInt < 0)).toInt = 0) => ?_)
                      · skip
                        exact absurd (show False by omega) id
                      · skip
                        refine g_iload_n (pc' := 142) (q := 1) C dL_isLot_141 rfl rfl rfl ?_
                        refine g_if_eq (tgt := 155) (pc' := 145) C dL_isLot_142 rfl (by decide) (fun (c_78 : (u 6 n).toInt = 0) => ?_) (fun (c_78 : ¬ ((u 6 n).toInt = 0)) => ?_)
                        · skip
                          refine g_aload_n (pc' := 156) (q := 2) C dL_isLot_155 rfl rfl rfl ?_
                          refine g_iload_n (pc' := 157) (q := 3) C dL_isLot_156 rfl rfl rfl ?_
                          refine g_calliV (pc' := 160) (As := [.int (nI n)]) (st := []) (cells' := 0) (slots' := 0) C (q_reworks u n hIX (by omega)) gL_isLot_X0_reworks rfl (by decide +kernel) ⟨Nat.le_of_ble_eq_true rfl, Nat.le_of_ble_eq_true rfl⟩ 0 (by rfl) rfl (n := 1) rfl rfl (Nat.le_of_ble_eq_true rfl) dL_isLot_157 rfl rfl rfl ⟨Nat.le_of_ble_eq_true rfl, Nat.le_of_ble_eq_true rfl⟩ (fun r_79 u_79 h_80 => ?_)
                          obtain ⟨rfl, h_80⟩ := h_80
                          refine g_st h_80 ?_
                          refine g_if_lt (tgt := 176) (pc' := 163) C dL_isLot_160 rfl (by decide) (fun (c_81 : (u 10 n).toInt < 0) => ?_) (fun (c_81 : ¬ ((u 10 n).toInt < 0)) => ?_)
                          · skip
                            exact absurd (show False by omega) id
                          · skip
                            refine g_aload_n (pc' := 164) (q := 2) C dL_isLot_163 rfl rfl rfl ?_
                            refine g_iload_n (pc' := 165) (q := 3) C dL_isLot_164 rfl rfl rfl ?_
                            refine g_calliV (pc' := 168) (As := [.int (nI n)]) (st := []) (cells' := 0) (slots' := 0) C (q_reworks u n hIX (by omega)) gL_isLot_X0_reworks rfl (by decide +kernel) ⟨Nat.le_of_ble_eq_true rfl, Nat.le_of_ble_eq_true rfl⟩ 0 (by rfl) rfl (n := 1) rfl rfl (Nat.le_of_ble_eq_true rfl) dL_isLot_165 rfl rfl rfl ⟨Nat.le_of_ble_eq_true rfl, Nat.le_of_ble_eq_true rfl⟩ (fun r_82 u_82 h_83 => ?_)
                            obtain ⟨rfl, h_83⟩ := h_83
                            refine g_st h_83 ?_
                            refine g_iconst (pc' := 169) (v := 2) C dL_isLot_168 rfl (by decide) ?_
                            refine g_icmp_gt (tgt := 176) (pc' := 172) C dL_isLot_169 rfl (by decide) (fun (c_84 : 2 < (u 10 n).toInt) => ?_) (fun (c_84 : ¬ (2 < (u 10 n).toInt)) => ?_)
                            · skip
                              exact absurd (show False by omega) id
                            · skip
                              refine g_iconst (pc' := 173) (v := 1) C dL_isLot_172 rfl (by decide) ?_
                              refine g_goto (tgt := 177) C dL_isLot_173 (by decide) ?_
                              exact g_iret C hr (by decide) ⟨rfl, rfl⟩ dL_isLot_177
                        · skip
                          have hs2 : (slX u n).toInt = 2000000 := by unfold slX; rw [if_neg (fun z => absurd z.1 (by assumption))]; rfl
                          refine g_aload_n (pc' := 146) (q := 2) C dL_isLot_145 rfl rfl rfl ?_
                          refine g_iload_n (pc' := 147) (q := 3) C dL_isLot_146 rfl rfl rfl ?_
                          refine g_calliV (pc' := 150) (As := [.int (nI n)]) (st := []) (cells' := 0) (slots' := 0) C (q_slack u n hIX (by omega)) gL_isLot_X0_slack rfl (by decide +kernel) ⟨Nat.le_of_ble_eq_true rfl, Nat.le_of_ble_eq_true rfl⟩ 0 (by rfl) rfl (n := 1) rfl rfl (Nat.le_of_ble_eq_true rfl) dL_isLot_147 rfl rfl rfl ⟨Nat.le_of_ble_eq_true rfl, Nat.le_of_ble_eq_true rfl⟩ (fun r_85 u_85 h_86 => ?_)
                          obtain ⟨rfl, h_86⟩ := h_86
                          refine g_st h_86 ?_
                          refine g_ldc (pc' := 152) (v := 2000000) C dL_isLot_150 rfl (by decide +kernel) ?_
                          refine g_icmp_ne (tgt := 176) (pc' := 155) C dL_isLot_152 rfl (by decide) (fun (c_87 : ¬ (slX u n).toInt = 2000000) => ?_) (fun (c_87 : (slX u n).toInt = 2000000) => ?_)
                          · skip
                            exact absurd (show False by omega) id
                          · skip
                            refine g_aload_n (pc' := 156) (q := 2) C dL_isLot_155 rfl rfl rfl ?_
                            refine g_iload_n (pc' := 157) (q := 3) C dL_isLot_156 rfl rfl rfl ?_
                            refine g_calliV (pc' := 160) (As := [.int (nI n)]) (st := []) (cells' := 0) (slots' := 0) C (q_reworks u n hIX (by omega)) gL_isLot_X0_reworks rfl (by decide +kernel) ⟨Nat.le_of_ble_eq_true rfl, Nat.le_of_ble_eq_true rfl⟩ 0 (by rfl) rfl (n := 1) rfl rfl (Nat.le_of_ble_eq_true rfl) dL_isLot_157 rfl rfl rfl ⟨Nat.le_of_ble_eq_true rfl, Nat.le_of_ble_eq_true rfl⟩ (fun r_88 u_88 h_89 => ?_)
                            obtain ⟨rfl, h_89⟩ := h_89
                            refine g_st h_89 ?_
                            refine g_if_lt (tgt := 176) (pc' := 163) C dL_isLot_160 rfl (by decide) (fun (c_90 : (u 10 n).toInt < 0) => ?_) (fun (c_90 : ¬ ((u 10 n).toInt < 0)) => ?_)
                            · skip
                              exact absurd (show False by omega) id
                            · skip
                              refine g_aload_n (pc' := 164) (q := 2) C dL_isLot_163 rfl rfl rfl ?_
                              refine g_iload_n (pc' := 165) (q := 3) C dL_isLot_164 rfl rfl rfl ?_
                              refine g_calliV (pc' := 168) (As := [.int (nI n)]) (st := []) (cells' := 0) (slots' := 0) C (q_reworks u n hIX (by omega)) gL_isLot_X0_reworks rfl (by decide +kernel) ⟨Nat.le_of_ble_eq_true rfl, Nat.le_of_ble_eq_true rfl⟩ 0 (by rfl) rfl (n := 1) rfl rfl (Nat.le_of_ble_eq_true rfl) dL_isLot_165 rfl rfl rfl ⟨Nat.le_of_ble_eq_true rfl, Nat.le_of_ble_eq_true rfl⟩ (fun r_91 u_91 h_92 => ?_)
                              obtain ⟨rfl, h_92⟩ := h_92
                              refine g_st h_92 ?_
                              refine g_iconst (pc' := 169) (v := 2) C dL_isLot_168 rfl (by decide) ?_
                              refine g_icmp_gt (tgt := 176) (pc' := 172) C dL_isLot_169 rfl (by decide) (fun (c_93 : 2 < (u 10 n).toInt) => ?_) (fun (c_93 : ¬ (2 < (u 10 n).toInt)) => ?_)
                              · skip
                                exact absurd (show False by omega) id
                              · skip
                                refine g_iconst (pc' := 173) (v := 1) C dL_isLot_172 rfl (by decide) ?_
                                refine g_goto (tgt := 177) C dL_isLot_173 (by decide) ?_
                                exact g_iret C hr (by decide) ⟨rfl, rfl⟩ dL_isLot_177
                    · have hb : (bP ((slX u n).toInt < 0)).toInt = 1 := by rw [bP_t (by omega)]; rfl
                      refine g_iconst (pc' := 134) (v := 1) C dL_isLot_133 rfl (by decide) ?_
                      refine g_goto (tgt := 138) C dL_isLot_134 (by decide) ?_
                      refine g_icmp_ne (tgt := 176) (pc' := 141) C dL_isLot_138 rfl (by decide) (fun (c_94 : ¬ (bP ((slX u n).toInt < 0)).toInt = 1) => ?_) (fun (c_94 : (bP ((slX u n).toInt < 0)).toInt = 1) => ?_)
                      · skip
                        exact absurd (show False by omega) id
                      · skip
                        refine g_iload_n (pc' := 142) (q := 1) C dL_isLot_141 rfl rfl rfl ?_
                        refine g_if_eq (tgt := 155) (pc' := 145) C dL_isLot_142 rfl (by decide) (fun (c_95 : (u 6 n).toInt = 0) => ?_) (fun (c_95 : ¬ ((u 6 n).toInt = 0)) => ?_)
                        · skip
                          refine g_aload_n (pc' := 156) (q := 2) C dL_isLot_155 rfl rfl rfl ?_
                          refine g_iload_n (pc' := 157) (q := 3) C dL_isLot_156 rfl rfl rfl ?_
                          refine g_calliV (pc' := 160) (As := [.int (nI n)]) (st := []) (cells' := 0) (slots' := 0) C (q_reworks u n hIX (by omega)) gL_isLot_X0_reworks rfl (by decide +kernel) ⟨Nat.le_of_ble_eq_true rfl, Nat.le_of_ble_eq_true rfl⟩ 0 (by rfl) rfl (n := 1) rfl rfl (Nat.le_of_ble_eq_true rfl) dL_isLot_157 rfl rfl rfl ⟨Nat.le_of_ble_eq_true rfl, Nat.le_of_ble_eq_true rfl⟩ (fun r_96 u_96 h_97 => ?_)
                          obtain ⟨rfl, h_97⟩ := h_97
                          refine g_st h_97 ?_
                          refine g_if_lt (tgt := 176) (pc' := 163) C dL_isLot_160 rfl (by decide) (fun (c_98 : (u 10 n).toInt < 0) => ?_) (fun (c_98 : ¬ ((u 10 n).toInt < 0)) => ?_)
                          · skip
                            exact absurd (show False by omega) id
                          · skip
                            refine g_aload_n (pc' := 164) (q := 2) C dL_isLot_163 rfl rfl rfl ?_
                            refine g_iload_n (pc' := 165) (q := 3) C dL_isLot_164 rfl rfl rfl ?_
                            refine g_calliV (pc' := 168) (As := [.int (nI n)]) (st := []) (cells' := 0) (slots' := 0) C (q_reworks u n hIX (by omega)) gL_isLot_X0_reworks rfl (by decide +kernel) ⟨Nat.le_of_ble_eq_true rfl, Nat.le_of_ble_eq_true rfl⟩ 0 (by rfl) rfl (n := 1) rfl rfl (Nat.le_of_ble_eq_true rfl) dL_isLot_165 rfl rfl rfl ⟨Nat.le_of_ble_eq_true rfl, Nat.le_of_ble_eq_true rfl⟩ (fun r_99 u_99 h_100 => ?_)
                            obtain ⟨rfl, h_100⟩ := h_100
                            refine g_st h_100 ?_
                            refine g_iconst (pc' := 169) (v := 2) C dL_isLot_168 rfl (by decide) ?_
                            refine g_icmp_gt (tgt := 176) (pc' := 172) C dL_isLot_169 rfl (by decide) (fun (c_101 : 2 < (u 10 n).toInt) => ?_) (fun (c_101 : ¬ (2 < (u 10 n).toInt)) => ?_)
                            · skip
                              exact absurd (show False by omega) id
                            · skip
                              refine g_iconst (pc' := 173) (v := 1) C dL_isLot_172 rfl (by decide) ?_
                              refine g_goto (tgt := 177) C dL_isLot_173 (by decide) ?_
                              exact g_iret C hr (by decide) ⟨rfl, rfl⟩ dL_isLot_177
                        · skip
                          have hs2 : (slX u n).toInt = 2000000 := by unfold slX; rw [if_neg (fun z => absurd z.1 (by assumption))]; rfl
                          refine g_aload_n (pc' := 146) (q := 2) C dL_isLot_145 rfl rfl rfl ?_
                          refine g_iload_n (pc' := 147) (q := 3) C dL_isLot_146 rfl rfl rfl ?_
                          refine g_calliV (pc' := 150) (As := [.int (nI n)]) (st := []) (cells' := 0) (slots' := 0) C (q_slack u n hIX (by omega)) gL_isLot_X0_slack rfl (by decide +kernel) ⟨Nat.le_of_ble_eq_true rfl, Nat.le_of_ble_eq_true rfl⟩ 0 (by rfl) rfl (n := 1) rfl rfl (Nat.le_of_ble_eq_true rfl) dL_isLot_147 rfl rfl rfl ⟨Nat.le_of_ble_eq_true rfl, Nat.le_of_ble_eq_true rfl⟩ (fun r_102 u_102 h_103 => ?_)
                          obtain ⟨rfl, h_103⟩ := h_103
                          refine g_st h_103 ?_
                          refine g_ldc (pc' := 152) (v := 2000000) C dL_isLot_150 rfl (by decide +kernel) ?_
                          refine g_icmp_ne (tgt := 176) (pc' := 155) C dL_isLot_152 rfl (by decide) (fun (c_104 : ¬ (slX u n).toInt = 2000000) => ?_) (fun (c_104 : (slX u n).toInt = 2000000) => ?_)
                          · skip
                            exact absurd (show False by omega) id
                          · skip
                            refine g_aload_n (pc' := 156) (q := 2) C dL_isLot_155 rfl rfl rfl ?_
                            refine g_iload_n (pc' := 157) (q := 3) C dL_isLot_156 rfl rfl rfl ?_
                            refine g_calliV (pc' := 160) (As := [.int (nI n)]) (st := []) (cells' := 0) (slots' := 0) C (q_reworks u n hIX (by omega)) gL_isLot_X0_reworks rfl (by decide +kernel) ⟨Nat.le_of_ble_eq_true rfl, Nat.le_of_ble_eq_true rfl⟩ 0 (by rfl) rfl (n := 1) rfl rfl (Nat.le_of_ble_eq_true rfl) dL_isLot_157 rfl rfl rfl ⟨Nat.le_of_ble_eq_true rfl, Nat.le_of_ble_eq_true rfl⟩ (fun r_105 u_105 h_106 => ?_)
                            obtain ⟨rfl, h_106⟩ := h_106
                            refine g_st h_106 ?_
                            refine g_if_lt (tgt := 176) (pc' := 163) C dL_isLot_160 rfl (by decide) (fun (c_107 : (u 10 n).toInt < 0) => ?_) (fun (c_107 : ¬ ((u 10 n).toInt < 0)) => ?_)
                            · skip
                              exact absurd (show False by omega) id
                            · skip
                              refine g_aload_n (pc' := 164) (q := 2) C dL_isLot_163 rfl rfl rfl ?_
                              refine g_iload_n (pc' := 165) (q := 3) C dL_isLot_164 rfl rfl rfl ?_
                              refine g_calliV (pc' := 168) (As := [.int (nI n)]) (st := []) (cells' := 0) (slots' := 0) C (q_reworks u n hIX (by omega)) gL_isLot_X0_reworks rfl (by decide +kernel) ⟨Nat.le_of_ble_eq_true rfl, Nat.le_of_ble_eq_true rfl⟩ 0 (by rfl) rfl (n := 1) rfl rfl (Nat.le_of_ble_eq_true rfl) dL_isLot_165 rfl rfl rfl ⟨Nat.le_of_ble_eq_true rfl, Nat.le_of_ble_eq_true rfl⟩ (fun r_108 u_108 h_109 => ?_)
                              obtain ⟨rfl, h_109⟩ := h_109
                              refine g_st h_109 ?_
                              refine g_iconst (pc' := 169) (v := 2) C dL_isLot_168 rfl (by decide) ?_
                              refine g_icmp_gt (tgt := 176) (pc' := 172) C dL_isLot_169 rfl (by decide) (fun (c_110 : 2 < (u 10 n).toInt) => ?_) (fun (c_110 : ¬ (2 < (u 10 n).toInt)) => ?_)
                              · skip
                                exact absurd (show False by omega) id
                              · skip
                                refine g_iconst (pc' := 173) (v := 1) C dL_isLot_172 rfl (by decide) ?_
                                refine g_goto (tgt := 177) C dL_isLot_173 (by decide) ?_
                                exact g_iret C hr (by decide) ⟨rfl, rfl⟩ dL_isLot_177
            · skip
              refine g_iconst (pc' := 65) (v := 1) C dL_isLot_64 rfl (by decide) ?_
              refine g_goto (tgt := 69) C dL_isLot_65 (by decide) ?_
              refine g_icmp_ne (tgt := 112) (pc' := 72) C dL_isLot_69 rfl (by decide) (fun _ => ?_) (fun h => absurd h (by decide))
              exact absurd (show False by omega) id
          · skip
            refine g_iconst (pc' := 56) (v := 1) C dL_isLot_55 rfl (by decide) ?_
            refine g_goto (tgt := 60) C dL_isLot_56 (by decide) ?_
            refine g_iload_n (pc' := 61) (q := 3) C dL_isLot_60 rfl rfl rfl ?_
            have b_111 := ctA_le (u 14) (nI n) i
            have t_112 : (nI (ctA (u 14) (nI n) i)).toInt = ((ctA (u 14) (nI n) i : Nat) : Int) := nI_toInt (by omega)
            refine g_if_ne (tgt := 68) (pc' := 64) C dL_isLot_61 rfl (by decide) (fun (c_113 : ¬ (nI (ctA (u 14) (nI n) i)).toInt = 0) => ?_) (fun (c_113 : (nI (ctA (u 14) (nI n) i)).toInt = 0) => ?_)
            · skip
              refine g_iconst (pc' := 69) (v := 0) C dL_isLot_68 rfl (by decide) ?_
              refine g_icmp_ne (tgt := 112) (pc' := 72) C dL_isLot_69 rfl (by decide) (fun _ => ?_) (fun h => absurd h (by decide))
              exact absurd (show False by omega) id
            · skip
              refine g_iconst (pc' := 65) (v := 1) C dL_isLot_64 rfl (by decide) ?_
              refine g_goto (tgt := 69) C dL_isLot_65 (by decide) ?_
              refine g_icmp_ne (tgt := 112) (pc' := 72) C dL_isLot_69 rfl (by decide) (fun h => absurd h (by decide)) (fun _ => ?_)
              refine g_iload_n (pc' := 73) (q := 0) C dL_isLot_72 rfl rfl rfl ?_
              refine g_iconst (pc' := 74) (v := 1) C dL_isLot_73 rfl (by decide) ?_
              refine g_icmp_le (tgt := 81) (pc' := 77) C dL_isLot_74 rfl (by decide) (fun (c_114 : (u 6 n).toInt ≤ 1) => ?_) (fun (c_114 : ¬ ((u 6 n).toInt ≤ 1)) => ?_)
              · skip
                refine g_iconst (pc' := 82) (v := 0) C dL_isLot_81 rfl (by decide) ?_
                refine g_aload_n (pc' := 83) (q := 1) C dL_isLot_82 rfl rfl rfl ?_
                refine g_iload_n (pc' := 84) (q := 2) C dL_isLot_83 rfl rfl rfl ?_
                refine g_calliV (pc' := 87) (As := [.int (nI n)]) (st := [.int 0]) (cells' := 0) (slots' := 0) C (q_stepOf u n hIX (by omega)) gL_isLot_X0_stepOf rfl (by decide +kernel) ⟨Nat.le_of_ble_eq_true rfl, Nat.le_of_ble_eq_true rfl⟩ 0 (by rfl) rfl (n := 1) rfl rfl (Nat.le_of_ble_eq_true rfl) dL_isLot_84 rfl rfl rfl ⟨Nat.le_of_ble_eq_true rfl, Nat.le_of_ble_eq_true rfl⟩ (fun r_115 u_115 h_116 => ?_)
                obtain ⟨rfl, h_116⟩ := h_116
                refine g_st h_116 ?_
                refine g_iconst (pc' := 88) (v := (-1)) C dL_isLot_87 rfl (by decide) ?_
                refine g_icmp_ne (tgt := 95) (pc' := 91) C dL_isLot_88 rfl (by decide) (fun (c_117 : ¬ (u 7 n).toInt = -1) => ?_) (fun (c_117 : (u 7 n).toInt = -1) => ?_)
                · skip
                  refine g_iconst (pc' := 96) (v := 0) C dL_isLot_95 rfl (by decide) ?_
                  refine g_icmp_ne (tgt := 112) (pc' := 99) C dL_isLot_96 rfl (by decide) (fun h => absurd h (by decide)) (fun _ => ?_)
                  refine g_aload_n (pc' := 100) (q := 1) C dL_isLot_99 rfl rfl rfl ?_
                  refine g_iload_n (pc' := 101) (q := 2) C dL_isLot_100 rfl rfl rfl ?_
                  refine g_calliV (pc' := 104) (As := [.int (nI n)]) (st := []) (cells' := 0) (slots' := 0) C (q_parentOf u n hIX (by omega)) gL_isLot_X0_parentOf rfl (by decide +kernel) ⟨Nat.le_of_ble_eq_true rfl, Nat.le_of_ble_eq_true rfl⟩ 0 (by rfl) rfl (n := 1) rfl rfl (Nat.le_of_ble_eq_true rfl) dL_isLot_101 rfl rfl rfl ⟨Nat.le_of_ble_eq_true rfl, Nat.le_of_ble_eq_true rfl⟩ (fun r_118 u_118 h_119 => ?_)
                  obtain ⟨rfl, h_119⟩ := h_119
                  refine g_st h_119 ?_
                  refine g_iload_n (pc' := 105) (q := 2) C dL_isLot_104 rfl rfl rfl ?_
                  have t_120 : (nI n).toInt = ((n : Nat) : Int) := nI_toInt (by omega)
                  refine g_icmp_ge (tgt := 112) (pc' := 108) C dL_isLot_105 rfl (by decide) (fun (c_121 : (nI n).toInt ≤ (u 11 n).toInt) => ?_) (fun (c_121 : ¬ ((nI n).toInt ≤ (u 11 n).toInt)) => ?_)
                  · skip
                    exact absurd (show False by omega) id
                  · skip
                    refine g_iconst (pc' := 109) (v := 1) C dL_isLot_108 rfl (by decide) ?_
                    refine g_goto (tgt := 113) C dL_isLot_109 (by decide) ?_
                    refine g_istore (pc' := 115) (L' := [(4, .int 1), (3, .int (u 6 n)), (0, .ref (a 0)), (1, .int (nI n)), (2, .int (nI (ctA (u 14) (nI n) i)))]) C dL_isLot_113 rfl (by decide) rfl ?_
                    refine g_iload (pc' := 117) (q := 0) C dL_isLot_115 rfl rfl ?_
                    refine g_if_eq (tgt := 176) (pc' := 120) C dL_isLot_117 rfl (by decide) (fun h => absurd h (by decide)) (fun _ => ?_)
                    refine g_aload_n (pc' := 121) (q := 2) C dL_isLot_120 rfl rfl rfl ?_
                    refine g_iload_n (pc' := 122) (q := 3) C dL_isLot_121 rfl rfl rfl ?_
                    refine g_calliV (pc' := 125) (As := [.int (nI n)]) (st := []) (cells' := 0) (slots' := 0) C (q_isLate u n hIX (by omega)) gL_isLot_X0_isLate rfl (by decide +kernel) ⟨Nat.le_of_ble_eq_true rfl, Nat.le_of_ble_eq_true rfl⟩ 0 (by rfl) rfl (n := 1) rfl rfl (Nat.le_of_ble_eq_true rfl) dL_isLot_122 rfl rfl rfl ⟨Nat.le_of_ble_eq_true rfl, Nat.le_of_ble_eq_true rfl⟩ (fun r_122 u_122 h_123 => ?_)
                    obtain ⟨rfl, h_123⟩ := h_123
                    refine g_st h_123 ?_
                    refine g_aload_n (pc' := 126) (q := 2) C dL_isLot_125 rfl rfl rfl ?_
                    refine g_iload_n (pc' := 127) (q := 3) C dL_isLot_126 rfl rfl rfl ?_
                    refine g_calliV (pc' := 130) (As := [.int (nI n)]) (st := [.int (bP ((slX u n).toInt < 0))]) (cells' := 0) (slots' := 0) C (q_slack u n hIX (by omega)) gL_isLot_X0_slack rfl (by decide +kernel) ⟨Nat.le_of_ble_eq_true rfl, Nat.le_of_ble_eq_true rfl⟩ 0 (by rfl) rfl (n := 1) rfl rfl (Nat.le_of_ble_eq_true rfl) dL_isLot_127 rfl rfl rfl ⟨Nat.le_of_ble_eq_true rfl, Nat.le_of_ble_eq_true rfl⟩ (fun r_124 u_124 h_125 => ?_)
                    obtain ⟨rfl, h_125⟩ := h_125
                    refine g_st h_125 ?_
                    refine g_if_ge (tgt := 137) (pc' := 133) C dL_isLot_130 rfl (by decide) (fun (c_126 : 0 ≤ (slX u n).toInt) => ?_) (fun (c_126 : ¬ (0 ≤ (slX u n).toInt)) => ?_)
                    · have hb : (bP ((slX u n).toInt < 0)).toInt = 0 := by rw [bP_f (by omega)]; rfl
                      refine g_iconst (pc' := 138) (v := 0) C dL_isLot_137 rfl (by decide) ?_
                      refine g_icmp_ne (tgt := 176) (pc' := 141) C dL_isLot_138 rfl (by decide) (fun (c_127 : ¬ (bP ((slX u n).toInt < 0)).toInt = 0) => ?_) (fun (c_127 : (bP ((slX u n).toInt < 0)).toInt = 0) => ?_)
                      · skip
                        exact absurd (show False by omega) id
                      · skip
                        refine g_iload_n (pc' := 142) (q := 1) C dL_isLot_141 rfl rfl rfl ?_
                        refine g_if_eq (tgt := 155) (pc' := 145) C dL_isLot_142 rfl (by decide) (fun (c_128 : (u 6 n).toInt = 0) => ?_) (fun (c_128 : ¬ ((u 6 n).toInt = 0)) => ?_)
                        · skip
                          refine g_aload_n (pc' := 156) (q := 2) C dL_isLot_155 rfl rfl rfl ?_
                          refine g_iload_n (pc' := 157) (q := 3) C dL_isLot_156 rfl rfl rfl ?_
                          refine g_calliV (pc' := 160) (As := [.int (nI n)]) (st := []) (cells' := 0) (slots' := 0) C (q_reworks u n hIX (by omega)) gL_isLot_X0_reworks rfl (by decide +kernel) ⟨Nat.le_of_ble_eq_true rfl, Nat.le_of_ble_eq_true rfl⟩ 0 (by rfl) rfl (n := 1) rfl rfl (Nat.le_of_ble_eq_true rfl) dL_isLot_157 rfl rfl rfl ⟨Nat.le_of_ble_eq_true rfl, Nat.le_of_ble_eq_true rfl⟩ (fun r_129 u_129 h_130 => ?_)
                          obtain ⟨rfl, h_130⟩ := h_130
                          refine g_st h_130 ?_
                          refine g_if_lt (tgt := 176) (pc' := 163) C dL_isLot_160 rfl (by decide) (fun (c_131 : (u 10 n).toInt < 0) => ?_) (fun (c_131 : ¬ ((u 10 n).toInt < 0)) => ?_)
                          · skip
                            exact absurd (show False by omega) id
                          · skip
                            refine g_aload_n (pc' := 164) (q := 2) C dL_isLot_163 rfl rfl rfl ?_
                            refine g_iload_n (pc' := 165) (q := 3) C dL_isLot_164 rfl rfl rfl ?_
                            refine g_calliV (pc' := 168) (As := [.int (nI n)]) (st := []) (cells' := 0) (slots' := 0) C (q_reworks u n hIX (by omega)) gL_isLot_X0_reworks rfl (by decide +kernel) ⟨Nat.le_of_ble_eq_true rfl, Nat.le_of_ble_eq_true rfl⟩ 0 (by rfl) rfl (n := 1) rfl rfl (Nat.le_of_ble_eq_true rfl) dL_isLot_165 rfl rfl rfl ⟨Nat.le_of_ble_eq_true rfl, Nat.le_of_ble_eq_true rfl⟩ (fun r_132 u_132 h_133 => ?_)
                            obtain ⟨rfl, h_133⟩ := h_133
                            refine g_st h_133 ?_
                            refine g_iconst (pc' := 169) (v := 2) C dL_isLot_168 rfl (by decide) ?_
                            refine g_icmp_gt (tgt := 176) (pc' := 172) C dL_isLot_169 rfl (by decide) (fun (c_134 : 2 < (u 10 n).toInt) => ?_) (fun (c_134 : ¬ (2 < (u 10 n).toInt)) => ?_)
                            · skip
                              exact absurd (show False by omega) id
                            · skip
                              refine g_iconst (pc' := 173) (v := 1) C dL_isLot_172 rfl (by decide) ?_
                              refine g_goto (tgt := 177) C dL_isLot_173 (by decide) ?_
                              exact g_iret C hr (by decide) ⟨rfl, rfl⟩ dL_isLot_177
                        · skip
                          have hs2 : (slX u n).toInt = 2000000 := by unfold slX; rw [if_neg (fun z => absurd z.1 (by assumption))]; rfl
                          refine g_aload_n (pc' := 146) (q := 2) C dL_isLot_145 rfl rfl rfl ?_
                          refine g_iload_n (pc' := 147) (q := 3) C dL_isLot_146 rfl rfl rfl ?_
                          refine g_calliV (pc' := 150) (As := [.int (nI n)]) (st := []) (cells' := 0) (slots' := 0) C (q_slack u n hIX (by omega)) gL_isLot_X0_slack rfl (by decide +kernel) ⟨Nat.le_of_ble_eq_true rfl, Nat.le_of_ble_eq_true rfl⟩ 0 (by rfl) rfl (n := 1) rfl rfl (Nat.le_of_ble_eq_true rfl) dL_isLot_147 rfl rfl rfl ⟨Nat.le_of_ble_eq_true rfl, Nat.le_of_ble_eq_true rfl⟩ (fun r_135 u_135 h_136 => ?_)
                          obtain ⟨rfl, h_136⟩ := h_136
                          refine g_st h_136 ?_
                          refine g_ldc (pc' := 152) (v := 2000000) C dL_isLot_150 rfl (by decide +kernel) ?_
                          refine g_icmp_ne (tgt := 176) (pc' := 155) C dL_isLot_152 rfl (by decide) (fun (c_137 : ¬ (slX u n).toInt = 2000000) => ?_) (fun (c_137 : (slX u n).toInt = 2000000) => ?_)
                          · skip
                            exact absurd (show False by omega) id
                          · skip
                            refine g_aload_n (pc' := 156) (q := 2) C dL_isLot_155 rfl rfl rfl ?_
                            refine g_iload_n (pc' := 157) (q := 3) C dL_isLot_156 rfl rfl rfl ?_
                            refine g_calliV (pc' := 160) (As := [.int (nI n)]) (st := []) (cells' := 0) (slots' := 0) C (q_reworks u n hIX (by omega)) gL_isLot_X0_reworks rfl (by decide +kernel) ⟨Nat.le_of_ble_eq_true rfl, Nat.le_of_ble_eq_true rfl⟩ 0 (by rfl) rfl (n := 1) rfl rfl (Nat.le_of_ble_eq_true rfl) dL_isLot_157 rfl rfl rfl ⟨Nat.le_of_ble_eq_true rfl, Nat.le_of_ble_eq_true rfl⟩ (fun r_138 u_138 h_139 => ?_)
                            obtain ⟨rfl, h_139⟩ := h_139
                            refine g_st h_139 ?_
                            refine g_if_lt (tgt := 176) (pc' := 163) C dL_isLot_160 rfl (by decide) (fun (c_140 : (u 10 n).toInt < 0) => ?_) (fun (c_140 : ¬ ((u 10 n).toInt < 0)) => ?_)
                            · skip
                              exact absurd (show False by omega) id
                            · skip
                              refine g_aload_n (pc' := 164) (q := 2) C dL_isLot_163 rfl rfl rfl ?_
                              refine g_iload_n (pc' := 165) (q := 3) C dL_isLot_164 rfl rfl rfl ?_
                              refine g_calliV (pc' := 168) (As := [.int (nI n)]) (st := []) (cells' := 0) (slots' := 0) C (q_reworks u n hIX (by omega)) gL_isLot_X0_reworks rfl (by decide +kernel) ⟨Nat.le_of_ble_eq_true rfl, Nat.le_of_ble_eq_true rfl⟩ 0 (by rfl) rfl (n := 1) rfl rfl (Nat.le_of_ble_eq_true rfl) dL_isLot_165 rfl rfl rfl ⟨Nat.le_of_ble_eq_true rfl, Nat.le_of_ble_eq_true rfl⟩ (fun r_141 u_141 h_142 => ?_)
                              obtain ⟨rfl, h_142⟩ := h_142
                              refine g_st h_142 ?_
                              refine g_iconst (pc' := 169) (v := 2) C dL_isLot_168 rfl (by decide) ?_
                              refine g_icmp_gt (tgt := 176) (pc' := 172) C dL_isLot_169 rfl (by decide) (fun (c_143 : 2 < (u 10 n).toInt) => ?_) (fun (c_143 : ¬ (2 < (u 10 n).toInt)) => ?_)
                              · skip
                                exact absurd (show False by omega) id
                              · skip
                                refine g_iconst (pc' := 173) (v := 1) C dL_isLot_172 rfl (by decide) ?_
                                refine g_goto (tgt := 177) C dL_isLot_173 (by decide) ?_
                                exact g_iret C hr (by decide) ⟨rfl, rfl⟩ dL_isLot_177
                    · have hb : (bP ((slX u n).toInt < 0)).toInt = 1 := by rw [bP_t (by omega)]; rfl
                      refine g_iconst (pc' := 134) (v := 1) C dL_isLot_133 rfl (by decide) ?_
                      refine g_goto (tgt := 138) C dL_isLot_134 (by decide) ?_
                      refine g_icmp_ne (tgt := 176) (pc' := 141) C dL_isLot_138 rfl (by decide) (fun (c_144 : ¬ (bP ((slX u n).toInt < 0)).toInt = 1) => ?_) (fun (c_144 : (bP ((slX u n).toInt < 0)).toInt = 1) => ?_)
                      · skip
                        exact absurd (show False by omega) id
                      · skip
                        refine g_iload_n (pc' := 142) (q := 1) C dL_isLot_141 rfl rfl rfl ?_
                        refine g_if_eq (tgt := 155) (pc' := 145) C dL_isLot_142 rfl (by decide) (fun (c_145 : (u 6 n).toInt = 0) => ?_) (fun (c_145 : ¬ ((u 6 n).toInt = 0)) => ?_)
                        · skip
                          refine g_aload_n (pc' := 156) (q := 2) C dL_isLot_155 rfl rfl rfl ?_
                          refine g_iload_n (pc' := 157) (q := 3) C dL_isLot_156 rfl rfl rfl ?_
                          refine g_calliV (pc' := 160) (As := [.int (nI n)]) (st := []) (cells' := 0) (slots' := 0) C (q_reworks u n hIX (by omega)) gL_isLot_X0_reworks rfl (by decide +kernel) ⟨Nat.le_of_ble_eq_true rfl, Nat.le_of_ble_eq_true rfl⟩ 0 (by rfl) rfl (n := 1) rfl rfl (Nat.le_of_ble_eq_true rfl) dL_isLot_157 rfl rfl rfl ⟨Nat.le_of_ble_eq_true rfl, Nat.le_of_ble_eq_true rfl⟩ (fun r_146 u_146 h_147 => ?_)
                          obtain ⟨rfl, h_147⟩ := h_147
                          refine g_st h_147 ?_
                          refine g_if_lt (tgt := 176) (pc' := 163) C dL_isLot_160 rfl (by decide) (fun (c_148 : (u 10 n).toInt < 0) => ?_) (fun (c_148 : ¬ ((u 10 n).toInt < 0)) => ?_)
                          · skip
                            exact absurd (show False by omega) id
                          · skip
                            refine g_aload_n (pc' := 164) (q := 2) C dL_isLot_163 rfl rfl rfl ?_
                            refine g_iload_n (pc' := 165) (q := 3) C dL_isLot_164 rfl rfl rfl ?_
                            refine g_calliV (pc' := 168) (As := [.int (nI n)]) (st := []) (cells' := 0) (slots' := 0) C (q_reworks u n hIX (by omega)) gL_isLot_X0_reworks rfl (by decide +kernel) ⟨Nat.le_of_ble_eq_true rfl, Nat.le_of_ble_eq_true rfl⟩ 0 (by rfl) rfl (n := 1) rfl rfl (Nat.le_of_ble_eq_true rfl) dL_isLot_165 rfl rfl rfl ⟨Nat.le_of_ble_eq_true rfl, Nat.le_of_ble_eq_true rfl⟩ (fun r_149 u_149 h_150 => ?_)
                            obtain ⟨rfl, h_150⟩ := h_150
                            refine g_st h_150 ?_
                            refine g_iconst (pc' := 169) (v := 2) C dL_isLot_168 rfl (by decide) ?_
                            refine g_icmp_gt (tgt := 176) (pc' := 172) C dL_isLot_169 rfl (by decide) (fun (c_151 : 2 < (u 10 n).toInt) => ?_) (fun (c_151 : ¬ (2 < (u 10 n).toInt)) => ?_)
                            · skip
                              exact absurd (show False by omega) id
                            · skip
                              refine g_iconst (pc' := 173) (v := 1) C dL_isLot_172 rfl (by decide) ?_
                              refine g_goto (tgt := 177) C dL_isLot_173 (by decide) ?_
                              exact g_iret C hr (by decide) ⟨rfl, rfl⟩ dL_isLot_177
                        · skip
                          have hs2 : (slX u n).toInt = 2000000 := by unfold slX; rw [if_neg (fun z => absurd z.1 (by assumption))]; rfl
                          refine g_aload_n (pc' := 146) (q := 2) C dL_isLot_145 rfl rfl rfl ?_
                          refine g_iload_n (pc' := 147) (q := 3) C dL_isLot_146 rfl rfl rfl ?_
                          refine g_calliV (pc' := 150) (As := [.int (nI n)]) (st := []) (cells' := 0) (slots' := 0) C (q_slack u n hIX (by omega)) gL_isLot_X0_slack rfl (by decide +kernel) ⟨Nat.le_of_ble_eq_true rfl, Nat.le_of_ble_eq_true rfl⟩ 0 (by rfl) rfl (n := 1) rfl rfl (Nat.le_of_ble_eq_true rfl) dL_isLot_147 rfl rfl rfl ⟨Nat.le_of_ble_eq_true rfl, Nat.le_of_ble_eq_true rfl⟩ (fun r_152 u_152 h_153 => ?_)
                          obtain ⟨rfl, h_153⟩ := h_153
                          refine g_st h_153 ?_
                          refine g_ldc (pc' := 152) (v := 2000000) C dL_isLot_150 rfl (by decide +kernel) ?_
                          refine g_icmp_ne (tgt := 176) (pc' := 155) C dL_isLot_152 rfl (by decide) (fun (c_154 : ¬ (slX u n).toInt = 2000000) => ?_) (fun (c_154 : (slX u n).toInt = 2000000) => ?_)
                          · skip
                            exact absurd (show False by omega) id
                          · skip
                            refine g_aload_n (pc' := 156) (q := 2) C dL_isLot_155 rfl rfl rfl ?_
                            refine g_iload_n (pc' := 157) (q := 3) C dL_isLot_156 rfl rfl rfl ?_
                            refine g_calliV (pc' := 160) (As := [.int (nI n)]) (st := []) (cells' := 0) (slots' := 0) C (q_reworks u n hIX (by omega)) gL_isLot_X0_reworks rfl (by decide +kernel) ⟨Nat.le_of_ble_eq_true rfl, Nat.le_of_ble_eq_true rfl⟩ 0 (by rfl) rfl (n := 1) rfl rfl (Nat.le_of_ble_eq_true rfl) dL_isLot_157 rfl rfl rfl ⟨Nat.le_of_ble_eq_true rfl, Nat.le_of_ble_eq_true rfl⟩ (fun r_155 u_155 h_156 => ?_)
                            obtain ⟨rfl, h_156⟩ := h_156
                            refine g_st h_156 ?_
                            refine g_if_lt (tgt := 176) (pc' := 163) C dL_isLot_160 rfl (by decide) (fun (c_157 : (u 10 n).toInt < 0) => ?_) (fun (c_157 : ¬ ((u 10 n).toInt < 0)) => ?_)
                            · skip
                              exact absurd (show False by omega) id
                            · skip
                              refine g_aload_n (pc' := 164) (q := 2) C dL_isLot_163 rfl rfl rfl ?_
                              refine g_iload_n (pc' := 165) (q := 3) C dL_isLot_164 rfl rfl rfl ?_
                              refine g_calliV (pc' := 168) (As := [.int (nI n)]) (st := []) (cells' := 0) (slots' := 0) C (q_reworks u n hIX (by omega)) gL_isLot_X0_reworks rfl (by decide +kernel) ⟨Nat.le_of_ble_eq_true rfl, Nat.le_of_ble_eq_true rfl⟩ 0 (by rfl) rfl (n := 1) rfl rfl (Nat.le_of_ble_eq_true rfl) dL_isLot_165 rfl rfl rfl ⟨Nat.le_of_ble_eq_true rfl, Nat.le_of_ble_eq_true rfl⟩ (fun r_158 u_158 h_159 => ?_)
                              obtain ⟨rfl, h_159⟩ := h_159
                              refine g_st h_159 ?_
                              refine g_iconst (pc' := 169) (v := 2) C dL_isLot_168 rfl (by decide) ?_
                              refine g_icmp_gt (tgt := 176) (pc' := 172) C dL_isLot_169 rfl (by decide) (fun (c_160 : 2 < (u 10 n).toInt) => ?_) (fun (c_160 : ¬ (2 < (u 10 n).toInt)) => ?_)
                              · skip
                                exact absurd (show False by omega) id
                              · skip
                                refine g_iconst (pc' := 173) (v := 1) C dL_isLot_172 rfl (by decide) ?_
                                refine g_goto (tgt := 177) C dL_isLot_173 (by decide) ?_
                                exact g_iret C hr (by decide) ⟨rfl, rfl⟩ dL_isLot_177
                · skip
                  refine g_iconst (pc' := 92) (v := 1) C dL_isLot_91 rfl (by decide) ?_
                  refine g_goto (tgt := 96) C dL_isLot_92 (by decide) ?_
                  refine g_icmp_ne (tgt := 112) (pc' := 99) C dL_isLot_96 rfl (by decide) (fun _ => ?_) (fun h => absurd h (by decide))
                  exact absurd (show False by omega) id
              · skip
                refine g_iconst (pc' := 78) (v := 1) C dL_isLot_77 rfl (by decide) ?_
                refine g_goto (tgt := 82) C dL_isLot_78 (by decide) ?_
                refine g_aload_n (pc' := 83) (q := 1) C dL_isLot_82 rfl rfl rfl ?_
                refine g_iload_n (pc' := 84) (q := 2) C dL_isLot_83 rfl rfl rfl ?_
                refine g_calliV (pc' := 87) (As := [.int (nI n)]) (st := [.int 1]) (cells' := 0) (slots' := 0) C (q_stepOf u n hIX (by omega)) gL_isLot_X0_stepOf rfl (by decide +kernel) ⟨Nat.le_of_ble_eq_true rfl, Nat.le_of_ble_eq_true rfl⟩ 0 (by rfl) rfl (n := 1) rfl rfl (Nat.le_of_ble_eq_true rfl) dL_isLot_84 rfl rfl rfl ⟨Nat.le_of_ble_eq_true rfl, Nat.le_of_ble_eq_true rfl⟩ (fun r_161 u_161 h_162 => ?_)
                obtain ⟨rfl, h_162⟩ := h_162
                refine g_st h_162 ?_
                refine g_iconst (pc' := 88) (v := (-1)) C dL_isLot_87 rfl (by decide) ?_
                refine g_icmp_ne (tgt := 95) (pc' := 91) C dL_isLot_88 rfl (by decide) (fun (c_163 : ¬ (u 7 n).toInt = -1) => ?_) (fun (c_163 : (u 7 n).toInt = -1) => ?_)
                · skip
                  refine g_iconst (pc' := 96) (v := 0) C dL_isLot_95 rfl (by decide) ?_
                  refine g_icmp_ne (tgt := 112) (pc' := 99) C dL_isLot_96 rfl (by decide) (fun _ => ?_) (fun h => absurd h (by decide))
                  exact absurd (show False by omega) id
                · skip
                  refine g_iconst (pc' := 92) (v := 1) C dL_isLot_91 rfl (by decide) ?_
                  refine g_goto (tgt := 96) C dL_isLot_92 (by decide) ?_
                  refine g_icmp_ne (tgt := 112) (pc' := 99) C dL_isLot_96 rfl (by decide) (fun h => absurd h (by decide)) (fun _ => ?_)
                  refine g_aload_n (pc' := 100) (q := 1) C dL_isLot_99 rfl rfl rfl ?_
                  refine g_iload_n (pc' := 101) (q := 2) C dL_isLot_100 rfl rfl rfl ?_
                  refine g_calliV (pc' := 104) (As := [.int (nI n)]) (st := []) (cells' := 0) (slots' := 0) C (q_parentOf u n hIX (by omega)) gL_isLot_X0_parentOf rfl (by decide +kernel) ⟨Nat.le_of_ble_eq_true rfl, Nat.le_of_ble_eq_true rfl⟩ 0 (by rfl) rfl (n := 1) rfl rfl (Nat.le_of_ble_eq_true rfl) dL_isLot_101 rfl rfl rfl ⟨Nat.le_of_ble_eq_true rfl, Nat.le_of_ble_eq_true rfl⟩ (fun r_164 u_164 h_165 => ?_)
                  obtain ⟨rfl, h_165⟩ := h_165
                  refine g_st h_165 ?_
                  refine g_iload_n (pc' := 105) (q := 2) C dL_isLot_104 rfl rfl rfl ?_
                  have t_166 : (nI n).toInt = ((n : Nat) : Int) := nI_toInt (by omega)
                  refine g_icmp_ge (tgt := 112) (pc' := 108) C dL_isLot_105 rfl (by decide) (fun (c_167 : (nI n).toInt ≤ (u 11 n).toInt) => ?_) (fun (c_167 : ¬ ((nI n).toInt ≤ (u 11 n).toInt)) => ?_)
                  · skip
                    exact absurd (show False by omega) id
                  · skip
                    refine g_iconst (pc' := 109) (v := 1) C dL_isLot_108 rfl (by decide) ?_
                    refine g_goto (tgt := 113) C dL_isLot_109 (by decide) ?_
                    refine g_istore (pc' := 115) (L' := [(4, .int 1), (3, .int (u 6 n)), (0, .ref (a 0)), (1, .int (nI n)), (2, .int (nI (ctA (u 14) (nI n) i)))]) C dL_isLot_113 rfl (by decide) rfl ?_
                    refine g_iload (pc' := 117) (q := 0) C dL_isLot_115 rfl rfl ?_
                    refine g_if_eq (tgt := 176) (pc' := 120) C dL_isLot_117 rfl (by decide) (fun h => absurd h (by decide)) (fun _ => ?_)
                    refine g_aload_n (pc' := 121) (q := 2) C dL_isLot_120 rfl rfl rfl ?_
                    refine g_iload_n (pc' := 122) (q := 3) C dL_isLot_121 rfl rfl rfl ?_
                    refine g_calliV (pc' := 125) (As := [.int (nI n)]) (st := []) (cells' := 0) (slots' := 0) C (q_isLate u n hIX (by omega)) gL_isLot_X0_isLate rfl (by decide +kernel) ⟨Nat.le_of_ble_eq_true rfl, Nat.le_of_ble_eq_true rfl⟩ 0 (by rfl) rfl (n := 1) rfl rfl (Nat.le_of_ble_eq_true rfl) dL_isLot_122 rfl rfl rfl ⟨Nat.le_of_ble_eq_true rfl, Nat.le_of_ble_eq_true rfl⟩ (fun r_168 u_168 h_169 => ?_)
                    obtain ⟨rfl, h_169⟩ := h_169
                    refine g_st h_169 ?_
                    refine g_aload_n (pc' := 126) (q := 2) C dL_isLot_125 rfl rfl rfl ?_
                    refine g_iload_n (pc' := 127) (q := 3) C dL_isLot_126 rfl rfl rfl ?_
                    refine g_calliV (pc' := 130) (As := [.int (nI n)]) (st := [.int (bP ((slX u n).toInt < 0))]) (cells' := 0) (slots' := 0) C (q_slack u n hIX (by omega)) gL_isLot_X0_slack rfl (by decide +kernel) ⟨Nat.le_of_ble_eq_true rfl, Nat.le_of_ble_eq_true rfl⟩ 0 (by rfl) rfl (n := 1) rfl rfl (Nat.le_of_ble_eq_true rfl) dL_isLot_127 rfl rfl rfl ⟨Nat.le_of_ble_eq_true rfl, Nat.le_of_ble_eq_true rfl⟩ (fun r_170 u_170 h_171 => ?_)
                    obtain ⟨rfl, h_171⟩ := h_171
                    refine g_st h_171 ?_
                    refine g_if_ge (tgt := 137) (pc' := 133) C dL_isLot_130 rfl (by decide) (fun (c_172 : 0 ≤ (slX u n).toInt) => ?_) (fun (c_172 : ¬ (0 ≤ (slX u n).toInt)) => ?_)
                    · have hb : (bP ((slX u n).toInt < 0)).toInt = 0 := by rw [bP_f (by omega)]; rfl
                      refine g_iconst (pc' := 138) (v := 0) C dL_isLot_137 rfl (by decide) ?_
                      refine g_icmp_ne (tgt := 176) (pc' := 141) C dL_isLot_138 rfl (by decide) (fun (c_173 : ¬ (bP ((slX u n).toInt < 0)).toInt = 0) => ?_) (fun (c_173 : (bP ((slX u n).toInt < 0)).toInt = 0) => ?_)
                      · skip
                        exact absurd (show False by omega) id
                      · skip
                        refine g_iload_n (pc' := 142) (q := 1) C dL_isLot_141 rfl rfl rfl ?_
                        refine g_if_eq (tgt := 155) (pc' := 145) C dL_isLot_142 rfl (by decide) (fun (c_174 : (u 6 n).toInt = 0) => ?_) (fun (c_174 : ¬ ((u 6 n).toInt = 0)) => ?_)
                        · skip
                          refine g_aload_n (pc' := 156) (q := 2) C dL_isLot_155 rfl rfl rfl ?_
                          refine g_iload_n (pc' := 157) (q := 3) C dL_isLot_156 rfl rfl rfl ?_
                          refine g_calliV (pc' := 160) (As := [.int (nI n)]) (st := []) (cells' := 0) (slots' := 0) C (q_reworks u n hIX (by omega)) gL_isLot_X0_reworks rfl (by decide +kernel) ⟨Nat.le_of_ble_eq_true rfl, Nat.le_of_ble_eq_true rfl⟩ 0 (by rfl) rfl (n := 1) rfl rfl (Nat.le_of_ble_eq_true rfl) dL_isLot_157 rfl rfl rfl ⟨Nat.le_of_ble_eq_true rfl, Nat.le_of_ble_eq_true rfl⟩ (fun r_175 u_175 h_176 => ?_)
                          obtain ⟨rfl, h_176⟩ := h_176
                          refine g_st h_176 ?_
                          refine g_if_lt (tgt := 176) (pc' := 163) C dL_isLot_160 rfl (by decide) (fun (c_177 : (u 10 n).toInt < 0) => ?_) (fun (c_177 : ¬ ((u 10 n).toInt < 0)) => ?_)
                          · skip
                            exact absurd (show False by omega) id
                          · skip
                            refine g_aload_n (pc' := 164) (q := 2) C dL_isLot_163 rfl rfl rfl ?_
                            refine g_iload_n (pc' := 165) (q := 3) C dL_isLot_164 rfl rfl rfl ?_
                            refine g_calliV (pc' := 168) (As := [.int (nI n)]) (st := []) (cells' := 0) (slots' := 0) C (q_reworks u n hIX (by omega)) gL_isLot_X0_reworks rfl (by decide +kernel) ⟨Nat.le_of_ble_eq_true rfl, Nat.le_of_ble_eq_true rfl⟩ 0 (by rfl) rfl (n := 1) rfl rfl (Nat.le_of_ble_eq_true rfl) dL_isLot_165 rfl rfl rfl ⟨Nat.le_of_ble_eq_true rfl, Nat.le_of_ble_eq_true rfl⟩ (fun r_178 u_178 h_179 => ?_)
                            obtain ⟨rfl, h_179⟩ := h_179
                            refine g_st h_179 ?_
                            refine g_iconst (pc' := 169) (v := 2) C dL_isLot_168 rfl (by decide) ?_
                            refine g_icmp_gt (tgt := 176) (pc' := 172) C dL_isLot_169 rfl (by decide) (fun (c_180 : 2 < (u 10 n).toInt) => ?_) (fun (c_180 : ¬ (2 < (u 10 n).toInt)) => ?_)
                            · skip
                              exact absurd (show False by omega) id
                            · skip
                              refine g_iconst (pc' := 173) (v := 1) C dL_isLot_172 rfl (by decide) ?_
                              refine g_goto (tgt := 177) C dL_isLot_173 (by decide) ?_
                              exact g_iret C hr (by decide) ⟨rfl, rfl⟩ dL_isLot_177
                        · skip
                          have hs2 : (slX u n).toInt = 2000000 := by unfold slX; rw [if_neg (fun z => absurd z.1 (by assumption))]; rfl
                          refine g_aload_n (pc' := 146) (q := 2) C dL_isLot_145 rfl rfl rfl ?_
                          refine g_iload_n (pc' := 147) (q := 3) C dL_isLot_146 rfl rfl rfl ?_
                          refine g_calliV (pc' := 150) (As := [.int (nI n)]) (st := []) (cells' := 0) (slots' := 0) C (q_slack u n hIX (by omega)) gL_isLot_X0_slack rfl (by decide +kernel) ⟨Nat.le_of_ble_eq_true rfl, Nat.le_of_ble_eq_true rfl⟩ 0 (by rfl) rfl (n := 1) rfl rfl (Nat.le_of_ble_eq_true rfl) dL_isLot_147 rfl rfl rfl ⟨Nat.le_of_ble_eq_true rfl, Nat.le_of_ble_eq_true rfl⟩ (fun r_181 u_181 h_182 => ?_)
                          obtain ⟨rfl, h_182⟩ := h_182
                          refine g_st h_182 ?_
                          refine g_ldc (pc' := 152) (v := 2000000) C dL_isLot_150 rfl (by decide +kernel) ?_
                          refine g_icmp_ne (tgt := 176) (pc' := 155) C dL_isLot_152 rfl (by decide) (fun (c_183 : ¬ (slX u n).toInt = 2000000) => ?_) (fun (c_183 : (slX u n).toInt = 2000000) => ?_)
                          · skip
                            exact absurd (show False by omega) id
                          · skip
                            refine g_aload_n (pc' := 156) (q := 2) C dL_isLot_155 rfl rfl rfl ?_
                            refine g_iload_n (pc' := 157) (q := 3) C dL_isLot_156 rfl rfl rfl ?_
                            refine g_calliV (pc' := 160) (As := [.int (nI n)]) (st := []) (cells' := 0) (slots' := 0) C (q_reworks u n hIX (by omega)) gL_isLot_X0_reworks rfl (by decide +kernel) ⟨Nat.le_of_ble_eq_true rfl, Nat.le_of_ble_eq_true rfl⟩ 0 (by rfl) rfl (n := 1) rfl rfl (Nat.le_of_ble_eq_true rfl) dL_isLot_157 rfl rfl rfl ⟨Nat.le_of_ble_eq_true rfl, Nat.le_of_ble_eq_true rfl⟩ (fun r_184 u_184 h_185 => ?_)
                            obtain ⟨rfl, h_185⟩ := h_185
                            refine g_st h_185 ?_
                            refine g_if_lt (tgt := 176) (pc' := 163) C dL_isLot_160 rfl (by decide) (fun (c_186 : (u 10 n).toInt < 0) => ?_) (fun (c_186 : ¬ ((u 10 n).toInt < 0)) => ?_)
                            · skip
                              exact absurd (show False by omega) id
                            · skip
                              refine g_aload_n (pc' := 164) (q := 2) C dL_isLot_163 rfl rfl rfl ?_
                              refine g_iload_n (pc' := 165) (q := 3) C dL_isLot_164 rfl rfl rfl ?_
                              refine g_calliV (pc' := 168) (As := [.int (nI n)]) (st := []) (cells' := 0) (slots' := 0) C (q_reworks u n hIX (by omega)) gL_isLot_X0_reworks rfl (by decide +kernel) ⟨Nat.le_of_ble_eq_true rfl, Nat.le_of_ble_eq_true rfl⟩ 0 (by rfl) rfl (n := 1) rfl rfl (Nat.le_of_ble_eq_true rfl) dL_isLot_165 rfl rfl rfl ⟨Nat.le_of_ble_eq_true rfl, Nat.le_of_ble_eq_true rfl⟩ (fun r_187 u_187 h_188 => ?_)
                              obtain ⟨rfl, h_188⟩ := h_188
                              refine g_st h_188 ?_
                              refine g_iconst (pc' := 169) (v := 2) C dL_isLot_168 rfl (by decide) ?_
                              refine g_icmp_gt (tgt := 176) (pc' := 172) C dL_isLot_169 rfl (by decide) (fun (c_189 : 2 < (u 10 n).toInt) => ?_) (fun (c_189 : ¬ (2 < (u 10 n).toInt)) => ?_)
                              · skip
                                exact absurd (show False by omega) id
                              · skip
                                refine g_iconst (pc' := 173) (v := 1) C dL_isLot_172 rfl (by decide) ?_
                                refine g_goto (tgt := 177) C dL_isLot_173 (by decide) ?_
                                exact g_iret C hr (by decide) ⟨rfl, rfl⟩ dL_isLot_177
                    · have hb : (bP ((slX u n).toInt < 0)).toInt = 1 := by rw [bP_t (by omega)]; rfl
                      refine g_iconst (pc' := 134) (v := 1) C dL_isLot_133 rfl (by decide) ?_
                      refine g_goto (tgt := 138) C dL_isLot_134 (by decide) ?_
                      refine g_icmp_ne (tgt := 176) (pc' := 141) C dL_isLot_138 rfl (by decide) (fun (c_190 : ¬ (bP ((slX u n).toInt < 0)).toInt = 1) => ?_) (fun (c_190 : (bP ((slX u n).toInt < 0)).toInt = 1) => ?_)
                      · skip
                        exact absurd (show False by omega) id
                      · skip
                        refine g_iload_n (pc' := 142) (q := 1) C dL_isLot_141 rfl rfl rfl ?_
                        refine g_if_eq (tgt := 155) (pc' := 145) C dL_isLot_142 rfl (by decide) (fun (c_191 : (u 6 n).toInt = 0) => ?_) (fun (c_191 : ¬ ((u 6 n).toInt = 0)) => ?_)
                        · skip
                          refine g_aload_n (pc' := 156) (q := 2) C dL_isLot_155 rfl rfl rfl ?_
                          refine g_iload_n (pc' := 157) (q := 3) C dL_isLot_156 rfl rfl rfl ?_
                          refine g_calliV (pc' := 160) (As := [.int (nI n)]) (st := []) (cells' := 0) (slots' := 0) C (q_reworks u n hIX (by omega)) gL_isLot_X0_reworks rfl (by decide +kernel) ⟨Nat.le_of_ble_eq_true rfl, Nat.le_of_ble_eq_true rfl⟩ 0 (by rfl) rfl (n := 1) rfl rfl (Nat.le_of_ble_eq_true rfl) dL_isLot_157 rfl rfl rfl ⟨Nat.le_of_ble_eq_true rfl, Nat.le_of_ble_eq_true rfl⟩ (fun r_192 u_192 h_193 => ?_)
                          obtain ⟨rfl, h_193⟩ := h_193
                          refine g_st h_193 ?_
                          refine g_if_lt (tgt := 176) (pc' := 163) C dL_isLot_160 rfl (by decide) (fun (c_194 : (u 10 n).toInt < 0) => ?_) (fun (c_194 : ¬ ((u 10 n).toInt < 0)) => ?_)
                          · skip
                            exact absurd (show False by omega) id
                          · skip
                            refine g_aload_n (pc' := 164) (q := 2) C dL_isLot_163 rfl rfl rfl ?_
                            refine g_iload_n (pc' := 165) (q := 3) C dL_isLot_164 rfl rfl rfl ?_
                            refine g_calliV (pc' := 168) (As := [.int (nI n)]) (st := []) (cells' := 0) (slots' := 0) C (q_reworks u n hIX (by omega)) gL_isLot_X0_reworks rfl (by decide +kernel) ⟨Nat.le_of_ble_eq_true rfl, Nat.le_of_ble_eq_true rfl⟩ 0 (by rfl) rfl (n := 1) rfl rfl (Nat.le_of_ble_eq_true rfl) dL_isLot_165 rfl rfl rfl ⟨Nat.le_of_ble_eq_true rfl, Nat.le_of_ble_eq_true rfl⟩ (fun r_195 u_195 h_196 => ?_)
                            obtain ⟨rfl, h_196⟩ := h_196
                            refine g_st h_196 ?_
                            refine g_iconst (pc' := 169) (v := 2) C dL_isLot_168 rfl (by decide) ?_
                            refine g_icmp_gt (tgt := 176) (pc' := 172) C dL_isLot_169 rfl (by decide) (fun (c_197 : 2 < (u 10 n).toInt) => ?_) (fun (c_197 : ¬ (2 < (u 10 n).toInt)) => ?_)
                            · skip
                              exact absurd (show False by omega) id
                            · skip
                              refine g_iconst (pc' := 173) (v := 1) C dL_isLot_172 rfl (by decide) ?_
                              refine g_goto (tgt := 177) C dL_isLot_173 (by decide) ?_
                              exact g_iret C hr (by decide) ⟨rfl, rfl⟩ dL_isLot_177
                        · skip
                          have hs2 : (slX u n).toInt = 2000000 := by unfold slX; rw [if_neg (fun z => absurd z.1 (by assumption))]; rfl
                          refine g_aload_n (pc' := 146) (q := 2) C dL_isLot_145 rfl rfl rfl ?_
                          refine g_iload_n (pc' := 147) (q := 3) C dL_isLot_146 rfl rfl rfl ?_
                          refine g_calliV (pc' := 150) (As := [.int (nI n)]) (st := []) (cells' := 0) (slots' := 0) C (q_slack u n hIX (by omega)) gL_isLot_X0_slack rfl (by decide +kernel) ⟨Nat.le_of_ble_eq_true rfl, Nat.le_of_ble_eq_true rfl⟩ 0 (by rfl) rfl (n := 1) rfl rfl (Nat.le_of_ble_eq_true rfl) dL_isLot_147 rfl rfl rfl ⟨Nat.le_of_ble_eq_true rfl, Nat.le_of_ble_eq_true rfl⟩ (fun r_198 u_198 h_199 => ?_)
                          obtain ⟨rfl, h_199⟩ := h_199
                          refine g_st h_199 ?_
                          refine g_ldc (pc' := 152) (v := 2000000) C dL_isLot_150 rfl (by decide +kernel) ?_
                          refine g_icmp_ne (tgt := 176) (pc' := 155) C dL_isLot_152 rfl (by decide) (fun (c_200 : ¬ (slX u n).toInt = 2000000) => ?_) (fun (c_200 : (slX u n).toInt = 2000000) => ?_)
                          · skip
                            exact absurd (show False by omega) id
                          · skip
                            refine g_aload_n (pc' := 156) (q := 2) C dL_isLot_155 rfl rfl rfl ?_
                            refine g_iload_n (pc' := 157) (q := 3) C dL_isLot_156 rfl rfl rfl ?_
                            refine g_calliV (pc' := 160) (As := [.int (nI n)]) (st := []) (cells' := 0) (slots' := 0) C (q_reworks u n hIX (by omega)) gL_isLot_X0_reworks rfl (by decide +kernel) ⟨Nat.le_of_ble_eq_true rfl, Nat.le_of_ble_eq_true rfl⟩ 0 (by rfl) rfl (n := 1) rfl rfl (Nat.le_of_ble_eq_true rfl) dL_isLot_157 rfl rfl rfl ⟨Nat.le_of_ble_eq_true rfl, Nat.le_of_ble_eq_true rfl⟩ (fun r_201 u_201 h_202 => ?_)
                            obtain ⟨rfl, h_202⟩ := h_202
                            refine g_st h_202 ?_
                            refine g_if_lt (tgt := 176) (pc' := 163) C dL_isLot_160 rfl (by decide) (fun (c_203 : (u 10 n).toInt < 0) => ?_) (fun (c_203 : ¬ ((u 10 n).toInt < 0)) => ?_)
                            · skip
                              exact absurd (show False by omega) id
                            · skip
                              refine g_aload_n (pc' := 164) (q := 2) C dL_isLot_163 rfl rfl rfl ?_
                              refine g_iload_n (pc' := 165) (q := 3) C dL_isLot_164 rfl rfl rfl ?_
                              refine g_calliV (pc' := 168) (As := [.int (nI n)]) (st := []) (cells' := 0) (slots' := 0) C (q_reworks u n hIX (by omega)) gL_isLot_X0_reworks rfl (by decide +kernel) ⟨Nat.le_of_ble_eq_true rfl, Nat.le_of_ble_eq_true rfl⟩ 0 (by rfl) rfl (n := 1) rfl rfl (Nat.le_of_ble_eq_true rfl) dL_isLot_165 rfl rfl rfl ⟨Nat.le_of_ble_eq_true rfl, Nat.le_of_ble_eq_true rfl⟩ (fun r_204 u_204 h_205 => ?_)
                              obtain ⟨rfl, h_205⟩ := h_205
                              refine g_st h_205 ?_
                              refine g_iconst (pc' := 169) (v := 2) C dL_isLot_168 rfl (by decide) ?_
                              refine g_icmp_gt (tgt := 176) (pc' := 172) C dL_isLot_169 rfl (by decide) (fun (c_206 : 2 < (u 10 n).toInt) => ?_) (fun (c_206 : ¬ (2 < (u 10 n).toInt)) => ?_)
                              · skip
                                exact absurd (show False by omega) id
                              · skip
                                refine g_iconst (pc' := 173) (v := 1) C dL_isLot_172 rfl (by decide) ?_
                                refine g_goto (tgt := 177) C dL_isLot_173 (by decide) ?_
                                exact g_iret C hr (by decide) ⟨rfl, rfl⟩ dL_isLot_177
      · skip
        refine g_iload_n (pc' := 13) (q := 2) C dL_isLot_12 rfl rfl rfl ?_
        refine g_aload_n (pc' := 14) (q := 0) C dL_isLot_13 rfl rfl rfl ?_
        refine g_iload_n (pc' := 15) (q := 3) C dL_isLot_14 rfl rfl rfl ?_
        refine g_calliV (pc' := 18) (As := [.int (nI i)]) (st := [.int (nI (ctA (u 14) (nI n) i))]) (cells' := 0) (slots' := 0) C (q_lotOf u i hIX (by omega)) gL_isLot_X0_lotOf rfl (by decide +kernel) ⟨Nat.le_of_ble_eq_true rfl, Nat.le_of_ble_eq_true rfl⟩ 0 (by rfl) rfl (n := 1) rfl rfl (Nat.le_of_ble_eq_true rfl) dL_isLot_15 rfl rfl rfl ⟨Nat.le_of_ble_eq_true rfl, Nat.le_of_ble_eq_true rfl⟩ (fun r_207 u_207 h_208 => ?_)
        obtain ⟨rfl, h_208⟩ := h_208
        refine g_st h_208 ?_
        refine g_iload_n (pc' := 19) (q := 1) C dL_isLot_18 rfl rfl rfl ?_
        have t_209 : (nI n).toInt = ((n : Nat) : Int) := nI_toInt (by omega)
        refine g_icmp_ne (tgt := 26) (pc' := 22) C dL_isLot_19 rfl (by decide) (fun (c_210 : ¬ (u 14 i).toInt = (nI n).toInt) => ?_) (fun (c_210 : (u 14 i).toInt = (nI n).toInt) => ?_)
        · skip
          refine g_iconst (pc' := 27) (v := 0) C dL_isLot_26 rfl (by decide) ?_
          refine g_iadd (pc' := 28) C dL_isLot_27 rfl ?_
          refine g_istore_n (pc' := 29) (L' := [(2, .int ((nI (ctA (u 14) (nI n) i)) + 0)), (0, .ref (a 0)), (1, .int (nI n)), (3, .int (nI i))]) C dL_isLot_28 rfl rfl (by decide) rfl ?_
          refine g_iinc (pc' := 32) (v := nI (i + 1)) (L' := [(3, .int (nI (i + 1))), (2, .int ((nI (ctA (u 14) (nI n) i)) + 0)), (0, .ref (a 0)), (1, .int (nI n))]) C dL_isLot_29 rfl (k := 3) rfl (nI_1 _) (by decide) rfl ?_
          refine g_goto (tgt := 4) C dL_isLot_32 (by decide) ?_
          have e_2 : ((nI (ctA (u 14) (nI n) i)) + 0 : Int32) = nI (ctA (u 14) (nI n) (i + 1)) := (ctA_f (by assumption))
          refine g_sub (L' := [(0, .ref (a 0)), (1, .int (nI n)), (2, .int (nI (ctA (u 14) (nI n) (i + 1)))), (3, .int (nI (i + 1)))]) [2, 3, 1, 0] (by rw [← e_2]; rfl) ?_
          exact ih_4 (i + 1) (by omega) (by omega)
        · skip
          refine g_iconst (pc' := 23) (v := 1) C dL_isLot_22 rfl (by decide) ?_
          refine g_goto (tgt := 27) C dL_isLot_23 (by decide) ?_
          refine g_iadd (pc' := 28) C dL_isLot_27 rfl ?_
          refine g_istore_n (pc' := 29) (L' := [(2, .int ((nI (ctA (u 14) (nI n) i)) + 1)), (0, .ref (a 0)), (1, .int (nI n)), (3, .int (nI i))]) C dL_isLot_28 rfl rfl (by decide) rfl ?_
          refine g_iinc (pc' := 32) (v := nI (i + 1)) (L' := [(3, .int (nI (i + 1))), (2, .int ((nI (ctA (u 14) (nI n) i)) + 1)), (0, .ref (a 0)), (1, .int (nI n))]) C dL_isLot_29 rfl (k := 3) rfl (nI_1 _) (by decide) rfl ?_
          refine g_goto (tgt := 4) C dL_isLot_32 (by decide) ?_
          have e_2 : ((nI (ctA (u 14) (nI n) i)) + 1 : Int32) = nI (ctA (u 14) (nI n) (i + 1)) := (ctA_t (by assumption))
          refine g_sub (L' := [(0, .ref (a 0)), (1, .int (nI n)), (2, .int (nI (ctA (u 14) (nI n) (i + 1)))), (3, .int (nI (i + 1)))]) [2, 3, 1, 0] (by rw [← e_2]; rfl) ?_
          exact ih_4 (i + 1) (by omega) (by omega)
  refine g_sub (L' := [(0, .ref (a 0)), (1, .int (nI n)), (2, .int (nI (ctA (u 14) (nI n) 0))), (3, .int (nI 0))]) [2, 3, 1, 0] rfl ?_
  exact loop_4 61 0 (by omega) (by omega)
set_option maxHeartbeats 4000000 in
set_option maxRecDepth 100000 in
theorem c_L_areSteps {l : Launch} {D : va_G} {cI cZ cQ : ClassId} {a : Nat → Nat} (u : LU) {sn : Nat} {B : Int} (hI : Inv sn B u) (hs : sn ≤ 12) : KI l yL_areSteps wsL_areSteps ({ frames := 3, cells := 0, slots := 0, locals := 66 } : Room) D (tyX cI cZ cQ) (wX cI cZ cQ a) [.ref (a 0), .int (nI sn)] u (fun (r : Int32) (u' : LU) => r = 1 ∧ u' = u) := by
  refine ent_I (own := RL) (maxL := 7) (cc := cL_areSteps) (L0 := [(0, .ref (a 0)), (1, .int (nI sn))]) (by decide) rfl (wX_ok _ _ _ _) rfl (Nat.le_of_ble_eq_true rfl) rfl ?_
  intro p e s m args below meth c A C hr
  have hIX := hI.1.ix hs
  have h12 := hI.1.1.2.1
  have h16 := hI.1.1.2.2.1
  have e4 : (u 0 4).toInt = (sn : Int) := by rw [hI.1.1.1]; exact ti_nI (by omega)
  refine g_iconst (pc' := 1) (v := 1) C dL_areSteps_0 rfl (by decide) ?_
  refine g_istore_n (pc' := 2) (L' := [(2, .int 1), (0, .ref (a 0)), (1, .int (nI sn))]) C dL_areSteps_1 rfl rfl (by decide) rfl ?_
  refine g_iconst (pc' := 3) (v := 0) C dL_areSteps_2 rfl (by decide) ?_
  refine g_istore_n (pc' := 4) (L' := [(3, .int 0), (2, .int 1), (0, .ref (a 0)), (1, .int (nI sn))]) C dL_areSteps_3 rfl rfl (by decide) rfl ?_
  refine g_iconst (pc' := 5) (v := 0) C dL_areSteps_4 rfl (by decide) ?_
  refine g_istore (pc' := 7) (L' := [(4, .int 0), (3, .int 0), (2, .int 1), (0, .ref (a 0)), (1, .int (nI sn))]) C dL_areSteps_5 rfl (by decide) rfl ?_
  have loop_7 : ∀ (k : Nat) (t : Nat), t ≤ sn → sn + 1 ≤ t + k → G p l e ({ frames := 3, cells := 0, slots := 0, locals := 66 } : Room) s m args below meth c D A 7 (wX cI cZ cQ a) 0 0 (MQ below (va_Qi (fun (r : Int32) (u' : LU) => r = 1 ∧ u' = u) (KE D (tyX cI cZ cQ) (wX cI cZ cQ a)) A) args s 0 0 A) u 7 [(0, .ref (a 0)), (1, .int (nI sn)), (2, .int 1), (3, .int (sumX u (u 0 12).toInt.toNat t)), (4, .int (nI t))] [] := by
    intro k
    induction k with
    | zero =>
      intro t ht hk
      omega
    | succ k ih_7 =>
      intro t ht hk
      refine g_iload (pc' := 9) (q := 4) C dL_areSteps_7 rfl rfl ?_
      refine g_iload_n (pc' := 10) (q := 1) C dL_areSteps_9 rfl rfl rfl ?_
      have t_1 : (nI t).toInt = ((t : Nat) : Int) := nI_toInt (by omega)
      have t_2 : (nI sn).toInt = ((sn : Nat) : Int) := nI_toInt (by omega)
      refine g_icmp_ge (tgt := 103) (pc' := 13) C dL_areSteps_10 rfl (by decide) (fun (c_3 : (nI sn).toInt ≤ (nI t).toInt) => ?_) (fun (c_3 : ¬ ((nI sn).toInt ≤ (nI t).toInt)) => ?_)
      · skip
        refine g_iconst (pc' := 104) (v := 0) C dL_areSteps_103 rfl (by decide) ?_
        refine g_istore (pc' := 106) (L' := [(4, .int 0), (0, .ref (a 0)), (1, .int (nI sn)), (2, .int 1), (3, .int (sumX u (u 0 12).toInt.toNat t))]) C dL_areSteps_104 rfl (by decide) rfl ?_
        refine g_iconst (pc' := 107) (v := 0) C dL_areSteps_106 rfl (by decide) ?_
        refine g_istore (pc' := 109) (L' := [(5, .int 0), (4, .int 0), (0, .ref (a 0)), (1, .int (nI sn)), (2, .int 1), (3, .int (sumX u (u 0 12).toInt.toNat t))]) C dL_areSteps_107 rfl (by decide) rfl ?_
        have loop_109 : ∀ (k3 : Nat) (i : Nat), (i : Int) ≤ (u 0 12).toInt → (u 0 12).toInt + 1 ≤ i + k3 → G p l e ({ frames := 3, cells := 0, slots := 0, locals := 66 } : Room) s m args below meth c D A 7 (wX cI cZ cQ a) 0 0 (MQ below (va_Qi (fun (r : Int32) (u' : LU) => r = 1 ∧ u' = u) (KE D (tyX cI cZ cQ) (wX cI cZ cQ a)) A) args s 0 0 A) u 109 [(0, .ref (a 0)), (1, .int (nI sn)), (2, .int 1), (3, .int (sumX u (u 0 12).toInt.toNat t)), (4, .int (allX u i)), (5, .int (nI i))] [] := by
          intro k3
          induction k3 with
          | zero =>
            intro i hi hk3
            omega
          | succ k3 ih_109 =>
            intro i hi hk3
            refine g_iload (pc' := 111) (q := 5) C dL_areSteps_109 rfl rfl ?_
            refine g_aload_n (pc' := 112) (q := 0) C dL_areSteps_111 rfl rfl rfl ?_
            refine g_calliV (pc' := 115) (As := []) (st := [.int (nI i)]) (cells' := 0) (slots' := 0) C (c_X0_lots u) gL_areSteps_X0_lots rfl (by decide +kernel) ⟨Nat.le_of_ble_eq_true rfl, Nat.le_of_ble_eq_true rfl⟩ 0 (by rfl) rfl (n := 0) rfl rfl (Nat.le_of_ble_eq_true rfl) dL_areSteps_112 rfl rfl rfl ⟨Nat.le_of_ble_eq_true rfl, Nat.le_of_ble_eq_true rfl⟩ (fun r_4 u_4 h_5 => ?_)
            obtain ⟨rfl, h_5⟩ := h_5
            refine g_st h_5 ?_
            have t_6 : (nI i).toInt = ((i : Nat) : Int) := nI_toInt (by omega)
            refine g_icmp_ge (tgt := 149) (pc' := 118) C dL_areSteps_115 rfl (by decide) (fun (c_7 : (u 0 12).toInt ≤ (nI i).toInt) => ?_) (fun (c_7 : ¬ ((u 0 12).toInt ≤ (nI i).toInt)) => ?_)
            · skip
              have hs9 : sumX u (u 0 12).toInt.toNat t = allX u i := by rw [show t = sn by omega, show i = (u 0 12).toInt.toNat by omega]; exact sum_all hs hI.1.2.2.2.1 _ (by omega)
              have hs8 := congrArg Int32.toInt hs9
              refine g_iload_n (pc' := 150) (q := 2) C dL_areSteps_149 rfl rfl rfl ?_
              refine g_if_eq (tgt := 163) (pc' := 153) C dL_areSteps_150 rfl (by decide) (fun h => absurd h (by decide)) (fun _ => ?_)
              refine g_iload_n (pc' := 154) (q := 3) C dL_areSteps_153 rfl rfl rfl ?_
              refine g_iload (pc' := 156) (q := 4) C dL_areSteps_154 rfl rfl ?_
              refine g_icmp_ne (tgt := 163) (pc' := 159) C dL_areSteps_156 rfl (by decide) (fun (c_8 : ¬ (sumX u (u 0 12).toInt.toNat t).toInt = (allX u i).toInt) => ?_) (fun (c_8 : (sumX u (u 0 12).toInt.toNat t).toInt = (allX u i).toInt) => ?_)
              · exact absurd (show False by omega) id
              · skip
                refine g_iconst (pc' := 160) (v := 1) C dL_areSteps_159 rfl (by decide) ?_
                refine g_goto (tgt := 164) C dL_areSteps_160 (by decide) ?_
                exact g_iret C hr (by decide) ⟨rfl, rfl⟩ dL_areSteps_164
            · skip
              refine g_iload (pc' := 120) (q := 4) C dL_areSteps_118 rfl rfl ?_
              refine g_aload_n (pc' := 121) (q := 0) C dL_areSteps_120 rfl rfl rfl ?_
              refine g_iload (pc' := 123) (q := 5) C dL_areSteps_121 rfl rfl ?_
              refine g_calliV (pc' := 126) (As := [.int (nI i)]) (st := [.int (allX u i)]) (cells' := 0) (slots' := 0) C (q_state u i hIX (by omega)) gL_areSteps_X0_state rfl (by decide +kernel) ⟨Nat.le_of_ble_eq_true rfl, Nat.le_of_ble_eq_true rfl⟩ 0 (by rfl) rfl (n := 1) rfl rfl (Nat.le_of_ble_eq_true rfl) dL_areSteps_123 rfl rfl rfl ⟨Nat.le_of_ble_eq_true rfl, Nat.le_of_ble_eq_true rfl⟩ (fun r_9 u_9 h_10 => ?_)
              obtain ⟨rfl, h_10⟩ := h_10
              refine g_st h_10 ?_
              refine g_iconst (pc' := 127) (v := 2) C dL_areSteps_126 rfl (by decide) ?_
              refine g_icmp_ge (tgt := 139) (pc' := 130) C dL_areSteps_127 rfl (by decide) (fun (c_11 : 2 ≤ (u 6 i).toInt) => ?_) (fun (c_11 : ¬ (2 ≤ (u 6 i).toInt)) => ?_)
              · skip
                refine g_iconst (pc' := 140) (v := 0) C dL_areSteps_139 rfl (by decide) ?_
                refine g_iadd (pc' := 141) C dL_areSteps_140 rfl ?_
                refine g_istore (pc' := 143) (L' := [(4, .int ((allX u i) + 0)), (0, .ref (a 0)), (1, .int (nI sn)), (2, .int 1), (3, .int (sumX u (u 0 12).toInt.toNat t)), (5, .int (nI i))]) C dL_areSteps_141 rfl (by decide) rfl ?_
                refine g_iinc (pc' := 146) (v := nI (i + 1)) (L' := [(5, .int (nI (i + 1))), (4, .int ((allX u i) + 0)), (0, .ref (a 0)), (1, .int (nI sn)), (2, .int 1), (3, .int (sumX u (u 0 12).toInt.toNat t))]) C dL_areSteps_143 rfl (k := 5) rfl (nI_1 _) (by decide) rfl ?_
                refine g_goto (tgt := 109) C dL_areSteps_146 (by decide) ?_
                have e_4 : ((allX u i) + 0 : Int32) = allX u (i + 1) := (by simp only [allX]; rw [if_neg (by omega), Int32.add_zero])
                refine g_sub (L' := [(0, .ref (a 0)), (1, .int (nI sn)), (2, .int 1), (3, .int (sumX u (u 0 12).toInt.toNat t)), (4, .int (allX u (i + 1))), (5, .int (nI (i + 1)))]) [2, 3, 4, 5, 1, 0] (by rw [← e_4]; rfl) ?_
                exact ih_109 (i + 1) (by omega) (by omega)
              · skip
                refine g_aload_n (pc' := 131) (q := 0) C dL_areSteps_130 rfl rfl rfl ?_
                refine g_iload (pc' := 133) (q := 5) C dL_areSteps_131 rfl rfl ?_
                refine g_calliV (pc' := 136) (As := [.int (nI i)]) (st := [.int (allX u i)]) (cells' := 0) (slots' := 0) C (q_size u i hIX (by omega)) gL_areSteps_X0_size rfl (by decide +kernel) ⟨Nat.le_of_ble_eq_true rfl, Nat.le_of_ble_eq_true rfl⟩ 0 (by rfl) rfl (n := 1) rfl rfl (Nat.le_of_ble_eq_true rfl) dL_areSteps_133 rfl rfl rfl ⟨Nat.le_of_ble_eq_true rfl, Nat.le_of_ble_eq_true rfl⟩ (fun r_12 u_12 h_13 => ?_)
                obtain ⟨rfl, h_13⟩ := h_13
                refine g_st h_13 ?_
                refine g_goto (tgt := 140) C dL_areSteps_136 (by decide) ?_
                refine g_iadd (pc' := 141) C dL_areSteps_140 rfl ?_
                refine g_istore (pc' := 143) (L' := [(4, .int ((allX u i) + (u 12 i))), (0, .ref (a 0)), (1, .int (nI sn)), (2, .int 1), (3, .int (sumX u (u 0 12).toInt.toNat t)), (5, .int (nI i))]) C dL_areSteps_141 rfl (by decide) rfl ?_
                refine g_iinc (pc' := 146) (v := nI (i + 1)) (L' := [(5, .int (nI (i + 1))), (4, .int ((allX u i) + (u 12 i))), (0, .ref (a 0)), (1, .int (nI sn)), (2, .int 1), (3, .int (sumX u (u 0 12).toInt.toNat t))]) C dL_areSteps_143 rfl (k := 5) rfl (nI_1 _) (by decide) rfl ?_
                refine g_goto (tgt := 109) C dL_areSteps_146 (by decide) ?_
                have e_4 : ((allX u i) + (u 12 i) : Int32) = allX u (i + 1) := (by simp only [allX]; rw [if_pos (by omega)])
                refine g_sub (L' := [(0, .ref (a 0)), (1, .int (nI sn)), (2, .int 1), (3, .int (sumX u (u 0 12).toInt.toNat t)), (4, .int (allX u (i + 1))), (5, .int (nI (i + 1)))]) [2, 3, 4, 5, 1, 0] (by rw [← e_4]; rfl) ?_
                exact ih_109 (i + 1) (by omega) (by omega)
        refine g_sub (L' := [(0, .ref (a 0)), (1, .int (nI sn)), (2, .int 1), (3, .int (sumX u (u 0 12).toInt.toNat t)), (4, .int (allX u 0)), (5, .int (nI 0))]) [2, 3, 4, 5, 1, 0] rfl ?_
        exact loop_109 25 0 (by omega) (by omega)
      · skip
        refine g_iload_n (pc' := 14) (q := 2) C dL_areSteps_13 rfl rfl rfl ?_
        refine g_if_eq (tgt := 103) (pc' := 17) C dL_areSteps_14 rfl (by decide) (fun h => absurd h (by decide)) (fun _ => ?_)
        refine g_iconst (pc' := 18) (v := 0) C dL_areSteps_17 rfl (by decide) ?_
        refine g_istore (pc' := 20) (L' := [(5, .int 0), (0, .ref (a 0)), (1, .int (nI sn)), (2, .int 1), (3, .int (sumX u (u 0 12).toInt.toNat t)), (4, .int (nI t))]) C dL_areSteps_18 rfl (by decide) rfl ?_
        refine g_iconst (pc' := 21) (v := 0) C dL_areSteps_20 rfl (by decide) ?_
        refine g_istore (pc' := 23) (L' := [(6, .int 0), (5, .int 0), (0, .ref (a 0)), (1, .int (nI sn)), (2, .int 1), (3, .int (sumX u (u 0 12).toInt.toNat t)), (4, .int (nI t))]) C dL_areSteps_21 rfl (by decide) rfl ?_
        have loop_23 : ∀ (k2 : Nat) (i : Nat), (i : Int) ≤ (u 0 12).toInt → (u 0 12).toInt + 1 ≤ i + k2 → G p l e ({ frames := 3, cells := 0, slots := 0, locals := 66 } : Room) s m args below meth c D A 7 (wX cI cZ cQ a) 0 0 (MQ below (va_Qi (fun (r : Int32) (u' : LU) => r = 1 ∧ u' = u) (KE D (tyX cI cZ cQ) (wX cI cZ cQ a)) A) args s 0 0 A) u 23 [(0, .ref (a 0)), (1, .int (nI sn)), (2, .int 1), (3, .int (sumX u (u 0 12).toInt.toNat t)), (4, .int (nI t)), (5, .int (waX u (nI t) i)), (6, .int (nI i))] [] := by
          intro k2
          induction k2 with
          | zero =>
            intro i hi hk2
            omega
          | succ k2 ih_23 =>
            intro i hi hk2
            refine g_iload (pc' := 25) (q := 6) C dL_areSteps_23 rfl rfl ?_
            refine g_aload_n (pc' := 26) (q := 0) C dL_areSteps_25 rfl rfl rfl ?_
            refine g_calliV (pc' := 29) (As := []) (st := [.int (nI i)]) (cells' := 0) (slots' := 0) C (c_X0_lots u) gL_areSteps_X0_lots rfl (by decide +kernel) ⟨Nat.le_of_ble_eq_true rfl, Nat.le_of_ble_eq_true rfl⟩ 0 (by rfl) rfl (n := 0) rfl rfl (Nat.le_of_ble_eq_true rfl) dL_areSteps_26 rfl rfl rfl ⟨Nat.le_of_ble_eq_true rfl, Nat.le_of_ble_eq_true rfl⟩ (fun r_14 u_14 h_15 => ?_)
            obtain ⟨rfl, h_15⟩ := h_15
            refine g_st h_15 ?_
            have t_16 : (nI i).toInt = ((i : Nat) : Int) := nI_toInt (by omega)
            refine g_icmp_ge (tgt := 64) (pc' := 32) C dL_areSteps_29 rfl (by decide) (fun (c_17 : (u 0 12).toInt ≤ (nI i).toInt) => ?_) (fun (c_17 : ¬ ((u 0 12).toInt ≤ (nI i).toInt)) => ?_)
            · skip
              have hi9 : i = (u 0 12).toInt.toNat := by omega
              refine g_iload_n (pc' := 65) (q := 3) C dL_areSteps_64 rfl rfl rfl ?_
              refine g_iload (pc' := 67) (q := 5) C dL_areSteps_65 rfl rfl ?_
              refine g_iadd (pc' := 68) C dL_areSteps_67 rfl ?_
              refine g_istore_n (pc' := 69) (L' := [(3, .int ((sumX u (u 0 12).toInt.toNat t) + (waX u (nI t) i))), (0, .ref (a 0)), (1, .int (nI sn)), (2, .int 1), (4, .int (nI t)), (5, .int (waX u (nI t) i)), (6, .int (nI i))]) C dL_areSteps_68 rfl rfl (by decide) rfl ?_
              refine g_aload_n (pc' := 70) (q := 1) C dL_areSteps_69 rfl rfl rfl ?_
              refine g_iload (pc' := 72) (q := 4) C dL_areSteps_70 rfl rfl ?_
              refine g_calliV (pc' := 75) (As := [.int (nI t)]) (st := []) (cells' := 0) (slots' := 0) C (q_wafersAt u (nI t) hIX ⟨by omega, by omega⟩) gL_areSteps_X0_wafersAt rfl (by decide +kernel) ⟨Nat.le_of_ble_eq_true rfl, Nat.le_of_ble_eq_true rfl⟩ 0 (by rfl) rfl (n := 1) rfl rfl (Nat.le_of_ble_eq_true rfl) dL_areSteps_72 rfl rfl rfl ⟨Nat.le_of_ble_eq_true rfl, Nat.le_of_ble_eq_true rfl⟩ (fun r_18 u_18 h_19 => ?_)
              obtain ⟨rfl, h_19⟩ := h_19
              refine g_st h_19 ?_
              refine g_conv (show (waX u (nI t) (u 0 12).toInt.toNat : Int32) = waX u (nI t) i from (by rw [hi9])) ?_
              refine g_iload (pc' := 77) (q := 5) C dL_areSteps_75 rfl rfl ?_
              refine g_icmp_ne (tgt := 95) (pc' := 80) C dL_areSteps_77 rfl (by decide) (fun (c_20 : ¬ (waX u (nI t) i).toInt = (waX u (nI t) i).toInt) => ?_) (fun (c_20 : (waX u (nI t) i).toInt = (waX u (nI t) i).toInt) => ?_)
              · exact absurd (show False by omega) id
              · skip
                refine g_aload_n (pc' := 81) (q := 1) C dL_areSteps_80 rfl rfl rfl ?_
                refine g_iload (pc' := 83) (q := 4) C dL_areSteps_81 rfl rfl ?_
                refine g_calliV (pc' := 86) (As := [.int (nI t)]) (st := []) (cells' := 0) (slots' := 0) C (q_wafersAtByWafers u (nI t) hI.1 hIX ⟨by omega, by omega⟩) gL_areSteps_X0_wafersAtByWafers rfl (by decide +kernel) ⟨Nat.le_of_ble_eq_true rfl, Nat.le_of_ble_eq_true rfl⟩ 0 (by rfl) rfl (n := 1) rfl rfl (Nat.le_of_ble_eq_true rfl) dL_areSteps_83 rfl rfl rfl ⟨Nat.le_of_ble_eq_true rfl, Nat.le_of_ble_eq_true rfl⟩ (fun r_21 u_21 h_22 => ?_)
                obtain ⟨rfl, h_22⟩ := h_22
                refine g_st h_22 ?_
                refine g_conv (show (waX u (nI t) (u 0 12).toInt.toNat : Int32) = waX u (nI t) i from (by rw [hi9])) ?_
                refine g_iload (pc' := 88) (q := 5) C dL_areSteps_86 rfl rfl ?_
                refine g_icmp_ne (tgt := 95) (pc' := 91) C dL_areSteps_88 rfl (by decide) (fun (c_23 : ¬ (waX u (nI t) i).toInt = (waX u (nI t) i).toInt) => ?_) (fun (c_23 : (waX u (nI t) i).toInt = (waX u (nI t) i).toInt) => ?_)
                · exact absurd (show False by omega) id
                · skip
                  refine g_iconst (pc' := 92) (v := 1) C dL_areSteps_91 rfl (by decide) ?_
                  refine g_goto (tgt := 96) C dL_areSteps_92 (by decide) ?_
                  refine g_istore_n (pc' := 97) (L' := [(2, .int 1), (3, .int ((sumX u (u 0 12).toInt.toNat t) + (waX u (nI t) i))), (0, .ref (a 0)), (1, .int (nI sn)), (4, .int (nI t)), (5, .int (waX u (nI t) i)), (6, .int (nI i))]) C dL_areSteps_96 rfl rfl (by decide) rfl ?_
                  refine g_iinc (pc' := 100) (v := nI (t + 1)) (L' := [(4, .int (nI (t + 1))), (2, .int 1), (3, .int ((sumX u (u 0 12).toInt.toNat t) + (waX u (nI t) i))), (0, .ref (a 0)), (1, .int (nI sn)), (5, .int (waX u (nI t) i)), (6, .int (nI i))]) C dL_areSteps_97 rfl (k := 4) rfl (nI_1 _) (by decide) rfl ?_
                  refine g_goto (tgt := 7) C dL_areSteps_100 (by decide) ?_
                  have e_3 : ((sumX u (u 0 12).toInt.toNat t) + (waX u (nI t) i) : Int32) = sumX u (u 0 12).toInt.toNat (t + 1) := (by rw [hi9]; rfl)
                  refine g_sub (L' := [(0, .ref (a 0)), (1, .int (nI sn)), (2, .int 1), (3, .int (sumX u (u 0 12).toInt.toNat (t + 1))), (4, .int (nI (t + 1)))]) [3, 4, 1, 2, 0] (by rw [← e_3]; rfl) ?_
                  exact ih_7 (t + 1) (by omega) (by omega)
            · skip
              refine g_iload (pc' := 34) (q := 5) C dL_areSteps_32 rfl rfl ?_
              refine g_aload_n (pc' := 35) (q := 0) C dL_areSteps_34 rfl rfl rfl ?_
              refine g_iload (pc' := 37) (q := 6) C dL_areSteps_35 rfl rfl ?_
              refine g_calliV (pc' := 40) (As := [.int (nI i)]) (st := [.int (waX u (nI t) i)]) (cells' := 0) (slots' := 0) C (q_stepOf u i hIX (by omega)) gL_areSteps_X0_stepOf rfl (by decide +kernel) ⟨Nat.le_of_ble_eq_true rfl, Nat.le_of_ble_eq_true rfl⟩ 0 (by rfl) rfl (n := 1) rfl rfl (Nat.le_of_ble_eq_true rfl) dL_areSteps_37 rfl rfl rfl ⟨Nat.le_of_ble_eq_true rfl, Nat.le_of_ble_eq_true rfl⟩ (fun r_24 u_24 h_25 => ?_)
              obtain ⟨rfl, h_25⟩ := h_25
              refine g_st h_25 ?_
              refine g_iload (pc' := 42) (q := 4) C dL_areSteps_40 rfl rfl ?_
              have t_26 : (nI t).toInt = ((t : Nat) : Int) := nI_toInt (by omega)
              refine g_icmp_ne (tgt := 54) (pc' := 45) C dL_areSteps_42 rfl (by decide) (fun (c_27 : ¬ (u 7 i).toInt = (nI t).toInt) => ?_) (fun (c_27 : (u 7 i).toInt = (nI t).toInt) => ?_)
              · skip
                refine g_iconst (pc' := 55) (v := 0) C dL_areSteps_54 rfl (by decide) ?_
                refine g_iadd (pc' := 56) C dL_areSteps_55 rfl ?_
                refine g_istore (pc' := 58) (L' := [(5, .int ((waX u (nI t) i) + 0)), (0, .ref (a 0)), (1, .int (nI sn)), (2, .int 1), (3, .int (sumX u (u 0 12).toInt.toNat t)), (4, .int (nI t)), (6, .int (nI i))]) C dL_areSteps_56 rfl (by decide) rfl ?_
                refine g_iinc (pc' := 61) (v := nI (i + 1)) (L' := [(6, .int (nI (i + 1))), (5, .int ((waX u (nI t) i) + 0)), (0, .ref (a 0)), (1, .int (nI sn)), (2, .int 1), (3, .int (sumX u (u 0 12).toInt.toNat t)), (4, .int (nI t))]) C dL_areSteps_58 rfl (k := 6) rfl (nI_1 _) (by decide) rfl ?_
                refine g_goto (tgt := 23) C dL_areSteps_61 (by decide) ?_
                have e_5 : ((waX u (nI t) i) + 0 : Int32) = waX u (nI t) (i + 1) := (by simp only [waX]; rw [if_neg (by assumption), Int32.add_zero])
                refine g_sub (L' := [(0, .ref (a 0)), (1, .int (nI sn)), (2, .int 1), (3, .int (sumX u (u 0 12).toInt.toNat t)), (4, .int (nI t)), (5, .int (waX u (nI t) (i + 1))), (6, .int (nI (i + 1)))]) [2, 3, 4, 5, 6, 1, 0] (by rw [← e_5]; rfl) ?_
                exact ih_23 (i + 1) (by omega) (by omega)
              · skip
                refine g_aload_n (pc' := 46) (q := 0) C dL_areSteps_45 rfl rfl rfl ?_
                refine g_iload (pc' := 48) (q := 6) C dL_areSteps_46 rfl rfl ?_
                refine g_calliV (pc' := 51) (As := [.int (nI i)]) (st := [.int (waX u (nI t) i)]) (cells' := 0) (slots' := 0) C (q_size u i hIX (by omega)) gL_areSteps_X0_size rfl (by decide +kernel) ⟨Nat.le_of_ble_eq_true rfl, Nat.le_of_ble_eq_true rfl⟩ 0 (by rfl) rfl (n := 1) rfl rfl (Nat.le_of_ble_eq_true rfl) dL_areSteps_48 rfl rfl rfl ⟨Nat.le_of_ble_eq_true rfl, Nat.le_of_ble_eq_true rfl⟩ (fun r_28 u_28 h_29 => ?_)
                obtain ⟨rfl, h_29⟩ := h_29
                refine g_st h_29 ?_
                refine g_goto (tgt := 55) C dL_areSteps_51 (by decide) ?_
                refine g_iadd (pc' := 56) C dL_areSteps_55 rfl ?_
                refine g_istore (pc' := 58) (L' := [(5, .int ((waX u (nI t) i) + (u 12 i))), (0, .ref (a 0)), (1, .int (nI sn)), (2, .int 1), (3, .int (sumX u (u 0 12).toInt.toNat t)), (4, .int (nI t)), (6, .int (nI i))]) C dL_areSteps_56 rfl (by decide) rfl ?_
                refine g_iinc (pc' := 61) (v := nI (i + 1)) (L' := [(6, .int (nI (i + 1))), (5, .int ((waX u (nI t) i) + (u 12 i))), (0, .ref (a 0)), (1, .int (nI sn)), (2, .int 1), (3, .int (sumX u (u 0 12).toInt.toNat t)), (4, .int (nI t))]) C dL_areSteps_58 rfl (k := 6) rfl (nI_1 _) (by decide) rfl ?_
                refine g_goto (tgt := 23) C dL_areSteps_61 (by decide) ?_
                have e_5 : ((waX u (nI t) i) + (u 12 i) : Int32) = waX u (nI t) (i + 1) := (by simp only [waX]; rw [if_pos (by assumption)])
                refine g_sub (L' := [(0, .ref (a 0)), (1, .int (nI sn)), (2, .int 1), (3, .int (sumX u (u 0 12).toInt.toNat t)), (4, .int (nI t)), (5, .int (waX u (nI t) (i + 1))), (6, .int (nI (i + 1)))]) [2, 3, 4, 5, 6, 1, 0] (by rw [← e_5]; rfl) ?_
                exact ih_23 (i + 1) (by omega) (by omega)
        refine g_sub (L' := [(0, .ref (a 0)), (1, .int (nI sn)), (2, .int 1), (3, .int (sumX u (u 0 12).toInt.toNat t)), (4, .int (nI t)), (5, .int (waX u (nI t) 0)), (6, .int (nI 0))]) [2, 3, 4, 5, 6, 1, 0] rfl ?_
        exact loop_23 25 0 (by omega) (by omega)
  refine g_sub (L' := [(0, .ref (a 0)), (1, .int (nI sn)), (2, .int 1), (3, .int (sumX u (u 0 12).toInt.toNat 0)), (4, .int (nI 0))]) [3, 4, 2, 1, 0] rfl ?_
  exact loop_7 (sn + 1) 0 (by omega) (by omega)
set_option maxHeartbeats 4000000 in
set_option maxRecDepth 100000 in
theorem c_L_isCommon {l : Launch} {D : va_G} {cI cZ cQ : ClassId} {a : Nat → Nat} (u : LU) (x y : Nat) {sn : Nat} {B : Int} (hI : Inv sn B u) (hs : sn ≤ 12) (hx : (x : Int) < (u 0 12).toInt) (hy : (y : Int) < (u 0 12).toInt) : KI l yL_isCommon wsL_isCommon ({ frames := 3, cells := 0, slots := 0, locals := 67 } : Room) D (tyX cI cZ cQ) (wX cI cZ cQ a) [.ref (a 0), .int (nI x), .int (nI y)] u (fun (r : Int32) (u' : LU) => r = 1 ∧ u' = u) := by
  refine ent_I (own := RL) (maxL := 7) (cc := cL_isCommon) (L0 := [(0, .ref (a 0)), (1, .int (nI x)), (2, .int (nI y))]) (by decide) rfl (wX_ok _ _ _ _) rfl (Nat.le_of_ble_eq_true rfl) rfl ?_
  intro p e s m args below meth c A C hr
  have hIX := hI.1.ix hs
  have h12 := hI.1.1.2.1
  have h16 := hI.1.1.2.2.1
  have hO := hI.1.2.2.2.1.old
  have ex := ti_nI (n := x) (by omega)
  have ey := ti_nI (n := y) (by omega)
  obtain ⟨z, hz⟩ : ∃ z, z = coX u 48 (nI x) (nI y) := ⟨_, rfl⟩
  have hz2 : coX u 48 (nI y) (nI x) = z := by rw [hz]; exact co_com hO 48 _ _ (by omega) (by omega) (by omega)
  have hzl := co_le hO 48 (nI x) (nI y) (by omega) (by omega) (by omega)
  have hzi := co_it u 48 (nI x) (nI y)
  rw [← hz] at hzl hzi
  refine g_aload_n (pc' := 1) (q := 0) C dL_isCommon_0 rfl rfl rfl ?_
  refine g_iload_n (pc' := 2) (q := 1) C dL_isCommon_1 rfl rfl rfl ?_
  refine g_iload_n (pc' := 3) (q := 2) C dL_isCommon_2 rfl rfl rfl ?_
  refine g_calliV (pc' := 6) (As := [.int (nI x), .int (nI y)]) (st := []) (cells' := 0) (slots' := 0) C (q_common u (nI x) (nI y) hIX ⟨by omega, by omega⟩ ⟨by omega, by omega⟩) gL_isCommon_X0_common rfl (by decide +kernel) ⟨Nat.le_of_ble_eq_true rfl, Nat.le_of_ble_eq_true rfl⟩ 0 (by rfl) rfl (n := 2) rfl rfl (Nat.le_of_ble_eq_true rfl) dL_isCommon_3 rfl rfl rfl ⟨Nat.le_of_ble_eq_true rfl, Nat.le_of_ble_eq_true rfl⟩ (fun r_1 u_1 h_2 => ?_)
  obtain ⟨rfl, h_2⟩ := h_2
  refine g_st h_2 ?_
  refine g_conv (show (coX u 48 (nI x) (nI y) : Int32) = z from hz.symm) ?_
  refine g_istore_n (pc' := 7) (L' := [(3, .int z), (0, .ref (a 0)), (1, .int (nI x)), (2, .int (nI y))]) C dL_isCommon_6 rfl rfl (by decide) rfl ?_
  refine g_iload_n (pc' := 8) (q := 0) C dL_isCommon_7 rfl rfl rfl ?_
  refine g_aload_n (pc' := 9) (q := 1) C dL_isCommon_8 rfl rfl rfl ?_
  refine g_iload_n (pc' := 10) (q := 3) C dL_isCommon_9 rfl rfl rfl ?_
  refine g_iload_n (pc' := 11) (q := 2) C dL_isCommon_10 rfl rfl rfl ?_
  refine g_calliV (pc' := 14) (As := [.int (nI y), .int (nI x)]) (st := [.int z]) (cells' := 0) (slots' := 0) C (q_common u (nI y) (nI x) hIX ⟨by omega, by omega⟩ ⟨by omega, by omega⟩) gL_isCommon_X0_common rfl (by decide +kernel) ⟨Nat.le_of_ble_eq_true rfl, Nat.le_of_ble_eq_true rfl⟩ 0 (by rfl) rfl (n := 2) rfl rfl (Nat.le_of_ble_eq_true rfl) dL_isCommon_11 rfl rfl rfl ⟨Nat.le_of_ble_eq_true rfl, Nat.le_of_ble_eq_true rfl⟩ (fun r_3 u_3 h_4 => ?_)
  obtain ⟨rfl, h_4⟩ := h_4
  refine g_st h_4 ?_
  refine g_conv (show (coX u 48 (nI y) (nI x) : Int32) = z from hz2) ?_
  refine g_icmp_ne (tgt := 41) (pc' := 17) C dL_isCommon_14 rfl (by decide) (fun (c_5 : ¬ (z).toInt = (z).toInt) => ?_) (fun (c_5 : (z).toInt = (z).toInt) => ?_)
  · exact absurd (show False by omega) id
  · skip
    refine g_aload_n (pc' := 18) (q := 1) C dL_isCommon_17 rfl rfl rfl ?_
    refine g_iload_n (pc' := 19) (q := 2) C dL_isCommon_18 rfl rfl rfl ?_
    refine g_iload_n (pc' := 20) (q := 2) C dL_isCommon_19 rfl rfl rfl ?_
    refine g_calliV (pc' := 23) (As := [.int (nI x), .int (nI x)]) (st := []) (cells' := 0) (slots' := 0) C (q_common u (nI x) (nI x) hIX ⟨by omega, by omega⟩ ⟨by omega, by omega⟩) gL_isCommon_X0_common rfl (by decide +kernel) ⟨Nat.le_of_ble_eq_true rfl, Nat.le_of_ble_eq_true rfl⟩ 0 (by rfl) rfl (n := 2) rfl rfl (Nat.le_of_ble_eq_true rfl) dL_isCommon_20 rfl rfl rfl ⟨Nat.le_of_ble_eq_true rfl, Nat.le_of_ble_eq_true rfl⟩ (fun r_6 u_6 h_7 => ?_)
    obtain ⟨rfl, h_7⟩ := h_7
    refine g_st h_7 ?_
    refine g_conv (show (coX u 48 (nI x) (nI x) : Int32) = nI x from (co_self u (nI x))) ?_
    refine g_iload_n (pc' := 24) (q := 2) C dL_isCommon_23 rfl rfl rfl ?_
    have t_8 : (nI x).toInt = ((x : Nat) : Int) := nI_toInt (by omega)
    have t_9 : (nI x).toInt = ((x : Nat) : Int) := nI_toInt (by omega)
    refine g_icmp_ne (tgt := 41) (pc' := 27) C dL_isCommon_24 rfl (by decide) (fun (c_10 : ¬ (nI x).toInt = (nI x).toInt) => ?_) (fun (c_10 : (nI x).toInt = (nI x).toInt) => ?_)
    · exact absurd (show False by omega) id
    · skip
      refine g_iload_n (pc' := 28) (q := 0) C dL_isCommon_27 rfl rfl rfl ?_
      refine g_iload_n (pc' := 29) (q := 2) C dL_isCommon_28 rfl rfl rfl ?_
      have t_11 : (nI x).toInt = ((x : Nat) : Int) := nI_toInt (by omega)
      refine g_icmp_gt (tgt := 41) (pc' := 32) C dL_isCommon_29 rfl (by decide) (fun (c_12 : (nI x).toInt < (z).toInt) => ?_) (fun (c_12 : ¬ ((nI x).toInt < (z).toInt)) => ?_)
      · exact absurd (show False by omega) id
      · skip
        refine g_iload_n (pc' := 33) (q := 0) C dL_isCommon_32 rfl rfl rfl ?_
        refine g_iload_n (pc' := 34) (q := 3) C dL_isCommon_33 rfl rfl rfl ?_
        have t_13 : (nI y).toInt = ((y : Nat) : Int) := nI_toInt (by omega)
        refine g_icmp_gt (tgt := 41) (pc' := 37) C dL_isCommon_34 rfl (by decide) (fun (c_14 : (nI y).toInt < (z).toInt) => ?_) (fun (c_14 : ¬ ((nI y).toInt < (z).toInt)) => ?_)
        · exact absurd (show False by omega) id
        · skip
          refine g_iconst (pc' := 38) (v := 1) C dL_isCommon_37 rfl (by decide) ?_
          refine g_goto (tgt := 42) C dL_isCommon_38 (by decide) ?_
          refine g_istore (pc' := 44) (L' := [(4, .int 1), (3, .int z), (0, .ref (a 0)), (1, .int (nI x)), (2, .int (nI y))]) C dL_isCommon_42 rfl (by decide) rfl ?_
          refine g_iload_n (pc' := 45) (q := 3) C dL_isCommon_44 rfl rfl rfl ?_
          refine g_istore (pc' := 47) (L' := [(5, .int (nI x)), (4, .int 1), (3, .int z), (0, .ref (a 0)), (1, .int (nI x)), (2, .int (nI y))]) C dL_isCommon_45 rfl (by decide) rfl ?_
          refine g_iload_n (pc' := 48) (q := 2) C dL_isCommon_47 rfl rfl rfl ?_
          refine g_iconst (pc' := 49) (v := (-1)) C dL_isCommon_48 rfl (by decide) ?_
          refine g_icmp_ne (tgt := 56) (pc' := 52) C dL_isCommon_49 rfl (by decide) (fun (c_15 : ¬ (z).toInt = -1) => ?_) (fun (c_15 : (z).toInt = -1) => ?_)
          · skip
            refine g_iconst (pc' := 57) (v := 0) C dL_isCommon_56 rfl (by decide) ?_
            refine g_istore (pc' := 59) (L' := [(6, .int 0), (5, .int (nI x)), (4, .int 1), (3, .int z), (0, .ref (a 0)), (1, .int (nI x)), (2, .int (nI y))]) C dL_isCommon_57 rfl (by decide) rfl ?_
            have loop_59 : ∀ (k : Nat) (p9 f9 : Int32), -1 ≤ p9.toInt ∧ p9.toInt < (u 0 12).toInt → p9.toInt + 2 ≤ k → f9.toInt = 1 ∨ (f9.toInt = 0 ∧ (∃ j, itX u j p9 = z) ∧ ¬ z.toInt = -1) → G p l e ({ frames := 3, cells := 0, slots := 0, locals := 67 } : Room) s m args below meth c D A 7 (wX cI cZ cQ a) 0 0 (MQ below (va_Qi (fun (r : Int32) (u' : LU) => r = 1 ∧ u' = u) (KE D (tyX cI cZ cQ) (wX cI cZ cQ a)) A) args s 0 0 A) u 59 [(0, .ref (a 0)), (1, .int (nI x)), (2, .int (nI y)), (3, .int z), (4, .int 1), (5, .int p9), (6, .int f9)] [] := by
              intro k
              induction k with
              | zero =>
                intro p9 f9 hp hk hf
                omega
              | succ k ih_59 =>
                intro p9 f9 hp hk hf
                have hf2 : f9.toInt = 0 ∨ f9.toInt = 1 := by omega
                have hfin : p9.toInt = -1 → f9.toInt = 1 := fun e => by
                  rcases hf with h | ⟨h, h2, h3⟩
                  · exact h
                  · exact absurd (it_m1 hO e hzl.1 h2) h3
                refine g_iload (pc' := 61) (q := 5) C dL_isCommon_59 rfl rfl ?_
                refine g_iconst (pc' := 62) (v := (-1)) C dL_isCommon_61 rfl (by decide) ?_
                refine g_icmp_eq (tgt := 94) (pc' := 65) C dL_isCommon_62 rfl (by decide) (fun (c_16 : (p9).toInt = -1) => ?_) (fun (c_16 : ¬ ((p9).toInt = -1)) => ?_)
                · skip
                  refine g_iload (pc' := 96) (q := 4) C dL_isCommon_94 rfl rfl ?_
                  refine g_if_eq (tgt := 108) (pc' := 99) C dL_isCommon_96 rfl (by decide) (fun h => absurd h (by decide)) (fun _ => ?_)
                  refine g_iload (pc' := 101) (q := 6) C dL_isCommon_99 rfl rfl ?_
                  refine g_if_eq (tgt := 108) (pc' := 104) C dL_isCommon_101 rfl (by decide) (fun (c_17 : (f9).toInt = 0) => ?_) (fun (c_17 : ¬ ((f9).toInt = 0)) => ?_)
                  · skip
                    exact absurd (show False by omega) id
                  · skip
                    refine g_iconst (pc' := 105) (v := 1) C dL_isCommon_104 rfl (by decide) ?_
                    refine g_goto (tgt := 109) C dL_isCommon_105 (by decide) ?_
                    exact g_iret C hr (by decide) ⟨rfl, rfl⟩ dL_isCommon_109
                · skip
                  refine g_iload (pc' := 67) (q := 6) C dL_isCommon_65 rfl rfl ?_
                  refine g_if_ne (tgt := 94) (pc' := 70) C dL_isCommon_67 rfl (by decide) (fun (c_18 : ¬ (f9).toInt = 0) => ?_) (fun (c_18 : (f9).toInt = 0) => ?_)
                  · skip
                    refine g_iload (pc' := 96) (q := 4) C dL_isCommon_94 rfl rfl ?_
                    refine g_if_eq (tgt := 108) (pc' := 99) C dL_isCommon_96 rfl (by decide) (fun h => absurd h (by decide)) (fun _ => ?_)
                    refine g_iload (pc' := 101) (q := 6) C dL_isCommon_99 rfl rfl ?_
                    refine g_if_eq (tgt := 108) (pc' := 104) C dL_isCommon_101 rfl (by decide) (fun (c_19 : (f9).toInt = 0) => ?_) (fun (c_19 : ¬ ((f9).toInt = 0)) => ?_)
                    · skip
                      exact absurd (show False by omega) id
                    · skip
                      refine g_iconst (pc' := 105) (v := 1) C dL_isCommon_104 rfl (by decide) ?_
                      refine g_goto (tgt := 109) C dL_isCommon_105 (by decide) ?_
                      exact g_iret C hr (by decide) ⟨rfl, rfl⟩ dL_isCommon_109
                  · skip
                    refine g_iload (pc' := 72) (q := 5) C dL_isCommon_70 rfl rfl ?_
                    refine g_iload_n (pc' := 73) (q := 3) C dL_isCommon_72 rfl rfl rfl ?_
                    refine g_icmp_ne (tgt := 80) (pc' := 76) C dL_isCommon_73 rfl (by decide) (fun (c_20 : ¬ (p9).toInt = (z).toInt) => ?_) (fun (c_20 : (p9).toInt = (z).toInt) => ?_)
                    · skip
                      refine g_iconst (pc' := 81) (v := 0) C dL_isCommon_80 rfl (by decide) ?_
                      refine g_istore (pc' := 83) (L' := [(6, .int 0), (0, .ref (a 0)), (1, .int (nI x)), (2, .int (nI y)), (3, .int z), (4, .int 1), (5, .int p9)]) C dL_isCommon_81 rfl (by decide) rfl ?_
                      have hpn := pon_le hO p9 hp.1
                      have hpl := hpn.2.2 (by omega)
                      refine g_aload_n (pc' := 84) (q := 1) C dL_isCommon_83 rfl rfl rfl ?_
                      refine g_iload (pc' := 86) (q := 6) C dL_isCommon_84 rfl rfl ?_
                      refine g_calliV (pc' := 89) (As := [.int p9]) (st := []) (cells' := 0) (slots' := 0) C (q_pon u p9 hIX ⟨by omega, by omega⟩) gL_isCommon_X0_parentOf rfl (by decide +kernel) ⟨Nat.le_of_ble_eq_true rfl, Nat.le_of_ble_eq_true rfl⟩ 0 (by rfl) rfl (n := 1) rfl rfl (Nat.le_of_ble_eq_true rfl) dL_isCommon_86 rfl rfl rfl ⟨Nat.le_of_ble_eq_true rfl, Nat.le_of_ble_eq_true rfl⟩ (fun r_21 u_21 h_22 => ?_)
                      obtain ⟨rfl, h_22⟩ := h_22
                      refine g_st h_22 ?_
                      refine g_istore (pc' := 91) (L' := [(5, .int (ponX u p9)), (6, .int 0), (0, .ref (a 0)), (1, .int (nI x)), (2, .int (nI y)), (3, .int z), (4, .int 1)]) C dL_isCommon_89 rfl (by decide) rfl ?_
                      refine g_goto (tgt := 59) C dL_isCommon_91 (by decide) ?_
                      refine g_sub (L' := [(0, .ref (a 0)), (1, .int (nI x)), (2, .int (nI y)), (3, .int z), (4, .int 1), (5, .int (ponX u p9)), (6, .int 0)]) [2, 3, 4, 5, 6, 0, 1] rfl ?_
                      exact ih_59 (ponX u p9) 0 (by omega) (by omega) (hf.elim (fun h => absurd h (by omega)) (fun h => Or.inr ⟨rfl, it_next h.2.1 (by assumption), h.2.2⟩))
                    · skip
                      refine g_iconst (pc' := 77) (v := 1) C dL_isCommon_76 rfl (by decide) ?_
                      refine g_goto (tgt := 81) C dL_isCommon_77 (by decide) ?_
                      refine g_istore (pc' := 83) (L' := [(6, .int 1), (0, .ref (a 0)), (1, .int (nI x)), (2, .int (nI y)), (3, .int z), (4, .int 1), (5, .int p9)]) C dL_isCommon_81 rfl (by decide) rfl ?_
                      have hpn := pon_le hO p9 hp.1
                      have hpl := hpn.2.2 (by omega)
                      refine g_aload_n (pc' := 84) (q := 1) C dL_isCommon_83 rfl rfl rfl ?_
                      refine g_iload (pc' := 86) (q := 6) C dL_isCommon_84 rfl rfl ?_
                      refine g_calliV (pc' := 89) (As := [.int p9]) (st := []) (cells' := 0) (slots' := 0) C (q_pon u p9 hIX ⟨by omega, by omega⟩) gL_isCommon_X0_parentOf rfl (by decide +kernel) ⟨Nat.le_of_ble_eq_true rfl, Nat.le_of_ble_eq_true rfl⟩ 0 (by rfl) rfl (n := 1) rfl rfl (Nat.le_of_ble_eq_true rfl) dL_isCommon_86 rfl rfl rfl ⟨Nat.le_of_ble_eq_true rfl, Nat.le_of_ble_eq_true rfl⟩ (fun r_23 u_23 h_24 => ?_)
                      obtain ⟨rfl, h_24⟩ := h_24
                      refine g_st h_24 ?_
                      refine g_istore (pc' := 91) (L' := [(5, .int (ponX u p9)), (6, .int 1), (0, .ref (a 0)), (1, .int (nI x)), (2, .int (nI y)), (3, .int z), (4, .int 1)]) C dL_isCommon_89 rfl (by decide) rfl ?_
                      refine g_goto (tgt := 59) C dL_isCommon_91 (by decide) ?_
                      refine g_sub (L' := [(0, .ref (a 0)), (1, .int (nI x)), (2, .int (nI y)), (3, .int z), (4, .int 1), (5, .int (ponX u p9)), (6, .int 1)]) [2, 3, 4, 5, 6, 0, 1] rfl ?_
                      exact ih_59 (ponX u p9) 1 (by omega) (by omega) (Or.inl rfl)
            refine g_sub (L' := [(0, .ref (a 0)), (1, .int (nI x)), (2, .int (nI y)), (3, .int z), (4, .int 1), (5, .int (nI x)), (6, .int 0)]) [4, 5, 6, 3, 2, 1, 0] rfl ?_
            exact loop_59 30 (nI x) 0 (by omega) (by omega) (Or.inr ⟨rfl, hzi, by omega⟩)
          · skip
            refine g_iconst (pc' := 53) (v := 1) C dL_isCommon_52 rfl (by decide) ?_
            refine g_goto (tgt := 57) C dL_isCommon_53 (by decide) ?_
            refine g_istore (pc' := 59) (L' := [(6, .int 1), (5, .int (nI x)), (4, .int 1), (3, .int z), (0, .ref (a 0)), (1, .int (nI x)), (2, .int (nI y))]) C dL_isCommon_57 rfl (by decide) rfl ?_
            have loop_59 : ∀ (k : Nat) (p9 f9 : Int32), -1 ≤ p9.toInt ∧ p9.toInt < (u 0 12).toInt → p9.toInt + 2 ≤ k → f9.toInt = 1 ∨ (f9.toInt = 0 ∧ (∃ j, itX u j p9 = z) ∧ ¬ z.toInt = -1) → G p l e ({ frames := 3, cells := 0, slots := 0, locals := 67 } : Room) s m args below meth c D A 7 (wX cI cZ cQ a) 0 0 (MQ below (va_Qi (fun (r : Int32) (u' : LU) => r = 1 ∧ u' = u) (KE D (tyX cI cZ cQ) (wX cI cZ cQ a)) A) args s 0 0 A) u 59 [(0, .ref (a 0)), (1, .int (nI x)), (2, .int (nI y)), (3, .int z), (4, .int 1), (5, .int p9), (6, .int f9)] [] := by
              intro k
              induction k with
              | zero =>
                intro p9 f9 hp hk hf
                omega
              | succ k ih_59 =>
                intro p9 f9 hp hk hf
                have hf2 : f9.toInt = 0 ∨ f9.toInt = 1 := by omega
                have hfin : p9.toInt = -1 → f9.toInt = 1 := fun e => by
                  rcases hf with h | ⟨h, h2, h3⟩
                  · exact h
                  · exact absurd (it_m1 hO e hzl.1 h2) h3
                refine g_iload (pc' := 61) (q := 5) C dL_isCommon_59 rfl rfl ?_
                refine g_iconst (pc' := 62) (v := (-1)) C dL_isCommon_61 rfl (by decide) ?_
                refine g_icmp_eq (tgt := 94) (pc' := 65) C dL_isCommon_62 rfl (by decide) (fun (c_25 : (p9).toInt = -1) => ?_) (fun (c_25 : ¬ ((p9).toInt = -1)) => ?_)
                · skip
                  refine g_iload (pc' := 96) (q := 4) C dL_isCommon_94 rfl rfl ?_
                  refine g_if_eq (tgt := 108) (pc' := 99) C dL_isCommon_96 rfl (by decide) (fun h => absurd h (by decide)) (fun _ => ?_)
                  refine g_iload (pc' := 101) (q := 6) C dL_isCommon_99 rfl rfl ?_
                  refine g_if_eq (tgt := 108) (pc' := 104) C dL_isCommon_101 rfl (by decide) (fun (c_26 : (f9).toInt = 0) => ?_) (fun (c_26 : ¬ ((f9).toInt = 0)) => ?_)
                  · skip
                    exact absurd (show False by omega) id
                  · skip
                    refine g_iconst (pc' := 105) (v := 1) C dL_isCommon_104 rfl (by decide) ?_
                    refine g_goto (tgt := 109) C dL_isCommon_105 (by decide) ?_
                    exact g_iret C hr (by decide) ⟨rfl, rfl⟩ dL_isCommon_109
                · skip
                  refine g_iload (pc' := 67) (q := 6) C dL_isCommon_65 rfl rfl ?_
                  refine g_if_ne (tgt := 94) (pc' := 70) C dL_isCommon_67 rfl (by decide) (fun (c_27 : ¬ (f9).toInt = 0) => ?_) (fun (c_27 : (f9).toInt = 0) => ?_)
                  · skip
                    refine g_iload (pc' := 96) (q := 4) C dL_isCommon_94 rfl rfl ?_
                    refine g_if_eq (tgt := 108) (pc' := 99) C dL_isCommon_96 rfl (by decide) (fun h => absurd h (by decide)) (fun _ => ?_)
                    refine g_iload (pc' := 101) (q := 6) C dL_isCommon_99 rfl rfl ?_
                    refine g_if_eq (tgt := 108) (pc' := 104) C dL_isCommon_101 rfl (by decide) (fun (c_28 : (f9).toInt = 0) => ?_) (fun (c_28 : ¬ ((f9).toInt = 0)) => ?_)
                    · skip
                      exact absurd (show False by omega) id
                    · skip
                      refine g_iconst (pc' := 105) (v := 1) C dL_isCommon_104 rfl (by decide) ?_
                      refine g_goto (tgt := 109) C dL_isCommon_105 (by decide) ?_
                      exact g_iret C hr (by decide) ⟨rfl, rfl⟩ dL_isCommon_109
                  · skip
                    refine g_iload (pc' := 72) (q := 5) C dL_isCommon_70 rfl rfl ?_
                    refine g_iload_n (pc' := 73) (q := 3) C dL_isCommon_72 rfl rfl rfl ?_
                    refine g_icmp_ne (tgt := 80) (pc' := 76) C dL_isCommon_73 rfl (by decide) (fun (c_29 : ¬ (p9).toInt = (z).toInt) => ?_) (fun (c_29 : (p9).toInt = (z).toInt) => ?_)
                    · skip
                      refine g_iconst (pc' := 81) (v := 0) C dL_isCommon_80 rfl (by decide) ?_
                      refine g_istore (pc' := 83) (L' := [(6, .int 0), (0, .ref (a 0)), (1, .int (nI x)), (2, .int (nI y)), (3, .int z), (4, .int 1), (5, .int p9)]) C dL_isCommon_81 rfl (by decide) rfl ?_
                      have hpn := pon_le hO p9 hp.1
                      have hpl := hpn.2.2 (by omega)
                      refine g_aload_n (pc' := 84) (q := 1) C dL_isCommon_83 rfl rfl rfl ?_
                      refine g_iload (pc' := 86) (q := 6) C dL_isCommon_84 rfl rfl ?_
                      refine g_calliV (pc' := 89) (As := [.int p9]) (st := []) (cells' := 0) (slots' := 0) C (q_pon u p9 hIX ⟨by omega, by omega⟩) gL_isCommon_X0_parentOf rfl (by decide +kernel) ⟨Nat.le_of_ble_eq_true rfl, Nat.le_of_ble_eq_true rfl⟩ 0 (by rfl) rfl (n := 1) rfl rfl (Nat.le_of_ble_eq_true rfl) dL_isCommon_86 rfl rfl rfl ⟨Nat.le_of_ble_eq_true rfl, Nat.le_of_ble_eq_true rfl⟩ (fun r_30 u_30 h_31 => ?_)
                      obtain ⟨rfl, h_31⟩ := h_31
                      refine g_st h_31 ?_
                      refine g_istore (pc' := 91) (L' := [(5, .int (ponX u p9)), (6, .int 0), (0, .ref (a 0)), (1, .int (nI x)), (2, .int (nI y)), (3, .int z), (4, .int 1)]) C dL_isCommon_89 rfl (by decide) rfl ?_
                      refine g_goto (tgt := 59) C dL_isCommon_91 (by decide) ?_
                      refine g_sub (L' := [(0, .ref (a 0)), (1, .int (nI x)), (2, .int (nI y)), (3, .int z), (4, .int 1), (5, .int (ponX u p9)), (6, .int 0)]) [2, 3, 4, 5, 6, 0, 1] rfl ?_
                      exact ih_59 (ponX u p9) 0 (by omega) (by omega) (hf.elim (fun h => absurd h (by omega)) (fun h => Or.inr ⟨rfl, it_next h.2.1 (by assumption), h.2.2⟩))
                    · skip
                      refine g_iconst (pc' := 77) (v := 1) C dL_isCommon_76 rfl (by decide) ?_
                      refine g_goto (tgt := 81) C dL_isCommon_77 (by decide) ?_
                      refine g_istore (pc' := 83) (L' := [(6, .int 1), (0, .ref (a 0)), (1, .int (nI x)), (2, .int (nI y)), (3, .int z), (4, .int 1), (5, .int p9)]) C dL_isCommon_81 rfl (by decide) rfl ?_
                      have hpn := pon_le hO p9 hp.1
                      have hpl := hpn.2.2 (by omega)
                      refine g_aload_n (pc' := 84) (q := 1) C dL_isCommon_83 rfl rfl rfl ?_
                      refine g_iload (pc' := 86) (q := 6) C dL_isCommon_84 rfl rfl ?_
                      refine g_calliV (pc' := 89) (As := [.int p9]) (st := []) (cells' := 0) (slots' := 0) C (q_pon u p9 hIX ⟨by omega, by omega⟩) gL_isCommon_X0_parentOf rfl (by decide +kernel) ⟨Nat.le_of_ble_eq_true rfl, Nat.le_of_ble_eq_true rfl⟩ 0 (by rfl) rfl (n := 1) rfl rfl (Nat.le_of_ble_eq_true rfl) dL_isCommon_86 rfl rfl rfl ⟨Nat.le_of_ble_eq_true rfl, Nat.le_of_ble_eq_true rfl⟩ (fun r_32 u_32 h_33 => ?_)
                      obtain ⟨rfl, h_33⟩ := h_33
                      refine g_st h_33 ?_
                      refine g_istore (pc' := 91) (L' := [(5, .int (ponX u p9)), (6, .int 1), (0, .ref (a 0)), (1, .int (nI x)), (2, .int (nI y)), (3, .int z), (4, .int 1)]) C dL_isCommon_89 rfl (by decide) rfl ?_
                      refine g_goto (tgt := 59) C dL_isCommon_91 (by decide) ?_
                      refine g_sub (L' := [(0, .ref (a 0)), (1, .int (nI x)), (2, .int (nI y)), (3, .int z), (4, .int 1), (5, .int (ponX u p9)), (6, .int 1)]) [2, 3, 4, 5, 6, 0, 1] rfl ?_
                      exact ih_59 (ponX u p9) 1 (by omega) (by omega) (Or.inl rfl)
            refine g_sub (L' := [(0, .ref (a 0)), (1, .int (nI x)), (2, .int (nI y)), (3, .int z), (4, .int 1), (5, .int (nI x)), (6, .int 1)]) [4, 5, 6, 3, 2, 1, 0] rfl ?_
            exact loop_59 30 (nI x) 1 (by omega) (by omega) (Or.inl rfl)
end
section
/-! the class's calls as the law uses them: each keeps the invariant -/
section LCL
variable {l : Launch} {D : va_G} {cI cZ cQ : ClassId} {a : Nat → Nat} {sn : Nat} {B : Int}
theorem L_addStep (u : LU) (x y z b : Int32) {k : Nat} (hJ : JV k 0 u) (h12 : u 0 12 = 0) (h16 : u 0 16 = 0) (hk : k < 12) (hx : 0 ≤ x.toInt ∧ x.toInt ≤ 5) (hy : 1 ≤ y.toInt ∧ y.toInt ≤ 1000) (hz : 0 ≤ z.toInt ∧ z.toInt ≤ 10000) (hb : 0 ≤ b.toInt ∧ b.toInt ≤ k) : KI l yX0_addStep wsX0_addStep ({ frames := 2, cells := 0, slots := 0, locals := 42 } : Room) D (tyX cI cZ cQ) (wX cI cZ cQ a) [.ref (a 0), .int x, .int y, .int z, .int b] u (fun (_ : Int32) (u' : LU) => JV (k + 1) 0 u' ∧ u' 0 12 = 0 ∧ u' 0 16 = 0) := by
  have e4 : (u 0 4).toInt = (k : Int) := by rw [hJ.1.1]; exact ti_nI (by omega)
  have e12 : (u 0 12).toInt = 0 := by rw [h12]; rfl
  refine (c_X0_addStep u x y z b (hJ.ix (by omega)) hx ⟨hy, hz, by omega⟩ ⟨by omega, by omega⟩).mono (fun r u' h => ?_)
  obtain ⟨-, -, -, -, rfl⟩ := h
  exact J_as hJ h12 h16 hk hy
theorem L_enter (u : LU) (c : Nat) (hI : Inv sn B u) (hs1 : 1 ≤ sn) (hs : sn ≤ 12) (hc : 1 ≤ c ∧ c ≤ 12) (hL : (u 0 12).toInt < 24) (hW : (u 0 16).toInt + c ≤ 60) : KI l yX0_enter wsX0_enter ({ frames := 2, cells := 0, slots := 0, locals := 45 } : Room) D (tyX cI cZ cQ) (wX cI cZ cQ a) [.ref (a 0), .int (nI c)] u (fun (_ : Int32) (u' : LU) => Inv sn B u' ∧ (u' 0 12).toInt = (u 0 12).toInt + 1 ∧ (u' 0 16).toInt = (u 0 16).toInt + c) := by
  have ec := ti_nI (n := c) (by omega)
  have e4 : (u 0 4).toInt = (sn : Int) := by rw [hI.1.1.1]; exact ti_nI (by omega)
  refine (c_X0_enter u (nI c) (hI.1.ix hs) ⟨by omega, by omega⟩ ⟨by omega, hL, by omega⟩).mono (fun r u' h => ?_)
  obtain ⟨-, -, n, w0, hn, hw0, h1, h2, -, rfl⟩ := h
  have e12 : (u 0 12).toInt = (n : Int) := by rw [h1]; exact ti_nI (by omega)
  have e16 : (u 0 16).toInt = (w0 : Int) := by rw [h2]; exact ti_nI (by omega)
  rw [show (nI c).toInt.toNat = c by omega]
  obtain ⟨g1, g2, g3⟩ := I_enter (w := w0) (c := c) hI hs1 h1 hn h2 hc.1 (by omega)
  refine ⟨g1, ?_, ?_⟩
  · rw [g2, ti_nI (by omega), e12]
    rfl
  · rw [g3, ti_nI (by omega), e16]
    omega
theorem L_start (u : LU) (n : Nat) (hI : Inv sn B u) (hs : sn ≤ 12) (hB : B ≤ 1000000) (hn : (n : Int) < (u 0 12).toInt) (hy : rdX u n ∧ (0 ≤ (u 7 n).toInt ∧ (u 7 n).toInt < (u 0 4).toInt) ∧ ¬ buX u (u 1 (u 7 n).toNatClampNeg)) : KI l yX0_start wsX0_start ({ frames := 3, cells := 0, slots := 0, locals := 66 } : Room) D (tyX cI cZ cQ) (wX cI cZ cQ a) [.ref (a 0), .int (nI n)] u (fun (r : Int32) (u' : LU) => Inv sn B u' ∧ u' 0 = u 0 ∧ (u 0 17).toInt < r.toInt) := by
  refine (q_start u n (hI.1.ix hs) hn hy).mono (fun r u' h => ?_)
  obtain ⟨rfl, rfl⟩ := h
  exact I_start hI hs hB hn hy.1.1.1
theorem L_split (u : LU) (n : Nat) (y : Int32) (hI : Inv sn B u) (hs : sn ≤ 12) (hn : (n : Int) < (u 0 12).toInt) (h6 : (u 6 n).toInt = 0) (hL : (u 0 12).toInt < 24) (hy : 1 ≤ y.toInt ∧ y.toInt ≤ (u 12 n - 1).toInt) : KI l yX0_split wsX0_split ({ frames := 2, cells := 0, slots := 0, locals := 48 } : Room) D (tyX cI cZ cQ) (wX cI cZ cQ a) [.ref (a 0), .int (nI n), .int y] u (fun (r : Int32) (u' : LU) => ∃ k : Nat, r = nI k ∧ Inv sn B u' ∧ (u 0 12).toInt = k ∧ (u' 0 12).toInt = (k : Int) + 1 ∧ u' 0 16 = u 0 16 ∧ (u' 12 k).toInt = y.toInt ∧ (u' 12 n).toInt = (u 12 n - y).toInt ∧ u' 11 k = nI n ∧ slX u' k = slX u' n) := by
  refine (q_split u n y (hI.1.ix hs) hn ⟨hy, h6, hL⟩).mono (fun r u' h => ?_)
  obtain ⟨k, hk, h1, h2, rfl⟩ := h
  obtain ⟨g1, g2, g3, g4, g5, g6, g7⟩ := I_split hI hn h6 h1 hk hy
  refine ⟨k, h2, g1, ?_, ?_, g3, g4, g5, g6, g7⟩
  · rw [h1]; exact ti_nI (by omega)
  · rw [g2, ti_nI (by omega)]; rfl
theorem L_hold (u : LU) (n : Nat) (P : Prop) (hI : Inv sn B u) (hs : sn ≤ 12) (hn : (n : Int) < (u 0 12).toInt) (h6 : (u 6 n).toInt < 2) : KI l yX0_hold wsX0_hold ({ frames := 2, cells := 0, slots := 0, locals := 42 } : Room) D (tyX cI cZ cQ) (wX cI cZ cQ a) [.ref (a 0), .int (nI n), .int (bP P)] u (fun (r : Int32) (u' : LU) => r = u 9 n ∧ Inv sn B u' ∧ u' 0 = u 0 ∧ u' 6 = u 6 ∧ u' 9 n = bP P) := by
  refine (q_hold u n P (hI.1.ix hs) hn ⟨by omega, by omega⟩).mono (fun r u' h => ?_)
  obtain ⟨h1, rfl⟩ := h
  refine ⟨h1, I_hold hI n P, rfl, rfl, ?_⟩
  show upd (u 9) n (bP P) n = bP P
  exact upd_s
theorem L_scrap (u : LU) (w k : Nat) (hI : Inv sn B u) (hs : sn ≤ 12) (hw : (w : Int) < (u 0 16).toInt) (hk : u 14 w = nI k) (hkl : (k : Int) < (u 0 12).toInt) (h6 : (u 6 k).toInt = 0) : KI l yX0_scrap wsX0_scrap ({ frames := 1, cells := 0, slots := 0, locals := 22 } : Room) D (tyX cI cZ cQ) (wX cI cZ cQ a) [.ref (a 0), .int (nI w)] u (fun (_ : Int32) (u' : LU) => Inv sn B u' ∧ u' 0 = u 0) := by
  refine (q_scrap u w k (hI.1.ix hs) hw hk hkl h6).mono (fun r u' h => ?_)
  subst h
  exact I_scrap hI hw hk hkl h6
theorem L_advance (u : LU) (x : Int32) (hI : Inv sn B u) (hs : sn ≤ 12) (hB : B ≤ 1000000) (hx : 1 ≤ x.toInt ∧ x.toInt ≤ 40) : KI l yX0_advance wsX0_advance ({ frames := 2, cells := 0, slots := 0, locals := 44 } : Room) D (tyX cI cZ cQ) (wX cI cZ cQ a) [.ref (a 0), .int x] u (fun (_ : Int32) (u' : LU) => Inv sn (B + 40) u' ∧ u' 0 12 = u 0 12 ∧ u' 0 16 = u 0 16) := by
  refine (c_X0_advance u x (hI.1.ix hs) ⟨by omega, by omega⟩).mono (fun r u' h => ?_)
  obtain ⟨-, -, rfl⟩ := h
  exact I_adv hI hs hB hx
theorem nf_ok (u : LU) (x : Int32) : ∀ i : Nat, (nfX u x i).1.toInt = -1 ∨ ∃ n : Nat, n < i ∧ (nfX u x i).1 = nI n ∧ rdX u n ∧ utX u n x
  | 0 => Or.inl rfl
  | i + 1 => by
    simp only [nfX]
    rcases Classical.em (rdX u i ∧ utX u i x ∧ (slX u i).toInt < (nfX u x i).2.toInt) with q | q
    · rw [cif_t q]
      exact Or.inr ⟨i, by omega, rfl, q.1, q.2.1⟩
    · rw [cif_f q]
      rcases nf_ok u x i with h | ⟨n, h1, h2⟩
      · exact Or.inl h
      · exact Or.inr ⟨n, by omega, h2⟩
theorem L_nextFor (u : LU) (x : Int32) (hI : Inv sn B u) (hs : sn ≤ 12) (hx : 0 ≤ x.toInt ∧ x.toInt ≤ 5) : KI l yX0_nextFor wsX0_nextFor ({ frames := 3, cells := 0, slots := 0, locals := 66 } : Room) D (tyX cI cZ cQ) (wX cI cZ cQ a) [.ref (a 0), .int x] u (fun (r : Int32) (u' : LU) => (r.toInt < 0 ∨ ∃ n : Nat, r = nI n ∧ (n : Int) < (u 0 12).toInt ∧ rdX u n ∧ (0 ≤ (u 7 n).toInt ∧ (u 7 n).toInt < (u 0 4).toInt) ∧ ¬ buX u (u 1 (u 7 n).toNatClampNeg)) ∧ u' = u) := by
  refine (c_X0_nextFor u x (hI.1.ix hs) hx).mono (fun r u' h => ?_)
  obtain ⟨-, h, hu⟩ := h
  refine ⟨?_, hu⟩
  have h12 := hI.1.1.2.1
  rcases h with ⟨-, rfl⟩ | ⟨hb, rfl⟩
  · exact Or.inl (by decide)
  · rcases nf_ok u x (u 0 12).toInt.toNat with h | ⟨n, h1, h2, h3, h4⟩
    · exact Or.inl (by omega)
    · refine Or.inr ⟨n, h2, by omega, h3, h4.1, ?_⟩
      rw [ti_inj h4.2]
      exact hb
theorem lot_of {u : LU} (hI : Inv sn B u) {w : Nat} (hw : (w : Int) < (u 0 16).toInt) : (u 14 w).toInt = -1 ∨ ∃ k : Nat, u 14 w = nI k ∧ (k : Int) < (u 0 12).toInt := by
  obtain ⟨m, q, -, p1, p2, p3, p4, p5⟩ := hI.1.2.2.2.2.2.1 w hw
  rcases p5 with h | h
  · exact Or.inl (by rw [h]; rfl)
  · exact Or.inr ⟨q m, h, (p2 m (Nat.le_refl m)).2⟩
theorem no_waf {u : LU} (hI : Inv sn B u) (h : (u 0 12).toInt = 0) : (u 0 16).toInt = 0 := by
  have h16 := hI.1.1.2.2.1
  rcases Int.lt_or_le 0 (u 0 16).toInt with q | q
  · obtain ⟨m, f, -, p1, p2, -⟩ := hI.1.2.2.2.2.2.1 0 (by omega)
    have := (p2 0 (Nat.zero_le m)).2
    omega
  · omega
end LCL
end
section
/-! THE CLAIM OUT OF ONE WALK OF THE LAW'S BODY. Your part is whole_start (and what it stands on); all else here is the same for every law, but numbers. -/
def R_law : String := "LotTrackerLaw"
def lw_P (b : Addr) (xs : List Int32) (args : Array Value) (s : State) : Prop := args = #[.ref b] ∧ s.IntsAt b xs ∧ xs.length ≤ 260 ∧ (Jvm.Cond.and given_1 narrow_1).before args s = true
def lw_Q (_ : Array Value) (s : State) (o : Outcome) (t : State) : Prop := o = .returned (some (.int 1)) ∧ Framed s o t [] 600104 7301314
def lw_Z (below : List Frame) (a : Array Value) (s : State) : State → Prop := fun t => ∃ o, t.status = .running ∧ Ended t below o ∧ lw_Q a s o t
/-- the law's own end, with 1 on the stack, nothing written that was there before, its room as the claim has it -/
theorem lw_ret {p : Program} {l : Launch} {e : Env} {s : State} {m : MethodId} {below : List Frame} {meth : Method} {c : Code} {b : Nat} (hx : p.tables.exec = Jvm.exec) (hb : c.code = code) (hr : meth.sig.returnType = ret) (hlocks : meth.locks = false) {pc : Nat} {H : Heap} {ls : Array Slot} (hdg : decode code pc = .ok (.ireturn, 1)) : W p l e room_1 s m #[Value.ref b] below meth c H [] 600104 7301314 (lw_Z below #[Value.ref b] s) (F0 m pc ls [.int 1]) := by
  intro T hT X
  obtain ⟨fs, hret, hrun, hended, hW, hframe⟩ := X.leave (v := some (.int 1)) (hlocks := hlocks) (fun h => by rw [hr] at h; cases h)
  have hmeth' : T.vm.method? m = some meth := X.method'
  refine ⟨T.setFrames fs, ?_, .returned (some (.int 1)), hrun, hended, rfl, ⟨_, rfl⟩, hW, hframe⟩
  jvm_step X.here [X.here.top, hx, hb, hdg, hmeth', hr, ret, narrow_b1]
  (try refine ⟨rfl, ?_⟩); (try refine ⟨rfl, ?_⟩)
  first | (intro acts; rw [hret _ acts rfl rfl rfl]) | rw [hret _ _ rfl rfl rfl]
  exact Steps.refl _
/-- what holds at the law's entry: the machine, the code, the tables' words (any of lw_tbl by 'hts w (by decide +kernel)'), the script of L ints xs at the cell b, what the Statement gives of the start (any of its parts by flat_of_before) -/
def lw_At (p : Program) (s : State) (m : MethodId) (meth : Method) (c : Code) (b L : Nat) (xs : Nat → Int32) : Prop :=
  p.tables.exec = Jvm.exec ∧ c.code = code ∧ meth.sig.returnType = ret ∧ c.maxLocals = 12 ∧ s.vm.findClass R_law = some m.cls ∧ (∀ w ∈ lw_tbl, w.before #[Value.ref b] s = true) ∧ va_X b L xs s s.heap ∧ b < s.heap.size ∧ meth.locks = false ∧ (Jvm.Cond.and given_1 narrow_1).before #[Value.ref b] s = true
section GLR
variable {S : Type} {p : Program} {l : Launch} {e : Env} {s : State} {m : MethodId} {below : List Frame} {meth : Method} {c : Code} {D : va_G} {tys : List (ClassId × FieldType)} {own : String} {Ts : List Cond} {nL : Nat} {wf : S → va_W} {cells slots : Nat} {u : S} {pc b : Nat} {L : List (Nat × Value)}
theorem g_lawret (C : CX p s m #[.ref b] meth c D tys (fun q => s.heap.size ≤ q) own cL_law Ts nL wf) (hr : meth.sig.returnType = ret) (hc : cells ≤ 600104) (hs : slots ≤ 7301314) (hdg : decode cL_law pc = .ok (.ireturn, 1)) : G p l e room_1 s m #[.ref b] below meth c D (fun q => s.heap.size ≤ q) nL wf cells slots (lw_Z below #[.ref b] s) u pc L [.int 1] :=
  fun H locs ls hP hS hl => va_forget (fun q hq => hS.2.2 q hq) (W.widen hc hs (lw_ret C.1 C.2.1 hr C.2.2.2.2.2.2.2.2 hdg))
end GLR
end
section
/-! THE LAW's walk -/
theorem nI_mul (a b : Nat) : nI a * nI b = nI (a * b) := (Int32.ofNat_mul a b).symm
set_option maxHeartbeats 4000000 in
set_option maxRecDepth 100000 in
theorem law_512 {p : Program} {l : Launch} {e : Env} {s : State} {m : MethodId} {below : List Frame} {meth : Method} {c : Code} {D : va_G} {cI cZ cQ : ClassId} {a : Nat → Nat} {b L9 : Nat} {xs : Nat → Int32} (C : CX p s m #[.ref b] meth c D (tyX cI cZ cQ) (fun q => s.heap.size ≤ q) RL cL_law wsL_law 12 (wX cI cZ cQ a)) (hr : meth.sig.returnType = ret) (hXs : va_X b L9 xs s s.heap) (hbl : b < s.heap.size) (hL9 : L9 < 2 ^ 31) {c0 s0 : Nat} (hc0 : c0 ≤ 600104) (hs0 : s0 ≤ 7301314) {sn : Nat} (hs1 : 1 ≤ sn) (hs : sn ≤ 12) {j : Nat} (hj : j < 1000) {B : Int} (hB : B ≤ 1000000) {u : LU} (Iu : Inv sn B u) {n : Nat} (hn : (n : Int) < (u 0 12).toInt) (hW : 0 < (u 0 16).toInt) {v5 v6 : Int32} (fin : ∀ (u2 : LU) (w2 : Int32) (n2 : Nat), Inv sn (B + 40) u2 → (n2 : Int) < (u2 0 12).toInt → 0 < (u2 0 16).toInt → G p l e room_1 s m #[.ref b] below meth c D (fun q => s.heap.size ≤ q) 12 (wX cI cZ cQ a) c0 s0 (lw_Z below #[.ref b] s) u2 538 [(0, .ref (b)), (1, .ref (a 0)), (2, .int (nI sn)), (3, .int (nI j)), (5, .int w2), (8, .int (nI n2))] []) : G p l e room_1 s m #[.ref b] below meth c D (fun q => s.heap.size ≤ q) 12 (wX cI cZ cQ a) c0 s0 (lw_Z below #[.ref b] s) u 512 [(0, .ref (b)), (1, .ref (a 0)), (2, .int (nI sn)), (3, .int (nI j)), (5, .int v5), (6, .int v6), (7, .int (u 0 12)), (8, .int (nI n))] [] := by
  have Xu := Iu.1.ix hs
  have Lu := Iu.1.1.2.1
  have Wu := Iu.1.1.2.2.1
  refine g_aload_n (pc' := 513) (q := 1) C dL_law_512 rfl rfl rfl ?_
  refine g_iconst (pc' := 514) (v := 1) C dL_law_513 rfl (by decide) ?_
  refine g_iload (pc' := 516) (q := 4) C dL_law_514 rfl rfl ?_
  refine g_iload (pc' := 518) (q := 5) C dL_law_516 rfl rfl ?_
  refine g_bipush (pc' := 520) (v := 12) C dL_law_518 rfl (by decide) ?_
  refine g_icmp_ge (tgt := 528) (pc' := 523) C dL_law_520 rfl (by decide) (fun (c_1 : 12 ≤ (v6).toInt) => ?_) (fun (c_1 : ¬ (12 ≤ (v6).toInt)) => ?_)
  · skip
    refine g_bipush (pc' := 530) (v := 40) C dL_law_528 rfl (by decide) ?_
    refine g_calliS (pc' := 533) (As := [.int v5, .int 40]) (st := [.int 1, .ref (a 0)]) (cells' := c0) (slots' := s0) C (c_L_low u (v5) (40) (by first | decide | omega)) gL_law_L_low rfl (by decide +kernel) ⟨Nat.le_of_ble_eq_true rfl, Nat.le_of_ble_eq_true rfl⟩ (n := 2) rfl rfl (Nat.le_of_ble_eq_true rfl) dL_law_530 rfl rfl rfl ⟨hc0, hs0⟩ (fun r_2 u_2 h_3 => ?_)
    obtain ⟨qh_3, h_3⟩ := h_3
    refine g_st h_3 ?_
    have qh_3 : 0 ≤ r_2.toInt ∧ r_2.toInt < 40 := qh_3
    refine g_iadd (pc' := 534) C dL_law_533 rfl ?_
    have ar_2 : (1 + r_2).toInt = 1 + r_2.toInt := ti_add (x := 1) (y := r_2) (by show -2147483648 ≤ 1 + r_2.toInt; omega) (by show 1 + r_2.toInt < 2147483648; omega)
    refine g_calliV (pc' := 537) (As := [.int (1 + r_2)]) (st := []) (cells' := c0) (slots' := s0) C (L_advance u (1 + r_2) Iu hs hB ⟨by omega, by omega⟩) gL_law_X0_advance rfl (by decide +kernel) ⟨Nat.le_of_ble_eq_true rfl, Nat.le_of_ble_eq_true rfl⟩ 0 (by rfl) rfl (n := 1) rfl rfl (Nat.le_of_ble_eq_true rfl) dL_law_534 rfl rfl rfl ⟨hc0, hs0⟩ (fun r_4 u_4 h_5 => ?_)
    obtain ⟨Iux4, eux4, dux4⟩ := h_5
    have Xux4 := Iux4.1.ix hs
    have Lux4 := Iux4.1.1.2.1
    have Wux4 := Iux4.1.1.2.2.1
    have zux4 := congrArg Int32.toInt eux4
    have yux4 := congrArg Int32.toInt dux4
    refine g_pop (pc' := 538) C dL_law_537 rfl rfl ?_
    exact g_sub (L' := [(0, .ref (b)), (1, .ref (a 0)), (2, .int (nI sn)), (3, .int (nI j)), (5, .int v5), (8, .int (nI n))]) [0, 1, 2, 3, 4, 7] rfl (fin u_4 _ n (Iux4.up (by omega)) (by omega) (by omega))
  · skip
    refine g_bipush (pc' := 525) (v := 9) C dL_law_523 rfl (by decide) ?_
    refine g_goto (tgt := 530) C dL_law_525 (by decide) ?_
    refine g_calliS (pc' := 533) (As := [.int v5, .int 9]) (st := [.int 1, .ref (a 0)]) (cells' := c0) (slots' := s0) C (c_L_low u (v5) (9) (by first | decide | omega)) gL_law_L_low rfl (by decide +kernel) ⟨Nat.le_of_ble_eq_true rfl, Nat.le_of_ble_eq_true rfl⟩ (n := 2) rfl rfl (Nat.le_of_ble_eq_true rfl) dL_law_530 rfl rfl rfl ⟨hc0, hs0⟩ (fun r_6 u_6 h_7 => ?_)
    obtain ⟨qh_7, h_7⟩ := h_7
    refine g_st h_7 ?_
    have qh_7 : 0 ≤ r_6.toInt ∧ r_6.toInt < 9 := qh_7
    refine g_iadd (pc' := 534) C dL_law_533 rfl ?_
    have ar_6 : (1 + r_6).toInt = 1 + r_6.toInt := ti_add (x := 1) (y := r_6) (by show -2147483648 ≤ 1 + r_6.toInt; omega) (by show 1 + r_6.toInt < 2147483648; omega)
    refine g_calliV (pc' := 537) (As := [.int (1 + r_6)]) (st := []) (cells' := c0) (slots' := s0) C (L_advance u (1 + r_6) Iu hs hB ⟨by omega, by omega⟩) gL_law_X0_advance rfl (by decide +kernel) ⟨Nat.le_of_ble_eq_true rfl, Nat.le_of_ble_eq_true rfl⟩ 0 (by rfl) rfl (n := 1) rfl rfl (Nat.le_of_ble_eq_true rfl) dL_law_534 rfl rfl rfl ⟨hc0, hs0⟩ (fun r_8 u_8 h_9 => ?_)
    obtain ⟨Iux8, eux8, dux8⟩ := h_9
    have Xux8 := Iux8.1.ix hs
    have Lux8 := Iux8.1.1.2.1
    have Wux8 := Iux8.1.1.2.2.1
    have zux8 := congrArg Int32.toInt eux8
    have yux8 := congrArg Int32.toInt dux8
    refine g_pop (pc' := 538) C dL_law_537 rfl rfl ?_
    exact g_sub (L' := [(0, .ref (b)), (1, .ref (a 0)), (2, .int (nI sn)), (3, .int (nI j)), (5, .int v5), (8, .int (nI n))]) [0, 1, 2, 3, 4, 7] rfl (fin u_8 _ n (Iux8.up (by omega)) (by omega) (by omega))
set_option maxHeartbeats 4000000 in
set_option maxRecDepth 100000 in
theorem law_377 {p : Program} {l : Launch} {e : Env} {s : State} {m : MethodId} {below : List Frame} {meth : Method} {c : Code} {D : va_G} {cI cZ cQ : ClassId} {a : Nat → Nat} {b L9 : Nat} {xs : Nat → Int32} (C : CX p s m #[.ref b] meth c D (tyX cI cZ cQ) (fun q => s.heap.size ≤ q) RL cL_law wsL_law 12 (wX cI cZ cQ a)) (hr : meth.sig.returnType = ret) (hXs : va_X b L9 xs s s.heap) (hbl : b < s.heap.size) (hL9 : L9 < 2 ^ 31) {c0 s0 : Nat} (hc0 : c0 ≤ 600104) (hs0 : s0 ≤ 7301314) {sn : Nat} (hs1 : 1 ≤ sn) (hs : sn ≤ 12) {j : Nat} (hj : j < 1000) {B : Int} (hB : B ≤ 1000000) {u : LU} (Iu : Inv sn B u) {n : Nat} (hn : (n : Int) < (u 0 12).toInt) (hW : 0 < (u 0 16).toInt) {v5 v6 : Int32} (fin : ∀ (u2 : LU) (w2 : Int32) (n2 : Nat), Inv sn (B + 40) u2 → (n2 : Int) < (u2 0 12).toInt → 0 < (u2 0 16).toInt → G p l e room_1 s m #[.ref b] below meth c D (fun q => s.heap.size ≤ q) 12 (wX cI cZ cQ a) c0 s0 (lw_Z below #[.ref b] s) u2 538 [(0, .ref (b)), (1, .ref (a 0)), (2, .int (nI sn)), (3, .int (nI j)), (5, .int w2), (8, .int (nI n2))] []) : G p l e room_1 s m #[.ref b] below meth c D (fun q => s.heap.size ≤ q) 12 (wX cI cZ cQ a) c0 s0 (lw_Z below #[.ref b] s) u 377 [(0, .ref (b)), (1, .ref (a 0)), (2, .int (nI sn)), (3, .int (nI j)), (5, .int v5), (6, .int v6), (7, .int (u 0 12)), (8, .int (nI n))] [] := by
  have Xu := Iu.1.ix hs
  have Lu := Iu.1.1.2.1
  have Wu := Iu.1.1.2.2.1
  refine g_iload (pc' := 379) (q := 5) C dL_law_377 rfl rfl ?_
  refine g_bipush (pc' := 381) (v := 7) C dL_law_379 rfl (by decide) ?_
  refine g_icmp_ne (tgt := 430) (pc' := 384) C dL_law_381 rfl (by decide) (fun (c_1 : ¬ (v6).toInt = 7) => ?_) (fun (c_1 : (v6).toInt = 7) => ?_)
  · skip
    refine g_iload (pc' := 432) (q := 5) C dL_law_430 rfl rfl ?_
    refine g_bipush (pc' := 434) (v := 8) C dL_law_432 rfl (by decide) ?_
    refine g_icmp_ne (tgt := 512) (pc' := 437) C dL_law_434 rfl (by decide) (fun (c_2 : ¬ (v6).toInt = 8) => ?_) (fun (c_2 : (v6).toInt = 8) => ?_)
    · skip
      exact g_sub (L' := [(0, .ref (b)), (1, .ref (a 0)), (2, .int (nI sn)), (3, .int (nI j)), (5, .int v5), (6, .int v6), (7, .int (u 0 12)), (8, .int (nI n))]) [0, 1, 2, 3, 4, 5, 6, 7] rfl (law_512 C hr hXs hbl hL9 hc0 hs0 hs1 hs hj hB Iu hn hW fin)
    · skip
      refine g_aload_n (pc' := 438) (q := 1) C dL_law_437 rfl rfl rfl ?_
      refine g_iload (pc' := 440) (q := 7) C dL_law_438 rfl rfl ?_
      refine g_calliV (pc' := 443) (As := [.int (nI n)]) (st := []) (cells' := c0) (slots' := s0) C (q_state u n Xu (by omega)) gL_law_X0_state rfl (by decide +kernel) ⟨Nat.le_of_ble_eq_true rfl, Nat.le_of_ble_eq_true rfl⟩ 0 (by rfl) rfl (n := 1) rfl rfl (Nat.le_of_ble_eq_true rfl) dL_law_440 rfl rfl rfl ⟨hc0, hs0⟩ (fun r_3 u_3 h_4 => ?_)
      obtain ⟨rfl, h_4⟩ := h_4
      refine g_st h_4 ?_
      refine g_iconst (pc' := 444) (v := 2) C dL_law_443 rfl (by decide) ?_
      refine g_icmp_ge (tgt := 512) (pc' := 447) C dL_law_444 rfl (by decide) (fun (c_5 : 2 ≤ (u 6 n).toInt) => ?_) (fun (c_5 : ¬ (2 ≤ (u 6 n).toInt)) => ?_)
      · skip
        exact g_sub (L' := [(0, .ref (b)), (1, .ref (a 0)), (2, .int (nI sn)), (3, .int (nI j)), (5, .int v5), (6, .int v6), (7, .int (u 0 12)), (8, .int (nI n))]) [0, 1, 2, 3, 4, 5, 6, 7] rfl (law_512 C hr hXs hbl hL9 hc0 hs0 hs1 hs hj hB Iu hn hW fin)
      · skip
        refine g_aload_n (pc' := 448) (q := 1) C dL_law_447 rfl rfl rfl ?_
        refine g_iload (pc' := 450) (q := 7) C dL_law_448 rfl rfl ?_
        refine g_iconst (pc' := 451) (v := 1) C dL_law_450 rfl (by decide) ?_
        refine g_conv (show (1 : Int32) = bP (True) from (bP_t trivial).symm) ?_
        refine g_calliV (pc' := 454) (As := [.int (nI n), .int (bP (True))]) (st := []) (cells' := c0) (slots' := s0) C (L_hold u n (True) Iu hs (by omega) (by omega)) gL_law_X0_hold rfl (by decide +kernel) ⟨Nat.le_of_ble_eq_true rfl, Nat.le_of_ble_eq_true rfl⟩ 0 (by rfl) rfl (n := 2) rfl rfl (Nat.le_of_ble_eq_true rfl) dL_law_451 rfl rfl rfl ⟨hc0, hs0⟩ (fun r_6 u_6 h_7 => ?_)
        obtain ⟨rux6, Iux6, eux6, sux6, bux6⟩ := h_7
        have Xux6 := Iux6.1.ix hs
        have Lux6 := Iux6.1.1.2.1
        have Wux6 := Iux6.1.1.2.2.1
        have zux6 := congrArg Int32.toInt (congrFun eux6 12)
        have yux6 := congrArg Int32.toInt (congrFun eux6 16)
        have oux6 := congrArg Int32.toInt (congrFun sux6 n)
        refine g_istore (pc' := 456) (L' := [(9, .int r_6), (0, .ref (b)), (1, .ref (a 0)), (2, .int (nI sn)), (3, .int (nI j)), (5, .int v5), (6, .int v6), (7, .int (u 0 12)), (8, .int (nI n))]) C dL_law_454 rfl (by decide) rfl ?_
        refine g_aload_n (pc' := 457) (q := 2) C dL_law_456 rfl rfl rfl ?_
        refine g_iload (pc' := 459) (q := 8) C dL_law_457 rfl rfl ?_
        refine g_iload (pc' := 461) (q := 0) C dL_law_459 rfl rfl ?_
        refine g_if_ne (tgt := 476) (pc' := 464) C dL_law_461 rfl (by decide) (fun (c_8 : ¬ (r_6).toInt = 0) => ?_) (fun (c_8 : (r_6).toInt = 0) => ?_)
        · skip
          refine g_iconst (pc' := 477) (v := 1) C dL_law_476 rfl (by decide) ?_
          refine g_conv (show (1 : Int32) = bP (True) from (bP_t trivial).symm) ?_
          refine g_goto (tgt := 481) C dL_law_477 (by decide) ?_
          refine g_calliV (pc' := 484) (As := [.int (nI n), .int (bP (True))]) (st := []) (cells' := c0) (slots' := s0) C (L_hold u_6 n (True) Iux6 hs (by omega) (by omega)) gL_law_X0_hold rfl (by decide +kernel) ⟨Nat.le_of_ble_eq_true rfl, Nat.le_of_ble_eq_true rfl⟩ 0 (by rfl) rfl (n := 2) rfl rfl (Nat.le_of_ble_eq_true rfl) dL_law_481 rfl rfl rfl ⟨hc0, hs0⟩ (fun r_9 u_9 h_10 => ?_)
          obtain ⟨rux9, Iux9, eux9, sux9, bux9⟩ := h_10
          have Xux9 := Iux9.1.ix hs
          have Lux9 := Iux9.1.1.2.1
          have Wux9 := Iux9.1.1.2.2.1
          have zux9 := congrArg Int32.toInt (congrFun eux9 12)
          have yux9 := congrArg Int32.toInt (congrFun eux9 16)
          have oux9 := congrArg Int32.toInt (congrFun sux9 n)
          refine g_conv (show (r_9 : Int32) = 1 from rux9.trans (bux6.trans (bP_t trivial))) ?_
          refine g_if_ne (tgt := 489) (pc' := 487) C dL_law_484 rfl (by decide) (fun _ => ?_) (fun h => absurd h (by decide))
          refine g_iload (pc' := 491) (q := 5) C dL_law_489 rfl rfl ?_
          refine g_bipush (pc' := 493) (v := 8) C dL_law_491 rfl (by decide) ?_
          refine g_ishr (pc' := 494) C dL_law_493 rfl ?_
          refine g_iconst (pc' := 495) (v := 2) C dL_law_494 rfl (by decide) ?_
          refine g_calliS (pc' := 498) (As := [.int ((v5) >>> ((8) &&& 31)), .int 2]) (st := []) (cells' := c0) (slots' := s0) C (c_L_low u_9 ((v5) >>> ((8) &&& 31)) (2) (by first | decide | omega)) gL_law_L_low rfl (by decide +kernel) ⟨Nat.le_of_ble_eq_true rfl, Nat.le_of_ble_eq_true rfl⟩ (n := 2) rfl rfl (Nat.le_of_ble_eq_true rfl) dL_law_495 rfl rfl rfl ⟨hc0, hs0⟩ (fun r_11 u_11 h_12 => ?_)
          obtain ⟨qh_12, h_12⟩ := h_12
          refine g_st h_12 ?_
          have qh_12 : 0 ≤ r_11.toInt ∧ r_11.toInt < 2 := qh_12
          refine g_if_ne (tgt := 509) (pc' := 501) C dL_law_498 rfl (by decide) (fun (c_13 : ¬ (r_11).toInt = 0) => ?_) (fun (c_13 : (r_11).toInt = 0) => ?_)
          · skip
            refine g_goto (tgt := 538) C dL_law_509 (by decide) ?_
            exact g_sub (L' := [(0, .ref (b)), (1, .ref (a 0)), (2, .int (nI sn)), (3, .int (nI j)), (5, .int v5), (8, .int (nI n))]) [1, 2, 3, 4, 5, 8] rfl (fin u_9 _ n (Iux9.up (by omega)) (by omega) (by omega))
          · skip
            refine g_aload_n (pc' := 502) (q := 2) C dL_law_501 rfl rfl rfl ?_
            refine g_iload (pc' := 504) (q := 8) C dL_law_502 rfl rfl ?_
            refine g_iconst (pc' := 505) (v := 0) C dL_law_504 rfl (by decide) ?_
            refine g_conv (show (0 : Int32) = bP (False) from (bP_f (fun h => h)).symm) ?_
            refine g_calliV (pc' := 508) (As := [.int (nI n), .int (bP (False))]) (st := []) (cells' := c0) (slots' := s0) C (L_hold u_9 n (False) Iux9 hs (by omega) (by omega)) gL_law_X0_hold rfl (by decide +kernel) ⟨Nat.le_of_ble_eq_true rfl, Nat.le_of_ble_eq_true rfl⟩ 0 (by rfl) rfl (n := 2) rfl rfl (Nat.le_of_ble_eq_true rfl) dL_law_505 rfl rfl rfl ⟨hc0, hs0⟩ (fun r_14 u_14 h_15 => ?_)
            obtain ⟨rux14, Iux14, eux14, sux14, bux14⟩ := h_15
            have Xux14 := Iux14.1.ix hs
            have Lux14 := Iux14.1.1.2.1
            have Wux14 := Iux14.1.1.2.2.1
            have zux14 := congrArg Int32.toInt (congrFun eux14 12)
            have yux14 := congrArg Int32.toInt (congrFun eux14 16)
            have oux14 := congrArg Int32.toInt (congrFun sux14 n)
            refine g_pop (pc' := 509) C dL_law_508 rfl rfl ?_
            refine g_goto (tgt := 538) C dL_law_509 (by decide) ?_
            exact g_sub (L' := [(0, .ref (b)), (1, .ref (a 0)), (2, .int (nI sn)), (3, .int (nI j)), (5, .int v5), (8, .int (nI n))]) [1, 2, 3, 4, 5, 8] rfl (fin u_14 _ n (Iux14.up (by omega)) (by omega) (by omega))
        · skip
          refine g_iload (pc' := 466) (q := 5) C dL_law_464 rfl rfl ?_
          refine g_bipush (pc' := 468) (v := 6) C dL_law_466 rfl (by decide) ?_
          refine g_ishr (pc' := 469) C dL_law_468 rfl ?_
          refine g_iconst (pc' := 470) (v := 2) C dL_law_469 rfl (by decide) ?_
          refine g_calliS (pc' := 473) (As := [.int ((v5) >>> ((6) &&& 31)), .int 2]) (st := [.int (nI n), .ref (a 0)]) (cells' := c0) (slots' := s0) C (c_L_low u_6 ((v5) >>> ((6) &&& 31)) (2) (by first | decide | omega)) gL_law_L_low rfl (by decide +kernel) ⟨Nat.le_of_ble_eq_true rfl, Nat.le_of_ble_eq_true rfl⟩ (n := 2) rfl rfl (Nat.le_of_ble_eq_true rfl) dL_law_470 rfl rfl rfl ⟨hc0, hs0⟩ (fun r_16 u_16 h_17 => ?_)
          obtain ⟨qh_17, h_17⟩ := h_17
          refine g_st h_17 ?_
          have qh_17 : 0 ≤ r_16.toInt ∧ r_16.toInt < 2 := qh_17
          refine g_if_ne (tgt := 480) (pc' := 476) C dL_law_473 rfl (by decide) (fun (c_18 : ¬ (r_16).toInt = 0) => ?_) (fun (c_18 : (r_16).toInt = 0) => ?_)
          · skip
            refine g_iconst (pc' := 481) (v := 0) C dL_law_480 rfl (by decide) ?_
            refine g_conv (show (0 : Int32) = bP (False) from (bP_f (fun h => h)).symm) ?_
            refine g_calliV (pc' := 484) (As := [.int (nI n), .int (bP (False))]) (st := []) (cells' := c0) (slots' := s0) C (L_hold u_6 n (False) Iux6 hs (by omega) (by omega)) gL_law_X0_hold rfl (by decide +kernel) ⟨Nat.le_of_ble_eq_true rfl, Nat.le_of_ble_eq_true rfl⟩ 0 (by rfl) rfl (n := 2) rfl rfl (Nat.le_of_ble_eq_true rfl) dL_law_481 rfl rfl rfl ⟨hc0, hs0⟩ (fun r_19 u_19 h_20 => ?_)
            obtain ⟨rux19, Iux19, eux19, sux19, bux19⟩ := h_20
            have Xux19 := Iux19.1.ix hs
            have Lux19 := Iux19.1.1.2.1
            have Wux19 := Iux19.1.1.2.2.1
            have zux19 := congrArg Int32.toInt (congrFun eux19 12)
            have yux19 := congrArg Int32.toInt (congrFun eux19 16)
            have oux19 := congrArg Int32.toInt (congrFun sux19 n)
            refine g_conv (show (r_19 : Int32) = 1 from rux19.trans (bux6.trans (bP_t trivial))) ?_
            refine g_if_ne (tgt := 489) (pc' := 487) C dL_law_484 rfl (by decide) (fun _ => ?_) (fun h => absurd h (by decide))
            refine g_iload (pc' := 491) (q := 5) C dL_law_489 rfl rfl ?_
            refine g_bipush (pc' := 493) (v := 8) C dL_law_491 rfl (by decide) ?_
            refine g_ishr (pc' := 494) C dL_law_493 rfl ?_
            refine g_iconst (pc' := 495) (v := 2) C dL_law_494 rfl (by decide) ?_
            refine g_calliS (pc' := 498) (As := [.int ((v5) >>> ((8) &&& 31)), .int 2]) (st := []) (cells' := c0) (slots' := s0) C (c_L_low u_19 ((v5) >>> ((8) &&& 31)) (2) (by first | decide | omega)) gL_law_L_low rfl (by decide +kernel) ⟨Nat.le_of_ble_eq_true rfl, Nat.le_of_ble_eq_true rfl⟩ (n := 2) rfl rfl (Nat.le_of_ble_eq_true rfl) dL_law_495 rfl rfl rfl ⟨hc0, hs0⟩ (fun r_21 u_21 h_22 => ?_)
            obtain ⟨qh_22, h_22⟩ := h_22
            refine g_st h_22 ?_
            have qh_22 : 0 ≤ r_21.toInt ∧ r_21.toInt < 2 := qh_22
            refine g_if_ne (tgt := 509) (pc' := 501) C dL_law_498 rfl (by decide) (fun (c_23 : ¬ (r_21).toInt = 0) => ?_) (fun (c_23 : (r_21).toInt = 0) => ?_)
            · skip
              refine g_goto (tgt := 538) C dL_law_509 (by decide) ?_
              exact g_sub (L' := [(0, .ref (b)), (1, .ref (a 0)), (2, .int (nI sn)), (3, .int (nI j)), (5, .int v5), (8, .int (nI n))]) [1, 2, 3, 4, 5, 8] rfl (fin u_19 _ n (Iux19.up (by omega)) (by omega) (by omega))
            · skip
              refine g_aload_n (pc' := 502) (q := 2) C dL_law_501 rfl rfl rfl ?_
              refine g_iload (pc' := 504) (q := 8) C dL_law_502 rfl rfl ?_
              refine g_iconst (pc' := 505) (v := 0) C dL_law_504 rfl (by decide) ?_
              refine g_conv (show (0 : Int32) = bP (False) from (bP_f (fun h => h)).symm) ?_
              refine g_calliV (pc' := 508) (As := [.int (nI n), .int (bP (False))]) (st := []) (cells' := c0) (slots' := s0) C (L_hold u_19 n (False) Iux19 hs (by omega) (by omega)) gL_law_X0_hold rfl (by decide +kernel) ⟨Nat.le_of_ble_eq_true rfl, Nat.le_of_ble_eq_true rfl⟩ 0 (by rfl) rfl (n := 2) rfl rfl (Nat.le_of_ble_eq_true rfl) dL_law_505 rfl rfl rfl ⟨hc0, hs0⟩ (fun r_24 u_24 h_25 => ?_)
              obtain ⟨rux24, Iux24, eux24, sux24, bux24⟩ := h_25
              have Xux24 := Iux24.1.ix hs
              have Lux24 := Iux24.1.1.2.1
              have Wux24 := Iux24.1.1.2.2.1
              have zux24 := congrArg Int32.toInt (congrFun eux24 12)
              have yux24 := congrArg Int32.toInt (congrFun eux24 16)
              have oux24 := congrArg Int32.toInt (congrFun sux24 n)
              refine g_pop (pc' := 509) C dL_law_508 rfl rfl ?_
              refine g_goto (tgt := 538) C dL_law_509 (by decide) ?_
              exact g_sub (L' := [(0, .ref (b)), (1, .ref (a 0)), (2, .int (nI sn)), (3, .int (nI j)), (5, .int v5), (8, .int (nI n))]) [1, 2, 3, 4, 5, 8] rfl (fin u_24 _ n (Iux24.up (by omega)) (by omega) (by omega))
          · skip
            refine g_iconst (pc' := 477) (v := 1) C dL_law_476 rfl (by decide) ?_
            refine g_conv (show (1 : Int32) = bP (True) from (bP_t trivial).symm) ?_
            refine g_goto (tgt := 481) C dL_law_477 (by decide) ?_
            refine g_calliV (pc' := 484) (As := [.int (nI n), .int (bP (True))]) (st := []) (cells' := c0) (slots' := s0) C (L_hold u_6 n (True) Iux6 hs (by omega) (by omega)) gL_law_X0_hold rfl (by decide +kernel) ⟨Nat.le_of_ble_eq_true rfl, Nat.le_of_ble_eq_true rfl⟩ 0 (by rfl) rfl (n := 2) rfl rfl (Nat.le_of_ble_eq_true rfl) dL_law_481 rfl rfl rfl ⟨hc0, hs0⟩ (fun r_26 u_26 h_27 => ?_)
            obtain ⟨rux26, Iux26, eux26, sux26, bux26⟩ := h_27
            have Xux26 := Iux26.1.ix hs
            have Lux26 := Iux26.1.1.2.1
            have Wux26 := Iux26.1.1.2.2.1
            have zux26 := congrArg Int32.toInt (congrFun eux26 12)
            have yux26 := congrArg Int32.toInt (congrFun eux26 16)
            have oux26 := congrArg Int32.toInt (congrFun sux26 n)
            refine g_conv (show (r_26 : Int32) = 1 from rux26.trans (bux6.trans (bP_t trivial))) ?_
            refine g_if_ne (tgt := 489) (pc' := 487) C dL_law_484 rfl (by decide) (fun _ => ?_) (fun h => absurd h (by decide))
            refine g_iload (pc' := 491) (q := 5) C dL_law_489 rfl rfl ?_
            refine g_bipush (pc' := 493) (v := 8) C dL_law_491 rfl (by decide) ?_
            refine g_ishr (pc' := 494) C dL_law_493 rfl ?_
            refine g_iconst (pc' := 495) (v := 2) C dL_law_494 rfl (by decide) ?_
            refine g_calliS (pc' := 498) (As := [.int ((v5) >>> ((8) &&& 31)), .int 2]) (st := []) (cells' := c0) (slots' := s0) C (c_L_low u_26 ((v5) >>> ((8) &&& 31)) (2) (by first | decide | omega)) gL_law_L_low rfl (by decide +kernel) ⟨Nat.le_of_ble_eq_true rfl, Nat.le_of_ble_eq_true rfl⟩ (n := 2) rfl rfl (Nat.le_of_ble_eq_true rfl) dL_law_495 rfl rfl rfl ⟨hc0, hs0⟩ (fun r_28 u_28 h_29 => ?_)
            obtain ⟨qh_29, h_29⟩ := h_29
            refine g_st h_29 ?_
            have qh_29 : 0 ≤ r_28.toInt ∧ r_28.toInt < 2 := qh_29
            refine g_if_ne (tgt := 509) (pc' := 501) C dL_law_498 rfl (by decide) (fun (c_30 : ¬ (r_28).toInt = 0) => ?_) (fun (c_30 : (r_28).toInt = 0) => ?_)
            · skip
              refine g_goto (tgt := 538) C dL_law_509 (by decide) ?_
              exact g_sub (L' := [(0, .ref (b)), (1, .ref (a 0)), (2, .int (nI sn)), (3, .int (nI j)), (5, .int v5), (8, .int (nI n))]) [1, 2, 3, 4, 5, 8] rfl (fin u_26 _ n (Iux26.up (by omega)) (by omega) (by omega))
            · skip
              refine g_aload_n (pc' := 502) (q := 2) C dL_law_501 rfl rfl rfl ?_
              refine g_iload (pc' := 504) (q := 8) C dL_law_502 rfl rfl ?_
              refine g_iconst (pc' := 505) (v := 0) C dL_law_504 rfl (by decide) ?_
              refine g_conv (show (0 : Int32) = bP (False) from (bP_f (fun h => h)).symm) ?_
              refine g_calliV (pc' := 508) (As := [.int (nI n), .int (bP (False))]) (st := []) (cells' := c0) (slots' := s0) C (L_hold u_26 n (False) Iux26 hs (by omega) (by omega)) gL_law_X0_hold rfl (by decide +kernel) ⟨Nat.le_of_ble_eq_true rfl, Nat.le_of_ble_eq_true rfl⟩ 0 (by rfl) rfl (n := 2) rfl rfl (Nat.le_of_ble_eq_true rfl) dL_law_505 rfl rfl rfl ⟨hc0, hs0⟩ (fun r_31 u_31 h_32 => ?_)
              obtain ⟨rux31, Iux31, eux31, sux31, bux31⟩ := h_32
              have Xux31 := Iux31.1.ix hs
              have Lux31 := Iux31.1.1.2.1
              have Wux31 := Iux31.1.1.2.2.1
              have zux31 := congrArg Int32.toInt (congrFun eux31 12)
              have yux31 := congrArg Int32.toInt (congrFun eux31 16)
              have oux31 := congrArg Int32.toInt (congrFun sux31 n)
              refine g_pop (pc' := 509) C dL_law_508 rfl rfl ?_
              refine g_goto (tgt := 538) C dL_law_509 (by decide) ?_
              exact g_sub (L' := [(0, .ref (b)), (1, .ref (a 0)), (2, .int (nI sn)), (3, .int (nI j)), (5, .int v5), (8, .int (nI n))]) [1, 2, 3, 4, 5, 8] rfl (fin u_31 _ n (Iux31.up (by omega)) (by omega) (by omega))
  · skip
    refine g_iload (pc' := 386) (q := 4) C dL_law_384 rfl rfl ?_
    refine g_bipush (pc' := 388) (v := 6) C dL_law_386 rfl (by decide) ?_
    refine g_ishr (pc' := 389) C dL_law_388 rfl ?_
    refine g_aload_n (pc' := 390) (q := 1) C dL_law_389 rfl rfl rfl ?_
    refine g_calliV (pc' := 393) (As := []) (st := [.int ((v5) >>> ((6) &&& 31))]) (cells' := c0) (slots' := s0) C (c_X0_wafers u) gL_law_X0_wafers rfl (by decide +kernel) ⟨Nat.le_of_ble_eq_true rfl, Nat.le_of_ble_eq_true rfl⟩ 0 (by rfl) rfl (n := 0) rfl rfl (Nat.le_of_ble_eq_true rfl) dL_law_390 rfl rfl rfl ⟨hc0, hs0⟩ (fun r_33 u_33 h_34 => ?_)
    obtain ⟨rfl, h_34⟩ := h_34
    refine g_st h_34 ?_
    refine g_calliS (pc' := 396) (As := [.int ((v5) >>> ((6) &&& 31)), .int (u 0 16)]) (st := []) (cells' := c0) (slots' := s0) C (c_L_low u ((v5) >>> ((6) &&& 31)) (u 0 16) (by first | decide | omega)) gL_law_L_low rfl (by decide +kernel) ⟨Nat.le_of_ble_eq_true rfl, Nat.le_of_ble_eq_true rfl⟩ (n := 2) rfl rfl (Nat.le_of_ble_eq_true rfl) dL_law_393 rfl rfl rfl ⟨hc0, hs0⟩ (fun r_35 u_35 h_36 => ?_)
    obtain ⟨qh_36, h_36⟩ := h_36
    refine g_st h_36 ?_
    obtain ⟨w9, hw99, rfl⟩ := nI_of_ti (n := 60) qh_36.1 (by omega) (by decide)
    have tw99 : (nI w9).toInt = (w9 : Int) := nI_toInt (by omega)
    refine g_istore (pc' := 398) (L' := [(9, .int (nI w9)), (0, .ref (b)), (1, .ref (a 0)), (2, .int (nI sn)), (3, .int (nI j)), (5, .int v5), (6, .int v6), (7, .int (u 0 12)), (8, .int (nI n))]) C dL_law_396 rfl (by decide) rfl ?_
    refine g_aload_n (pc' := 399) (q := 2) C dL_law_398 rfl rfl rfl ?_
    refine g_iload (pc' := 401) (q := 0) C dL_law_399 rfl rfl ?_
    refine g_calliV (pc' := 404) (As := [.int (nI w9)]) (st := []) (cells' := c0) (slots' := s0) C (q_lotOf u w9 Xu (by omega)) gL_law_X0_lotOf rfl (by decide +kernel) ⟨Nat.le_of_ble_eq_true rfl, Nat.le_of_ble_eq_true rfl⟩ 0 (by rfl) rfl (n := 1) rfl rfl (Nat.le_of_ble_eq_true rfl) dL_law_401 rfl rfl rfl ⟨hc0, hs0⟩ (fun r_37 u_37 h_38 => ?_)
    obtain ⟨rfl, h_38⟩ := h_38
    refine g_st h_38 ?_
    refine g_if_lt (tgt := 427) (pc' := 407) C dL_law_404 rfl (by decide) (fun (c_39 : (u 14 w9).toInt < 0) => ?_) (fun (c_39 : ¬ ((u 14 w9).toInt < 0)) => ?_)
    · skip
      refine g_goto (tgt := 538) C dL_law_427 (by decide) ?_
      exact g_sub (L' := [(0, .ref (b)), (1, .ref (a 0)), (2, .int (nI sn)), (3, .int (nI j)), (5, .int v5), (8, .int (nI n))]) [1, 2, 3, 4, 5, 8] rfl (fin u _ n (Iu.up (by omega)) (by omega) (by omega))
    · obtain ⟨k1, hk1, hk2⟩ := (lot_of Iu (w := w9) (by omega)).resolve_left (by omega)
      refine g_aload_n (pc' := 408) (q := 2) C dL_law_407 rfl rfl rfl ?_
      refine g_aload_n (pc' := 409) (q := 2) C dL_law_408 rfl rfl rfl ?_
      refine g_iload (pc' := 411) (q := 0) C dL_law_409 rfl rfl ?_
      refine g_calliV (pc' := 414) (As := [.int (nI w9)]) (st := [.ref (a 0)]) (cells' := c0) (slots' := s0) C (q_lotOf u w9 Xu (by omega)) gL_law_X0_lotOf rfl (by decide +kernel) ⟨Nat.le_of_ble_eq_true rfl, Nat.le_of_ble_eq_true rfl⟩ 0 (by rfl) rfl (n := 1) rfl rfl (Nat.le_of_ble_eq_true rfl) dL_law_411 rfl rfl rfl ⟨hc0, hs0⟩ (fun r_40 u_40 h_41 => ?_)
      obtain ⟨rfl, h_41⟩ := h_41
      refine g_st h_41 ?_
      refine g_conv (show (u 14 w9 : Int32) = nI k1 from hk1) ?_
      refine g_calliV (pc' := 417) (As := [.int (nI k1)]) (st := []) (cells' := c0) (slots' := s0) C (q_state u k1 Xu (by omega)) gL_law_X0_state rfl (by decide +kernel) ⟨Nat.le_of_ble_eq_true rfl, Nat.le_of_ble_eq_true rfl⟩ 0 (by rfl) rfl (n := 1) rfl rfl (Nat.le_of_ble_eq_true rfl) dL_law_414 rfl rfl rfl ⟨hc0, hs0⟩ (fun r_42 u_42 h_43 => ?_)
      obtain ⟨rfl, h_43⟩ := h_43
      refine g_st h_43 ?_
      refine g_if_ne (tgt := 427) (pc' := 420) C dL_law_417 rfl (by decide) (fun (c_44 : ¬ (u 6 k1).toInt = 0) => ?_) (fun (c_44 : (u 6 k1).toInt = 0) => ?_)
      · skip
        refine g_goto (tgt := 538) C dL_law_427 (by decide) ?_
        exact g_sub (L' := [(0, .ref (b)), (1, .ref (a 0)), (2, .int (nI sn)), (3, .int (nI j)), (5, .int v5), (8, .int (nI n))]) [1, 2, 3, 4, 5, 8] rfl (fin u _ n (Iu.up (by omega)) (by omega) (by omega))
      · skip
        refine g_aload_n (pc' := 421) (q := 2) C dL_law_420 rfl rfl rfl ?_
        refine g_iload (pc' := 423) (q := 0) C dL_law_421 rfl rfl ?_
        refine g_calliV (pc' := 426) (As := [.int (nI w9)]) (st := []) (cells' := c0) (slots' := s0) C (L_scrap u w9 k1 Iu hs (by omega) hk1 hk2 (by omega)) gL_law_X0_scrap rfl (by decide +kernel) ⟨Nat.le_of_ble_eq_true rfl, Nat.le_of_ble_eq_true rfl⟩ 0 (by rfl) rfl (n := 1) rfl rfl (Nat.le_of_ble_eq_true rfl) dL_law_423 rfl rfl rfl ⟨hc0, hs0⟩ (fun r_45 u_45 h_46 => ?_)
        obtain ⟨Iux45, eux45⟩ := h_46
        have Xux45 := Iux45.1.ix hs
        have Lux45 := Iux45.1.1.2.1
        have Wux45 := Iux45.1.1.2.2.1
        have zux45 := congrArg Int32.toInt (congrFun eux45 12)
        have yux45 := congrArg Int32.toInt (congrFun eux45 16)
        refine g_pop (pc' := 427) C dL_law_426 rfl rfl ?_
        refine g_goto (tgt := 538) C dL_law_427 (by decide) ?_
        exact g_sub (L' := [(0, .ref (b)), (1, .ref (a 0)), (2, .int (nI sn)), (3, .int (nI j)), (5, .int v5), (8, .int (nI n))]) [1, 2, 3, 4, 5, 8] rfl (fin u_45 _ n (Iux45.up (by omega)) (by omega) (by omega))
set_option maxHeartbeats 4000000 in
set_option maxRecDepth 100000 in
theorem law_254 {p : Program} {l : Launch} {e : Env} {s : State} {m : MethodId} {below : List Frame} {meth : Method} {c : Code} {D : va_G} {cI cZ cQ : ClassId} {a : Nat → Nat} {b L9 : Nat} {xs : Nat → Int32} (C : CX p s m #[.ref b] meth c D (tyX cI cZ cQ) (fun q => s.heap.size ≤ q) RL cL_law wsL_law 12 (wX cI cZ cQ a)) (hr : meth.sig.returnType = ret) (hXs : va_X b L9 xs s s.heap) (hbl : b < s.heap.size) (hL9 : L9 < 2 ^ 31) {c0 s0 : Nat} (hc0 : c0 ≤ 600104) (hs0 : s0 ≤ 7301314) {sn : Nat} (hs1 : 1 ≤ sn) (hs : sn ≤ 12) {j : Nat} (hj : j < 1000) {B : Int} (hB : B ≤ 1000000) {u : LU} (Iu : Inv sn B u) {n : Nat} (hn : (n : Int) < (u 0 12).toInt) (hW : 0 < (u 0 16).toInt) {v5 v6 : Int32} (fin : ∀ (u2 : LU) (w2 : Int32) (n2 : Nat), Inv sn (B + 40) u2 → (n2 : Int) < (u2 0 12).toInt → 0 < (u2 0 16).toInt → G p l e room_1 s m #[.ref b] below meth c D (fun q => s.heap.size ≤ q) 12 (wX cI cZ cQ a) c0 s0 (lw_Z below #[.ref b] s) u2 538 [(0, .ref (b)), (1, .ref (a 0)), (2, .int (nI sn)), (3, .int (nI j)), (5, .int w2), (8, .int (nI n2))] []) : G p l e room_1 s m #[.ref b] below meth c D (fun q => s.heap.size ≤ q) 12 (wX cI cZ cQ a) c0 s0 (lw_Z below #[.ref b] s) u 254 [(0, .ref (b)), (1, .ref (a 0)), (2, .int (nI sn)), (3, .int (nI j)), (5, .int v5), (6, .int v6), (7, .int (u 0 12)), (8, .int (nI n))] [] := by
  have Xu := Iu.1.ix hs
  have Lu := Iu.1.1.2.1
  have Wu := Iu.1.1.2.2.1
  refine g_iload (pc' := 256) (q := 5) C dL_law_254 rfl rfl ?_
  refine g_bipush (pc' := 258) (v := 6) C dL_law_256 rfl (by decide) ?_
  refine g_icmp_ne (tgt := 377) (pc' := 261) C dL_law_258 rfl (by decide) (fun (c_1 : ¬ (v6).toInt = 6) => ?_) (fun (c_1 : (v6).toInt = 6) => ?_)
  · skip
    exact g_sub (L' := [(0, .ref (b)), (1, .ref (a 0)), (2, .int (nI sn)), (3, .int (nI j)), (5, .int v5), (6, .int v6), (7, .int (u 0 12)), (8, .int (nI n))]) [0, 1, 2, 3, 4, 5, 6, 7] rfl (law_377 C hr hXs hbl hL9 hc0 hs0 hs1 hs hj hB Iu hn hW fin)
  · skip
    refine g_aload_n (pc' := 262) (q := 1) C dL_law_261 rfl rfl rfl ?_
    refine g_iload (pc' := 264) (q := 7) C dL_law_262 rfl rfl ?_
    refine g_calliV (pc' := 267) (As := [.int (nI n)]) (st := []) (cells' := c0) (slots' := s0) C (q_size u n Xu (by omega)) gL_law_X0_size rfl (by decide +kernel) ⟨Nat.le_of_ble_eq_true rfl, Nat.le_of_ble_eq_true rfl⟩ 0 (by rfl) rfl (n := 1) rfl rfl (Nat.le_of_ble_eq_true rfl) dL_law_264 rfl rfl rfl ⟨hc0, hs0⟩ (fun r_2 u_2 h_3 => ?_)
    obtain ⟨rfl, h_3⟩ := h_3
    refine g_st h_3 ?_
    refine g_iconst (pc' := 268) (v := 1) C dL_law_267 rfl (by decide) ?_
    refine g_icmp_le (tgt := 377) (pc' := 271) C dL_law_268 rfl (by decide) (fun (c_4 : (u 12 n).toInt ≤ 1) => ?_) (fun (c_4 : ¬ ((u 12 n).toInt ≤ 1)) => ?_)
    · skip
      exact g_sub (L' := [(0, .ref (b)), (1, .ref (a 0)), (2, .int (nI sn)), (3, .int (nI j)), (5, .int v5), (6, .int v6), (7, .int (u 0 12)), (8, .int (nI n))]) [0, 1, 2, 3, 4, 5, 6, 7] rfl (law_377 C hr hXs hbl hL9 hc0 hs0 hs1 hs hj hB Iu hn hW fin)
    · skip
      refine g_aload_n (pc' := 272) (q := 1) C dL_law_271 rfl rfl rfl ?_
      refine g_iload (pc' := 274) (q := 7) C dL_law_272 rfl rfl ?_
      refine g_calliV (pc' := 277) (As := [.int (nI n)]) (st := []) (cells' := c0) (slots' := s0) C (q_state u n Xu (by omega)) gL_law_X0_state rfl (by decide +kernel) ⟨Nat.le_of_ble_eq_true rfl, Nat.le_of_ble_eq_true rfl⟩ 0 (by rfl) rfl (n := 1) rfl rfl (Nat.le_of_ble_eq_true rfl) dL_law_274 rfl rfl rfl ⟨hc0, hs0⟩ (fun r_5 u_5 h_6 => ?_)
      obtain ⟨rfl, h_6⟩ := h_6
      refine g_st h_6 ?_
      refine g_if_ne (tgt := 377) (pc' := 280) C dL_law_277 rfl (by decide) (fun (c_7 : ¬ (u 6 n).toInt = 0) => ?_) (fun (c_7 : (u 6 n).toInt = 0) => ?_)
      · skip
        exact g_sub (L' := [(0, .ref (b)), (1, .ref (a 0)), (2, .int (nI sn)), (3, .int (nI j)), (5, .int v5), (6, .int v6), (7, .int (u 0 12)), (8, .int (nI n))]) [0, 1, 2, 3, 4, 5, 6, 7] rfl (law_377 C hr hXs hbl hL9 hc0 hs0 hs1 hs hj hB Iu hn hW fin)
      · skip
        refine g_iload (pc' := 282) (q := 6) C dL_law_280 rfl rfl ?_
        refine g_bipush (pc' := 284) (v := 24) C dL_law_282 rfl (by decide) ?_
        refine g_icmp_ge (tgt := 377) (pc' := 287) C dL_law_284 rfl (by decide) (fun (c_8 : 24 ≤ (u 0 12).toInt) => ?_) (fun (c_8 : ¬ (24 ≤ (u 0 12).toInt)) => ?_)
        · skip
          exact g_sub (L' := [(0, .ref (b)), (1, .ref (a 0)), (2, .int (nI sn)), (3, .int (nI j)), (5, .int v5), (6, .int v6), (7, .int (u 0 12)), (8, .int (nI n))]) [0, 1, 2, 3, 4, 5, 6, 7] rfl (law_377 C hr hXs hbl hL9 hc0 hs0 hs1 hs hj hB Iu hn hW fin)
        · skip
          refine g_aload_n (pc' := 288) (q := 1) C dL_law_287 rfl rfl rfl ?_
          refine g_iload (pc' := 290) (q := 7) C dL_law_288 rfl rfl ?_
          refine g_calliV (pc' := 293) (As := [.int (nI n)]) (st := []) (cells' := c0) (slots' := s0) C (q_size u n Xu (by omega)) gL_law_X0_size rfl (by decide +kernel) ⟨Nat.le_of_ble_eq_true rfl, Nat.le_of_ble_eq_true rfl⟩ 0 (by rfl) rfl (n := 1) rfl rfl (Nat.le_of_ble_eq_true rfl) dL_law_290 rfl rfl rfl ⟨hc0, hs0⟩ (fun r_9 u_9 h_10 => ?_)
          obtain ⟨rfl, h_10⟩ := h_10
          refine g_st h_10 ?_
          refine g_istore (pc' := 295) (L' := [(9, .int (u 12 n)), (0, .ref (b)), (1, .ref (a 0)), (2, .int (nI sn)), (3, .int (nI j)), (5, .int v5), (6, .int v6), (7, .int (u 0 12)), (8, .int (nI n))]) C dL_law_293 rfl (by decide) rfl ?_
          have rg := ti_rng (u 12 n)
          refine g_iconst (pc' := 296) (v := 1) C dL_law_295 rfl (by decide) ?_
          refine g_iload (pc' := 298) (q := 5) C dL_law_296 rfl rfl ?_
          refine g_bipush (pc' := 300) (v := 6) C dL_law_298 rfl (by decide) ?_
          refine g_ishr (pc' := 301) C dL_law_300 rfl ?_
          refine g_iload (pc' := 303) (q := 0) C dL_law_301 rfl rfl ?_
          refine g_iconst (pc' := 304) (v := 1) C dL_law_303 rfl (by decide) ?_
          refine g_isub (pc' := 305) C dL_law_304 rfl ?_
          have tm : (u 12 n - 1).toInt = (u 12 n).toInt - 1 := ti_sub (x := u 12 n) (y := 1) (by show -2147483648 ≤ (u 12 n).toInt - 1; omega) (by show (u 12 n).toInt - 1 < 2147483648; omega)
          refine g_calliS (pc' := 308) (As := [.int ((v5) >>> ((6) &&& 31)), .int ((u 12 n) - 1)]) (st := [.int 1]) (cells' := c0) (slots' := s0) C (c_L_low u ((v5) >>> ((6) &&& 31)) ((u 12 n) - 1) (by first | decide | omega)) gL_law_L_low rfl (by decide +kernel) ⟨Nat.le_of_ble_eq_true rfl, Nat.le_of_ble_eq_true rfl⟩ (n := 2) rfl rfl (Nat.le_of_ble_eq_true rfl) dL_law_305 rfl rfl rfl ⟨hc0, hs0⟩ (fun r_11 u_11 h_12 => ?_)
          obtain ⟨qh_12, h_12⟩ := h_12
          refine g_st h_12 ?_
          refine g_iadd (pc' := 309) C dL_law_308 rfl ?_
          have ar_11 : (1 + r_11).toInt = 1 + r_11.toInt := ti_add (x := 1) (y := r_11) (by show -2147483648 ≤ 1 + r_11.toInt; omega) (by show 1 + r_11.toInt < 2147483648; omega)
          refine g_istore (pc' := 311) (L' := [(10, .int (1 + r_11)), (9, .int (u 12 n)), (0, .ref (b)), (1, .ref (a 0)), (2, .int (nI sn)), (3, .int (nI j)), (5, .int v5), (6, .int v6), (7, .int (u 0 12)), (8, .int (nI n))]) C dL_law_309 rfl (by decide) rfl ?_
          refine g_aload_n (pc' := 312) (q := 3) C dL_law_311 rfl rfl rfl ?_
          refine g_iload (pc' := 314) (q := 9) C dL_law_312 rfl rfl ?_
          refine g_iload (pc' := 316) (q := 0) C dL_law_314 rfl rfl ?_
          refine g_calliV (pc' := 319) (As := [.int (nI n), .int (1 + r_11)]) (st := []) (cells' := c0) (slots' := s0) C (L_split u n (1 + r_11) Iu hs (by omega) (by omega) (by omega) ⟨by omega, by omega⟩) gL_law_X0_split rfl (by decide +kernel) ⟨Nat.le_of_ble_eq_true rfl, Nat.le_of_ble_eq_true rfl⟩ 0 (by rfl) rfl (n := 2) rfl rfl (Nat.le_of_ble_eq_true rfl) dL_law_316 rfl rfl rfl ⟨hc0, hs0⟩ (fun r_13 u_13 h_14 => ?_)
          obtain ⟨k9, rfl, Iux13, f1, f2, f3, f4, f5, f6, f7⟩ := h_14
          have Xux13 := Iux13.1.ix hs
          have Lux13 := Iux13.1.1.2.1
          have Wux13 := Iux13.1.1.2.2.1
          have f8 := congrArg Int32.toInt f7
          have f9 := congrArg Int32.toInt f3
          refine g_istore (pc' := 321) (L' := [(11, .int (nI k9)), (10, .int (1 + r_11)), (9, .int (u 12 n)), (0, .ref (b)), (1, .ref (a 0)), (2, .int (nI sn)), (3, .int (nI j)), (5, .int v5), (6, .int v6), (7, .int (u 0 12)), (8, .int (nI n))]) C dL_law_319 rfl (by decide) rfl ?_
          refine g_aload_n (pc' := 322) (q := 4) C dL_law_321 rfl rfl rfl ?_
          refine g_iload (pc' := 324) (q := 0) C dL_law_322 rfl rfl ?_
          refine g_calliV (pc' := 327) (As := [.int (nI k9)]) (st := []) (cells' := c0) (slots' := s0) C (q_size u_13 k9 Xux13 (by omega)) gL_law_X0_size rfl (by decide +kernel) ⟨Nat.le_of_ble_eq_true rfl, Nat.le_of_ble_eq_true rfl⟩ 0 (by rfl) rfl (n := 1) rfl rfl (Nat.le_of_ble_eq_true rfl) dL_law_324 rfl rfl rfl ⟨hc0, hs0⟩ (fun r_15 u_15 h_16 => ?_)
          obtain ⟨rfl, h_16⟩ := h_16
          refine g_st h_16 ?_
          refine g_iload (pc' := 329) (q := 1) C dL_law_327 rfl rfl ?_
          refine g_icmp_ne (tgt := 372) (pc' := 332) C dL_law_329 rfl (by decide) (fun (c_17 : ¬ (u_13 12 k9).toInt = (1 + r_11).toInt) => ?_) (fun (c_17 : (u_13 12 k9).toInt = (1 + r_11).toInt) => ?_)
          · exact absurd (show False by omega) id
          · skip
            refine g_aload_n (pc' := 333) (q := 4) C dL_law_332 rfl rfl rfl ?_
            refine g_iload (pc' := 335) (q := 10) C dL_law_333 rfl rfl ?_
            refine g_calliV (pc' := 338) (As := [.int (nI n)]) (st := []) (cells' := c0) (slots' := s0) C (q_size u_13 n Xux13 (by omega)) gL_law_X0_size rfl (by decide +kernel) ⟨Nat.le_of_ble_eq_true rfl, Nat.le_of_ble_eq_true rfl⟩ 0 (by rfl) rfl (n := 1) rfl rfl (Nat.le_of_ble_eq_true rfl) dL_law_335 rfl rfl rfl ⟨hc0, hs0⟩ (fun r_18 u_18 h_19 => ?_)
            obtain ⟨rfl, h_19⟩ := h_19
            refine g_st h_19 ?_
            refine g_iload (pc' := 340) (q := 2) C dL_law_338 rfl rfl ?_
            refine g_iload (pc' := 342) (q := 1) C dL_law_340 rfl rfl ?_
            refine g_isub (pc' := 343) C dL_law_342 rfl ?_
            refine g_icmp_ne (tgt := 372) (pc' := 346) C dL_law_343 rfl (by decide) (fun (c_20 : ¬ (u_13 12 n).toInt = ((u 12 n) - (1 + r_11)).toInt) => ?_) (fun (c_20 : (u_13 12 n).toInt = ((u 12 n) - (1 + r_11)).toInt) => ?_)
            · exact absurd (show False by omega) id
            · skip
              refine g_aload_n (pc' := 347) (q := 4) C dL_law_346 rfl rfl rfl ?_
              refine g_iload (pc' := 349) (q := 0) C dL_law_347 rfl rfl ?_
              refine g_calliV (pc' := 352) (As := [.int (nI k9)]) (st := []) (cells' := c0) (slots' := s0) C (q_parentOf u_13 k9 Xux13 (by omega)) gL_law_X0_parentOf rfl (by decide +kernel) ⟨Nat.le_of_ble_eq_true rfl, Nat.le_of_ble_eq_true rfl⟩ 0 (by rfl) rfl (n := 1) rfl rfl (Nat.le_of_ble_eq_true rfl) dL_law_349 rfl rfl rfl ⟨hc0, hs0⟩ (fun r_21 u_21 h_22 => ?_)
              obtain ⟨rfl, h_22⟩ := h_22
              refine g_st h_22 ?_
              refine g_conv (show (u_13 11 k9 : Int32) = nI n from f6) ?_
              refine g_iload (pc' := 354) (q := 10) C dL_law_352 rfl rfl ?_
              have t_23 : (nI n).toInt = ((n : Nat) : Int) := nI_toInt (by omega)
              have t_24 : (nI n).toInt = ((n : Nat) : Int) := nI_toInt (by omega)
              refine g_icmp_ne (tgt := 372) (pc' := 357) C dL_law_354 rfl (by decide) (fun (c_25 : ¬ (nI n).toInt = (nI n).toInt) => ?_) (fun (c_25 : (nI n).toInt = (nI n).toInt) => ?_)
              · exact absurd (show False by omega) id
              · skip
                refine g_aload_n (pc' := 358) (q := 4) C dL_law_357 rfl rfl rfl ?_
                refine g_iload (pc' := 360) (q := 0) C dL_law_358 rfl rfl ?_
                refine g_calliV (pc' := 363) (As := [.int (nI k9)]) (st := []) (cells' := c0) (slots' := s0) C (q_slack u_13 k9 Xux13 (by omega)) gL_law_X0_slack rfl (by decide +kernel) ⟨Nat.le_of_ble_eq_true rfl, Nat.le_of_ble_eq_true rfl⟩ 0 (by rfl) rfl (n := 1) rfl rfl (Nat.le_of_ble_eq_true rfl) dL_law_360 rfl rfl rfl ⟨hc0, hs0⟩ (fun r_26 u_26 h_27 => ?_)
                obtain ⟨rfl, h_27⟩ := h_27
                refine g_st h_27 ?_
                refine g_aload_n (pc' := 364) (q := 4) C dL_law_363 rfl rfl rfl ?_
                refine g_iload (pc' := 366) (q := 10) C dL_law_364 rfl rfl ?_
                refine g_calliV (pc' := 369) (As := [.int (nI n)]) (st := [.int (slX u_13 k9)]) (cells' := c0) (slots' := s0) C (q_slack u_13 n Xux13 (by omega)) gL_law_X0_slack rfl (by decide +kernel) ⟨Nat.le_of_ble_eq_true rfl, Nat.le_of_ble_eq_true rfl⟩ 0 (by rfl) rfl (n := 1) rfl rfl (Nat.le_of_ble_eq_true rfl) dL_law_366 rfl rfl rfl ⟨hc0, hs0⟩ (fun r_28 u_28 h_29 => ?_)
                obtain ⟨rfl, h_29⟩ := h_29
                refine g_st h_29 ?_
                refine g_icmp_eq (tgt := 374) (pc' := 372) C dL_law_369 rfl (by decide) (fun (c_30 : (slX u_13 k9).toInt = (slX u_13 n).toInt) => ?_) (fun (c_30 : ¬ ((slX u_13 k9).toInt = (slX u_13 n).toInt)) => ?_)
                · skip
                  refine g_goto (tgt := 538) C dL_law_374 (by decide) ?_
                  exact g_sub (L' := [(0, .ref (b)), (1, .ref (a 0)), (2, .int (nI sn)), (3, .int (nI j)), (5, .int v5), (8, .int (nI n))]) [3, 4, 5, 6, 7, 10] rfl (fin u_13 _ n (Iux13.up (by omega)) (by omega) (by omega))
                · exact absurd (show False by omega) id
set_option maxHeartbeats 4000000 in
set_option maxRecDepth 100000 in
theorem law_212 {p : Program} {l : Launch} {e : Env} {s : State} {m : MethodId} {below : List Frame} {meth : Method} {c : Code} {D : va_G} {cI cZ cQ : ClassId} {a : Nat → Nat} {b L9 : Nat} {xs : Nat → Int32} (C : CX p s m #[.ref b] meth c D (tyX cI cZ cQ) (fun q => s.heap.size ≤ q) RL cL_law wsL_law 12 (wX cI cZ cQ a)) (hr : meth.sig.returnType = ret) (hXs : va_X b L9 xs s s.heap) (hbl : b < s.heap.size) (hL9 : L9 < 2 ^ 31) {c0 s0 : Nat} (hc0 : c0 ≤ 600104) (hs0 : s0 ≤ 7301314) {sn : Nat} (hs1 : 1 ≤ sn) (hs : sn ≤ 12) {j : Nat} (hj : j < 1000) {B : Int} (hB : B ≤ 1000000) {u : LU} (Iu : Inv sn B u) {n : Nat} (hn : (n : Int) < (u 0 12).toInt) (hW : 0 < (u 0 16).toInt) {v5 v6 : Int32} (fin : ∀ (u2 : LU) (w2 : Int32) (n2 : Nat), Inv sn (B + 40) u2 → (n2 : Int) < (u2 0 12).toInt → 0 < (u2 0 16).toInt → G p l e room_1 s m #[.ref b] below meth c D (fun q => s.heap.size ≤ q) 12 (wX cI cZ cQ a) c0 s0 (lw_Z below #[.ref b] s) u2 538 [(0, .ref (b)), (1, .ref (a 0)), (2, .int (nI sn)), (3, .int (nI j)), (5, .int w2), (8, .int (nI n2))] []) : G p l e room_1 s m #[.ref b] below meth c D (fun q => s.heap.size ≤ q) 12 (wX cI cZ cQ a) c0 s0 (lw_Z below #[.ref b] s) u 212 [(0, .ref (b)), (1, .ref (a 0)), (2, .int (nI sn)), (3, .int (nI j)), (5, .int v5), (6, .int v6), (7, .int (u 0 12)), (8, .int (nI n))] [] := by
  have Xu := Iu.1.ix hs
  have Lu := Iu.1.1.2.1
  have Wu := Iu.1.1.2.2.1
  refine g_iload (pc' := 214) (q := 5) C dL_law_212 rfl rfl ?_
  refine g_bipush (pc' := 216) (v := 6) C dL_law_214 rfl (by decide) ?_
  refine g_icmp_ge (tgt := 254) (pc' := 219) C dL_law_216 rfl (by decide) (fun (c_1 : 6 ≤ (v6).toInt) => ?_) (fun (c_1 : ¬ (6 ≤ (v6).toInt)) => ?_)
  · skip
    exact g_sub (L' := [(0, .ref (b)), (1, .ref (a 0)), (2, .int (nI sn)), (3, .int (nI j)), (5, .int v5), (6, .int v6), (7, .int (u 0 12)), (8, .int (nI n))]) [0, 1, 2, 3, 4, 5, 6, 7] rfl (law_254 C hr hXs hbl hL9 hc0 hs0 hs1 hs hj hB Iu hn hW fin)
  · skip
    refine g_aload_n (pc' := 220) (q := 1) C dL_law_219 rfl rfl rfl ?_
    refine g_iload (pc' := 222) (q := 4) C dL_law_220 rfl rfl ?_
    refine g_iconst (pc' := 223) (v := 3) C dL_law_222 rfl (by decide) ?_
    refine g_calliS (pc' := 226) (As := [.int v5, .int 3]) (st := [.ref (a 0)]) (cells' := c0) (slots' := s0) C (c_L_low u (v5) (3) (by first | decide | omega)) gL_law_L_low rfl (by decide +kernel) ⟨Nat.le_of_ble_eq_true rfl, Nat.le_of_ble_eq_true rfl⟩ (n := 2) rfl rfl (Nat.le_of_ble_eq_true rfl) dL_law_223 rfl rfl rfl ⟨hc0, hs0⟩ (fun r_2 u_2 h_3 => ?_)
    obtain ⟨qh_3, h_3⟩ := h_3
    refine g_st h_3 ?_
    have qh_3 : 0 ≤ r_2.toInt ∧ r_2.toInt < 3 := qh_3
    refine g_calliV (pc' := 229) (As := [.int r_2]) (st := []) (cells' := c0) (slots' := s0) C (L_nextFor u (r_2) Iu hs ⟨by omega, by omega⟩) gL_law_X0_nextFor rfl (by decide +kernel) ⟨Nat.le_of_ble_eq_true rfl, Nat.le_of_ble_eq_true rfl⟩ 0 (by rfl) rfl (n := 1) rfl rfl (Nat.le_of_ble_eq_true rfl) dL_law_226 rfl rfl rfl ⟨hc0, hs0⟩ (fun r_4 u_4 h_5 => ?_)
    obtain ⟨qh_5, h_5⟩ := h_5
    refine g_st h_5 ?_
    refine g_istore (pc' := 231) (L' := [(9, .int r_4), (0, .ref (b)), (1, .ref (a 0)), (2, .int (nI sn)), (3, .int (nI j)), (5, .int v5), (6, .int v6), (7, .int (u 0 12)), (8, .int (nI n))]) C dL_law_229 rfl (by decide) rfl ?_
    refine g_iload (pc' := 233) (q := 0) C dL_law_231 rfl rfl ?_
    refine g_if_lt (tgt := 251) (pc' := 236) C dL_law_233 rfl (by decide) (fun (c_6 : (r_4).toInt < 0) => ?_) (fun (c_6 : ¬ ((r_4).toInt < 0)) => ?_)
    · skip
      refine g_goto (tgt := 538) C dL_law_251 (by decide) ?_
      exact g_sub (L' := [(0, .ref (b)), (1, .ref (a 0)), (2, .int (nI sn)), (3, .int (nI j)), (5, .int v5), (8, .int (nI n))]) [1, 2, 3, 4, 5, 8] rfl (fin u _ n (Iu.up (by omega)) (by omega) (by omega))
    · skip
      obtain ⟨n1, e1, hn1, hst9⟩ := qh_5.resolve_left (by omega)
      refine g_aload_n (pc' := 237) (q := 2) C dL_law_236 rfl rfl rfl ?_
      refine g_iload (pc' := 239) (q := 0) C dL_law_237 rfl rfl ?_
      refine g_conv (show (r_4 : Int32) = nI n1 from e1) ?_
      refine g_calliV (pc' := 242) (As := [.int (nI n1)]) (st := []) (cells' := c0) (slots' := s0) C (L_start u n1 Iu hs hB (by omega) hst9) gL_law_X0_start rfl (by decide +kernel) ⟨Nat.le_of_ble_eq_true rfl, Nat.le_of_ble_eq_true rfl⟩ 0 (by rfl) rfl (n := 1) rfl rfl (Nat.le_of_ble_eq_true rfl) dL_law_239 rfl rfl rfl ⟨hc0, hs0⟩ (fun r_7 u_7 h_8 => ?_)
      obtain ⟨Iux7, eux7, gux7⟩ := h_8
      have Xux7 := Iux7.1.ix hs
      have Lux7 := Iux7.1.1.2.1
      have Wux7 := Iux7.1.1.2.2.1
      have zux7 := congrArg Int32.toInt (congrFun eux7 12)
      have yux7 := congrArg Int32.toInt (congrFun eux7 16)
      have xux7 := congrArg Int32.toInt (congrFun eux7 17)
      refine g_aload_n (pc' := 243) (q := 2) C dL_law_242 rfl rfl rfl ?_
      refine g_calliV (pc' := 246) (As := []) (st := [.int r_7]) (cells' := c0) (slots' := s0) C (c_X0_time u_7) gL_law_X0_time rfl (by decide +kernel) ⟨Nat.le_of_ble_eq_true rfl, Nat.le_of_ble_eq_true rfl⟩ 0 (by rfl) rfl (n := 0) rfl rfl (Nat.le_of_ble_eq_true rfl) dL_law_243 rfl rfl rfl ⟨hc0, hs0⟩ (fun r_9 u_9 h_10 => ?_)
      obtain ⟨rfl, h_10⟩ := h_10
      refine g_st h_10 ?_
      refine g_icmp_gt (tgt := 251) (pc' := 249) C dL_law_246 rfl (by decide) (fun (c_11 : (u_7 0 17).toInt < (r_7).toInt) => ?_) (fun (c_11 : ¬ ((u_7 0 17).toInt < (r_7).toInt)) => ?_)
      · skip
        refine g_goto (tgt := 538) C dL_law_251 (by decide) ?_
        exact g_sub (L' := [(0, .ref (b)), (1, .ref (a 0)), (2, .int (nI sn)), (3, .int (nI j)), (5, .int v5), (8, .int (nI n))]) [1, 2, 3, 4, 5, 8] rfl (fin u_7 _ n (Iux7.up (by omega)) (by omega) (by omega))
      · exact absurd (show False by omega) id
set_option maxHeartbeats 4000000 in
set_option maxRecDepth 100000 in
theorem law_195 {p : Program} {l : Launch} {e : Env} {s : State} {m : MethodId} {below : List Frame} {meth : Method} {c : Code} {D : va_G} {cI cZ cQ : ClassId} {a : Nat → Nat} {b L9 : Nat} {xs : Nat → Int32} (C : CX p s m #[.ref b] meth c D (tyX cI cZ cQ) (fun q => s.heap.size ≤ q) RL cL_law wsL_law 12 (wX cI cZ cQ a)) (hr : meth.sig.returnType = ret) (hXs : va_X b L9 xs s s.heap) (hbl : b < s.heap.size) (hL9 : L9 < 2 ^ 31) {c0 s0 : Nat} (hc0 : c0 ≤ 600104) (hs0 : s0 ≤ 7301314) {sn : Nat} (hs1 : 1 ≤ sn) (hs : sn ≤ 12) {j : Nat} (hj : j < 1000) {B : Int} (hB : B ≤ 1000000) {u : LU} (Iu : Inv sn B u) {n : Nat} (hn : (n : Int) < (u 0 12).toInt + 1) (hL : (u 0 12).toInt < 24) (hW : (u 0 16).toInt ≤ 47) {v5 v6 : Int32} (fin : ∀ (u2 : LU) (w2 : Int32) (n2 : Nat), Inv sn (B + 40) u2 → (n2 : Int) < (u2 0 12).toInt → 0 < (u2 0 16).toInt → G p l e room_1 s m #[.ref b] below meth c D (fun q => s.heap.size ≤ q) 12 (wX cI cZ cQ a) c0 s0 (lw_Z below #[.ref b] s) u2 538 [(0, .ref (b)), (1, .ref (a 0)), (2, .int (nI sn)), (3, .int (nI j)), (5, .int w2), (8, .int (nI n2))] []) : G p l e room_1 s m #[.ref b] below meth c D (fun q => s.heap.size ≤ q) 12 (wX cI cZ cQ a) c0 s0 (lw_Z below #[.ref b] s) u 195 [(0, .ref (b)), (1, .ref (a 0)), (2, .int (nI sn)), (3, .int (nI j)), (5, .int v5), (6, .int v6), (7, .int (u 0 12)), (8, .int (nI n))] [] := by
  have Xu := Iu.1.ix hs
  have Lu := Iu.1.1.2.1
  have Wu := Iu.1.1.2.2.1
  refine g_aload_n (pc' := 196) (q := 1) C dL_law_195 rfl rfl rfl ?_
  refine g_iconst (pc' := 197) (v := 1) C dL_law_196 rfl (by decide) ?_
  refine g_iload (pc' := 199) (q := 4) C dL_law_197 rfl rfl ?_
  refine g_bipush (pc' := 201) (v := 12) C dL_law_199 rfl (by decide) ?_
  refine g_calliS (pc' := 204) (As := [.int v5, .int 12]) (st := [.int 1, .ref (a 0)]) (cells' := c0) (slots' := s0) C (c_L_low u (v5) (12) (by first | decide | omega)) gL_law_L_low rfl (by decide +kernel) ⟨Nat.le_of_ble_eq_true rfl, Nat.le_of_ble_eq_true rfl⟩ (n := 2) rfl rfl (Nat.le_of_ble_eq_true rfl) dL_law_201 rfl rfl rfl ⟨hc0, hs0⟩ (fun r_1 u_1 h_2 => ?_)
  obtain ⟨qh_2, h_2⟩ := h_2
  refine g_st h_2 ?_
  have qh_2 : 0 ≤ r_1.toInt ∧ r_1.toInt < 12 := qh_2
  refine g_iadd (pc' := 205) C dL_law_204 rfl ?_
  have ar_1 : (1 + r_1).toInt = 1 + r_1.toInt := ti_add (x := 1) (y := r_1) (by show -2147483648 ≤ 1 + r_1.toInt; omega) (by show 1 + r_1.toInt < 2147483648; omega)
  obtain ⟨c9, hc9, e9⟩ := nI_of_ti (x := 1 + r_1) (n := 13) (by omega) (by omega) (by decide)
  have e99 : (1 + r_1).toInt = (c9 : Int) := by rw [e9]; exact nI_toInt (by omega)
  refine g_conv (show (1 + r_1 : Int32) = nI c9 from e9) ?_
  refine g_calliV (pc' := 208) (As := [.int (nI c9)]) (st := []) (cells' := c0) (slots' := s0) C (L_enter u c9 Iu hs1 hs (by omega) (by omega) (by omega)) gL_law_X0_enter rfl (by decide +kernel) ⟨Nat.le_of_ble_eq_true rfl, Nat.le_of_ble_eq_true rfl⟩ 0 (by rfl) rfl (n := 1) rfl rfl (Nat.le_of_ble_eq_true rfl) dL_law_205 rfl rfl rfl ⟨hc0, hs0⟩ (fun r_3 u_3 h_4 => ?_)
  obtain ⟨Iux3, dux3, wux3⟩ := h_4
  have Xux3 := Iux3.1.ix hs
  have Lux3 := Iux3.1.1.2.1
  have Wux3 := Iux3.1.1.2.2.1
  refine g_pop (pc' := 209) C dL_law_208 rfl rfl ?_
  refine g_goto (tgt := 538) C dL_law_209 (by decide) ?_
  exact g_sub (L' := [(0, .ref (b)), (1, .ref (a 0)), (2, .int (nI sn)), (3, .int (nI j)), (5, .int v5), (8, .int (nI n))]) [0, 1, 2, 3, 4, 7] rfl (fin u_3 _ n (Iux3.up (by omega)) (by omega) (by omega))
set_option maxHeartbeats 4000000 in
set_option maxRecDepth 100000 in
theorem law_111 {p : Program} {l : Launch} {e : Env} {s : State} {m : MethodId} {below : List Frame} {meth : Method} {c : Code} {D : va_G} {cI cZ cQ : ClassId} {a : Nat → Nat} {b L9 : Nat} {xs : Nat → Int32} (C : CX p s m #[.ref b] meth c D (tyX cI cZ cQ) (fun q => s.heap.size ≤ q) RL cL_law wsL_law 12 (wX cI cZ cQ a)) (hr : meth.sig.returnType = ret) (hXs : va_X b L9 xs s s.heap) (hbl : b < s.heap.size) (hL9 : L9 < 2 ^ 31) {c0 s0 : Nat} (hc0 : c0 ≤ 600104) (hs0 : s0 ≤ 7301314) {sn : Nat} (hs1 : 1 ≤ sn) (hs : sn ≤ 12) {j : Nat} (hj : j < 1000) {B : Int} (hB : B ≤ 1000000) {u : LU} (Iu : Inv sn B u) (hLW : (u 0 12).toInt = 0 ∨ 0 < (u 0 16).toInt) (fin : ∀ (u2 : LU) (w2 : Int32) (n2 : Nat), Inv sn (B + 40) u2 → (n2 : Int) < (u2 0 12).toInt → 0 < (u2 0 16).toInt → G p l e room_1 s m #[.ref b] below meth c D (fun q => s.heap.size ≤ q) 12 (wX cI cZ cQ a) c0 s0 (lw_Z below #[.ref b] s) u2 538 [(0, .ref (b)), (1, .ref (a 0)), (2, .int (nI sn)), (3, .int (nI j)), (5, .int w2), (8, .int (nI n2))] []) : G p l e room_1 s m #[.ref b] below meth c D (fun q => s.heap.size ≤ q) 12 (wX cI cZ cQ a) c0 s0 (lw_Z below #[.ref b] s) u 111 [(0, .ref (b)), (1, .ref (a 0)), (2, .int (nI sn)), (3, .int (nI j))] [] := by
  have Xu := Iu.1.ix hs
  have Lu := Iu.1.1.2.1
  have Wu := Iu.1.1.2.2.1
  refine g_aload_n (pc' := 112) (q := 0) C dL_law_111 rfl rfl rfl ?_
  refine g_bipush (pc' := 114) (v := 12) C dL_law_112 rfl (by decide) ?_
  refine g_iconst (pc' := 115) (v := 2) C dL_law_114 rfl (by decide) ?_
  refine g_iload_n (pc' := 116) (q := 3) C dL_law_115 rfl rfl rfl ?_
  refine g_imul (pc' := 117) C dL_law_116 rfl ?_
  refine g_conv (show (2 * (nI j) : Int32) = nI (2 * j) from nI_mul 2 j) ?_
  refine g_iadd (pc' := 118) C dL_law_117 rfl ?_
  refine g_conv (show (12 + (nI (2 * j)) : Int32) = nI (12 + 2 * j) from nI_add 12 (2 * j)) ?_
  refine g_callS (pc' := 121) (As := [.ref b, .int (nI (12 + 2 * j))]) (st := []) (cells' := c0) (slots' := s0) C hXs hbl (Nat.not_le.mpr hbl) (c_L_cell (nI (12 + 2 * j)) hL9 (by rw [nI_toInt (by omega)]; omega)) gL_law_L_cell rfl (by decide +kernel) ⟨Nat.le_of_ble_eq_true rfl, Nat.le_of_ble_eq_true rfl⟩ (n := 2) rfl rfl (Nat.le_of_ble_eq_true rfl) dL_law_118 rfl rfl rfl ⟨hc0, hs0⟩ (fun v_1 => ?_)
  refine g_istore (pc' := 123) (L' := [(4, .int v_1), (0, .ref (b)), (1, .ref (a 0)), (2, .int (nI sn)), (3, .int (nI j))]) C dL_law_121 rfl (by decide) rfl ?_
  refine g_aload_n (pc' := 124) (q := 1) C dL_law_123 rfl rfl rfl ?_
  refine g_bipush (pc' := 126) (v := 13) C dL_law_124 rfl (by decide) ?_
  refine g_iconst (pc' := 127) (v := 2) C dL_law_126 rfl (by decide) ?_
  refine g_iload_n (pc' := 128) (q := 4) C dL_law_127 rfl rfl rfl ?_
  refine g_imul (pc' := 129) C dL_law_128 rfl ?_
  refine g_conv (show (2 * (nI j) : Int32) = nI (2 * j) from nI_mul 2 j) ?_
  refine g_iadd (pc' := 130) C dL_law_129 rfl ?_
  refine g_conv (show (13 + (nI (2 * j)) : Int32) = nI (13 + 2 * j) from nI_add 13 (2 * j)) ?_
  refine g_callS (pc' := 133) (As := [.ref b, .int (nI (13 + 2 * j))]) (st := []) (cells' := c0) (slots' := s0) C hXs hbl (Nat.not_le.mpr hbl) (c_L_cell (nI (13 + 2 * j)) hL9 (by rw [nI_toInt (by omega)]; omega)) gL_law_L_cell rfl (by decide +kernel) ⟨Nat.le_of_ble_eq_true rfl, Nat.le_of_ble_eq_true rfl⟩ (n := 2) rfl rfl (Nat.le_of_ble_eq_true rfl) dL_law_130 rfl rfl rfl ⟨hc0, hs0⟩ (fun v_2 => ?_)
  refine g_istore (pc' := 135) (L' := [(5, .int v_2), (4, .int v_1), (0, .ref (b)), (1, .ref (a 0)), (2, .int (nI sn)), (3, .int (nI j))]) C dL_law_133 rfl (by decide) rfl ?_
  refine g_iload (pc' := 137) (q := 1) C dL_law_135 rfl rfl ?_
  refine g_bipush (pc' := 139) (v := 14) C dL_law_137 rfl (by decide) ?_
  refine g_calliS (pc' := 142) (As := [.int v_1, .int 14]) (st := []) (cells' := c0) (slots' := s0) C (c_L_low u (v_1) (14) (by first | decide | omega)) gL_law_L_low rfl (by decide +kernel) ⟨Nat.le_of_ble_eq_true rfl, Nat.le_of_ble_eq_true rfl⟩ (n := 2) rfl rfl (Nat.le_of_ble_eq_true rfl) dL_law_139 rfl rfl rfl ⟨hc0, hs0⟩ (fun r_3 u_3 h_4 => ?_)
  obtain ⟨qh_4, h_4⟩ := h_4
  refine g_st h_4 ?_
  have qh_4 : 0 ≤ r_3.toInt ∧ r_3.toInt < 14 := qh_4
  refine g_istore (pc' := 144) (L' := [(6, .int r_3), (5, .int v_2), (4, .int v_1), (0, .ref (b)), (1, .ref (a 0)), (2, .int (nI sn)), (3, .int (nI j))]) C dL_law_142 rfl (by decide) rfl ?_
  refine g_aload_n (pc' := 145) (q := 4) C dL_law_144 rfl rfl rfl ?_
  refine g_calliV (pc' := 148) (As := []) (st := []) (cells' := c0) (slots' := s0) C (c_X0_lots u) gL_law_X0_lots rfl (by decide +kernel) ⟨Nat.le_of_ble_eq_true rfl, Nat.le_of_ble_eq_true rfl⟩ 0 (by rfl) rfl (n := 0) rfl rfl (Nat.le_of_ble_eq_true rfl) dL_law_145 rfl rfl rfl ⟨hc0, hs0⟩ (fun r_5 u_5 h_6 => ?_)
  obtain ⟨rfl, h_6⟩ := h_6
  refine g_st h_6 ?_
  refine g_istore (pc' := 150) (L' := [(7, .int (u 0 12)), (6, .int r_3), (5, .int v_2), (4, .int v_1), (0, .ref (b)), (1, .ref (a 0)), (2, .int (nI sn)), (3, .int (nI j))]) C dL_law_148 rfl (by decide) rfl ?_
  refine g_iload (pc' := 152) (q := 0) C dL_law_150 rfl rfl ?_
  refine g_if_ne (tgt := 159) (pc' := 155) C dL_law_152 rfl (by decide) (fun (c_7 : ¬ (u 0 12).toInt = 0) => ?_) (fun (c_7 : (u 0 12).toInt = 0) => ?_)
  · skip
    refine g_iload (pc' := 161) (q := 2) C dL_law_159 rfl rfl ?_
    refine g_iload (pc' := 163) (q := 0) C dL_law_161 rfl rfl ?_
    refine g_calliS (pc' := 166) (As := [.int v_2, .int (u 0 12)]) (st := []) (cells' := c0) (slots' := s0) C (c_L_low u (v_2) (u 0 12) (by first | decide | omega)) gL_law_L_low rfl (by decide +kernel) ⟨Nat.le_of_ble_eq_true rfl, Nat.le_of_ble_eq_true rfl⟩ (n := 2) rfl rfl (Nat.le_of_ble_eq_true rfl) dL_law_163 rfl rfl rfl ⟨hc0, hs0⟩ (fun r_8 u_8 h_9 => ?_)
    obtain ⟨qh_9, h_9⟩ := h_9
    refine g_st h_9 ?_
    obtain ⟨n, hn9, rfl⟩ := nI_of_ti (n := 24) qh_9.1 (by omega) (by decide)
    have tn9 : (nI n).toInt = (n : Int) := nI_toInt (by omega)
    refine g_istore (pc' := 168) (L' := [(8, .int (nI n)), (7, .int (u 0 12)), (6, .int r_3), (5, .int v_2), (4, .int v_1), (0, .ref (b)), (1, .ref (a 0)), (2, .int (nI sn)), (3, .int (nI j))]) C dL_law_166 rfl (by decide) rfl ?_
    refine g_iload (pc' := 170) (q := 1) C dL_law_168 rfl rfl ?_
    refine g_if_eq (tgt := 195) (pc' := 173) C dL_law_170 rfl (by decide) (fun h9 => absurd h9 (by assumption)) (fun _ => ?_)
    refine g_iload (pc' := 175) (q := 2) C dL_law_173 rfl rfl ?_
    refine g_iconst (pc' := 176) (v := 2) C dL_law_175 rfl (by decide) ?_
    refine g_icmp_ge (tgt := 212) (pc' := 179) C dL_law_176 rfl (by decide) (fun (c_10 : 2 ≤ (r_3).toInt) => ?_) (fun (c_10 : ¬ (2 ≤ (r_3).toInt)) => ?_)
    · skip
      exact g_sub (L' := [(0, .ref (b)), (1, .ref (a 0)), (2, .int (nI sn)), (3, .int (nI j)), (5, .int v_2), (6, .int r_3), (7, .int (u 0 12)), (8, .int (nI n))]) [5, 6, 7, 8, 3, 2, 1, 0] rfl (law_212 C hr hXs hbl hL9 hc0 hs0 hs1 hs hj hB Iu (by omega) (by omega) fin)
    · skip
      refine g_iload (pc' := 181) (q := 1) C dL_law_179 rfl rfl ?_
      refine g_bipush (pc' := 183) (v := 20) C dL_law_181 rfl (by decide) ?_
      refine g_icmp_ge (tgt := 212) (pc' := 186) C dL_law_183 rfl (by decide) (fun (c_11 : 20 ≤ (u 0 12).toInt) => ?_) (fun (c_11 : ¬ (20 ≤ (u 0 12).toInt)) => ?_)
      · skip
        exact g_sub (L' := [(0, .ref (b)), (1, .ref (a 0)), (2, .int (nI sn)), (3, .int (nI j)), (5, .int v_2), (6, .int r_3), (7, .int (u 0 12)), (8, .int (nI n))]) [5, 6, 7, 8, 3, 2, 1, 0] rfl (law_212 C hr hXs hbl hL9 hc0 hs0 hs1 hs hj hB Iu (by omega) (by omega) fin)
      · skip
        refine g_aload_n (pc' := 187) (q := 6) C dL_law_186 rfl rfl rfl ?_
        refine g_calliV (pc' := 190) (As := []) (st := []) (cells' := c0) (slots' := s0) C (c_X0_wafers u) gL_law_X0_wafers rfl (by decide +kernel) ⟨Nat.le_of_ble_eq_true rfl, Nat.le_of_ble_eq_true rfl⟩ 0 (by rfl) rfl (n := 0) rfl rfl (Nat.le_of_ble_eq_true rfl) dL_law_187 rfl rfl rfl ⟨hc0, hs0⟩ (fun r_12 u_12 h_13 => ?_)
        obtain ⟨rfl, h_13⟩ := h_13
        refine g_st h_13 ?_
        refine g_bipush (pc' := 192) (v := 48) C dL_law_190 rfl (by decide) ?_
        refine g_icmp_ge (tgt := 212) (pc' := 195) C dL_law_192 rfl (by decide) (fun (c_14 : 48 ≤ (u 0 16).toInt) => ?_) (fun (c_14 : ¬ (48 ≤ (u 0 16).toInt)) => ?_)
        · skip
          exact g_sub (L' := [(0, .ref (b)), (1, .ref (a 0)), (2, .int (nI sn)), (3, .int (nI j)), (5, .int v_2), (6, .int r_3), (7, .int (u 0 12)), (8, .int (nI n))]) [5, 6, 7, 8, 3, 2, 1, 0] rfl (law_212 C hr hXs hbl hL9 hc0 hs0 hs1 hs hj hB Iu (by omega) (by omega) fin)
        · skip
          exact g_sub (L' := [(0, .ref (b)), (1, .ref (a 0)), (2, .int (nI sn)), (3, .int (nI j)), (5, .int v_2), (6, .int r_3), (7, .int (u 0 12)), (8, .int (nI n))]) [5, 6, 7, 8, 3, 2, 1, 0] rfl (law_195 C hr hXs hbl hL9 hc0 hs0 hs1 hs hj hB Iu (by omega) (by omega) (by omega) fin)
  · skip
    refine g_iconst (pc' := 156) (v := 0) C dL_law_155 rfl (by decide) ?_
    refine g_goto (tgt := 166) C dL_law_156 (by decide) ?_
    refine g_conv (show (0 : Int32) = nI 0 from rfl) ?_
    have nw := no_waf Iu (by assumption)
    refine g_istore (pc' := 168) (L' := [(8, .int (nI 0)), (7, .int (u 0 12)), (6, .int r_3), (5, .int v_2), (4, .int v_1), (0, .ref (b)), (1, .ref (a 0)), (2, .int (nI sn)), (3, .int (nI j))]) C dL_law_166 rfl (by decide) rfl ?_
    refine g_iload (pc' := 170) (q := 1) C dL_law_168 rfl rfl ?_
    refine g_if_eq (tgt := 195) (pc' := 173) C dL_law_170 rfl (by decide) (fun _ => ?_) (fun h9 => absurd (by assumption) h9)
    exact g_sub (L' := [(0, .ref (b)), (1, .ref (a 0)), (2, .int (nI sn)), (3, .int (nI j)), (5, .int v_2), (6, .int r_3), (7, .int (u 0 12)), (8, .int (nI 0))]) [5, 6, 7, 8, 3, 2, 1, 0] rfl (law_195 C hr hXs hbl hL9 hc0 hs0 hs1 hs hj hB Iu (by omega) (by omega) (by omega) fin)
set_option maxHeartbeats 4000000 in
set_option maxRecDepth 100000 in
theorem law_538 {p : Program} {l : Launch} {e : Env} {s : State} {m : MethodId} {below : List Frame} {meth : Method} {c : Code} {D : va_G} {cI cZ cQ : ClassId} {a : Nat → Nat} {b L9 : Nat} {xs : Nat → Int32} (C : CX p s m #[.ref b] meth c D (tyX cI cZ cQ) (fun q => s.heap.size ≤ q) RL cL_law wsL_law 12 (wX cI cZ cQ a)) (hr : meth.sig.returnType = ret) (hXs : va_X b L9 xs s s.heap) (hbl : b < s.heap.size) (hL9 : L9 < 2 ^ 31) {c0 s0 : Nat} (hc0 : c0 ≤ 600104) (hs0 : s0 ≤ 7301314) {sn : Nat} (hs1 : 1 ≤ sn) (hs : sn ≤ 12) {j : Nat} {B : Int} {u : LU} (Iu : Inv sn B u) {n : Nat} (hn : (n : Int) < (u 0 12).toInt) (hW : 0 < (u 0 16).toInt) {w2 : Int32} (next : G p l e room_1 s m #[.ref b] below meth c D (fun q => s.heap.size ≤ q) 12 (wX cI cZ cQ a) c0 s0 (lw_Z below #[.ref b] s) u 643 [(0, .ref (b)), (1, .ref (a 0)), (2, .int (nI sn)), (3, .int (nI j))] []) : G p l e room_1 s m #[.ref b] below meth c D (fun q => s.heap.size ≤ q) 12 (wX cI cZ cQ a) c0 s0 (lw_Z below #[.ref b] s) u 538 [(0, .ref (b)), (1, .ref (a 0)), (2, .int (nI sn)), (3, .int (nI j)), (5, .int w2), (8, .int (nI n))] [] := by
  have Xu := Iu.1.ix hs
  have Lu := Iu.1.1.2.1
  have Wu := Iu.1.1.2.2.1
  refine g_aload_n (pc' := 539) (q := 1) C dL_law_538 rfl rfl rfl ?_
  refine g_iload_n (pc' := 540) (q := 2) C dL_law_539 rfl rfl rfl ?_
  refine g_calliS (pc' := 543) (As := [.ref (a 0), .int (nI sn)]) (st := []) (cells' := c0) (slots' := s0) C (c_L_areSteps u Iu hs) gL_law_L_areSteps rfl (by decide +kernel) ⟨Nat.le_of_ble_eq_true rfl, Nat.le_of_ble_eq_true rfl⟩ (n := 2) rfl rfl (Nat.le_of_ble_eq_true rfl) dL_law_540 rfl rfl rfl ⟨hc0, hs0⟩ (fun r_1 u_1 h_2 => ?_)
  obtain ⟨rfl, h_2⟩ := h_2
  refine g_st h_2 ?_
  refine g_if_eq (tgt := 571) (pc' := 546) C dL_law_543 rfl (by decide) (fun h => absurd h (by decide)) (fun _ => ?_)
  refine g_aload_n (pc' := 547) (q := 1) C dL_law_546 rfl rfl rfl ?_
  refine g_iload (pc' := 549) (q := 5) C dL_law_547 rfl rfl ?_
  refine g_iload (pc' := 551) (q := 4) C dL_law_549 rfl rfl ?_
  refine g_bipush (pc' := 553) (v := 9) C dL_law_551 rfl (by decide) ?_
  refine g_ishr (pc' := 554) C dL_law_553 rfl ?_
  refine g_aload_n (pc' := 555) (q := 1) C dL_law_554 rfl rfl rfl ?_
  refine g_calliV (pc' := 558) (As := []) (st := [.int ((w2) >>> ((9) &&& 31)), .int (nI n), .ref (a 0)]) (cells' := c0) (slots' := s0) C (c_X0_lots u) gL_law_X0_lots rfl (by decide +kernel) ⟨Nat.le_of_ble_eq_true rfl, Nat.le_of_ble_eq_true rfl⟩ 0 (by rfl) rfl (n := 0) rfl rfl (Nat.le_of_ble_eq_true rfl) dL_law_555 rfl rfl rfl ⟨hc0, hs0⟩ (fun r_3 u_3 h_4 => ?_)
  obtain ⟨rfl, h_4⟩ := h_4
  refine g_st h_4 ?_
  refine g_calliS (pc' := 561) (As := [.int ((w2) >>> ((9) &&& 31)), .int (u 0 12)]) (st := [.int (nI n), .ref (a 0)]) (cells' := c0) (slots' := s0) C (c_L_low u ((w2) >>> ((9) &&& 31)) (u 0 12) (by first | decide | omega)) gL_law_L_low rfl (by decide +kernel) ⟨Nat.le_of_ble_eq_true rfl, Nat.le_of_ble_eq_true rfl⟩ (n := 2) rfl rfl (Nat.le_of_ble_eq_true rfl) dL_law_558 rfl rfl rfl ⟨hc0, hs0⟩ (fun r_5 u_5 h_6 => ?_)
  obtain ⟨qh_6, h_6⟩ := h_6
  refine g_st h_6 ?_
  obtain ⟨n9, hn99, rfl⟩ := nI_of_ti (n := 24) qh_6.1 (by omega) (by decide)
  have tn99 : (nI n9).toInt = (n9 : Int) := nI_toInt (by omega)
  refine g_calliS (pc' := 564) (As := [.ref (a 0), .int (nI n), .int (nI n9)]) (st := []) (cells' := c0) (slots' := s0) C (c_L_isCommon u n n9 Iu hs (by omega) (by omega)) gL_law_L_isCommon rfl (by decide +kernel) ⟨Nat.le_of_ble_eq_true rfl, Nat.le_of_ble_eq_true rfl⟩ (n := 3) rfl rfl (Nat.le_of_ble_eq_true rfl) dL_law_561 rfl rfl rfl ⟨hc0, hs0⟩ (fun r_7 u_7 h_8 => ?_)
  obtain ⟨rfl, h_8⟩ := h_8
  refine g_st h_8 ?_
  refine g_if_eq (tgt := 571) (pc' := 567) C dL_law_564 rfl (by decide) (fun h => absurd h (by decide)) (fun _ => ?_)
  refine g_iconst (pc' := 568) (v := 1) C dL_law_567 rfl (by decide) ?_
  refine g_goto (tgt := 572) C dL_law_568 (by decide) ?_
  refine g_istore (pc' := 574) (L' := [(9, .int 1), (0, .ref (b)), (1, .ref (a 0)), (2, .int (nI sn)), (3, .int (nI j)), (5, .int w2), (8, .int (nI n))]) C dL_law_572 rfl (by decide) rfl ?_
  refine g_iconst (pc' := 575) (v := 0) C dL_law_574 rfl (by decide) ?_
  refine g_istore (pc' := 577) (L' := [(10, .int 0), (9, .int 1), (0, .ref (b)), (1, .ref (a 0)), (2, .int (nI sn)), (3, .int (nI j)), (5, .int w2), (8, .int (nI n))]) C dL_law_575 rfl (by decide) rfl ?_
  have loop_577 : ∀ (k : Nat) (i : Nat), (i : Int) ≤ (u 0 12).toInt → (u 0 12).toInt + 1 ≤ i + k → G p l e room_1 s m #[.ref b] below meth c D (fun q => s.heap.size ≤ q) 12 (wX cI cZ cQ a) c0 s0 (lw_Z below #[.ref b] s) u 577 [(0, .ref (b)), (1, .ref (a 0)), (2, .int (nI sn)), (3, .int (nI j)), (5, .int w2), (8, .int (nI n)), (9, .int 1), (10, .int (nI i))] [] := by
    intro k
    induction k with
    | zero =>
      intro i hi hk
      omega
    | succ k ih_577 =>
      intro i hi hk
      refine g_iload (pc' := 579) (q := 7) C dL_law_577 rfl rfl ?_
      refine g_aload_n (pc' := 580) (q := 1) C dL_law_579 rfl rfl rfl ?_
      refine g_calliV (pc' := 583) (As := []) (st := [.int (nI i)]) (cells' := c0) (slots' := s0) C (c_X0_lots u) gL_law_X0_lots rfl (by decide +kernel) ⟨Nat.le_of_ble_eq_true rfl, Nat.le_of_ble_eq_true rfl⟩ 0 (by rfl) rfl (n := 0) rfl rfl (Nat.le_of_ble_eq_true rfl) dL_law_580 rfl rfl rfl ⟨hc0, hs0⟩ (fun r_9 u_9 h_10 => ?_)
      obtain ⟨rfl, h_10⟩ := h_10
      refine g_st h_10 ?_
      have t_11 : (nI i).toInt = ((i : Nat) : Int) := nI_toInt (by omega)
      refine g_icmp_ge (tgt := 605) (pc' := 586) C dL_law_583 rfl (by decide) (fun (c_12 : (u 0 12).toInt ≤ (nI i).toInt) => ?_) (fun (c_12 : ¬ ((u 0 12).toInt ≤ (nI i).toInt)) => ?_)
      · skip
        refine g_iconst (pc' := 606) (v := 0) C dL_law_605 rfl (by decide) ?_
        refine g_istore (pc' := 608) (L' := [(10, .int 0), (0, .ref (b)), (1, .ref (a 0)), (2, .int (nI sn)), (3, .int (nI j)), (5, .int w2), (8, .int (nI n)), (9, .int 1)]) C dL_law_606 rfl (by decide) rfl ?_
        have loop_608 : ∀ (k : Nat) (i : Nat), (i : Int) ≤ (u 0 16).toInt → (u 0 16).toInt + 1 ≤ i + k → G p l e room_1 s m #[.ref b] below meth c D (fun q => s.heap.size ≤ q) 12 (wX cI cZ cQ a) c0 s0 (lw_Z below #[.ref b] s) u 608 [(0, .ref (b)), (1, .ref (a 0)), (2, .int (nI sn)), (3, .int (nI j)), (5, .int w2), (8, .int (nI n)), (9, .int 1), (10, .int (nI i))] [] := by
          intro k
          induction k with
          | zero =>
            intro i hi hk
            omega
          | succ k ih_608 =>
            intro i hi hk
            refine g_iload (pc' := 610) (q := 7) C dL_law_608 rfl rfl ?_
            refine g_aload_n (pc' := 611) (q := 1) C dL_law_610 rfl rfl rfl ?_
            refine g_calliV (pc' := 614) (As := []) (st := [.int (nI i)]) (cells' := c0) (slots' := s0) C (c_X0_wafers u) gL_law_X0_wafers rfl (by decide +kernel) ⟨Nat.le_of_ble_eq_true rfl, Nat.le_of_ble_eq_true rfl⟩ 0 (by rfl) rfl (n := 0) rfl rfl (Nat.le_of_ble_eq_true rfl) dL_law_611 rfl rfl rfl ⟨hc0, hs0⟩ (fun r_13 u_13 h_14 => ?_)
            obtain ⟨rfl, h_14⟩ := h_14
            refine g_st h_14 ?_
            have t_15 : (nI i).toInt = ((i : Nat) : Int) := nI_toInt (by omega)
            refine g_icmp_ge (tgt := 636) (pc' := 617) C dL_law_614 rfl (by decide) (fun (c_16 : (u 0 16).toInt ≤ (nI i).toInt) => ?_) (fun (c_16 : ¬ ((u 0 16).toInt ≤ (nI i).toInt)) => ?_)
            · skip
              refine g_iload (pc' := 638) (q := 6) C dL_law_636 rfl rfl ?_
              refine g_if_ne (tgt := 643) (pc' := 641) C dL_law_638 rfl (by decide) (fun _ => ?_) (fun h => absurd h (by decide))
              exact g_sub (L' := [(0, .ref (b)), (1, .ref (a 0)), (2, .int (nI sn)), (3, .int (nI j))]) [0, 1, 2, 3] rfl next
            · skip
              refine g_iload (pc' := 619) (q := 6) C dL_law_617 rfl rfl ?_
              refine g_if_eq (tgt := 636) (pc' := 622) C dL_law_619 rfl (by decide) (fun h => absurd h (by decide)) (fun _ => ?_)
              refine g_aload_n (pc' := 623) (q := 1) C dL_law_622 rfl rfl rfl ?_
              refine g_iload (pc' := 625) (q := 7) C dL_law_623 rfl rfl ?_
              refine g_calliS (pc' := 628) (As := [.ref (a 0), .int (nI i)]) (st := []) (cells' := c0) (slots' := s0) C (c_L_isWafer u i Iu hs (by omega)) gL_law_L_isWafer rfl (by decide +kernel) ⟨Nat.le_of_ble_eq_true rfl, Nat.le_of_ble_eq_true rfl⟩ (n := 2) rfl rfl (Nat.le_of_ble_eq_true rfl) dL_law_625 rfl rfl rfl ⟨hc0, hs0⟩ (fun r_17 u_17 h_18 => ?_)
              obtain ⟨rfl, h_18⟩ := h_18
              refine g_st h_18 ?_
              refine g_istore (pc' := 630) (L' := [(9, .int 1), (0, .ref (b)), (1, .ref (a 0)), (2, .int (nI sn)), (3, .int (nI j)), (5, .int w2), (8, .int (nI n)), (10, .int (nI i))]) C dL_law_628 rfl (by decide) rfl ?_
              refine g_iinc (pc' := 633) (v := nI (i + 1)) (L' := [(10, .int (nI (i + 1))), (9, .int 1), (0, .ref (b)), (1, .ref (a 0)), (2, .int (nI sn)), (3, .int (nI j)), (5, .int w2), (8, .int (nI n))]) C dL_law_630 rfl (k := 7) rfl (nI_1 _) (by decide) rfl ?_
              refine g_goto (tgt := 608) C dL_law_633 (by decide) ?_
              refine g_sub (L' := [(0, .ref (b)), (1, .ref (a 0)), (2, .int (nI sn)), (3, .int (nI j)), (5, .int w2), (8, .int (nI n)), (9, .int 1), (10, .int (nI (i + 1)))]) [2, 3, 4, 5, 6, 7, 1, 0] rfl ?_
              exact ih_608 (i + 1) (by omega) (by omega)
        refine g_sub (L' := [(0, .ref (b)), (1, .ref (a 0)), (2, .int (nI sn)), (3, .int (nI j)), (5, .int w2), (8, .int (nI n)), (9, .int 1), (10, .int (nI 0))]) [1, 2, 3, 4, 5, 6, 7, 0] rfl ?_
        exact loop_608 61 0 (by omega) (by omega)
      · skip
        refine g_iload (pc' := 588) (q := 6) C dL_law_586 rfl rfl ?_
        refine g_if_eq (tgt := 605) (pc' := 591) C dL_law_588 rfl (by decide) (fun h => absurd h (by decide)) (fun _ => ?_)
        refine g_aload_n (pc' := 592) (q := 1) C dL_law_591 rfl rfl rfl ?_
        refine g_iload (pc' := 594) (q := 7) C dL_law_592 rfl rfl ?_
        refine g_calliS (pc' := 597) (As := [.ref (a 0), .int (nI i)]) (st := []) (cells' := c0) (slots' := s0) C (c_L_isLot u i Iu hs (by omega)) gL_law_L_isLot rfl (by decide +kernel) ⟨Nat.le_of_ble_eq_true rfl, Nat.le_of_ble_eq_true rfl⟩ (n := 2) rfl rfl (Nat.le_of_ble_eq_true rfl) dL_law_594 rfl rfl rfl ⟨hc0, hs0⟩ (fun r_19 u_19 h_20 => ?_)
        obtain ⟨rfl, h_20⟩ := h_20
        refine g_st h_20 ?_
        refine g_istore (pc' := 599) (L' := [(9, .int 1), (0, .ref (b)), (1, .ref (a 0)), (2, .int (nI sn)), (3, .int (nI j)), (5, .int w2), (8, .int (nI n)), (10, .int (nI i))]) C dL_law_597 rfl (by decide) rfl ?_
        refine g_iinc (pc' := 602) (v := nI (i + 1)) (L' := [(10, .int (nI (i + 1))), (9, .int 1), (0, .ref (b)), (1, .ref (a 0)), (2, .int (nI sn)), (3, .int (nI j)), (5, .int w2), (8, .int (nI n))]) C dL_law_599 rfl (k := 7) rfl (nI_1 _) (by decide) rfl ?_
        refine g_goto (tgt := 577) C dL_law_602 (by decide) ?_
        refine g_sub (L' := [(0, .ref (b)), (1, .ref (a 0)), (2, .int (nI sn)), (3, .int (nI j)), (5, .int w2), (8, .int (nI n)), (9, .int 1), (10, .int (nI (i + 1)))]) [2, 3, 4, 5, 6, 7, 1, 0] rfl ?_
        exact ih_577 (i + 1) (by omega) (by omega)
  refine g_sub (L' := [(0, .ref (b)), (1, .ref (a 0)), (2, .int (nI sn)), (3, .int (nI j)), (5, .int w2), (8, .int (nI n)), (9, .int 1), (10, .int (nI 0))]) [2, 3, 4, 5, 6, 7, 1, 0] rfl ?_
  exact loop_577 25 0 (by omega) (by omega)
set_option maxHeartbeats 4000000 in
set_option maxRecDepth 100000 in
theorem law_turns {p : Program} {l : Launch} {e : Env} {s : State} {m : MethodId} {below : List Frame} {meth : Method} {c : Code} {D : va_G} {cI cZ cQ : ClassId} {a : Nat → Nat} {b L9 : Nat} {xs : Nat → Int32} (C : CX p s m #[.ref b] meth c D (tyX cI cZ cQ) (fun q => s.heap.size ≤ q) RL cL_law wsL_law 12 (wX cI cZ cQ a)) (hr : meth.sig.returnType = ret) (hXs : va_X b L9 xs s s.heap) (hbl : b < s.heap.size) (hL9 : L9 < 2 ^ 31) {c0 s0 : Nat} (hc0 : c0 ≤ 600104) (hs0 : s0 ≤ 7301314) {sn : Nat} (hs1 : 1 ≤ sn) (hs : sn ≤ 12) : ∀ (k j : Nat) (u : LU), j ≤ 70 → 71 ≤ j + k → Inv sn (40 * (j : Int)) u → ((u 0 12).toInt = 0 ∨ 0 < (u 0 16).toInt) → G p l e room_1 s m #[.ref b] below meth c D (fun q => s.heap.size ≤ q) 12 (wX cI cZ cQ a) c0 s0 (lw_Z below #[.ref b] s) u 105 [(0, .ref (b)), (1, .ref (a 0)), (2, .int (nI sn)), (3, .int (nI j))] [] := by
  intro k
  induction k with
  | zero =>
    intro j u h1 h2
    omega
  | succ k ih =>
    intro j u h1 h2 Iu hLW
    have tj : (nI j).toInt = (j : Int) := nI_toInt (by omega)
    refine g_iload_n (pc' := 106) (q := 3) C dL_law_105 rfl rfl rfl ?_
    refine g_bipush (pc' := 108) (v := 70) C dL_law_106 rfl (by decide) ?_
    refine g_icmp_ge (tgt := 649) (pc' := 111) C dL_law_108 rfl (by decide) (fun _ => ?_) (fun (c1 : ¬ 70 ≤ (nI j).toInt) => ?_)
    · refine g_iconst (pc' := 650) (v := 1) C dL_law_649 rfl (by decide) ?_
      exact g_lawret C hr hc0 hs0 dL_law_650
    · refine law_111 C hr hXs hbl hL9 hc0 hs0 hs1 hs (by omega) (by omega) Iu hLW (fun u2 w2 n2 I2 h3 h4 => law_538 C hr hXs hbl hL9 hc0 hs0 hs1 hs I2 h3 h4 ?_)
      refine g_iinc (pc' := 646) (v := nI (j + 1)) (L' := [(3, .int (nI (j + 1))), (0, .ref b), (1, .ref (a 0)), (2, .int (nI sn))]) C dL_law_643 rfl (k := 3) rfl (nI_1 j) (by decide) rfl ?_
      refine g_goto (tgt := 105) C dL_law_646 (by decide) ?_
      refine g_sub (L' := [(0, .ref b), (1, .ref (a 0)), (2, .int (nI sn)), (3, .int (nI (j + 1)))]) [1, 2, 3, 0] rfl ?_
      exact ih (j + 1) u2 (by omega) (by omega) (I2.up (by omega)) (Or.inr h4)
set_option maxHeartbeats 4000000 in
set_option maxRecDepth 100000 in
theorem law_step {p : Program} {l : Launch} {e : Env} {s : State} {m : MethodId} {below : List Frame} {meth : Method} {c : Code} {D : va_G} {cI cZ cQ : ClassId} {a : Nat → Nat} {b L9 : Nat} {xs : Nat → Int32} (C : CX p s m #[.ref b] meth c D (tyX cI cZ cQ) (fun q => s.heap.size ≤ q) RL cL_law wsL_law 12 (wX cI cZ cQ a)) (hr : meth.sig.returnType = ret) (hXs : va_X b L9 xs s s.heap) (hbl : b < s.heap.size) (hL9 : L9 < 2 ^ 31) {c0 s0 : Nat} (hc0 : c0 ≤ 600104) (hs0 : s0 ≤ 7301314) {sn : Nat} (hs1 : 1 ≤ sn) (hs : sn ≤ 12) {t : Nat} (ht : t < sn) {u : LU} (hJ : JV t 0 u) (h12 : u 0 12 = 0) (h16 : u 0 16 = 0) (next : ∀ u2 : LU, JV (t + 1) 0 u2 → u2 0 12 = 0 → u2 0 16 = 0 → G p l e room_1 s m #[.ref b] below meth c D (fun q => s.heap.size ≤ q) 12 (wX cI cZ cQ a) c0 s0 (lw_Z below #[.ref b] s) u2 97 [(0, .ref (b)), (1, .ref (a 0)), (2, .int (nI sn)), (3, .int (nI t))] []) : G p l e room_1 s m #[.ref b] below meth c D (fun q => s.heap.size ≤ q) 12 (wX cI cZ cQ a) c0 s0 (lw_Z below #[.ref b] s) u 27 [(0, .ref (b)), (1, .ref (a 0)), (2, .int (nI sn)), (3, .int (nI t))] [] := by
  have tt : (nI (t + 1)).toInt = ((t + 1 : Nat) : Int) := nI_toInt (by omega)
  refine g_aload_n (pc' := 28) (q := 0) C dL_law_27 rfl rfl rfl ?_
  refine g_iconst (pc' := 29) (v := 1) C dL_law_28 rfl (by decide) ?_
  refine g_iload_n (pc' := 30) (q := 3) C dL_law_29 rfl rfl rfl ?_
  refine g_iadd (pc' := 31) C dL_law_30 rfl ?_
  refine g_conv (show (1 + (nI t) : Int32) = nI (1 + t) from nI_add 1 t) ?_
  refine g_callS (pc' := 34) (As := [.ref b, .int (nI (1 + t))]) (st := []) (cells' := c0) (slots' := s0) C hXs hbl (Nat.not_le.mpr hbl) (c_L_cell (nI (1 + t)) hL9 (by rw [nI_toInt (by omega)]; omega)) gL_law_L_cell rfl (by decide +kernel) ⟨Nat.le_of_ble_eq_true rfl, Nat.le_of_ble_eq_true rfl⟩ (n := 2) rfl rfl (Nat.le_of_ble_eq_true rfl) dL_law_31 rfl rfl rfl ⟨hc0, hs0⟩ (fun v_1 => ?_)
  refine g_istore (pc' := 36) (L' := [(4, .int v_1), (0, .ref (b)), (1, .ref (a 0)), (2, .int (nI sn)), (3, .int (nI t))]) C dL_law_34 rfl (by decide) rfl ?_
  refine g_aload_n (pc' := 37) (q := 2) C dL_law_36 rfl rfl rfl ?_
  refine g_iload (pc' := 39) (q := 0) C dL_law_37 rfl rfl ?_
  refine g_iconst (pc' := 40) (v := 3) C dL_law_39 rfl (by decide) ?_
  refine g_calliS (pc' := 43) (As := [.int v_1, .int 3]) (st := [.ref (a 0)]) (cells' := c0) (slots' := s0) C (c_L_low u (v_1) (3) (by first | decide | omega)) gL_law_L_low rfl (by decide +kernel) ⟨Nat.le_of_ble_eq_true rfl, Nat.le_of_ble_eq_true rfl⟩ (n := 2) rfl rfl (Nat.le_of_ble_eq_true rfl) dL_law_40 rfl rfl rfl ⟨hc0, hs0⟩ (fun r_2 u_2 h_3 => ?_)
  obtain ⟨qh_3, h_3⟩ := h_3
  refine g_st h_3 ?_
  have qh_3 : 0 ≤ r_2.toInt ∧ r_2.toInt < 3 := qh_3
  refine g_iconst (pc' := 44) (v := 1) C dL_law_43 rfl (by decide) ?_
  refine g_iload (pc' := 46) (q := 0) C dL_law_44 rfl rfl ?_
  refine g_iconst (pc' := 47) (v := 3) C dL_law_46 rfl (by decide) ?_
  refine g_ishr (pc' := 48) C dL_law_47 rfl ?_
  refine g_bipush (pc' := 50) (v := 20) C dL_law_48 rfl (by decide) ?_
  refine g_calliS (pc' := 53) (As := [.int ((v_1) >>> ((3) &&& 31)), .int 20]) (st := [.int 1, .int r_2, .ref (a 0)]) (cells' := c0) (slots' := s0) C (c_L_low u ((v_1) >>> ((3) &&& 31)) (20) (by first | decide | omega)) gL_law_L_low rfl (by decide +kernel) ⟨Nat.le_of_ble_eq_true rfl, Nat.le_of_ble_eq_true rfl⟩ (n := 2) rfl rfl (Nat.le_of_ble_eq_true rfl) dL_law_50 rfl rfl rfl ⟨hc0, hs0⟩ (fun r_4 u_4 h_5 => ?_)
  obtain ⟨qh_5, h_5⟩ := h_5
  refine g_st h_5 ?_
  have qh_5 : 0 ≤ r_4.toInt ∧ r_4.toInt < 20 := qh_5
  refine g_iadd (pc' := 54) C dL_law_53 rfl ?_
  have ar_4 : (1 + r_4).toInt = 1 + r_4.toInt := ti_add (x := 1) (y := r_4) (by show -2147483648 ≤ 1 + r_4.toInt; omega) (by show 1 + r_4.toInt < 2147483648; omega)
  refine g_iload (pc' := 56) (q := 0) C dL_law_54 rfl rfl ?_
  refine g_bipush (pc' := 58) (v := 8) C dL_law_56 rfl (by decide) ?_
  refine g_ishr (pc' := 59) C dL_law_58 rfl ?_
  refine g_iconst (pc' := 60) (v := 3) C dL_law_59 rfl (by decide) ?_
  refine g_calliS (pc' := 63) (As := [.int ((v_1) >>> ((8) &&& 31)), .int 3]) (st := [.int (1 + r_4), .int r_2, .ref (a 0)]) (cells' := c0) (slots' := s0) C (c_L_low u ((v_1) >>> ((8) &&& 31)) (3) (by first | decide | omega)) gL_law_L_low rfl (by decide +kernel) ⟨Nat.le_of_ble_eq_true rfl, Nat.le_of_ble_eq_true rfl⟩ (n := 2) rfl rfl (Nat.le_of_ble_eq_true rfl) dL_law_60 rfl rfl rfl ⟨hc0, hs0⟩ (fun r_6 u_6 h_7 => ?_)
  obtain ⟨qh_7, h_7⟩ := h_7
  refine g_st h_7 ?_
  have qh_7 : 0 ≤ r_6.toInt ∧ r_6.toInt < 3 := qh_7
  refine g_if_ne (tgt := 70) (pc' := 66) C dL_law_63 rfl (by decide) (fun (c_8 : ¬ (r_6).toInt = 0) => ?_) (fun (c_8 : (r_6).toInt = 0) => ?_)
  · skip
    refine g_iconst (pc' := 71) (v := 5) C dL_law_70 rfl (by decide) ?_
    refine g_iload (pc' := 73) (q := 0) C dL_law_71 rfl rfl ?_
    refine g_bipush (pc' := 75) (v := 10) C dL_law_73 rfl (by decide) ?_
    refine g_ishr (pc' := 76) C dL_law_75 rfl ?_
    refine g_bipush (pc' := 78) (v := 60) C dL_law_76 rfl (by decide) ?_
    refine g_calliS (pc' := 81) (As := [.int ((v_1) >>> ((10) &&& 31)), .int 60]) (st := [.int 5, .int (1 + r_4), .int r_2, .ref (a 0)]) (cells' := c0) (slots' := s0) C (c_L_low u ((v_1) >>> ((10) &&& 31)) (60) (by first | decide | omega)) gL_law_L_low rfl (by decide +kernel) ⟨Nat.le_of_ble_eq_true rfl, Nat.le_of_ble_eq_true rfl⟩ (n := 2) rfl rfl (Nat.le_of_ble_eq_true rfl) dL_law_78 rfl rfl rfl ⟨hc0, hs0⟩ (fun r_9 u_9 h_10 => ?_)
    obtain ⟨qh_10, h_10⟩ := h_10
    refine g_st h_10 ?_
    have qh_10 : 0 ≤ r_9.toInt ∧ r_9.toInt < 60 := qh_10
    refine g_iadd (pc' := 82) C dL_law_81 rfl ?_
    have ar_9 : (5 + r_9).toInt = 5 + r_9.toInt := ti_add (x := 5) (y := r_9) (by show -2147483648 ≤ 5 + r_9.toInt; omega) (by show 5 + r_9.toInt < 2147483648; omega)
    refine g_iload (pc' := 84) (q := 0) C dL_law_82 rfl rfl ?_
    refine g_bipush (pc' := 86) (v := 17) C dL_law_84 rfl (by decide) ?_
    refine g_ishr (pc' := 87) C dL_law_86 rfl ?_
    refine g_iload_n (pc' := 88) (q := 4) C dL_law_87 rfl rfl rfl ?_
    refine g_iconst (pc' := 89) (v := 1) C dL_law_88 rfl (by decide) ?_
    refine g_iadd (pc' := 90) C dL_law_89 rfl ?_
    refine g_conv (show ((nI t) + 1 : Int32) = nI (t + 1) from nI_1 t) ?_
    refine g_calliS (pc' := 93) (As := [.int ((v_1) >>> ((17) &&& 31)), .int (nI (t + 1))]) (st := [.int (5 + r_9), .int (1 + r_4), .int r_2, .ref (a 0)]) (cells' := c0) (slots' := s0) C (c_L_low u ((v_1) >>> ((17) &&& 31)) (nI (t + 1)) (by first | decide | omega)) gL_law_L_low rfl (by decide +kernel) ⟨Nat.le_of_ble_eq_true rfl, Nat.le_of_ble_eq_true rfl⟩ (n := 2) rfl rfl (Nat.le_of_ble_eq_true rfl) dL_law_90 rfl rfl rfl ⟨hc0, hs0⟩ (fun r_11 u_11 h_12 => ?_)
    obtain ⟨qh_12, h_12⟩ := h_12
    refine g_st h_12 ?_
    refine g_calliV (pc' := 96) (As := [.int r_2, .int (1 + r_4), .int (5 + r_9), .int r_11]) (st := []) (cells' := c0) (slots' := s0) C (L_addStep u (r_2) (1 + r_4) (5 + r_9) (r_11) hJ h12 h16 (by omega) ⟨by omega, by omega⟩ ⟨by omega, by omega⟩ ⟨by omega, by omega⟩ ⟨by omega, by omega⟩) gL_law_X0_addStep rfl (by decide +kernel) ⟨Nat.le_of_ble_eq_true rfl, Nat.le_of_ble_eq_true rfl⟩ 0 (by rfl) rfl (n := 4) rfl rfl (Nat.le_of_ble_eq_true rfl) dL_law_93 rfl rfl rfl ⟨hc0, hs0⟩ (fun r_13 u_13 h_14 => ?_)
    obtain ⟨hJ2, h122, h162⟩ := h_14
    refine g_pop (pc' := 97) C dL_law_96 rfl rfl ?_
    exact g_sub (L' := [(0, .ref (b)), (1, .ref (a 0)), (2, .int (nI sn)), (3, .int (nI t))]) [1, 2, 3, 4] rfl (next _ hJ2 h122 h162)
  · skip
    refine g_iconst (pc' := 67) (v := 0) C dL_law_66 rfl (by decide) ?_
    refine g_goto (tgt := 82) C dL_law_67 (by decide) ?_
    refine g_iload (pc' := 84) (q := 0) C dL_law_82 rfl rfl ?_
    refine g_bipush (pc' := 86) (v := 17) C dL_law_84 rfl (by decide) ?_
    refine g_ishr (pc' := 87) C dL_law_86 rfl ?_
    refine g_iload_n (pc' := 88) (q := 4) C dL_law_87 rfl rfl rfl ?_
    refine g_iconst (pc' := 89) (v := 1) C dL_law_88 rfl (by decide) ?_
    refine g_iadd (pc' := 90) C dL_law_89 rfl ?_
    refine g_conv (show ((nI t) + 1 : Int32) = nI (t + 1) from nI_1 t) ?_
    refine g_calliS (pc' := 93) (As := [.int ((v_1) >>> ((17) &&& 31)), .int (nI (t + 1))]) (st := [.int 0, .int (1 + r_4), .int r_2, .ref (a 0)]) (cells' := c0) (slots' := s0) C (c_L_low u ((v_1) >>> ((17) &&& 31)) (nI (t + 1)) (by first | decide | omega)) gL_law_L_low rfl (by decide +kernel) ⟨Nat.le_of_ble_eq_true rfl, Nat.le_of_ble_eq_true rfl⟩ (n := 2) rfl rfl (Nat.le_of_ble_eq_true rfl) dL_law_90 rfl rfl rfl ⟨hc0, hs0⟩ (fun r_15 u_15 h_16 => ?_)
    obtain ⟨qh_16, h_16⟩ := h_16
    refine g_st h_16 ?_
    refine g_calliV (pc' := 96) (As := [.int r_2, .int (1 + r_4), .int 0, .int r_15]) (st := []) (cells' := c0) (slots' := s0) C (L_addStep u (r_2) (1 + r_4) (0) (r_15) hJ h12 h16 (by omega) ⟨by omega, by omega⟩ ⟨by omega, by omega⟩ (by decide) ⟨by omega, by omega⟩) gL_law_X0_addStep rfl (by decide +kernel) ⟨Nat.le_of_ble_eq_true rfl, Nat.le_of_ble_eq_true rfl⟩ 0 (by rfl) rfl (n := 4) rfl rfl (Nat.le_of_ble_eq_true rfl) dL_law_93 rfl rfl rfl ⟨hc0, hs0⟩ (fun r_17 u_17 h_18 => ?_)
    obtain ⟨hJ2, h122, h162⟩ := h_18
    refine g_pop (pc' := 97) C dL_law_96 rfl rfl ?_
    exact g_sub (L' := [(0, .ref (b)), (1, .ref (a 0)), (2, .int (nI sn)), (3, .int (nI t))]) [1, 2, 3, 4] rfl (next _ hJ2 h122 h162)
set_option maxHeartbeats 4000000 in
set_option maxRecDepth 100000 in
theorem law_steps {p : Program} {l : Launch} {e : Env} {s : State} {m : MethodId} {below : List Frame} {meth : Method} {c : Code} {D : va_G} {cI cZ cQ : ClassId} {a : Nat → Nat} {b L9 : Nat} {xs : Nat → Int32} (C : CX p s m #[.ref b] meth c D (tyX cI cZ cQ) (fun q => s.heap.size ≤ q) RL cL_law wsL_law 12 (wX cI cZ cQ a)) (hr : meth.sig.returnType = ret) (hXs : va_X b L9 xs s s.heap) (hbl : b < s.heap.size) (hL9 : L9 < 2 ^ 31) {c0 s0 : Nat} (hc0 : c0 ≤ 600104) (hs0 : s0 ≤ 7301314) {sn : Nat} (hs1 : 1 ≤ sn) (hs : sn ≤ 12) : ∀ (k t : Nat) (u : LU), t ≤ sn → sn + 1 ≤ t + k → JV t 0 u → u 0 12 = 0 → u 0 16 = 0 → G p l e room_1 s m #[.ref b] below meth c D (fun q => s.heap.size ≤ q) 12 (wX cI cZ cQ a) c0 s0 (lw_Z below #[.ref b] s) u 22 [(0, .ref (b)), (1, .ref (a 0)), (2, .int (nI sn)), (3, .int (nI t))] [] := by
  intro k
  induction k with
  | zero =>
    intro t u h1 h2
    omega
  | succ k ih =>
    intro t u h1 h2 hJ h12 h16
    have tt : (nI t).toInt = (t : Int) := nI_toInt (by omega)
    have ts : (nI sn).toInt = (sn : Int) := nI_toInt (by omega)
    refine g_iload_n (pc' := 23) (q := 3) C dL_law_22 rfl rfl rfl ?_
    refine g_iload_n (pc' := 24) (q := 2) C dL_law_23 rfl rfl rfl ?_
    refine g_icmp_ge (tgt := 103) (pc' := 27) C dL_law_24 rfl (by decide) (fun c1 => ?_) (fun c1 => ?_)
    · refine g_iconst (pc' := 104) (v := 0) C dL_law_103 rfl (by decide) ?_
      refine g_istore_n (pc' := 105) (L' := [(3, .int 0), (0, .ref b), (1, .ref (a 0)), (2, .int (nI sn))]) C dL_law_104 rfl rfl (by decide) rfl ?_
      refine g_sub (L' := [(0, .ref b), (1, .ref (a 0)), (2, .int (nI sn)), (3, .int (nI 0))]) [1, 2, 3, 0] rfl ?_
      obtain rfl : t = sn := by omega
      exact law_turns C hr hXs hbl hL9 hc0 hs0 hs1 hs 71 0 u (by omega) (by omega) ⟨hJ.up (by omega), JE_none h12⟩ (Or.inl (by rw [h12]; rfl))
    · refine law_step C hr hXs hbl hL9 hc0 hs0 hs1 hs (by omega) hJ h12 h16 (fun u2 hJ2 g12 g16 => ?_)
      refine g_iinc (pc' := 100) (v := nI (t + 1)) (L' := [(3, .int (nI (t + 1))), (0, .ref b), (1, .ref (a 0)), (2, .int (nI sn))]) C dL_law_97 rfl (k := 3) rfl (nI_1 t) (by decide) rfl ?_
      refine g_goto (tgt := 22) C dL_law_100 (by decide) ?_
      refine g_sub (L' := [(0, .ref b), (1, .ref (a 0)), (2, .int (nI sn)), (3, .int (nI (t + 1)))]) [1, 2, 3, 0] rfl ?_
      exact ih (t + 1) u2 (by omega) (by omega) hJ2 g12 g16
set_option maxHeartbeats 4000000 in
set_option maxRecDepth 100000 in
theorem law_begin {p : Program} {l : Launch} {e : Env} {s : State} {m : MethodId} {below : List Frame} {meth : Method} {c : Code} {D : va_G} {cI cZ cQ : ClassId} {a : Nat → Nat} {b L9 : Nat} {xs : Nat → Int32} (C : CX p s m #[.ref b] meth c D (tyX cI cZ cQ) (fun q => s.heap.size ≤ q) RL cL_law wsL_law 12 (wX cI cZ cQ a)) (hr : meth.sig.returnType = ret) (hXs : va_X b L9 xs s s.heap) (hbl : b < s.heap.size) (hL9 : L9 < 2 ^ 31) {c0 s0 : Nat} (hc0 : c0 ≤ 600104) (hs0 : s0 ≤ 7301314)  : G p l e room_1 s m #[.ref b] below meth c D (fun q => s.heap.size ≤ q) 12 (wX cI cZ cQ a) c0 s0 (lw_Z below #[.ref b] s) (fun _ _ => 0) 8 [(1, .ref (a 0)), (0, .ref (b))] [] := by
  refine g_iconst (pc' := 9) (v := 2) C dL_law_8 rfl (by decide) ?_
  refine g_aload_n (pc' := 10) (q := 1) C dL_law_9 rfl rfl rfl ?_
  refine g_iconst (pc' := 11) (v := 0) C dL_law_10 rfl (by decide) ?_
  refine g_callS (pc' := 14) (As := [.ref b, .int 0]) (st := [.int 2]) (cells' := c0) (slots' := s0) C hXs hbl (Nat.not_le.mpr hbl) (c_L_cell (0) hL9 (by decide)) gL_law_L_cell rfl (by decide +kernel) ⟨Nat.le_of_ble_eq_true rfl, Nat.le_of_ble_eq_true rfl⟩ (n := 2) rfl rfl (Nat.le_of_ble_eq_true rfl) dL_law_11 rfl rfl rfl ⟨hc0, hs0⟩ (fun v_1 => ?_)
  refine g_iconst (pc' := 15) (v := 5) C dL_law_14 rfl (by decide) ?_
  refine g_calliS (pc' := 18) (As := [.int v_1, .int 5]) (st := [.int 2]) (cells' := c0) (slots' := s0) C (c_L_low (fun _ _ => 0) (v_1) (5) (by first | decide | omega)) gL_law_L_low rfl (by decide +kernel) ⟨Nat.le_of_ble_eq_true rfl, Nat.le_of_ble_eq_true rfl⟩ (n := 2) rfl rfl (Nat.le_of_ble_eq_true rfl) dL_law_15 rfl rfl rfl ⟨hc0, hs0⟩ (fun r_2 u_2 h_3 => ?_)
  obtain ⟨qh_3, h_3⟩ := h_3
  refine g_st h_3 ?_
  have qh_3 : 0 ≤ r_2.toInt ∧ r_2.toInt < 5 := qh_3
  refine g_iadd (pc' := 19) C dL_law_18 rfl ?_
  have ar_2 : (2 + r_2).toInt = 2 + r_2.toInt := ti_add (x := 2) (y := r_2) (by show -2147483648 ≤ 2 + r_2.toInt; omega) (by show 2 + r_2.toInt < 2147483648; omega)
  obtain ⟨sn, hsn, e9⟩ := nI_of_ti (x := 2 + r_2) (n := 7) (by omega) (by omega) (by decide)
  have e99 : (2 + r_2).toInt = (sn : Int) := by rw [e9]; exact nI_toInt (by omega)
  refine g_conv (show (2 + r_2 : Int32) = nI sn from e9) ?_
  refine g_istore_n (pc' := 20) (L' := [(2, .int (nI sn)), (1, .ref (a 0)), (0, .ref (b))]) C dL_law_19 rfl rfl (by decide) rfl ?_
  refine g_iconst (pc' := 21) (v := 0) C dL_law_20 rfl (by decide) ?_
  refine g_istore_n (pc' := 22) (L' := [(3, .int 0), (2, .int (nI sn)), (1, .ref (a 0)), (0, .ref (b))]) C dL_law_21 rfl rfl (by decide) rfl ?_
  exact g_sub (L' := [(0, .ref (b)), (1, .ref (a 0)), (2, .int (nI sn)), (3, .int (nI 0))]) [3, 2, 1, 0] rfl (law_steps C hr hXs hbl hL9 hc0 hs0 (by omega) (by omega) (sn + 1) 0 _ (by omega) (by omega) J_init rfl rfl)
end
