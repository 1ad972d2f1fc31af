section
-- ===== PART A: goes FIRST, ahead of the names: the tables' words, and 'selects' of the private methods out of them =====
/-- a private method of a class that the tables say can be made, by its rows of tables_1 -/
def lw_okq (q : MethodName × Nat) : Prop := (q.1.cls ≠ "java/lang/invoke/MethodHandle" ∧ q.1.cls ≠ "java/lang/invoke/VarHandle") ∧ Cond.instantiable q.1.cls q.2 ∈ tables_1 ∧ Cond.privateMethod q.1 ∈ tables_1 ∧ Cond.instanceMethod q.1 ∈ tables_1
theorem lw_p0 : lw_okq (⟨"java/lang/Throwable", "fillInStackTrace", "(I)Ljava/lang/Throwable;"⟩, 6) := ⟨⟨by decide +kernel, by decide +kernel⟩, List.mem_of_getElem? (i := 144) (by decide +kernel), List.mem_of_getElem? (i := 142) (by decide +kernel), List.mem_of_getElem? (i := 143) (by decide +kernel)⟩
theorem lw_p1 : lw_okq (⟨"LotTracker", "makeLot", "(IIZII)I"⟩, 18) := ⟨⟨by decide +kernel, by decide +kernel⟩, List.mem_of_getElem? (i := 11) (by decide +kernel), List.mem_of_getElem? (i := 215) (by decide +kernel), List.mem_of_getElem? (i := 216) (by decide +kernel)⟩
theorem lw_p2 : lw_okq (⟨"LotTracker", "makeWafer", "(I)V"⟩, 18) := ⟨⟨by decide +kernel, by decide +kernel⟩, List.mem_of_getElem? (i := 11) (by decide +kernel), List.mem_of_getElem? (i := 219) (by decide +kernel), List.mem_of_getElem? (i := 220) (by decide +kernel)⟩
theorem lw_p3 : lw_okq (⟨"LotTracker", "putInto", "(II)V"⟩, 18) := ⟨⟨by decide +kernel, by decide +kernel⟩, List.mem_of_getElem? (i := 11) (by decide +kernel), List.mem_of_getElem? (i := 223) (by decide +kernel), List.mem_of_getElem? (i := 224) (by decide +kernel)⟩
theorem lw_p4 : lw_okq (⟨"LotTracker", "checkLot", "(I)V"⟩, 18) := ⟨⟨by decide +kernel, by decide +kernel⟩, List.mem_of_getElem? (i := 11) (by decide +kernel), List.mem_of_getElem? (i := 234) (by decide +kernel), List.mem_of_getElem? (i := 235) (by decide +kernel)⟩
theorem lw_p5 : lw_okq (⟨"LotTracker", "isLot", "(I)Z"⟩, 18) := ⟨⟨by decide +kernel, by decide +kernel⟩, List.mem_of_getElem? (i := 11) (by decide +kernel), List.mem_of_getElem? (i := 238) (by decide +kernel), List.mem_of_getElem? (i := 239) (by decide +kernel)⟩
theorem lw_p6 : lw_okq (⟨"LotTracker", "isReady", "(I)Z"⟩, 18) := ⟨⟨by decide +kernel, by decide +kernel⟩, List.mem_of_getElem? (i := 11) (by decide +kernel), List.mem_of_getElem? (i := 243) (by decide +kernel), List.mem_of_getElem? (i := 244) (by decide +kernel)⟩
theorem lw_p7 : lw_okq (⟨"LotTracker", "isFree", "(I)Z"⟩, 18) := ⟨⟨by decide +kernel, by decide +kernel⟩, List.mem_of_getElem? (i := 11) (by decide +kernel), List.mem_of_getElem? (i := 247) (by decide +kernel), List.mem_of_getElem? (i := 248) (by decide +kernel)⟩
theorem lw_p8 : lw_okq (⟨"LotTracker", "waitingLeft", "(I)I"⟩, 18) := ⟨⟨by decide +kernel, by decide +kernel⟩, List.mem_of_getElem? (i := 11) (by decide +kernel), List.mem_of_getElem? (i := 251) (by decide +kernel), List.mem_of_getElem? (i := 252) (by decide +kernel)⟩
theorem lw_p9 : lw_okq (⟨"LotTracker", "isStep", "(I)Z"⟩, 18) := ⟨⟨by decide +kernel, by decide +kernel⟩, List.mem_of_getElem? (i := 11) (by decide +kernel), List.mem_of_getElem? (i := 255) (by decide +kernel), List.mem_of_getElem? (i := 256) (by decide +kernel)⟩
theorem lw_p10 : lw_okq (⟨"LotTracker", "isBusy", "(I)Z"⟩, 18) := ⟨⟨by decide +kernel, by decide +kernel⟩, List.mem_of_getElem? (i := 11) (by decide +kernel), List.mem_of_getElem? (i := 261) (by decide +kernel), List.mem_of_getElem? (i := 262) (by decide +kernel)⟩
theorem lw_p11 : lw_okq (⟨"LotTracker", "usesTool", "(II)Z"⟩, 18) := ⟨⟨by decide +kernel, by decide +kernel⟩, List.mem_of_getElem? (i := 11) (by decide +kernel), List.mem_of_getElem? (i := 265) (by decide +kernel), List.mem_of_getElem? (i := 266) (by decide +kernel)⟩
theorem lw_p12 : lw_okq (⟨"LotTracker", "moveWafers", "(III)V"⟩, 18) := ⟨⟨by decide +kernel, by decide +kernel⟩, List.mem_of_getElem? (i := 11) (by decide +kernel), List.mem_of_getElem? (i := 286) (by decide +kernel), List.mem_of_getElem? (i := 287) (by decide +kernel)⟩
theorem lw_p13 : lw_okq (⟨"LotTracker", "leaveRoute", "(II)V"⟩, 18) := ⟨⟨by decide +kernel, by decide +kernel⟩, List.mem_of_getElem? (i := 11) (by decide +kernel), List.mem_of_getElem? (i := 305) (by decide +kernel), List.mem_of_getElem? (i := 306) (by decide +kernel)⟩
theorem lw_p14 : lw_okq (⟨"LotTracker", "checkWafer", "(I)V"⟩, 18) := ⟨⟨by decide +kernel, by decide +kernel⟩, List.mem_of_getElem? (i := 11) (by decide +kernel), List.mem_of_getElem? (i := 324) (by decide +kernel), List.mem_of_getElem? (i := 325) (by decide +kernel)⟩
theorem lw_p15 : lw_okq (⟨"LotTracker", "endProcessing", "(I)V"⟩, 18) := ⟨⟨by decide +kernel, by decide +kernel⟩, List.mem_of_getElem? (i := 11) (by decide +kernel), List.mem_of_getElem? (i := 338) (by decide +kernel), List.mem_of_getElem? (i := 339) (by decide +kernel)⟩
def lw_privs_1 : List (MethodName × Nat) := [(⟨"java/lang/Throwable", "fillInStackTrace", "(I)Ljava/lang/Throwable;"⟩, 6), (⟨"LotTracker", "makeLot", "(IIZII)I"⟩, 18), (⟨"LotTracker", "makeWafer", "(I)V"⟩, 18), (⟨"LotTracker", "putInto", "(II)V"⟩, 18), (⟨"LotTracker", "checkLot", "(I)V"⟩, 18), (⟨"LotTracker", "isLot", "(I)Z"⟩, 18), (⟨"LotTracker", "isReady", "(I)Z"⟩, 18), (⟨"LotTracker", "isFree", "(I)Z"⟩, 18), (⟨"LotTracker", "waitingLeft", "(I)I"⟩, 18), (⟨"LotTracker", "isStep", "(I)Z"⟩, 18), (⟨"LotTracker", "isBusy", "(I)Z"⟩, 18), (⟨"LotTracker", "usesTool", "(II)Z"⟩, 18), (⟨"LotTracker", "moveWafers", "(III)V"⟩, 18), (⟨"LotTracker", "leaveRoute", "(II)V"⟩, 18), (⟨"LotTracker", "checkWafer", "(I)V"⟩, 18), (⟨"LotTracker", "endProcessing", "(I)V"⟩, 18)]
theorem lw_r1 : ∀ q ∈ lw_privs_1, lw_okq q := List.forall_mem_cons.mpr ⟨lw_p0, List.forall_mem_cons.mpr ⟨lw_p1, List.forall_mem_cons.mpr ⟨lw_p2, List.forall_mem_cons.mpr ⟨lw_p3, List.forall_mem_cons.mpr ⟨lw_p4, List.forall_mem_cons.mpr ⟨lw_p5, List.forall_mem_cons.mpr ⟨lw_p6, List.forall_mem_cons.mpr ⟨lw_p7, List.forall_mem_cons.mpr ⟨lw_p8, List.forall_mem_cons.mpr ⟨lw_p9, List.forall_mem_cons.mpr ⟨lw_p10, List.forall_mem_cons.mpr ⟨lw_p11, List.forall_mem_cons.mpr ⟨lw_p12, List.forall_mem_cons.mpr ⟨lw_p13, List.forall_mem_cons.mpr ⟨lw_p14, List.forall_mem_cons.mpr ⟨lw_p15, fun _ h => absurd h List.not_mem_nil⟩⟩⟩⟩⟩⟩⟩⟩⟩⟩⟩⟩⟩⟩⟩⟩
theorem lw_p16 : lw_okq (⟨"LotTracker", "checkStep", "(I)V"⟩, 18) := ⟨⟨by decide +kernel, by decide +kernel⟩, List.mem_of_getElem? (i := 11) (by decide +kernel), List.mem_of_getElem? (i := 398) (by decide +kernel), List.mem_of_getElem? (i := 399) (by decide +kernel)⟩
theorem lw_p17 : lw_okq (⟨"LotTracker", "parentOrNone", "(I)I"⟩, 18) := ⟨⟨by decide +kernel, by decide +kernel⟩, List.mem_of_getElem? (i := 11) (by decide +kernel), List.mem_of_getElem? (i := 431) (by decide +kernel), List.mem_of_getElem? (i := 432) (by decide +kernel)⟩
theorem lw_p18 : lw_okq (⟨"LotTrackerModel", "puts", "(II)V"⟩, 20) := ⟨⟨by decide +kernel, by decide +kernel⟩, List.mem_of_getElem? (i := 450) (by decide +kernel), List.mem_of_getElem? (i := 535) (by decide +kernel), List.mem_of_getElem? (i := 536) (by decide +kernel)⟩
theorem lw_p19 : lw_okq (⟨"LotTrackerModel", "isLot", "(I)Z"⟩, 20) := ⟨⟨by decide +kernel, by decide +kernel⟩, List.mem_of_getElem? (i := 450) (by decide +kernel), List.mem_of_getElem? (i := 543) (by decide +kernel), List.mem_of_getElem? (i := 544) (by decide +kernel)⟩
theorem lw_p20 : lw_okq (⟨"LotTrackerModel", "tooLate", "(I)Z"⟩, 20) := ⟨⟨by decide +kernel, by decide +kernel⟩, List.mem_of_getElem? (i := 450) (by decide +kernel), List.mem_of_getElem? (i := 547) (by decide +kernel), List.mem_of_getElem? (i := 548) (by decide +kernel)⟩
theorem lw_p21 : lw_okq (⟨"LotTrackerModel", "waited", "(I)I"⟩, 20) := ⟨⟨by decide +kernel, by decide +kernel⟩, List.mem_of_getElem? (i := 450) (by decide +kernel), List.mem_of_getElem? (i := 551) (by decide +kernel), List.mem_of_getElem? (i := 552) (by decide +kernel)⟩
theorem lw_p22 : lw_okq (⟨"LotTrackerModel", "isBusy", "(I)Z"⟩, 20) := ⟨⟨by decide +kernel, by decide +kernel⟩, List.mem_of_getElem? (i := 450) (by decide +kernel), List.mem_of_getElem? (i := 555) (by decide +kernel), List.mem_of_getElem? (i := 556) (by decide +kernel)⟩
theorem lw_p23 : lw_okq (⟨"LotTrackerModel", "count", "(I)I"⟩, 20) := ⟨⟨by decide +kernel, by decide +kernel⟩, List.mem_of_getElem? (i := 450) (by decide +kernel), List.mem_of_getElem? (i := 567) (by decide +kernel), List.mem_of_getElem? (i := 568) (by decide +kernel)⟩
theorem lw_p24 : lw_okq (⟨"LotTrackerModel", "canMerge", "(I)Z"⟩, 20) := ⟨⟨by decide +kernel, by decide +kernel⟩, List.mem_of_getElem? (i := 450) (by decide +kernel), List.mem_of_getElem? (i := 575) (by decide +kernel), List.mem_of_getElem? (i := 576) (by decide +kernel)⟩
theorem lw_p25 : lw_okq (⟨"LotTrackerModel", "isWafer", "(I)Z"⟩, 20) := ⟨⟨by decide +kernel, by decide +kernel⟩, List.mem_of_getElem? (i := 450) (by decide +kernel), List.mem_of_getElem? (i := 587) (by decide +kernel), List.mem_of_getElem? (i := 588) (by decide +kernel)⟩
theorem lw_p26 : lw_okq (⟨"LotTrackerModel", "told", "([II)I"⟩, 20) := ⟨⟨by decide +kernel, by decide +kernel⟩, List.mem_of_getElem? (i := 450) (by decide +kernel), List.mem_of_getElem? (i := 611) (by decide +kernel), List.mem_of_getElem? (i := 612) (by decide +kernel)⟩
theorem lw_p27 : lw_okq (⟨"LotTrackerModel", "fails", "(I)I"⟩, 20) := ⟨⟨by decide +kernel, by decide +kernel⟩, List.mem_of_getElem? (i := 450) (by decide +kernel), List.mem_of_getElem? (i := 615) (by decide +kernel), List.mem_of_getElem? (i := 616) (by decide +kernel)⟩
theorem lw_p28 : lw_okq (⟨"LotTrackerModel", "left", "(I)I"⟩, 20) := ⟨⟨by decide +kernel, by decide +kernel⟩, List.mem_of_getElem? (i := 450) (by decide +kernel), List.mem_of_getElem? (i := 631) (by decide +kernel), List.mem_of_getElem? (i := 632) (by decide +kernel)⟩
theorem lw_p29 : lw_okq (⟨"LotTrackerModel", "at", "(I)I"⟩, 20) := ⟨⟨by decide +kernel, by decide +kernel⟩, List.mem_of_getElem? (i := 450) (by decide +kernel), List.mem_of_getElem? (i := 653) (by decide +kernel), List.mem_of_getElem? (i := 654) (by decide +kernel)⟩
def lw_privs_2 : List (MethodName × Nat) := [(⟨"LotTracker", "checkStep", "(I)V"⟩, 18), (⟨"LotTracker", "parentOrNone", "(I)I"⟩, 18), (⟨"LotTrackerModel", "puts", "(II)V"⟩, 20), (⟨"LotTrackerModel", "isLot", "(I)Z"⟩, 20), (⟨"LotTrackerModel", "tooLate", "(I)Z"⟩, 20), (⟨"LotTrackerModel", "waited", "(I)I"⟩, 20), (⟨"LotTrackerModel", "isBusy", "(I)Z"⟩, 20), (⟨"LotTrackerModel", "count", "(I)I"⟩, 20), (⟨"LotTrackerModel", "canMerge", "(I)Z"⟩, 20), (⟨"LotTrackerModel", "isWafer", "(I)Z"⟩, 20), (⟨"LotTrackerModel", "told", "([II)I"⟩, 20), (⟨"LotTrackerModel", "fails", "(I)I"⟩, 20), (⟨"LotTrackerModel", "left", "(I)I"⟩, 20), (⟨"LotTrackerModel", "at", "(I)I"⟩, 20)]
theorem lw_r2 : ∀ q ∈ lw_privs_2, lw_okq q := List.forall_mem_cons.mpr ⟨lw_p16, List.forall_mem_cons.mpr ⟨lw_p17, List.forall_mem_cons.mpr ⟨lw_p18, List.forall_mem_cons.mpr ⟨lw_p19, List.forall_mem_cons.mpr ⟨lw_p20, List.forall_mem_cons.mpr ⟨lw_p21, List.forall_mem_cons.mpr ⟨lw_p22, List.forall_mem_cons.mpr ⟨lw_p23, List.forall_mem_cons.mpr ⟨lw_p24, List.forall_mem_cons.mpr ⟨lw_p25, List.forall_mem_cons.mpr ⟨lw_p26, List.forall_mem_cons.mpr ⟨lw_p27, List.forall_mem_cons.mpr ⟨lw_p28, List.forall_mem_cons.mpr ⟨lw_p29, fun _ h => absurd h List.not_mem_nil⟩⟩⟩⟩⟩⟩⟩⟩⟩⟩⟩⟩⟩⟩
def lw_privs : List (MethodName × Nat) := lw_privs_1 ++ (lw_privs_2)
def lw_tbl : List Cond := k2_sels lw_privs ++ tables_1
theorem lw_privs_ok : ∀ q ∈ lw_privs, lw_okq q := by
  show ∀ q ∈ lw_privs_1 ++ (lw_privs_2), lw_okq q
  exact List.forall_mem_append.mpr ⟨lw_r1, lw_r2⟩
-- ===== end of PART A; then your names; then what follows =====
/-- wanting in this claim's worlds: the word that an array class over an array type is known -/
def va_AOA (ty : FieldType) (U : State) : Prop := (Cond.arrayOver (.array ty)).before #[] U = true
theorem va_AOA.of {ty : FieldType} {A : Array Value} {U : State} (h : (Cond.arrayOver (.array ty)).before A U = true) : va_AOA ty U := h
theorem va_AOA.use {ty : FieldType} {A : Array Value} {U : State} (h : va_AOA ty U) : (Cond.arrayOver (.array ty)).before A U = true := h
theorem mem_r {big ws : List Cond} (ps : List Nat) (hp : ws = ps.filterMap (fun i => big[i]?)) : ∀ w ∈ ws, w ∈ big := by
  intro w hw
  rw [hp] at hw
  obtain ⟨i, -, hi⟩ := List.mem_filterMap.mp hw
  exact List.mem_of_getElem? hi

/-! ===== BEGIN words of one list among another's, by their places ===== -/
theorem goodIn_r {big : List Cond} (ws : List Cond) (ps : List Nat) (hp : ws = ps.filterMap (fun i => big[i]?)) (h : ws.all goodWord = true) : GoodIn big ws := by
  intro w hw
  have h1 := List.all_eq_true.mp h w hw
  rw [hp] at hw
  obtain ⟨i, -, hi⟩ := List.mem_filterMap.mp hw
  have hm : w ∈ big := by first | exact List.mem_of_getElem? hi | exact List.getElem?_mem hi
  exact ⟨hm, good_of_word h1⟩
theorem goodIn_app {big a b : List Cond} (ha : GoodIn big a) (hb : GoodIn big b) : GoodIn big (a ++ b) := fun w h => (List.mem_append.mp h).elim (ha w) (hb w)
theorem goodIn_ca {big a b : List Cond} {c : Cond} (ha : GoodIn big (c :: a)) (hb : GoodIn big b) : GoodIn big (c :: (a ++ b)) := fun w h => (List.mem_cons.mp h).elim (fun e => ha w (List.mem_cons.mpr (Or.inl e))) (fun h => (List.mem_append.mp h).elim (fun h => ha w (List.mem_cons.mpr (Or.inr h))) (hb w))
theorem goodIn_sub {big ws : List Cond} (hm : ∀ w ∈ ws, w ∈ big) (h : ws.all goodWord = true) : GoodIn big ws := fun w hw => ⟨hm w hw, good_of_word (List.all_eq_true.mp h w hw)⟩
/-! ===== END ===== -/

/-! ===== BEGIN new T[n][m]: the outer array a place, the inner ones among the pooled ===== -/
/-- f, but v at every address of l -/
def vr_up {α : Type} (f : Nat → α) (l : List Nat) (v : α) : Nat → α := fun a => if a ∈ l then v else f a
theorem vr_up_in {α : Type} {f : Nat → α} {l : List Nat} {v : α} {a : Nat} (h : a ∈ l) : vr_up f l v a = v := if_pos h
theorem vr_up_ne {α : Type} {f : Nat → α} {l : List Nat} {v : α} {a : Nat} (h : a ∉ l) : vr_up f l v a = f a := if_neg h
theorem vr_rows {L l : List Nat} {f : Nat → va_E} {e : va_E} (h : ∀ a, a ∈ l → a ∉ L) : va_pl L f ++ l.map (fun a => (a, e)) = va_pl (L ++ l) (vr_up f l e) := by
  unfold va_pl
  rw [List.map_append]
  congr 1
  · apply List.map_congr_left
    intro a ha
    rw [vr_up_ne (fun q => h a q ha)]
  · apply List.map_congr_left
    intro a ha
    rw [vr_up_in ha]
theorem vr_lay {X rows : va_W} {x : Nat × va_E} {pl : va_W} {D : va_G} {cl : List vw_C} {H : Heap} (hP : va_P D cl (((X ++ pl) ++ [x]) ++ rows) H) : va_P D cl ((X ++ [x]) ++ (pl ++ rows)) H := by
  rw [List.append_assoc (X ++ pl)] at hP
  have h := va_P.swap hP
  rw [← List.append_assoc X] at h
  have h2 := va_P.swap h
  rw [List.append_assoc (X ++ [x])] at h2
  exact h2
theorem vr_layD {X rows : va_W} {x : Nat × va_E} {pl : va_W} {A : Nat → Prop} (hD : va_D A (((X ++ pl) ++ [x]) ++ rows)) : va_D A ((X ++ [x]) ++ (pl ++ rows)) := by
  rw [List.append_assoc (X ++ pl)] at hD
  have h := va_D.swap hD
  rw [← List.append_assoc X] at h
  have h2 := va_D.swap h
  rw [List.append_assoc (X ++ [x])] at h2
  exact h2
theorem vr_outer (c : ClassId) (N h0 : Nat) : ∀ i : Nat, Jvm.Free.Multi.outerC c N h0 i = arrV c N (fun j => va_rf (if j < i then some (h0 + 1 + j) else none))
  | 0 => by
    show ({ cls := c, slots := Array.replicate N .null, vm := .none } : Cell) = _
    rw [arrV_new]
    refine congrArg (arrV c N) (funext fun j => ?_)
    simp [va_rf]
  | i + 1 => by
    show (Jvm.Free.Multi.outerC c N h0 i).setSlot i (.ref (h0 + 1 + i)) = _
    rw [vr_outer c N h0 i, arrV_store]
    refine congrArg (arrV c N) (funext fun j => ?_)
    by_cases e : j = i
    · subst e
      simp [updV, va_rf]
    · by_cases h : j < i
      · simp [updV, e, h, Nat.lt_succ_of_lt h]
      · simp [updV, e, h, show ¬ j < i + 1 by omega]
section VGM
variable {p : Program} {l : Launch} {e : Env} {R : Room} {s : State} {m : MethodId} {args : Array Value} {below : List Frame} {meth : Method} {c : Code} {H : Heap} {locs : List Loc} {cells slots : Nat} {Q : State → Prop}
variable {cc : ByteArray} {pc : Nat} {ls : Array Slot} {rest : List Value} {D : va_G} {cl : List vw_C} {A : Nat → Prop} {a : Nat} {tys : List (ClassId × FieldType)} {ws : va_W} {H0 : Heap}
theorem va_mna {X : va_W} {L : List Nat} {f : Nat → va_E} {cc : ByteArray} (hexec : p.tables.exec = Jvm.exec) (hb : c.code = cc) {own : String} {index : Nat} {ty : FieldType} {cy : ClassId} (hown : s.vm.findClass own = some m.cls) (hclink : (Cond.classLink own index ("[" ++ (FieldType.array ty).toString)).before args s = true) (hover : va_AOA ty s) (harr : (Cond.arrayClass ty).before args s = true) (hcy : s.vm.findClass (FieldType.array ty).toString = some cy)
    (hK : va_K D cl tys s) (hP : va_P D cl (X ++ va_pl L f) H) (hD : va_D A (X ++ va_pl L f)) (hS : va_S A H0 H locs) (hA : ∀ q, H0.size ≤ q → A q) {n k : Int32} {N' K' : Nat} {z : vp_A} (hn : ¬ n < 0) (hk : ¬ k < 0) (hN : n.toNatClampNeg = N') (hM : k.toNatClampNeg = K')
    (hb1 : N' * 4 ≤ 536870912) (hb2 : K' * componentBytes ty ≤ 536870912) (hb3 : K' ≤ 536870912) (hdf : fits ty (defaultValue ty) = true) (hdd : (defaultValue ty).isDefault = true) (hcells : cells + (1 + N') ≤ R.cells) (hslots : slots + (N' + N' * K') ≤ R.slots) (hz : ∀ c : ClassId, Jvm.Free.Multi.innerC c K' (defaultValue ty) = vp_cell c z) (hdg : decode cc pc = .ok (.multianewarray index 2, 4))
    (kk : ∀ (q : Nat) (r : Nat → Nat) (cA : ClassId) (H1 : Heap), (∀ i j : Nat, i < N' → j < N' → r i = r j → i = j) → (∀ i : Nat, i < N' → r i ∉ L) → va_K D cl (tys ++ [(cA, .array ty)]) s →
      va_P D cl ((X ++ [(q, .inl (cA, N', .inr (.inr (.inr (.inr (fun i => if i < N' then some (r i) else none))))))]) ++ va_pl (L ++ (List.range N').map r) (vr_up f ((List.range N').map r) (.inl (cy, z)))) H1 → va_D A ((X ++ [(q, .inl (cA, N', .inr (.inr (.inr (.inr (fun i => if i < N' then some (r i) else none))))))]) ++ va_pl (L ++ (List.range N').map r) (vr_up f ((List.range N').map r) (.inl (cy, z)))) → va_S A H0 H1 locs →
      W p l e R s m args below meth c H1 locs (cells + 1 + N') (slots + N' + N' * K') Q (F0 m (pc + 4) ls (.ref q :: rest))) : W p l e R s m args below meth c H locs cells slots Q (F0 m pc ls (.int k :: .int n :: rest)) := by
  subst hN
  subst hM
  intro T hT Xs
  obtain ⟨vm₁, cA, comp, -, fA, fC, hO, -, X', step⟩ := Xs.multianewarray2F hexec hown hclink (va_AOA.use hover) harr (g := F0 m pc ls (.int k :: .int n :: rest)) rfl (by rw [hb]; exact hdg) rfl hn hk hb1 hb2 hb3 hdf hdd hcells hslots
  have ec : some cy = some comp := hcy.symm.trans fC
  cases ec
  generalize hF : Jvm.Free.Multi.fill (T.setVm vm₁) cA cy n.toNatClampNeg k.toNatClampNeg (defaultValue ty) n.toNatClampNeg = F at X' step
  have hTh : (T.setVm vm₁).heap = H := hT
  obtain ⟨f1, f2, -, -⟩ := Jvm.Free.Multi.fill_facts (T.setVm vm₁) cA cy n.toNatClampNeg k.toNatClampNeg (defaultValue ty) n.toNatClampNeg
  rw [hF, hTh] at f1 f2
  have hold : ∀ x : Nat, x < H.size → F.heap[x]? = H[x]? := fun x hx => by
    have := Jvm.Free.Multi.fill_old (T.setVm vm₁) cA cy n.toNatClampNeg k.toNatClampNeg (defaultValue ty) (a := x) (by rw [hTh]; exact hx) n.toNatClampNeg
    rw [hF, hTh] at this
    exact this
  have hrow : ∀ j : Nat, j < n.toNatClampNeg → F.heap[H.size + 1 + j]? = some (vp_cell cy z) := fun j hj => by
    have := Jvm.Free.Multi.fill_inner (T.setVm vm₁) cA cy n.toNatClampNeg k.toNatClampNeg (defaultValue ty) n.toNatClampNeg j hj
    rw [hF, hTh, hz] at this
    exact this
  have hout : Jvm.Free.Multi.outerC cA n.toNatClampNeg H.size n.toNatClampNeg = vp_cell cA (n.toNatClampNeg, .inr (.inr (.inr (.inr (fun i => if i < n.toNatClampNeg then some (H.size + 1 + i) else none))))) := by
    rw [vp_cell_q]
    exact vr_outer cA n.toNatClampNeg H.size n.toNatClampNeg
  rw [hout] at f2
  have hlt : ∀ a, a ∈ L → a < H.size := fun a ha => by
    obtain ⟨k9, hk9⟩ := va_pl_get (X := X) (f := f) ha
    exact (hP k9 _ hk9).lt
  have hnl : ∀ i : Nat, i < n.toNatClampNeg → H.size + 1 + i ∉ L := fun i _ h => by
    have := hlt _ h
    omega
  have hnm : ∀ a, a ∈ (List.range n.toNatClampNeg).map (fun i => H.size + 1 + i) → a ∉ L := fun a ha h => by
    obtain ⟨i, -, rfl⟩ := List.mem_map.mp ha
    have := hlt _ h
    omega
  have hP0 : va_P D cl (X ++ va_pl L f) F.heap := hP.kept (fun k9 x hx => hold x.1 ((hP k9 x hx).lt))
  have hP1 : va_P D cl ((X ++ va_pl L f) ++ [(H.size, .inl (cA, n.toNatClampNeg, .inr (.inr (.inr (.inr (fun i => if i < n.toNatClampNeg then some (H.size + 1 + i) else none))))))]) F.heap := hP0.app (fun k9 x hx => by
    have h0 : k9 < 1 := (List.getElem?_eq_some_iff.mp hx).1
    rw [show k9 = 0 by omega] at hx
    cases hx
    exact f2)
  have hP2 : va_P D cl (((X ++ va_pl L f) ++ [(H.size, .inl (cA, n.toNatClampNeg, .inr (.inr (.inr (.inr (fun i => if i < n.toNatClampNeg then some (H.size + 1 + i) else none))))))]) ++ ((List.range n.toNatClampNeg).map (fun i => H.size + 1 + i)).map (fun a => (a, .inl (cy, z)))) F.heap := hP1.app (fun k9 x hx => by
    obtain ⟨a, ha, rfl⟩ := List.mem_map.mp (List.mem_of_getElem? hx)
    obtain ⟨i, hi, rfl⟩ := List.mem_map.mp ha
    exact hrow i (List.mem_range.mp hi))
  have hD2 : va_D A (((X ++ va_pl L f) ++ [(H.size, .inl (cA, n.toNatClampNeg, .inr (.inr (.inr (.inr (fun i => if i < n.toNatClampNeg then some (H.size + 1 + i) else none))))))]) ++ ((List.range n.toNatClampNeg).map (fun i => H.size + 1 + i)).map (fun a => (a, .inl (cy, z)))) := by
    have hD1 := hD.push (e := .inl (cA, n.toNatClampNeg, .inr (.inr (.inr (.inr (fun i => if i < n.toNatClampNeg then some (H.size + 1 + i) else none)))))) hP rfl (hA _ hS.1)
    generalize hW1 : (X ++ va_pl L f) ++ [(H.size, .inl (cA, n.toNatClampNeg, .inr (.inr (.inr (.inr (fun i => if i < n.toNatClampNeg then some (H.size + 1 + i) else none))))))] = W1 at hD1 hP1 ⊢
    have hle : ∀ (k9 : Nat) (x : Nat × va_E), W1[k9]? = some x → x.1 ≤ H.size := fun k9 x hx => by
      rw [← hW1] at hx
      by_cases hl : k9 < (X ++ va_pl L f).length
      · rw [List.getElem?_append_left hl] at hx
        exact Nat.le_of_lt ((hP k9 x hx).lt)
      · rw [List.getElem?_append_right (by omega)] at hx
        have h0 : k9 - (X ++ va_pl L f).length < 1 := (List.getElem?_eq_some_iff.mp hx).1
        rw [show k9 - (X ++ va_pl L f).length = 0 by omega] at hx
        cases hx
        exact Nat.le_refl _
    have hr : ∀ (k9 : Nat) (x : Nat × va_E), (((List.range n.toNatClampNeg).map (fun i => H.size + 1 + i)).map (fun a => ((a, .inl (cy, z)) : Nat × va_E)))[k9]? = some x → x.1 = H.size + 1 + k9 := fun k9 x hx => by
      rw [List.getElem?_map, List.getElem?_map] at hx
      by_cases h9 : k9 < n.toNatClampNeg
      · rw [List.getElem?_range h9] at hx
        cases hx
        rfl
      · have hn0 : (List.range n.toNatClampNeg)[k9]? = none := List.getElem?_eq_none (by rw [List.length_range]; omega)
        rw [hn0] at hx
        cases hx
    refine ⟨fun i j x y hi hj hxy => ?_, fun k9 x hx => ?_⟩
    · by_cases h1 : i < W1.length <;> by_cases h2 : j < W1.length
      · rw [List.getElem?_append_left h1] at hi
        rw [List.getElem?_append_left h2] at hj
        exact hD1.1 i j x y hi hj hxy
      · rw [List.getElem?_append_left h1] at hi
        rw [List.getElem?_append_right (by omega)] at hj
        have := hle _ _ hi
        have := hr _ _ hj
        omega
      · rw [List.getElem?_append_right (by omega)] at hi
        rw [List.getElem?_append_left h2] at hj
        have := hle _ _ hj
        have := hr _ _ hi
        omega
      · rw [List.getElem?_append_right (by omega)] at hi hj
        have := hr _ _ hi
        have := hr _ _ hj
        omega
    · by_cases h1 : k9 < W1.length
      · rw [List.getElem?_append_left h1] at hx
        exact hD1.2 k9 x hx
      · rw [List.getElem?_append_right (by omega)] at hx
        have := hr _ _ hx
        exact hA _ (by have := hS.1; omega)
  have hAr : ArrOfT s cA (.array ty) := fun N9 z9 => by
    obtain ⟨-, k9, hk9, cm9, hkk9⟩ := (hO 0 0 0).1
    exact ⟨(fun q hq => by cases hq), k9, hk9, cm9, hkk9⟩
  have hK2 : va_K D cl (tys ++ [(cA, .array ty)]) s := ⟨hK.1, fun k9 x hx => by
    by_cases hl : k9 < tys.length
    · rw [List.getElem?_append_left hl] at hx
      exact hK.2 k9 x hx
    · rw [List.getElem?_append_right (by omega)] at hx
      have h0 : k9 - tys.length < 1 := (List.getElem?_eq_some_iff.mp hx).1
      rw [show k9 - tys.length = 0 by omega] at hx
      cases hx
      exact ⟨hAr, fA⟩⟩
  obtain ⟨t, a1, b1⟩ := kk H.size (fun i => H.size + 1 + i) cA F.heap (fun i j _ _ h => by have h9 : H.size + 1 + i = H.size + 1 + j := h; omega) hnl hK2 (by rw [← vr_rows hnm]; exact vr_lay hP2) (by rw [← vr_rows hnm]; exact vr_layD hD2) ⟨by rw [f1]; have := hS.1; omega, fun x h1 h2 => (hold x (Nat.lt_of_lt_of_le h1 hS.1)).trans (hS.2.1 x h1 h2), hS.2.2⟩ F rfl X'
  refine ⟨t, step t ?_, b1⟩
  have e : T.heap.size = H.size := by rw [hT]
  rw [e]
  exact a1
end VGM
/-! ===== END ===== -/

/-! ===== BEGIN exceptions that leave a method, and their catching by the caller (launches without stack traces) ===== -/
section VXA
/-! The laws vx_back, vx_callV, vx_callS, vx_callSW, vx_throw0, vx_throwS follow proofs of the library, with one case more: JvmDerived/Free/Laws.lean (Back.of_free), Shelf42/LK1.lean (callV, callS), Shelf/KitTraced.lean (throwNew0V, throwNewS). -/
/-- where a method has thrown q: the class by its name, the cell, what was written, the world -/
def vx_T (XC : String → State → State → Prop) (st : State) (q : Addr) (t : State) (mc ms : Nat) (free : Addr → Prop) : Prop :=
  ∃ (E : String) (ce : Cell) (L : List Loc), XC E st t ∧ t.heap[q]? = some ce ∧ ce.vm = .none ∧ st.vm.findClass E = some ce.cls ∧ st.WarmedH t.vm ∧ st.sameButNew ({ t with vm := st.vm } : State) L mc ms ∧ ∀ z ∈ L, free z.base
def vx_Q (Qc : Array Value → State → Outcome → State → Prop) (XC : String → State → State → Prop) (mc ms : Nat) (free : Addr → Prop) : Array Value → State → Outcome → State → Prop := fun a st o t =>
  (Qc a st o t ∧ ∃ L, FrameEnd st o t L mc ms ∧ ∀ q ∈ L, free q.base) ∨ ∃ q, o = .threw q ∧ vx_T XC st q t mc ms free
/-- a callee that returns or throws -/
def vx_Met (l : Launch) (y : MethodName) (ws : List Cond) (rm : Room) (Pc : Array Value → State → Prop) (Qc : Array Value → State → Outcome → State → Prop) (XC : String → State → State → Prop) (mc ms : Nat) (free : Addr → Prop) : Prop :=
  MetFree l y (headSpec ws rm) Pc (fun _ _ _ _ _ => True) (vx_Q Qc XC mc ms free)
def vx_Post (XC : String → State → State → Prop) (mc ms : Nat) (free : Addr → Prop) : Pt → Array Value → Addr → Pt → Prop := fun A a q B =>
  ∃ (g : JFrame) (mk : MethodId) (t : State) (L : List Loc) (E : String) (ce : Cell), B.U.heap = t.heap ∧ B.U.vm = t.vm ∧ XC E (A.U.calling g mk a) t ∧ t.heap[q]? = some ce ∧ ce.vm = .none ∧ A.U.vm.findClass E = some ce.cls ∧ B.locs = A.locs ++ L ∧ (∀ z ∈ L, free z.base) ∧ B.cells = A.cells + mc ∧ B.slots = A.slots + ms
def vx_Back (l : Launch) (R : Room) (p : Program) (e : Env) (below : List Frame) (s : State) (sargs : Array Value) (y : MethodName) (len W9 : Nat)
    (Pre : Pt → Array Value → Prop) (Post : Pt → Array Value → Option Value → Pt → Prop) (PostX : Pt → Array Value → Addr → Pt → Prop) : Prop :=
  ∀ (m : MethodId) (meth : Method) (c : Code) (A : Pt) (g : JFrame) (ig : Instr) (mk : MethodId) (a : Array Value),
    Stand p l e R s m sargs below meth c A.U A.locs A.cells A.slots → g.method = m → g.locals.size = c.maxLocals → decode c.code g.pc = .ok (ig, len) →
    2 * g.monitorRoom + (g.stack.map fun v => v.category).sum ≤ W9 → A.U.methodNamed? y = some mk → Pre A a →
    (∃ (v : Option Value) (B : Pt), Stand p l e R s m sargs below meth c B.U B.locs B.cells B.slots ∧ Post A a v B ∧
      Steps p.tables e below (doInvoke e (A.U.setTop g) [] mk a).1 (B.U.setTop { g with pc := g.pc + len, stack := v.toList ++ g.stack })) ∨
    (∃ (q : Addr) (B : Pt), Stand p l e R s m sargs below meth c B.U B.locs B.cells B.slots ∧ PostX A a q B ∧
      Steps p.tables e below (doInvoke e (A.U.setTop g) [] mk a).1 ((B.U.setTop g).pushFrame (.throwing q)))
section Payer
variable {l : Launch} {R : Room} {p : Program} {e : Env} {below : List Frame} {s : State} {sargs : Array Value} {y : MethodName} {len W9 : Nat}
theorem vx_back {ws : List Cond} {rm : Room} {Pc : Array Value → State → Prop} {Qc : Array Value → State → Outcome → State → Prop} {XC : String → State → State → Prop} {mc ms : Nat} {free : Addr → Prop} {bytes : ByteArray} {maxL : Nat} {ret : Option FieldType}
    (hM : vx_Met l y ws rm Pc Qc XC mc ms free) (hblind : FrameBlind Pc) (hrc : rm.cells = mc) (hrs : rm.slots = ms)
    (hframes : rm.frames + 1 ≤ R.frames) (hlocals : W9 + (maxL + 11) + rm.locals ≤ R.locals)
    (hws : ∀ w ∈ ws, ∀ a' U, s.WarmedH U.vm → w.before a' U = true) (hcode : Cond.code y bytes maxL ret ∈ ws) (hinit : ∀ a' U, s.WarmedH U.vm → (Cond.initialized y.cls).before a' U = true) :
    vx_Back l R p e below s sargs y len W9 (PreOf R mc ms Pc) (PostOf Qc mc ms free) (vx_Post XC mc ms free) := by
  intro m meth c A g ig mk a X hg hsize hdg hW hn hp
  have h1 : (headSpec ws rm).pre.before a A.U = true := atoms_intro fun w hw => hws w hw _ _ X.warmed
  have h2 : (Cond.code y bytes maxL ret).before a A.U = true := hws _ hcode _ _ X.warmed
  have h3 : (Cond.initialized y.cls).before a A.U = true := hinit _ _ X.warmed
  have h4 : A.cells + (headSpec ws rm).room.cells ≤ R.cells := by rw [show (headSpec ws rm).room.cells = mc from hrc]; exact hp.1
  have h5 : A.slots + (headSpec ws rm).room.slots ≤ R.slots := by rw [show (headSpec ws rm).room.slots = ms from hrs]; exact hp.2.1
  have hPc : Pc a (A.U.calling g mk a) := hblind _ _ _ _ hp.2.2
  obtain ⟨U, Ls, c0, s0⟩ := A
  dsimp only [Pt.U, Pt.locs, Pt.cells, Pt.slots] at h1 h2 h3 h4 h5 X hn hPc ⊢
  obtain ⟨methY, cY, hmY, hcY, -, hlY, -, -, -, -⟩ := Cond.code_spec hn h2
  obtain ⟨kY, hkY, -⟩ := className_of_methodNamed hn
  have hinitY : kY.init = .initialized := Cond.initialized_spec (findClass_of_methodNamed hn) hkY h3
  have h : At U g.method c below := by rw [hg]; exact X.here
  have hlocals9 : W9 + (maxL + 11) + (headSpec ws rm).room.locals ≤ R.locals := hlocals
  have happ : (headSpec ws rm).appliesLoose y e.platform (U.calling g mk a) = true :=
    Spec.appliesLoose_calling (g := g) h hdg hn hkY hinitY
      (X.room_calling (g := g) (R' := (headSpec ws rm).room) hsize hmY hcY hframes (by rw [hlY]; omega) h4 h5) h1
  obtain ⟨mid, hmid⟩ := h.above
  have hfr : (U.setTop g).frames = (.java g :: mid) ++ below := by rw [State.frames_setTop' g h.top, hmid]; rfl
  obtain ⟨o, s₂, hsteps, -, hend, hq⟩ := Steps.callFree hM p X.admits X.cas X.clock (acts := []) hfr happ hPc trivial
  have hq' : vx_Q Qc XC mc ms free a (U.calling g mk a) o s₂ := hq
  rw [State.frames_setTop' g h.top] at hend
  obtain ⟨g₀, hg0⟩ := Option.isSome_iff_exists.mp h.top
  obtain ⟨r, hr⟩ := State.topJava?_eq_some.mp hg0
  have hr' : (({ U with heap := s₂.heap, slotsUsed := s₂.slotsUsed } : State).setVm s₂.vm).frames = .java g₀ :: r := hr
  rcases hq' with ⟨hqc, L, hfe, hL⟩ | ⟨q, rfl, E, ce, L, hx, hce, hcv, hcl, hW₂, hsm, hL⟩
  · obtain ⟨⟨v, rfl⟩, hW₂, e2, q2, q3, q4, q5, q6⟩ := id hfe
    have e3 : s₂ = ({ (U.calling g mk a).setFrames s₂.frames with heap := s₂.heap, slotsUsed := s₂.slotsUsed } : State).setVm s₂.vm := by
      have : s₂ = ({ s₂ with vm := (U.calling g mk a).vm } : State).setVm s₂.vm := rfl
      rw [e2] at this
      exact this
    obtain ⟨c₂, i₂, len₂, hc₂, hd₂, hf₂⟩ := hend
    have hW' : U.WarmedH s₂.vm := hW₂
    have hcc : c₂ = c := by
      have h1 : s₂.code? g.method = U.code? g.method := by
        rw [State.code?_eq, State.code?_eq, hW'.alike.method?]
      exact Option.some.inj (hc₂.symm.trans (h1.trans h.code))
    subst hcc
    have hlen : len₂ = len := by rw [hdg] at hd₂; cases hd₂; rfl
    subst hlen
    have hs₂ : s₂ = (({ U with heap := s₂.heap, slotsUsed := s₂.slotsUsed } : State).setVm s₂.vm).setTop { g with pc := g.pc + len₂, stack := v.toList ++ g.stack } := by
      refine e3.trans ?_
      rw [hf₂, State.calling_eq h.top, State.setFrames_setFrames, State.setTop_of_frames _ hr', hr]
      rfl
    have hsame : U.sameButNew ({ U with heap := s₂.heap, slotsUsed := s₂.slotsUsed } : State) L mc ms := by
      refine ⟨?_, q2, q3, q4, q5, q6⟩
      obtain ⟨t, ht, -⟩ := State.frames_cons hr
      show ({ U with heap := s₂.heap, slotsUsed := s₂.slotsUsed } : State) = { U.setFrames U.frames with heap := s₂.heap, slotsUsed := s₂.slotsUsed }
      rw [State.setFrames_self ht]
    subst hg
    refine Or.inl ⟨v, ⟨(({ U with heap := s₂.heap, slotsUsed := s₂.slotsUsed } : State).setVm s₂.vm), Ls ++ L, c0 + mc, s0 + ms⟩,
      ⟨X.admits, X.cas, X.clock, X.frames, X.room, X.hears, X.method, X.code, (X.here.setHeapUsed s₂.heap s₂.slotsUsed).setVm hW'.alike, X.tail, State.WarmedH.trans X.warmed hW', X.limits, X.bytes, X.same.trans (hsame.setVm s.vm)⟩,
      ⟨g, mk, s₂, L, rfl, rfl, hqc, rfl, hL, rfl, rfl⟩, ?_⟩
    show Steps p.tables e below _ ((({ U with heap := s₂.heap, slotsUsed := s₂.slotsUsed } : State).setVm s₂.vm).setTop { g with pc := g.pc + len₂, stack := v.toList ++ g.stack })
    rw [← hs₂]
    exact hsteps
  · obtain ⟨e2, q2, q3, q4, q5, q6⟩ := id hsm
    have e3 : s₂ = ({ (U.calling g mk a).setFrames s₂.frames with heap := s₂.heap, slotsUsed := s₂.slotsUsed } : State).setVm s₂.vm := by
      have : s₂ = ({ s₂ with vm := (U.calling g mk a).vm } : State).setVm s₂.vm := rfl
      rw [e2] at this
      exact this
    have hf₂ : s₂.frames = .throwing q :: .java g :: U.frames.tail := hend
    have hW' : U.WarmedH s₂.vm := hW₂
    have hs₂ : s₂ = ((({ U with heap := s₂.heap, slotsUsed := s₂.slotsUsed } : State).setVm s₂.vm).setTop g).pushFrame (.throwing q) := by
      refine e3.trans ?_
      rw [hf₂, State.calling_eq h.top, State.setFrames_setFrames, State.pushFrame, State.frames_setTop _ hr', State.setTop_of_frames _ hr', State.setFrames_setFrames, hr]
      rfl
    have hsame : U.sameButNew ({ U with heap := s₂.heap, slotsUsed := s₂.slotsUsed } : State) L mc ms := by
      refine ⟨?_, q2, q3, q4, q5, q6⟩
      obtain ⟨t, ht, -⟩ := State.frames_cons hr
      show ({ U with heap := s₂.heap, slotsUsed := s₂.slotsUsed } : State) = { U.setFrames U.frames with heap := s₂.heap, slotsUsed := s₂.slotsUsed }
      rw [State.setFrames_self ht]
    subst hg
    refine Or.inr ⟨q, ⟨(({ U with heap := s₂.heap, slotsUsed := s₂.slotsUsed } : State).setVm s₂.vm), Ls ++ L, c0 + mc, s0 + ms⟩,
      ⟨X.admits, X.cas, X.clock, X.frames, X.room, X.hears, X.method, X.code, (X.here.setHeapUsed s₂.heap s₂.slotsUsed).setVm hW'.alike, X.tail, State.WarmedH.trans X.warmed hW', X.limits, X.bytes, X.same.trans (hsame.setVm s.vm)⟩,
      ⟨g, mk, s₂, L, E, ce, rfl, rfl, hx, hce, hcv, hcl, rfl, hL, rfl, rfl⟩, ?_⟩
    show Steps p.tables e below _ (((({ U with heap := s₂.heap, slotsUsed := s₂.slotsUsed } : State).setVm s₂.vm).setTop g).pushFrame (.throwing q))
    rw [← hs₂]
    exact hsteps
end Payer
section Calls
variable {p : Program} {l : Launch} {e : Env} {R : Room} {s : State} {m : MethodId} {args : Array Value} {below : List Frame} {meth : Method} {c : Code} {T : State} {locs : List Loc} {cells slots : Nat}
theorem vx_callV (X : Stand p l e R s m args below meth c T locs cells slots) (hexec : p.tables.exec = Jvm.exec) {own C : String} {index : Nat} {y : MethodName} {bytes : ByteArray} {maxL : Nat} {ret : Option FieldType}
    (hown : s.vm.findClass own = some m.cls) (hlink : (Cond.methodLink own index y).before args s = true) (hinst : (Cond.instanceMethod y).before args s = true) (hsel : (Cond.selects C y y).before args s = true)
    (hcode : (Cond.code y bytes maxL ret).before args s = true) (hy : y.cls ≠ "java/lang/invoke/MethodHandle" ∧ y.cls ≠ "java/lang/invoke/VarHandle")
    {W9 : Nat} {Pre : Pt → Array Value → Prop} {Post : Pt → Array Value → Option Value → Pt → Prop} {PostX : Pt → Array Value → Addr → Pt → Prop} (hK : vx_Back l R p e below s args y 3 W9 Pre Post PostX)
    {b : Addr} {cellB : Cell} (hcell : T.heap[b]? = some cellB) (hobj : cellB.vm.isStatics = false) (hcls : s.vm.findClass C = some cellB.cls)
    {g : JFrame} (hg : g.method = m) (hsize : g.locals.size = c.maxLocals) {argsL rest : List Value} (hlen : ∀ sig, parseMethodDescriptor y.desc = some sig → argsL.length = sig.parameters.length)
    (hstack : g.stack = argsL.reverse ++ .ref b :: rest) (hW : 2 * g.monitorRoom + (rest.map fun v => v.category).sum ≤ W9) (hdg : decode c.code g.pc = .ok (.invokevirtual index, 3))
    (hpre : ∀ vm₁, s.WarmedH vm₁ → Pre ⟨T.setVm vm₁, locs, cells, slots⟩ (Value.ref b :: argsL).toArray) :
    (∃ (v : Option Value) (vm₁ : Vm) (B : Pt), s.WarmedH vm₁ ∧ Stand p l e R s m args below meth c B.U B.locs B.cells B.slots ∧ Post ⟨T.setVm vm₁, locs, cells, slots⟩ (Value.ref b :: argsL).toArray v B ∧
      ∀ target, Steps p.tables e below (B.U.setTop { g with pc := g.pc + 3, stack := v.toList ++ rest }) target → Steps p.tables e below (T.setTop g) target) ∨
    (∃ (q : Addr) (vm₁ : Vm) (B : Pt), s.WarmedH vm₁ ∧ Stand p l e R s m args below meth c B.U B.locs B.cells B.slots ∧ PostX ⟨T.setVm vm₁, locs, cells, slots⟩ (Value.ref b :: argsL).toArray q B ∧
      Steps p.tables e below (T.setTop g) ((B.U.setTop { g with stack := rest }).pushFrame (.throwing q))) := by
  obtain ⟨mk, methM, hnamed, hmethM, hstM, habM⟩ := Cond.instanceMethod_spec hinst
  obtain ⟨methM', cM, hmethM', -, -, -, -, -, -, hsigM⟩ := Cond.code_spec hnamed hcode
  cases hmethM.symm.trans hmethM'
  obtain ⟨c2, r2, m2, q1, q2, q3, q4, kP, hkP, hkPi⟩ := Cond.selects_spec hsel
  cases hcls.symm.trans q1
  cases (State.methodFound?_of_named hnamed hy).symm.trans q2
  cases hnamed.symm.trans q3
  have hselP : selectMethod e.platform s.vm cellB.cls mk = .method mk := by rw [Launch.admits_selectMethod X.admits]; exact q4
  obtain ⟨vm₁, X₁, hstep₁⟩ := X.invokevirtual hexec hown hlink hnamed hmethM hstM hkP hkPi hy (a := b) (cell := cellB) hcell
    (fun z h => by rw [h] at hobj; cases hobj) hselP hmethM habM hkP hkPi (g := g) hg (argsL := argsL) (rest := rest) (hlen _ hsigM) hstack hdg
  rcases hK m meth c ⟨T.setVm vm₁, locs, cells, slots⟩ { g with stack := rest } (.invokevirtual index) mk (Value.ref b :: argsL).toArray X₁ hg hsize hdg hW (X₁.named hnamed) (hpre vm₁ X₁.warmed) with ⟨v, B, X', hpost, hsteps⟩ | ⟨q, B, X', hpost, hsteps⟩
  · exact Or.inl ⟨v, vm₁, B, X₁.warmed, X', hpost, fun target h => hstep₁ _ fun acts => by rw [doInvoke_state]; exact hsteps.trans h⟩
  · exact Or.inr ⟨q, vm₁, B, X₁.warmed, X', hpost, hstep₁ _ fun acts => by rw [doInvoke_state]; exact hsteps⟩
theorem vx_callS (X : Stand p l e R s m args below meth c T locs cells slots) (hexec : p.tables.exec = Jvm.exec) {own : String} {index : Nat} {y : MethodName} {bytes : ByteArray} {maxL : Nat} {ret : Option FieldType}
    (hown : s.vm.findClass own = some m.cls) (hlink : (Cond.methodLink own index y).before args s = true) (hstat : (Cond.static y).before args s = true) (hinit : (Cond.initialized y.cls).before args s = true)
    (hcode : (Cond.code y bytes maxL ret).before args s = true) (hy : y.cls ≠ "java/lang/invoke/MethodHandle" ∧ y.cls ≠ "java/lang/invoke/VarHandle")
    {W9 : Nat} {Pre : Pt → Array Value → Prop} {Post : Pt → Array Value → Option Value → Pt → Prop} {PostX : Pt → Array Value → Addr → Pt → Prop} (hK : vx_Back l R p e below s args y 3 W9 Pre Post PostX)
    {g : JFrame} (hg : g.method = m) (hsize : g.locals.size = c.maxLocals) {argsL rest : List Value} (hlen : ∀ sig, parseMethodDescriptor y.desc = some sig → argsL.length = sig.parameters.length)
    (hstack : g.stack = argsL.reverse ++ rest) (hW : 2 * g.monitorRoom + (rest.map fun v => v.category).sum ≤ W9) (hdg : decode c.code g.pc = .ok (.invokestatic index, 3))
    (hpre : ∀ vm₁, s.WarmedH vm₁ → Pre ⟨T.setVm vm₁, locs, cells, slots⟩ argsL.toArray) :
    (∃ (v : Option Value) (vm₁ : Vm) (B : Pt), s.WarmedH vm₁ ∧ Stand p l e R s m args below meth c B.U B.locs B.cells B.slots ∧ Post ⟨T.setVm vm₁, locs, cells, slots⟩ argsL.toArray v B ∧
      ∀ target, Steps p.tables e below (B.U.setTop { g with pc := g.pc + 3, stack := v.toList ++ rest }) target → Steps p.tables e below (T.setTop g) target) ∨
    (∃ (q : Addr) (vm₁ : Vm) (B : Pt), s.WarmedH vm₁ ∧ Stand p l e R s m args below meth c B.U B.locs B.cells B.slots ∧ PostX ⟨T.setVm vm₁, locs, cells, slots⟩ argsL.toArray q B ∧
      Steps p.tables e below (T.setTop g) ((B.U.setTop { g with stack := rest }).pushFrame (.throwing q))) := by
  obtain ⟨mk, hnamed⟩ := Cond.code_named hcode
  obtain ⟨methM, cM, hmethM, -, -, -, -, -, -, hsigM⟩ := Cond.code_spec hnamed hcode
  have hstatic : methM.isStatic = true := Cond.static_spec hnamed hmethM hstat
  obtain ⟨kP, hkP, -⟩ := className_of_methodNamed hnamed
  have hinitP : kP.init = .initialized := Cond.initialized_spec (findClass_of_methodNamed hnamed) hkP hinit
  obtain ⟨vm₁, X₁, hstep₁⟩ := X.invokestatic hexec hown hlink hnamed hmethM hstatic hkP hinitP hy (g := g) hg (argsL := argsL) (rest := rest) (hlen _ hsigM) hstack hdg
  rcases hK m meth c ⟨T.setVm vm₁, locs, cells, slots⟩ { g with stack := rest } (.invokestatic index) mk argsL.toArray X₁ hg hsize hdg hW (X₁.named hnamed) (hpre vm₁ X₁.warmed) with ⟨v, B, X', hpost, hsteps⟩ | ⟨q, B, X', hpost, hsteps⟩
  · exact Or.inl ⟨v, vm₁, B, X₁.warmed, X', hpost, fun target h => hstep₁ _ fun acts => by rw [doInvoke_state]; exact hsteps.trans h⟩
  · exact Or.inr ⟨q, vm₁, B, X₁.warmed, X', hpost, hstep₁ _ fun acts => by rw [doInvoke_state]; exact hsteps⟩
end Calls
theorem vx_cls {s : State} {T : State} {vm₁ : Vm} {E : String} {k : ClassId} (hW : s.WarmedH vm₁) (h : (T.setVm vm₁).vm.findClass E = some k) : s.vm.findClass E = some k := by
  have h1 : vm₁.findClass E = some k := h
  rw [hW.alike.findClass] at h1
  exact h1
/-- the method's frame g, with q thrown over it -/
def vx_W (p : Program) (l : Launch) (e : Env) (R : Room) (s : State) (m : MethodId) (args : Array Value) (below : List Frame) (meth : Method) (c : Code) (H : Heap) (locs : List Loc) (cells slots : Nat) (Q : State → Prop) (g : JFrame) (q : Addr) : Prop :=
  ∀ T : State, T.heap = H → Stand p l e R s m args below meth c T locs cells slots → ∃ t, Steps p.tables e below ((T.setTop g).pushFrame (.throwing q)) t ∧ Q t
def vx_Run (p : Program) (l : Launch) (e : Env) (R : Room) (s : State) (m : MethodId) (args : Array Value) (below : List Frame) (meth : Method) (c : Code) (H : Heap) (locs : List Loc) (cells slots mc ms : Nat) (g : JFrame) (rest : List Value) (Qa : State → Outcome → State → Prop) (XC : String → State → State → Prop) (free : Addr → Prop) : Prop :=
  ∀ T : State, T.heap = H → Stand p l e R s m args below meth c T locs cells slots →
    (∃ (v : Option Value) (st₀ t T' : State) (L : List Loc), st₀.heap = H ∧ Stand p l e R s m args below meth c T' (locs ++ L) (cells + mc) (slots + ms) ∧ (∀ q ∈ L, free q.base) ∧ T'.heap = t.heap ∧ T'.vm = t.vm ∧ Qa st₀ (.returned v) t ∧
      Goes p e below T g T' { g with pc := g.pc + 3, stack := v.toList ++ rest }) ∨
    (∃ (q : Addr) (st₀ t T' : State) (L : List Loc) (E : String) (ce : Cell), st₀.heap = H ∧ Stand p l e R s m args below meth c T' (locs ++ L) (cells + mc) (slots + ms) ∧ (∀ z ∈ L, free z.base) ∧ T'.heap = t.heap ∧ T'.vm = t.vm ∧ XC E st₀ t ∧ t.heap[q]? = some ce ∧ ce.vm = .none ∧ s.vm.findClass E = some ce.cls ∧
      Steps p.tables e below (T.setTop g) ((T'.setTop { g with stack := rest }).pushFrame (.throwing q)))
def vx_X {S : Type} (px : S → Prop) (B : String → S → State → Prop) (A : Nat → Prop) : String → State → State → Prop := fun E st t => ∃ u : S, px u ∧ B E u t ∧ va_F A st t
section Runs
variable {p : Program} {l : Launch} {e : Env} {R : Room} {s : State} {m : MethodId} {args : Array Value} {below : List Frame} {meth : Method} {c : Code} {H : Heap} {locs : List Loc} {cells slots : Nat}
variable {y : MethodName} {bytes cc : ByteArray} {maxL nL mc ms n index : Nat} {ret : Option FieldType} {ws : List Cond} {rm : Room} {Pc : Array Value → State → Prop} {Qc : Array Value → State → Outcome → State → Prop} {XC : String → State → State → Prop} {free : Addr → Prop} {Ts : List Cond} {own C : String} {b : Addr} {As rest : List Value} {g : JFrame}
theorem vx_callBack (cb : CallB R s args own index y bytes maxL ret ws rm mc ms n) (hM : vx_Met l y ws rm Pc Qc XC mc ms free) (hbl : FrameBlind Pc) : vx_Back l R p e below s args y 3 8 (PreOf R mc ms Pc) (PostOf Qc mc ms free) (vx_Post XC mc ms free) := by
  obtain ⟨hrc, hrs, hfr, hlo, hws, hcw, -, hini, -⟩ := cb
  exact vx_back (bytes := bytes) (maxL := maxL) (ret := ret) hM hbl hrc hrs hfr hlo hws hcw (fun a' U hW => word_at hW (Or.inl (by first | rfl | simp [Cond.onTables, Cond.keeps, Cond.steady])) hini)
theorem vx_runV (S : CallFix p m c cc nL s args Ts own) (hM : vx_Met l y ws rm Pc Qc XC mc ms free) (cw : CallW R s args own C index y bytes maxL ret ws rm mc ms n) (hp : PreV s H C b Pc As)
    (hg : g.method = m) (hn : As.length = n) (hsize : g.locals.size = nL) (hstack : g.stack = As.reverse ++ .ref b :: rest) (hW : 2 * g.monitorRoom + (rest.map fun v => v.category).sum ≤ 8) (hdg : decode cc g.pc = .ok (.invokevirtual index, 3)) (hf : cells + mc ≤ R.cells ∧ slots + ms ≤ R.slots) :
    vx_Run p l e R s m args below meth c H locs cells slots mc ms g rest (Qc (Value.ref b :: As).toArray) XC free := by
  have hK : vx_Back l R p e below s args y 3 8 (PreOf R mc ms Pc) (PostOf Qc mc ms free) (vx_Post XC mc ms free) := vx_callBack cw.1 hM hp.1
  obtain ⟨⟨-, -, -, -, -, -, hcode, -, hy, hlen, hl⟩, hin, hse⟩ := cw
  obtain ⟨hx, hb, hml, ho, -⟩ := S
  obtain ⟨-, ⟨cellB, hcB, hoB, hclB⟩, hPc⟩ := hp
  intro T hT X
  rcases vx_callV X hx (C := C) (bytes := bytes) (maxL := maxL) (ret := ret) ho hl hin hse hcode hy hK (by rw [hT]; exact hcB) hoB hclB hg (hsize.trans hml.symm) (argsL := As) (rest := rest) (fun sig h => hn.trans (hlen sig h)) hstack hW (by rw [hb]; exact hdg)
    (fun vm₁ hW₁ => ⟨hf.1, hf.2, hPc (T.setVm vm₁) hT hW₁⟩) with ⟨v, vm₁, ⟨U', l2, c2, s2⟩, hW₁, X', ⟨g', mk, t, L, e1, e2, hq, h1, hL, h2, h3⟩, st⟩ | ⟨q, vm₁, ⟨U', l2, c2, s2⟩, hW₁, X', ⟨g', mk, t, L, E, ce, e1, e2, hq, hce, hcv, hcl, h1, hL, h2, h3⟩, st⟩
  · dsimp only [Pt.U, Pt.locs, Pt.cells, Pt.slots] at X' e1 e2 h1 h2 h3 st
    subst h1; subst h2; subst h3
    exact Or.inl ⟨v, (T.setVm vm₁).calling g' mk (Value.ref b :: As).toArray, t, U', L, hT, X', hL, e1, e2, hq, st⟩
  · dsimp only [Pt.U, Pt.locs, Pt.cells, Pt.slots] at X' e1 e2 h1 h2 h3 st hcl
    subst h1; subst h2; subst h3
    exact Or.inr ⟨q, (T.setVm vm₁).calling g' mk (Value.ref b :: As).toArray, t, U', L, E, ce, hT, X', hL, e1, e2, hq, hce, hcv, vx_cls hW₁ hcl, st⟩
theorem vx_runS (S : CallFix p m c cc nL s args Ts own) (hM : vx_Met l y ws rm Pc Qc XC mc ms free) (cw : CallB R s args own index y bytes maxL ret ws rm mc ms n ∧ (Cond.static y).before args s = true) (hp : PreS s H Pc As)
    (hg : g.method = m) (hn : As.length = n) (hsize : g.locals.size = nL) (hstack : g.stack = As.reverse ++ rest) (hW : 2 * g.monitorRoom + (rest.map fun v => v.category).sum ≤ 8) (hdg : decode cc g.pc = .ok (.invokestatic index, 3)) (hf : cells + mc ≤ R.cells ∧ slots + ms ≤ R.slots) :
    vx_Run p l e R s m args below meth c H locs cells slots mc ms g rest (Qc As.toArray) XC free := by
  have hK : vx_Back l R p e below s args y 3 8 (PreOf R mc ms Pc) (PostOf Qc mc ms free) (vx_Post XC mc ms free) := vx_callBack cw.1 hM hp.1
  obtain ⟨⟨-, -, -, -, -, -, hcode, hini, hy, hlen, hl⟩, hstt⟩ := cw
  obtain ⟨hx, hb, hml, ho, -⟩ := S
  intro T hT X
  rcases vx_callS X hx (bytes := bytes) (maxL := maxL) (ret := ret) ho hl hstt hini hcode hy hK hg (hsize.trans hml.symm) (argsL := As) (rest := rest) (fun sig h => hn.trans (hlen sig h)) hstack hW (by rw [hb]; exact hdg)
    (fun vm₁ hW₁ => ⟨hf.1, hf.2, hp.2 (T.setVm vm₁) hT hW₁⟩) with ⟨v, vm₁, ⟨U', l2, c2, s2⟩, hW₁, X', ⟨g', mk, t, L, e1, e2, hq, h1, hL, h2, h3⟩, st⟩ | ⟨q, vm₁, ⟨U', l2, c2, s2⟩, hW₁, X', ⟨g', mk, t, L, E, ce, e1, e2, hq, hce, hcv, hcl, h1, hL, h2, h3⟩, st⟩
  · dsimp only [Pt.U, Pt.locs, Pt.cells, Pt.slots] at X' e1 e2 h1 h2 h3 st
    subst h1; subst h2; subst h3
    exact Or.inl ⟨v, (T.setVm vm₁).calling g' mk As.toArray, t, U', L, hT, X', hL, e1, e2, hq, st⟩
  · dsimp only [Pt.U, Pt.locs, Pt.cells, Pt.slots] at X' e1 e2 h1 h2 h3 st hcl
    subst h1; subst h2; subst h3
    exact Or.inr ⟨q, (T.setVm vm₁).calling g' mk As.toArray, t, U', L, E, ce, hT, X', hL, e1, e2, hq, hce, hcv, vx_cls hW₁ hcl, st⟩
end Runs
section Rows
variable {p : Program} {l : Launch} {e : Env} {R : Room} {s : State} {m : MethodId} {args : Array Value} {below : List Frame} {meth : Method} {c : Code} {H : Heap} {locs : List Loc} {cells slots : Nat} {Q : State → Prop}
variable {mc ms : Nat} {free : Addr → Prop} {A0 A1 : Nat → Prop} {H0 : Heap} {a : Array Value} {pc : Nat} {ls : Array Slot} {st0 rest : List Value}
theorem vx_keep {st₀ t T' : State} {L : List Loc} (h0 : st₀.heap = H) (e1 : T'.heap = t.heap) (hS : va_S A0 H0 H locs) (hA : ∀ q, q < H.size → A1 q → A0 q) (hf : ∀ q, free q → A0 q) (hL : ∀ q ∈ L, free q.base) (hF : va_F A1 st₀ t) :
    H.size ≤ T'.heap.size ∧ (∀ q : Nat, q < H.size → ¬ A1 q → T'.heap[q]? = H[q]?) ∧ va_S A0 H0 T'.heap (locs ++ L) := by
  obtain ⟨hz, hk⟩ := hF
  rw [h0] at hz hk
  exact ⟨by rw [e1]; exact hz, fun q h1 h2 => by rw [e1]; exact hk q h1 h2,
    ⟨Nat.le_trans hS.1 (by rw [e1]; exact hz), fun q h1 h2 => by rw [e1, hk q (Nat.lt_of_lt_of_le h1 hS.1) (fun z => h2 (hA q (Nat.lt_of_lt_of_le h1 hS.1) z))]; exact hS.2.1 q h1 h2, fun q hq => by
      rcases List.mem_append.mp hq with h | h
      · exact hS.2.2 q h
      · exact hf _ (hL q h)⟩⟩
theorem vx_calli {S SX : Type} {post : Int32 → S → Prop} {px : SX → Prop} {B : S → State → Prop} {BX : String → SX → State → Prop} {AX : Nat → Prop} (hr : vx_Run p l e R s m args below meth c H locs cells slots mc ms (F0 m pc ls st0) rest (va_Qi post B A1 a) (vx_X px BX AX) free) (hS : va_S A0 H0 H locs) (hA : ∀ q, q < H.size → A1 q → A0 q) (hf : ∀ q, free q → A0 q) (hAX : ∀ q, q < H.size → AX q → A0 q)
    (kx : ∀ (E : String) (ce : Cell) (q9 : Addr) (u : SX) (t : State) (H1 : Heap) (locs1 : List Loc), t.heap = H1 → s.vm.Alike t.vm → px u → BX E u t → H.size ≤ H1.size → (∀ q : Nat, q < H.size → ¬ AX q → H1[q]? = H[q]?) → va_S A0 H0 H1 locs1 → H1[q9]? = some ce → ce.vm = .none → s.vm.findClass E = some ce.cls → vx_W p l e R s m args below meth c H1 locs1 (cells + mc) (slots + ms) Q (F0 m pc ls rest) q9)
    (kk : ∀ (r : Int32) (u : S) (t : State) (H1 : Heap) (locs1 : List Loc), t.heap = H1 → s.vm.Alike t.vm → post r u → B u t → H.size ≤ H1.size → (∀ q : Nat, q < H.size → ¬ A1 q → H1[q]? = H[q]?) → va_S A0 H0 H1 locs1 → W p l e R s m args below meth c H1 locs1 (cells + mc) (slots + ms) Q (F0 m (pc + 3) ls (.int r :: rest))) : W p l e R s m args below meth c H locs cells slots Q (F0 m pc ls st0) := by
  intro T hT X
  rcases hr T hT X with ⟨v, st₀, t, T', L, h0, X', hL, e1, e2, ⟨⟨r, u, hv, hp, hb⟩, hF⟩, st⟩ | ⟨q, st₀, t, T', L, E, ce, h0, X', hL, e1, e2, ⟨u, hp, hb, hF⟩, hce, hcv, hcl, st⟩
  · cases hv
    obtain ⟨k1, k2, k3⟩ := vx_keep h0 e1 hS hA hf hL hF
    obtain ⟨t2, a1, b1⟩ := kk r u t T'.heap (locs ++ L) e1.symm (by rw [← e2]; exact X'.warmed.alike) hp hb k1 k2 k3 T' rfl X'
    exact ⟨t2, st t2 a1, b1⟩
  · obtain ⟨k1, k2, k3⟩ := vx_keep h0 e1 hS hAX hf hL hF
    obtain ⟨t2, a1, b1⟩ := kx E ce q u t T'.heap (locs ++ L) e1.symm (by rw [← e2]; exact X'.warmed.alike) hp hb k1 k2 k3 (by rw [e1]; exact hce) hcv hcl T' rfl X'
    exact ⟨t2, st.trans a1, b1⟩
theorem vx_calll {S SX : Type} {post : Int64 → S → Prop} {px : SX → Prop} {B : S → State → Prop} {BX : String → SX → State → Prop} {AX : Nat → Prop} (hr : vx_Run p l e R s m args below meth c H locs cells slots mc ms (F0 m pc ls st0) rest (va_Ql post B A1 a) (vx_X px BX AX) free) (hS : va_S A0 H0 H locs) (hA : ∀ q, q < H.size → A1 q → A0 q) (hf : ∀ q, free q → A0 q) (hAX : ∀ q, q < H.size → AX q → A0 q)
    (kx : ∀ (E : String) (ce : Cell) (q9 : Addr) (u : SX) (t : State) (H1 : Heap) (locs1 : List Loc), t.heap = H1 → s.vm.Alike t.vm → px u → BX E u t → H.size ≤ H1.size → (∀ q : Nat, q < H.size → ¬ AX q → H1[q]? = H[q]?) → va_S A0 H0 H1 locs1 → H1[q9]? = some ce → ce.vm = .none → s.vm.findClass E = some ce.cls → vx_W p l e R s m args below meth c H1 locs1 (cells + mc) (slots + ms) Q (F0 m pc ls rest) q9)
    (kk : ∀ (r : Int64) (u : S) (t : State) (H1 : Heap) (locs1 : List Loc), t.heap = H1 → s.vm.Alike t.vm → post r u → B u t → H.size ≤ H1.size → (∀ q : Nat, q < H.size → ¬ A1 q → H1[q]? = H[q]?) → va_S A0 H0 H1 locs1 → W p l e R s m args below meth c H1 locs1 (cells + mc) (slots + ms) Q (F0 m (pc + 3) ls (.long r :: rest))) : W p l e R s m args below meth c H locs cells slots Q (F0 m pc ls st0) := by
  intro T hT X
  rcases hr T hT X with ⟨v, st₀, t, T', L, h0, X', hL, e1, e2, ⟨⟨r, u, hv, hp, hb⟩, hF⟩, st⟩ | ⟨q, st₀, t, T', L, E, ce, h0, X', hL, e1, e2, ⟨u, hp, hb, hF⟩, hce, hcv, hcl, st⟩
  · cases hv
    obtain ⟨k1, k2, k3⟩ := vx_keep h0 e1 hS hA hf hL hF
    obtain ⟨t2, a1, b1⟩ := kk r u t T'.heap (locs ++ L) e1.symm (by rw [← e2]; exact X'.warmed.alike) hp hb k1 k2 k3 T' rfl X'
    exact ⟨t2, st t2 a1, b1⟩
  · obtain ⟨k1, k2, k3⟩ := vx_keep h0 e1 hS hAX hf hL hF
    obtain ⟨t2, a1, b1⟩ := kx E ce q u t T'.heap (locs ++ L) e1.symm (by rw [← e2]; exact X'.warmed.alike) hp hb k1 k2 k3 (by rw [e1]; exact hce) hcv hcl T' rfl X'
    exact ⟨t2, st.trans a1, b1⟩
theorem vx_callf {S SX : Type} {post : UInt32 → S → Prop} {px : SX → Prop} {B : S → State → Prop} {BX : String → SX → State → Prop} {AX : Nat → Prop} (hr : vx_Run p l e R s m args below meth c H locs cells slots mc ms (F0 m pc ls st0) rest (va_Qf post B A1 a) (vx_X px BX AX) free) (hS : va_S A0 H0 H locs) (hA : ∀ q, q < H.size → A1 q → A0 q) (hf : ∀ q, free q → A0 q) (hAX : ∀ q, q < H.size → AX q → A0 q)
    (kx : ∀ (E : String) (ce : Cell) (q9 : Addr) (u : SX) (t : State) (H1 : Heap) (locs1 : List Loc), t.heap = H1 → s.vm.Alike t.vm → px u → BX E u t → H.size ≤ H1.size → (∀ q : Nat, q < H.size → ¬ AX q → H1[q]? = H[q]?) → va_S A0 H0 H1 locs1 → H1[q9]? = some ce → ce.vm = .none → s.vm.findClass E = some ce.cls → vx_W p l e R s m args below meth c H1 locs1 (cells + mc) (slots + ms) Q (F0 m pc ls rest) q9)
    (kk : ∀ (r : UInt32) (u : S) (t : State) (H1 : Heap) (locs1 : List Loc), t.heap = H1 → s.vm.Alike t.vm → post r u → B u t → H.size ≤ H1.size → (∀ q : Nat, q < H.size → ¬ A1 q → H1[q]? = H[q]?) → va_S A0 H0 H1 locs1 → W p l e R s m args below meth c H1 locs1 (cells + mc) (slots + ms) Q (F0 m (pc + 3) ls (.float r :: rest))) : W p l e R s m args below meth c H locs cells slots Q (F0 m pc ls st0) := by
  intro T hT X
  rcases hr T hT X with ⟨v, st₀, t, T', L, h0, X', hL, e1, e2, ⟨⟨r, u, hv, hp, hb⟩, hF⟩, st⟩ | ⟨q, st₀, t, T', L, E, ce, h0, X', hL, e1, e2, ⟨u, hp, hb, hF⟩, hce, hcv, hcl, st⟩
  · cases hv
    obtain ⟨k1, k2, k3⟩ := vx_keep h0 e1 hS hA hf hL hF
    obtain ⟨t2, a1, b1⟩ := kk r u t T'.heap (locs ++ L) e1.symm (by rw [← e2]; exact X'.warmed.alike) hp hb k1 k2 k3 T' rfl X'
    exact ⟨t2, st t2 a1, b1⟩
  · obtain ⟨k1, k2, k3⟩ := vx_keep h0 e1 hS hAX hf hL hF
    obtain ⟨t2, a1, b1⟩ := kx E ce q u t T'.heap (locs ++ L) e1.symm (by rw [← e2]; exact X'.warmed.alike) hp hb k1 k2 k3 (by rw [e1]; exact hce) hcv hcl T' rfl X'
    exact ⟨t2, st.trans a1, b1⟩
theorem vx_calld {S SX : Type} {post : UInt64 → S → Prop} {px : SX → Prop} {B : S → State → Prop} {BX : String → SX → State → Prop} {AX : Nat → Prop} (hr : vx_Run p l e R s m args below meth c H locs cells slots mc ms (F0 m pc ls st0) rest (va_Qd post B A1 a) (vx_X px BX AX) free) (hS : va_S A0 H0 H locs) (hA : ∀ q, q < H.size → A1 q → A0 q) (hf : ∀ q, free q → A0 q) (hAX : ∀ q, q < H.size → AX q → A0 q)
    (kx : ∀ (E : String) (ce : Cell) (q9 : Addr) (u : SX) (t : State) (H1 : Heap) (locs1 : List Loc), t.heap = H1 → s.vm.Alike t.vm → px u → BX E u t → H.size ≤ H1.size → (∀ q : Nat, q < H.size → ¬ AX q → H1[q]? = H[q]?) → va_S A0 H0 H1 locs1 → H1[q9]? = some ce → ce.vm = .none → s.vm.findClass E = some ce.cls → vx_W p l e R s m args below meth c H1 locs1 (cells + mc) (slots + ms) Q (F0 m pc ls rest) q9)
    (kk : ∀ (r : UInt64) (u : S) (t : State) (H1 : Heap) (locs1 : List Loc), t.heap = H1 → s.vm.Alike t.vm → post r u → B u t → H.size ≤ H1.size → (∀ q : Nat, q < H.size → ¬ A1 q → H1[q]? = H[q]?) → va_S A0 H0 H1 locs1 → W p l e R s m args below meth c H1 locs1 (cells + mc) (slots + ms) Q (F0 m (pc + 3) ls (.double r :: rest))) : W p l e R s m args below meth c H locs cells slots Q (F0 m pc ls st0) := by
  intro T hT X
  rcases hr T hT X with ⟨v, st₀, t, T', L, h0, X', hL, e1, e2, ⟨⟨r, u, hv, hp, hb⟩, hF⟩, st⟩ | ⟨q, st₀, t, T', L, E, ce, h0, X', hL, e1, e2, ⟨u, hp, hb, hF⟩, hce, hcv, hcl, st⟩
  · cases hv
    obtain ⟨k1, k2, k3⟩ := vx_keep h0 e1 hS hA hf hL hF
    obtain ⟨t2, a1, b1⟩ := kk r u t T'.heap (locs ++ L) e1.symm (by rw [← e2]; exact X'.warmed.alike) hp hb k1 k2 k3 T' rfl X'
    exact ⟨t2, st t2 a1, b1⟩
  · obtain ⟨k1, k2, k3⟩ := vx_keep h0 e1 hS hAX hf hL hF
    obtain ⟨t2, a1, b1⟩ := kx E ce q u t T'.heap (locs ++ L) e1.symm (by rw [← e2]; exact X'.warmed.alike) hp hb k1 k2 k3 (by rw [e1]; exact hce) hcv hcl T' rfl X'
    exact ⟨t2, st.trans a1, b1⟩
theorem vx_callv {S SX : Type} {post : S → Prop} {px : SX → Prop} {B : S → State → Prop} {BX : String → SX → State → Prop} {AX : Nat → Prop} (hr : vx_Run p l e R s m args below meth c H locs cells slots mc ms (F0 m pc ls st0) rest (va_Qv post B A1 a) (vx_X px BX AX) free) (hS : va_S A0 H0 H locs) (hA : ∀ q, q < H.size → A1 q → A0 q) (hf : ∀ q, free q → A0 q) (hAX : ∀ q, q < H.size → AX q → A0 q)
    (kx : ∀ (E : String) (ce : Cell) (q9 : Addr) (u : SX) (t : State) (H1 : Heap) (locs1 : List Loc), t.heap = H1 → s.vm.Alike t.vm → px u → BX E u t → H.size ≤ H1.size → (∀ q : Nat, q < H.size → ¬ AX q → H1[q]? = H[q]?) → va_S A0 H0 H1 locs1 → H1[q9]? = some ce → ce.vm = .none → s.vm.findClass E = some ce.cls → vx_W p l e R s m args below meth c H1 locs1 (cells + mc) (slots + ms) Q (F0 m pc ls rest) q9)
    (kk : ∀ (u : S) (t : State) (H1 : Heap) (locs1 : List Loc), t.heap = H1 → s.vm.Alike t.vm → post u → B u t → H.size ≤ H1.size → (∀ q : Nat, q < H.size → ¬ A1 q → H1[q]? = H[q]?) → va_S A0 H0 H1 locs1 → W p l e R s m args below meth c H1 locs1 (cells + mc) (slots + ms) Q (F0 m (pc + 3) ls (rest))) : W p l e R s m args below meth c H locs cells slots Q (F0 m pc ls st0) := by
  intro T hT X
  rcases hr T hT X with ⟨v, st₀, t, T', L, h0, X', hL, e1, e2, ⟨⟨u, hv, hp, hb⟩, hF⟩, st⟩ | ⟨q, st₀, t, T', L, E, ce, h0, X', hL, e1, e2, ⟨u, hp, hb, hF⟩, hce, hcv, hcl, st⟩
  · cases hv
    obtain ⟨k1, k2, k3⟩ := vx_keep h0 e1 hS hA hf hL hF
    obtain ⟨t2, a1, b1⟩ := kk u t T'.heap (locs ++ L) e1.symm (by rw [← e2]; exact X'.warmed.alike) hp hb k1 k2 k3 T' rfl X'
    exact ⟨t2, st t2 a1, b1⟩
  · obtain ⟨k1, k2, k3⟩ := vx_keep h0 e1 hS hAX hf hL hF
    obtain ⟨t2, a1, b1⟩ := kx E ce q u t T'.heap (locs ++ L) e1.symm (by rw [← e2]; exact X'.warmed.alike) hp hb k1 k2 k3 (by rw [e1]; exact hce) hcv hcl T' rfl X'
    exact ⟨t2, st.trans a1, b1⟩
/-- caught by the row x of this method's table; the rows ahead don't take it -/
theorem vx_catch {own name : String} {E : String} {ce : Cell} {q : Addr} (hown : s.vm.findClass own = some m.cls) (pre : List ExceptionTableEntry) (x : ExceptionTableEntry) (suf : List ExceptionTableEntry) (hsplit : c.exceptionTable.toList = pre ++ x :: suf)
    (hpass : ∀ z ∈ pre, covers z pc = false ∨ (z.catchType ≠ 0 ∧ ∃ nm : String, (Cond.classLink own z.catchType nm).before args s = true ∧ va_Nc E nm s)) (hx : covers x pc = true) (h0 : x.catchType ≠ 0)
    (hlink : (Cond.classLink own x.catchType name).before args s = true) (hcast : (Cond.castable E name).before args s = true) (hcell : H[q]? = some ce) (hv : ce.vm = .none) (hcl : s.vm.findClass E = some ce.cls)
    (kk : W p l e R s m args below meth c H locs cells slots Q (F0 m x.handlerPc ls [.ref q])) : vx_W p l e R s m args below meth c H locs cells slots Q (F0 m pc ls rest) q := by
  intro T hT X
  have hpl : e.platform.magicAccessors = ({} : Platform).magicAccessors := by rw [X.admits.platform]
  obtain ⟨c3, c4, hc3, hc4, hasg⟩ := Cond.castable_spec hcast
  cases Option.some.inj (hc3.symm.trans hcl)
  obtain ⟨c5, hc5, hcl5⟩ := Cond.classLink_spec hown hlink e.platform hpl
  cases Option.some.inj (hc4.symm.trans hc5)
  obtain ⟨vm', X', st⟩ := X.thenCaughtThrough q (g := F0 m pc ls rest) rfl (Steps.refl _) (by rw [hT]; exact hcell) (by rw [hv]; rfl) (by obtain ⟨k9, h9, -⟩ := Vm.findClass_spec hcl; exact ⟨k9, h9⟩) pre x suf hsplit
    (fun z hz => by
      rcases hpass z hz with h | ⟨hz0, nm, hl1, hn1⟩
      · exact Or.inl h
      · obtain ⟨c6, hc6, hcl6⟩ := Cond.classLink_spec hown hl1 e.platform hpl
        obtain ⟨a8, b8, h1, h2, h3⟩ := hn1
        cases Option.some.inj (h1.symm.trans hcl)
        cases Option.some.inj (h2.symm.trans hc6)
        exact Or.inr ⟨hz0, _, hcl6, h3⟩) hx (Or.inr ⟨h0, c4, hcl5, hasg⟩)
  obtain ⟨t, a1, b1⟩ := kk (T.setVm vm') hT X'
  exact ⟨t, st.trans a1, b1⟩
end Rows
section Ends
variable {p : Program} {l : Launch} {e : Env} {R : Room} {s : State} {m : MethodId} {args : Array Value} {below : List Frame} {meth : Method} {c : Code} {H : Heap} {locs : List Loc} {cells slots : Nat} {Q : State → Prop}
variable {mc ms : Nat} {free : Addr → Prop} {A0 A1 : Nat → Prop} {H0 : Heap} {a : Array Value} {ls : Array Slot} {st0 rest : List Value}
variable {Qc : Array Value → State → Outcome → State → Prop} {XC : String → State → State → Prop}
/-- what a body that may throw owes at its end -/
def vx_MQ (below : List Frame) (Qc : Array Value → State → Outcome → State → Prop) (XC : String → State → State → Prop) (a : Array Value) (s : State) (mc ms : Nat) (free : Addr → Prop) : State → Prop := fun t =>
  ∃ o, t.status = .running ∧ Ended t below o ∧ vx_Q Qc XC mc ms free a s o t
theorem vx_ret {g : JFrame} {mc ms : Nat} (k : W p l e R s m args below meth c H locs cells slots (MQ below Qc args s mc ms free) g) : W p l e R s m args below meth c H locs cells slots (vx_MQ below Qc XC args s mc ms free) g := by
  intro T hT X
  obtain ⟨t, a1, o, b1, b2, b3, b4⟩ := k T hT X
  exact ⟨t, a1, o, b1, b2, Or.inl ⟨b3, b4⟩⟩
/-- not caught here: it goes on to the caller -/
theorem vx_widen {g : JFrame} {q : Addr} {k n : Nat} (h1 : cells ≤ k) (h2 : slots ≤ n) (kk : vx_W p l e R s m args below meth c H locs k n Q g q) : vx_W p l e R s m args below meth c H locs cells slots Q g q := fun T hT X => kk T hT (stand_widen X h1 h2)
theorem vx_out {pc : Nat} {E : String} {ce : Cell} {q : Addr} {mc ms : Nat} (hout : ∀ x ∈ c.exceptionTable.toList, covers x pc = false) (hlocks : meth.locks = false) (hcell : H[q]? = some ce) (hv : ce.vm = .none) (hcl : s.vm.findClass E = some ce.cls)
    (hx : ∀ t : State, t.heap = H → s.vm.Alike t.vm → XC E s t) (hf : ∀ z ∈ locs, free z.base) (hc : cells ≤ mc) (hs : slots ≤ ms) :
    vx_W p l e R s m args below meth c H locs cells slots (vx_MQ below Qc XC args s mc ms free) (F0 m pc ls rest) q := by
  intro T hT X
  obtain ⟨st1, hrun, hend, hW, hsm⟩ := X.leaveThrown q (g := F0 m pc ls rest) rfl rfl rfl hout hlocks
  have hcell9 : (T.setFrames (.throwing q :: below)).heap[q]? = some ce := by
    show T.heap[q]? = some ce
    rw [hT]; exact hcell
  exact ⟨_, st1, .threw q, hrun, hend, Or.inr ⟨q, rfl, E, ce, locs, hx _ hT hW.alike, hcell9, hv, hcl, hW, hsm.mono hc hs, hf⟩⟩
theorem vx_frame {U : State} {k n : Nat} (h : s.sameButNew ({ U with vm := s.vm } : State) locs k n) : s.heap.size ≤ U.heap.size ∧ ∀ q : Nat, q < s.heap.size → (∀ z ∈ locs, z.base ≠ q) → U.heap[q]? = s.heap[q]? := by
  obtain ⟨-, h2, -, -, -, h6⟩ := h
  refine ⟨h2, fun q hq hz => ?_⟩
  obtain ⟨c9, e1, e2, e3, e4⟩ := h6 q _ (Array.getElem?_eq_getElem hq)
  have hs : c9.slots = (s.heap[q]).slots := Array.ext_getElem? fun i => e4 i fun hm => hz _ hm rfl
  have h9 : c9 = s.heap[q] := by
    rw [hs] at e2
    exact e2
  have e5 : U.heap[q]? = some c9 := e1
  rw [e5, h9, Array.getElem?_eq_getElem hq]
/-- the words of a throw but the four that speak of the heap -/
def vx_no (w : Cond) : Bool := decide (w ≠ .isRef (.static Bundle.tN "UNASSIGNED_STACK" Bundle.steD)) && decide (w ≠ .isRef (.static Bundle.tN "SUPPRESSED_SENTINEL" Bundle.listD)) && decide (w ≠ .laysStatic Bundle.tN "UNASSIGNED_STACK" Bundle.steD) && decide (w ≠ .laysStatic Bundle.tN "SUPPRESSED_SENTINEL" Bundle.listD)
def vx_at0 (own : String) (ic : Nat) (X : String) (names : List String) : List Cond := (Bundle.ownAtoms0 own ic X names).filter vx_no
def vx_atS (own : String) (ic : Nat) (X : String) (names : List String) : List Cond := (Bundle.ownAtoms own ic X names).filter vx_no
/-- a word that the tables alone decide, or a good one -/
def vx_ot (w : Cond) : Bool := w.onTables || goodWord w
theorem vx_ot_at {args a' : Array Value} {s U : State} {w : Cond} (hW : s.WarmedH U.vm) (hvm : s.vm = U.vm) (hg : vx_ot w = true) (h : w.before args s = true) : w.before a' U = true := by
  simp only [vx_ot, Bool.or_eq_true] at hg
  rcases hg with hg | hg
  · exact va_tabs hg hvm h
  · exact word_at hW (good_of_word hg) h
/-- a list's words: the good ones out of the method's own list, the others by premises of their own -/
theorem vx_hat {args : Array Value} {s : State} {L B : List Cond} (h1 : ∀ w ∈ L.filter goodWord, w.before args s = true) (h2 : ∀ w ∈ L.filter (fun w => !goodWord w), w ∈ B) (h3 : ∀ w ∈ B, w.before args s = true) : ∀ w ∈ L, w.before args s = true := by
  intro w hw
  by_cases g : goodWord w = true
  · exact h1 w (List.mem_filter.mpr ⟨hw, g⟩)
  · refine h3 w (h2 w (List.mem_filter.mpr ⟨hw, ?_⟩))
    show (!goodWord w) = true
    cases hgw : goodWord w
    · rfl
    · exact absurd hgw g
theorem vx_c {args : Array Value} {s : State} {w : Cond} {B : List Cond} (h : w.before args s = true) (t : ∀ w ∈ B, w.before args s = true) : ∀ w' ∈ w :: B, w'.before args s = true := fun w' h' => (List.mem_cons.mp h').elim (fun e => by rw [e]; exact h) (t w')
theorem vx_n {args : Array Value} {s : State} : ∀ w ∈ ([] : List Cond), w.before args s = true := fun _ h => nomatch h
theorem vx_own {args : Array Value} {s : State} {L : List Cond} (h1 : ∀ w ∈ L.filter vx_no, w.before args s = true)
    (hU : (Cond.isRef (.static Bundle.tN "UNASSIGNED_STACK" Bundle.steD)).before args s = true) (hN : (Cond.isRef (.static Bundle.tN "SUPPRESSED_SENTINEL" Bundle.listD)).before args s = true)
    (lU : (Cond.laysStatic Bundle.tN "UNASSIGNED_STACK" Bundle.steD).before args s = true) (lN : (Cond.laysStatic Bundle.tN "SUPPRESSED_SENTINEL" Bundle.listD).before args s = true) : ∀ w ∈ L, w.before args s = true := by
  intro w hw
  by_cases e1 : w = .isRef (.static Bundle.tN "UNASSIGNED_STACK" Bundle.steD)
  · rw [e1]; exact hU
  · by_cases e2 : w = .isRef (.static Bundle.tN "SUPPRESSED_SENTINEL" Bundle.listD)
    · rw [e2]; exact hN
    · by_cases e3 : w = .laysStatic Bundle.tN "UNASSIGNED_STACK" Bundle.steD
      · rw [e3]; exact lU
      · by_cases e4 : w = .laysStatic Bundle.tN "SUPPRESSED_SENTINEL" Bundle.listD
        · rw [e4]; exact lN
        · exact h1 w (List.mem_filter.mpr ⟨hw, by unfold vx_no; rw [decide_eq_true e1, decide_eq_true e2, decide_eq_true e3, decide_eq_true e4]; rfl⟩)
/-- where a static field lies, its class's statics cell in H -/
def vx_L (C n d : String) (A : Nat → Prop) (U : State) (H : Heap) : Prop := ∃ (c : ClassId) (k : Class) (i : Nat) (f : Field) (a : Nat) (cell : Cell), U.vm.findClass C = some c ∧ U.fieldFound? C n d = some (c, k, i, f) ∧ f.isStatic = true ∧ k.statics = some a ∧ H[a]? = some cell ∧ cell.vm.isStatics = true ∧ cell.cls = c ∧ f.slot < cell.slots.size ∧ k.staticTypes[f.slot]? = some f.type ∧ ¬ A a
theorem vx_L.moved {C n d : String} {A : Nat → Prop} {u U : State} {H : Heap} (hvm : u.vm.Alike U.vm) (h : vx_L C n d A u H) : vx_L C n d A U H := by
  obtain ⟨c, k, i, f, a, cell, h1, h2, h3, h4, h5, h6, h7, h8, h9, h10⟩ := h
  obtain ⟨k', hi', he⟩ := State.fieldFound?_setVm hvm h2
  exact ⟨c, k', i, f, a, cell, by rw [hvm.findClass]; exact h1, hi', h3, by rw [he]; exact h4, h5, h6, h7, h8, by rw [he]; exact h9, h10⟩
theorem vx_L.kept {C n d : String} {A : Nat → Prop} {U : State} {H H1 : Heap} (h : vx_L C n d A U H) (hq : ∀ a : Nat, a < H.size → ¬ A a → H1[a]? = H[a]?) : vx_L C n d A U H1 := by
  obtain ⟨c, k, i, f, a, cell, h1, h2, h3, h4, h5, h6, h7, h8, h9, h10⟩ := h
  exact ⟨c, k, i, f, a, cell, h1, h2, h3, h4, by rw [hq a (Array.getElem?_eq_some_iff.mp h5).1 h10]; exact h5, h6, h7, h8, h9, h10⟩
theorem vx_L.narrow {C n d : String} {A B : Nat → Prop} {U : State} {H : Heap} (h : vx_L C n d A U H) (hAB : ∀ q, B q → A q) : vx_L C n d B U H := by
  obtain ⟨c, k, i, f, a, cell, h1, h2, h3, h4, h5, h6, h7, h8, h9, h10⟩ := h
  exact ⟨c, k, i, f, a, cell, h1, h2, h3, h4, h5, h6, h7, h8, h9, fun z => h10 (hAB _ z)⟩
theorem vx_L.word {C n d : String} {A : Nat → Prop} {s : State} {args : Array Value} (h : vx_L C n d A s s.heap) : (Cond.laysStatic C n d).before args s = true := by
  obtain ⟨c, k, i, f, a, cell, h1, h2, h3, h4, h5, h6, h7, h8, h9, -⟩ := h
  show (Cond.laysStatic C n d).holds args s none s [] = true
  exact Cond.laysStatic_of h1 h2 h3 h4 h5 h6 h7 h8 h9
/-- .. and what it holds: null or some reference -/
def vx_Zq (C n d : String) (A : Nat → Prop) (U : State) (H : Heap) : Prop := va_Zq C n d A U H ∧ vx_L C n d A U H
theorem vx_Zq.moved {C n d : String} {A : Nat → Prop} {u U : State} {H : Heap} (hvm : u.vm.Alike U.vm) (h : vx_Zq C n d A u H) : vx_Zq C n d A U H := ⟨va_Zq.moved hvm h.1, vx_L.moved hvm h.2⟩
theorem vx_Zq.kept {C n d : String} {A : Nat → Prop} {U : State} {H H1 : Heap} (h : vx_Zq C n d A U H) (hq : ∀ a : Nat, a < H.size → ¬ A a → H1[a]? = H[a]?) : vx_Zq C n d A U H1 := ⟨va_Zq.kept h.1 hq, vx_L.kept h.2 hq⟩
theorem vx_Zq.narrow {C n d : String} {A B : Nat → Prop} {U : State} {H : Heap} (h : vx_Zq C n d A U H) (hAB : ∀ q, B q → A q) : vx_Zq C n d B U H := ⟨va_Zq.narrow h.1 hAB, vx_L.narrow h.2 hAB⟩
theorem vx_Zqof {args : Array Value} {s : State} {C n d : String} {A : Nat → Prop} (hl : (Cond.laysStatic C n d).before args s = true) (hini : (Cond.initialized C).before args s = true) (h : (Cond.isRef (.static C n d)).before args s = true) (hA : ∀ a : Nat, a < s.heap.size → ¬ A a) : vx_Zq C n d A s s.heap := by
  refine ⟨va_Zqof hl hini h hA, ?_⟩
  obtain ⟨c, k, i, f, a, cell, h1, h2, h3, h4, h5, h6, h7, h8, h9⟩ := Cond.laysStatic_spec hl
  exact ⟨c, k, i, f, a, cell, h1, h2, h3, h4, h5, h6, h7, h8, h9, hA a (Array.getElem?_eq_some_iff.mp h5).1⟩
theorem vx_isRef {C n d : String} {v : Value} {A : Nat → Prop} {s : State} {args : Array Value} (h : va_Z C n d v A s s.heap) (hv : v.isRef = true) : (Cond.isRef (.static C n d)).before args s = true := by
  obtain ⟨cf, kf, fi, f, a, cell, h1, h2, h3, h4, h5, h6, h7, -⟩ := h
  have he : (Term.static C n d).eval args s none [] s = some v := by
    simp [Term.eval, State.fieldNamed?, h1, h2, h4, h5, h6, h7]
  simp only [Cond.before, Cond.holds, Cond.value, he]
  cases v <;> simp_all [Value.isRef]
theorem vx_isRefq {C n d : String} {A : Nat → Prop} {s : State} {args : Array Value} (h : va_Zq C n d A s s.heap) : (Cond.isRef (.static C n d)).before args s = true := by
  rcases h with h | ⟨t, h⟩
  · exact vx_isRef h rfl
  · exact vx_isRef h rfl
/-- the same frame, seen from here: as if the method were called anew in this heap -/
theorem vx_rebase {T : State} (X : Stand p l e R s m args below meth c T locs cells slots) {R' : Room} (hf : R'.frames ≤ R.frames) (hl : R'.locals ≤ R.locals) (hc : cells + R'.cells ≤ R.cells) (hs : slots + R'.slots ≤ R.slots) :
    Stand p l e R' ((T.setVm s.vm).setFrames (.invoking m args :: below)) m args below meth c T [] 0 0 := by
  have htop : (T.setVm s.vm).topJava?.isSome := X.here.top
  have hF : ((T.setVm s.vm).setFrames (.invoking m args :: below)).frames = .invoking m args :: below := State.frames_setFrames _ (State.cur_lt_of_top htop)
  obtain ⟨g₀, hg0⟩ := Option.isSome_iff_exists.mp htop
  obtain ⟨r, hr⟩ := State.topJava?_eq_some.mp hg0
  have hl9 : e.platform.stackLimits (T.setVm s.vm).me = e.platform.stackLimits s.me := X.limits
  have hb9 : (T.setVm s.vm).me.stackBytes = s.me.stackBytes := X.bytes
  refine ⟨X.admits, X.cas, X.clock, hF, ?_, X.hears, X.method, X.code, X.here, X.tail, X.warmed, ?_, ?_, ?_⟩
  · have h := X.room
    have hU : ((T.setVm s.vm).setFrames (.invoking m args :: below)).localsInUse = s.localsInUse := by
      rw [State.localsInUse_invoking hF (meth := meth) (c := c) X.method X.code, State.localsInUse_invoking X.frames X.method X.code]
    simp only [State.hasRoom, Bool.and_eq_true, decide_eq_true_eq] at h ⊢
    obtain ⟨⟨⟨⟨h1, h2, h3, h4, h5, h6⟩, h7⟩, h8⟩, h9⟩ := h
    rw [X.frames, List.length_cons] at h2 h3
    have q1 := X.heapSize
    have q2 := X.used
    simp only [hF, hU, List.length_cons, State.stackLimits_setFrames, State.stackBytes_setFrames, hl9, hb9]
    refine ⟨⟨⟨⟨by omega, by omega, by omega, by omega, by omega, h6⟩, ?_⟩, ?_⟩, X.book⟩
    · show T.heap.size + R'.cells ≤ e.platform.maxCells
      omega
    · show T.slotsUsed + R'.slots ≤ e.platform.maxSlots
      omega
  · rw [State.stackLimits_setFrames]; rfl
  · rw [State.stackBytes_setFrames]; rfl
  · refine ⟨?_, Nat.le_refl _, Nat.le_refl _, ?_, ?_, fun a c9 h9 => ⟨c9, h9, rfl, rfl, fun _ _ => rfl⟩⟩
    · obtain ⟨t, ht, -⟩ := State.frames_cons hr
      show T.setVm s.vm = { ((T.setVm s.vm).setFrames (.invoking m args :: below)).setFrames (T.setVm s.vm).frames with heap := T.heap, slotsUsed := T.slotsUsed }
      rw [State.setFrames_setFrames, State.setFrames_self ht]
      rfl
    · show T.slotsUsed = T.slotsUsed + ((T.heap.toList.drop T.heap.size).map (·.slots.size)).sum
      rw [List.drop_eq_nil_of_le (Nat.le_of_eq Array.length_toList)]
      rfl
    · show ((T.heap.toList.drop T.heap.size).map (·.slots.size)).sum ≤ 0
      rw [List.drop_eq_nil_of_le (Nat.le_of_eq Array.length_toList)]
      exact Nat.le_refl _
/-- 'throw new E()': new; dup; invokespecial; athrow -/
theorem vx_throw0 {cc : ByteArray} {pc : Nat} (hexec : p.tables.exec = Jvm.exec) (hb : c.code = cc) (hl : l.stackTraces = false) {own cls : String} {names : List String} {ik ic mc ms : Nat} {A : Nat → Prop}
    (hown : s.vm.findClass own = some m.cls) (hcls : Bundle.fit cls = true) (hnames : ∀ n ∈ names, Bundle.fit n = true)
    (hk : (Cond.classLink own ik cls).before args s = true) (hini : (Cond.initialized cls).before args s = true) (hat : ∀ w ∈ vx_at0 own ic cls names, w.before args s = true)
    (hgood : ∀ w ∈ Cond.classLink own ik cls :: Cond.initialized cls :: vx_at0 own ic cls names, vx_ot w = true)
    (hU : vx_Zq Bundle.tN "UNASSIGNED_STACK" Bundle.steD A s s.heap) (hN : vx_Zq Bundle.tN "SUPPRESSED_SENTINEL" Bundle.listD A s s.heap) (hS : va_S A s.heap H locs) (hsize : ls.size = c.maxLocals)
    (d0 : decode cc pc = .ok (.new ik, 3)) (d3 : decode cc (pc + 3) = .ok (.dup, 1)) (d4 : decode cc (pc + 4) = .ok (.invokespecial ic, 3)) (d7 : decode cc (pc + 7) = .ok (.athrow, 1))
    (hout : ∀ x ∈ c.exceptionTable.toList, covers x (pc + 7) = false)
    (hRframes : names.length + 3 < R.frames) (hRlocals : (rest.map fun v => v.category).sum + (13 * (names.length + 1) + 42) ≤ R.locals) (hRcells : cells + 1 ≤ R.cells) (hRslots : slots + 6 ≤ R.slots) (hlocks : meth.locks = false)
    (hx : ∀ t : State, s.vm.Alike t.vm → H.size ≤ t.heap.size → (∀ q : Nat, q < H.size → t.heap[q]? = H[q]?) → XC cls s t)
    (hf : ∀ z ∈ locs, free z.base) (hc : cells + 1 ≤ mc) (hs : slots + 6 ≤ ms) :
    W p l e R s m args below meth c H locs cells slots (vx_MQ below Qc XC args s mc ms free) (F0 m pc ls rest) := by
  intro T hT X
  have htr : e.platform.stackTraces = false := (show e.platform.stackTraces = l.stackTraces by rw [X.admits.platform]).trans hl
  have Y := vx_rebase X (R' := { frames := R.frames, locals := R.locals, cells := 1, slots := 6 }) (Nat.le_refl _) (Nat.le_refl _) hRcells hRslots
  obtain ⟨s', hA⟩ : ∃ z, z = (T.setVm s.vm).setFrames (.invoking m args :: below) := ⟨_, rfl⟩
  rw [← hA] at Y
  have hvm : s'.vm = s.vm := by rw [hA]; rfl
  have hhp : s'.heap = H := by rw [hA]; exact hT
  have hW0 : s.WarmedH s'.vm := by rw [hvm]; exact State.WarmedH.refl s
  have hat' : ∀ w ∈ vx_at0 own ic cls names, w.before args s' = true := fun w hw => vx_ot_at hW0 hvm.symm (hgood w (List.mem_cons_of_mem _ (List.mem_cons_of_mem _ hw))) (hat w hw)
  have hk' : (Cond.classLink own ik cls).before args s' = true := vx_ot_at hW0 hvm.symm (hgood _ List.mem_cons_self) hk
  have hini' : (Cond.initialized cls).before args s' = true := vx_ot_at hW0 hvm.symm (hgood _ (List.mem_cons_of_mem _ List.mem_cons_self)) hini
  have hU' : vx_Zq Bundle.tN "UNASSIGNED_STACK" Bundle.steD A s' s'.heap := by rw [hhp]; exact vx_Zq.moved hW0.alike (hU.kept hS.2.1)
  have hN' : vx_Zq Bundle.tN "SUPPRESSED_SENTINEL" Bundle.listD A s' s'.heap := by rw [hhp]; exact vx_Zq.moved hW0.alike (hN.kept hS.2.1)
  have h : ∀ w ∈ Bundle.ownAtoms0 own ic cls names, w.before args s' = true := vx_own hat' (vx_isRefq hU'.1) (vx_isRefq hN'.1) hU'.2.word hN'.2.word
  have hown' : s'.vm.findClass own = some m.cls := by rw [hvm]; exact hown
  have hins : (Cond.instantiable cls 6).before args s' = true := h _ (by simp [Bundle.ownAtoms0])
  obtain ⟨vm₁, cX, kX, hfX, hkX, -, -, X₁, st1⟩ := Y.newCold hexec (own := own) (C := cls) (index := ik) (n := 6) hown' hk' hins hini'
    (g := F0 m pc ls rest) rfl (by rw [hb]; exact d0) (Nat.le_refl _) (Nat.le_refl _)
  generalize hT1 : (T.setVm vm₁).pushCell { cls := cX, slots := kX.instanceTypes.map defaultValue, vm := .none } = T1 at X₁ st1
  have hcat : (Value.ref T.heap.size).category = 1 := rfl
  have hcellA : T1.heap[T.heap.size]? = some (freshCell cX kX) := by rw [← hT1]; exact State.heap_pushCell_size _ _
  have d3' : decode c.code (pc + 3) = .ok (.dup, 1) := by rw [hb]; exact d3
  obtain ⟨U, hsteps, hrun, hend, hW, hsame, ce, hce, hO⟩ := X₁.ctorThrow0 hexec htr (own := own) (cls := cls) (names := names) (ic := ic) hown' hcls hnames h (fun x hx => nomatch hx) hfX hkX hcellA (by rw [hhp, hT]; exact Nat.le_refl _)
    (g := { method := m, pc := pc + 4, locals := ls, stack := .ref T.heap.size :: .ref T.heap.size :: rest, locked := none }) rfl hsize rfl rfl (rest := rest) rfl
    (by rw [hb]; exact d4) (by rw [hb]; exact d7) hout hRframes (by simp only [List.map_cons, List.sum_cons, hcat]; omega) hlocks
  obtain ⟨f1, f2⟩ := vx_frame hsame
  rw [hhp] at f1 f2
  have hWs : s.WarmedH U.vm := State.WarmedH.trans hW0 hW
  have hcl : s.vm.findClass cls = some ce.cls := by
    have h9 := hO.cls
    rw [hvm] at h9
    exact h9
  have hall : s.sameButNew ({ U with vm := s.vm } : State) locs mc ms := by
    subst hA
    obtain ⟨e1, e2⟩ := hsame
    rw [State.setFrames_setFrames] at e1
    have h2 : (T.setVm s.vm).sameButNew ({ U with vm := s.vm } : State) [] (0 + 1) (0 + 6) := ⟨e1, e2⟩
    have h3 := X.same.trans h2
    rw [List.append_nil] at h3
    exact h3.mono hc hs
  refine ⟨U, ?_, .threw T.heap.size, hrun, hend, Or.inr ⟨T.heap.size, rfl, cls, ce, locs, hx U hWs.alike f1 (fun q hq => f2 q hq (fun z hz => nomatch hz)), hce, hO.vm, hcl, hWs, hall, hf⟩⟩
  refine st1 _ ?_
  show Steps p.tables e below (T1.setTop { method := m, pc := pc + 3, locals := ls, stack := .ref T.heap.size :: rest, locked := none }) _
  jvm_step X₁.here [X₁.here.top, hexec, d3', Value.category]
  exact hsteps
/-- 'throw new E("text")': new; dup; ldc; invokespecial; athrow -/
theorem vx_throwS {cc : ByteArray} {pc : Nat} (hexec : p.tables.exec = Jvm.exec) (hb : c.code = cc) (hl : l.stackTraces = false) {own cls text : String} {names : List String} {ik is ic mc ms sa : Nat} {A : Nat → Prop}
    (hown : s.vm.findClass own = some m.cls) (hcls : Bundle.fit cls = true) (hnames : ∀ n ∈ names, Bundle.fit n = true)
    (hk : (Cond.classLink own ik cls).before args s = true) (hini : (Cond.initialized cls).before args s = true) (hstr : vk_R own is text sa s) (hat : ∀ w ∈ vx_atS own ic cls names, w.before args s = true)
    (hgood : ∀ w ∈ Cond.classLink own ik cls :: Cond.initialized cls :: vx_atS own ic cls names, vx_ot w = true)
    (hU : vx_Zq Bundle.tN "UNASSIGNED_STACK" Bundle.steD A s s.heap) (hN : vx_Zq Bundle.tN "SUPPRESSED_SENTINEL" Bundle.listD A s s.heap) (hS : va_S A s.heap H locs) (hsize : ls.size = c.maxLocals)
    (d0 : decode cc pc = .ok (.new ik, 3)) (d3 : decode cc (pc + 3) = .ok (.dup, 1)) (d4 : decode cc (pc + 4) = .ok (.ldc is, 2)) (d6 : decode cc (pc + 6) = .ok (.invokespecial ic, 3)) (d9 : decode cc (pc + 9) = .ok (.athrow, 1))
    (hout : ∀ x ∈ c.exceptionTable.toList, covers x (pc + 9) = false)
    (hRframes : names.length + 3 < R.frames) (hRlocals : (rest.map fun v => v.category).sum + (13 * (names.length + 1) + 43) ≤ R.locals) (hRcells : cells + 1 ≤ R.cells) (hRslots : slots + 6 ≤ R.slots) (hlocks : meth.locks = false)
    (hx : ∀ t : State, s.vm.Alike t.vm → H.size ≤ t.heap.size → (∀ q : Nat, q < H.size → t.heap[q]? = H[q]?) → XC cls s t)
    (hf : ∀ z ∈ locs, free z.base) (hc : cells + 1 ≤ mc) (hs : slots + 6 ≤ ms) :
    W p l e R s m args below meth c H locs cells slots (vx_MQ below Qc XC args s mc ms free) (F0 m pc ls rest) := by
  intro T hT X
  have htr : e.platform.stackTraces = false := (show e.platform.stackTraces = l.stackTraces by rw [X.admits.platform]).trans hl
  have Y := vx_rebase X (R' := { frames := R.frames, locals := R.locals, cells := 1, slots := 6 }) (Nat.le_refl _) (Nat.le_refl _) hRcells hRslots
  obtain ⟨s', hA⟩ : ∃ z, z = (T.setVm s.vm).setFrames (.invoking m args :: below) := ⟨_, rfl⟩
  rw [← hA] at Y
  have hvm : s'.vm = s.vm := by rw [hA]; rfl
  have hhp : s'.heap = H := by rw [hA]; exact hT
  have hW0 : s.WarmedH s'.vm := by rw [hvm]; exact State.WarmedH.refl s
  have hat' : ∀ w ∈ vx_atS own ic cls names, w.before args s' = true := fun w hw => vx_ot_at hW0 hvm.symm (hgood w (List.mem_cons_of_mem _ (List.mem_cons_of_mem _ hw))) (hat w hw)
  have hk' : (Cond.classLink own ik cls).before args s' = true := vx_ot_at hW0 hvm.symm (hgood _ List.mem_cons_self) hk
  have hini' : (Cond.initialized cls).before args s' = true := vx_ot_at hW0 hvm.symm (hgood _ (List.mem_cons_of_mem _ List.mem_cons_self)) hini
  have hU' : vx_Zq Bundle.tN "UNASSIGNED_STACK" Bundle.steD A s' s'.heap := by rw [hhp]; exact vx_Zq.moved hW0.alike (hU.kept hS.2.1)
  have hN' : vx_Zq Bundle.tN "SUPPRESSED_SENTINEL" Bundle.listD A s' s'.heap := by rw [hhp]; exact vx_Zq.moved hW0.alike (hN.kept hS.2.1)
  have h : ∀ w ∈ Bundle.ownAtoms own ic cls names, w.before args s' = true := vx_own hat' (vx_isRefq hU'.1) (vx_isRefq hN'.1) hU'.2.word hN'.2.word
  have hown' : s'.vm.findClass own = some m.cls := by rw [hvm]; exact hown
  have hins : (Cond.instantiable cls 6).before args s' = true := h _ (by simp [Bundle.ownAtoms])
  obtain ⟨vm₁, cX, kX, hfX, hkX, -, -, X₁, st1⟩ := Y.newCold hexec (own := own) (C := cls) (index := ik) (n := 6) hown' hk' hins hini'
    (g := F0 m pc ls rest) rfl (by rw [hb]; exact d0) (Nat.le_refl _) (Nat.le_refl _)
  generalize hT1 : (T.setVm vm₁).pushCell { cls := cX, slots := kX.instanceTypes.map defaultValue, vm := .none } = T1 at X₁ st1
  have hcat : (Value.ref T.heap.size).category = 1 := rfl
  have hcellA : T1.heap[T.heap.size]? = some (freshCell cX kX) := by rw [← hT1]; exact State.heap_pushCell_size _ _
  have d3' : decode c.code (pc + 3) = .ok (.dup, 1) := by rw [hb]; exact d3
  have d4' : decode c.code (pc + 4) = .ok (.ldc is, 2) := by rw [hb]; exact d4
  have hstr' : vk_R own is text sa s' := vk_R.warm hW0 hstr
  obtain ⟨U, hsteps, hrun, hend, hW, hsame, ce, hce, hO⟩ := X₁.ctorThrowS hexec htr (own := own) (cls := cls) (names := names) (ic := ic) hown' hcls hnames h (fun x hx => nomatch hx) hfX hkX hcellA (by rw [hhp, hT]; exact Nat.le_refl _) (msg := .ref sa) rfl
    (g := { method := m, pc := pc + 6, locals := ls, stack := .ref sa :: .ref T.heap.size :: .ref T.heap.size :: rest, locked := none }) rfl hsize rfl rfl (rest := rest) rfl
    (by rw [hb]; exact d6) (by rw [hb]; exact d9) hout hRframes (by simp only [List.map_cons, List.sum_cons, hcat]; omega) hlocks
  obtain ⟨f1, f2⟩ := vx_frame hsame
  rw [hhp] at f1 f2
  have hWs : s.WarmedH U.vm := State.WarmedH.trans hW0 hW
  have hcl : s.vm.findClass cls = some ce.cls := by
    have h9 := hO.cls
    rw [hvm] at h9
    exact h9
  have hall : s.sameButNew ({ U with vm := s.vm } : State) locs mc ms := by
    subst hA
    obtain ⟨e1, e2⟩ := hsame
    rw [State.setFrames_setFrames] at e1
    have h2 : (T.setVm s.vm).sameButNew ({ U with vm := s.vm } : State) [] (0 + 1) (0 + 6) := ⟨e1, e2⟩
    have h3 := X.same.trans h2
    rw [List.append_nil] at h3
    exact h3.mono hc hs
  refine ⟨U, ?_, .threw T.heap.size, hrun, hend, Or.inr ⟨T.heap.size, rfl, cls, ce, locs, hx U hWs.alike f1 (fun q hq => f2 q hq (fun z hz => nomatch hz)), hce, hO.vm, hcl, hWs, hall, hf⟩⟩
  refine st1 _ ?_
  show Steps p.tables e below (T1.setTop { method := m, pc := pc + 3, locals := ls, stack := .ref T.heap.size :: rest, locked := none }) _
  jvm_step X₁.here [X₁.here.top, hexec, d3', Value.category]
  exact X₁.ldcString hexec (own := own) (text := text) (index := is) (a := sa) hown' hstr'.1 hstr'.2
    (g := { method := m, pc := pc + 4, locals := ls, stack := .ref T.heap.size :: .ref T.heap.size :: rest, locked := none }) rfl d4' _ hsteps
/-- 'throw new E("text")', the text by a wide index -/
theorem vx_throwSW {cc : ByteArray} {pc : Nat} (hexec : p.tables.exec = Jvm.exec) (hb : c.code = cc) (hl : l.stackTraces = false) {own cls text : String} {names : List String} {ik is ic mc ms sa : Nat} {A : Nat → Prop}
    (hown : s.vm.findClass own = some m.cls) (hcls : Bundle.fit cls = true) (hnames : ∀ n ∈ names, Bundle.fit n = true)
    (hk : (Cond.classLink own ik cls).before args s = true) (hini : (Cond.initialized cls).before args s = true) (hstr : vk_R own is text sa s) (hat : ∀ w ∈ vx_atS own ic cls names, w.before args s = true)
    (hgood : ∀ w ∈ Cond.classLink own ik cls :: Cond.initialized cls :: vx_atS own ic cls names, vx_ot w = true)
    (hU : vx_Zq Bundle.tN "UNASSIGNED_STACK" Bundle.steD A s s.heap) (hN : vx_Zq Bundle.tN "SUPPRESSED_SENTINEL" Bundle.listD A s s.heap) (hS : va_S A s.heap H locs) (hsize : ls.size = c.maxLocals)
    (d0 : decode cc pc = .ok (.new ik, 3)) (d3 : decode cc (pc + 3) = .ok (.dup, 1)) (d4 : decode cc (pc + 4) = .ok (.ldc_w is, 3)) (d7 : decode cc (pc + 7) = .ok (.invokespecial ic, 3)) (d10 : decode cc (pc + 10) = .ok (.athrow, 1))
    (hout : ∀ x ∈ c.exceptionTable.toList, covers x (pc + 10) = false)
    (hRframes : names.length + 3 < R.frames) (hRlocals : (rest.map fun v => v.category).sum + (13 * (names.length + 1) + 43) ≤ R.locals) (hRcells : cells + 1 ≤ R.cells) (hRslots : slots + 6 ≤ R.slots) (hlocks : meth.locks = false)
    (hx : ∀ t : State, s.vm.Alike t.vm → H.size ≤ t.heap.size → (∀ q : Nat, q < H.size → t.heap[q]? = H[q]?) → XC cls s t)
    (hf : ∀ z ∈ locs, free z.base) (hc : cells + 1 ≤ mc) (hs : slots + 6 ≤ ms) :
    W p l e R s m args below meth c H locs cells slots (vx_MQ below Qc XC args s mc ms free) (F0 m pc ls rest) := by
  intro T hT X
  have htr : e.platform.stackTraces = false := (show e.platform.stackTraces = l.stackTraces by rw [X.admits.platform]).trans hl
  have Y := vx_rebase X (R' := { frames := R.frames, locals := R.locals, cells := 1, slots := 6 }) (Nat.le_refl _) (Nat.le_refl _) hRcells hRslots
  obtain ⟨s', hA⟩ : ∃ z, z = (T.setVm s.vm).setFrames (.invoking m args :: below) := ⟨_, rfl⟩
  rw [← hA] at Y
  have hvm : s'.vm = s.vm := by rw [hA]; rfl
  have hhp : s'.heap = H := by rw [hA]; exact hT
  have hW0 : s.WarmedH s'.vm := by rw [hvm]; exact State.WarmedH.refl s
  have hat' : ∀ w ∈ vx_atS own ic cls names, w.before args s' = true := fun w hw => vx_ot_at hW0 hvm.symm (hgood w (List.mem_cons_of_mem _ (List.mem_cons_of_mem _ hw))) (hat w hw)
  have hk' : (Cond.classLink own ik cls).before args s' = true := vx_ot_at hW0 hvm.symm (hgood _ List.mem_cons_self) hk
  have hini' : (Cond.initialized cls).before args s' = true := vx_ot_at hW0 hvm.symm (hgood _ (List.mem_cons_of_mem _ List.mem_cons_self)) hini
  have hU' : vx_Zq Bundle.tN "UNASSIGNED_STACK" Bundle.steD A s' s'.heap := by rw [hhp]; exact vx_Zq.moved hW0.alike (hU.kept hS.2.1)
  have hN' : vx_Zq Bundle.tN "SUPPRESSED_SENTINEL" Bundle.listD A s' s'.heap := by rw [hhp]; exact vx_Zq.moved hW0.alike (hN.kept hS.2.1)
  have h : ∀ w ∈ Bundle.ownAtoms own ic cls names, w.before args s' = true := vx_own hat' (vx_isRefq hU'.1) (vx_isRefq hN'.1) hU'.2.word hN'.2.word
  have hown' : s'.vm.findClass own = some m.cls := by rw [hvm]; exact hown
  have hins : (Cond.instantiable cls 6).before args s' = true := h _ (by simp [Bundle.ownAtoms])
  obtain ⟨vm₁, cX, kX, hfX, hkX, -, -, X₁, st1⟩ := Y.newCold hexec (own := own) (C := cls) (index := ik) (n := 6) hown' hk' hins hini'
    (g := F0 m pc ls rest) rfl (by rw [hb]; exact d0) (Nat.le_refl _) (Nat.le_refl _)
  generalize hT1 : (T.setVm vm₁).pushCell { cls := cX, slots := kX.instanceTypes.map defaultValue, vm := .none } = T1 at X₁ st1
  have hcat : (Value.ref T.heap.size).category = 1 := rfl
  have hcellA : T1.heap[T.heap.size]? = some (freshCell cX kX) := by rw [← hT1]; exact State.heap_pushCell_size _ _
  have d3' : decode c.code (pc + 3) = .ok (.dup, 1) := by rw [hb]; exact d3
  have d4' : decode c.code (pc + 4) = .ok (.ldc_w is, 3) := by rw [hb]; exact d4
  have hstr' : vk_R own is text sa s' := vk_R.warm hW0 hstr
  obtain ⟨U, hsteps, hrun, hend, hW, hsame, ce, hce, hO⟩ := X₁.ctorThrowS hexec htr (own := own) (cls := cls) (names := names) (ic := ic) hown' hcls hnames h (fun x hx => nomatch hx) hfX hkX hcellA (by rw [hhp, hT]; exact Nat.le_refl _) (msg := .ref sa) rfl
    (g := { method := m, pc := pc + 7, locals := ls, stack := .ref sa :: .ref T.heap.size :: .ref T.heap.size :: rest, locked := none }) rfl hsize rfl rfl (rest := rest) rfl
    (by rw [hb]; exact d7) (by rw [hb]; exact d10) hout hRframes (by simp only [List.map_cons, List.sum_cons, hcat]; omega) hlocks
  obtain ⟨f1, f2⟩ := vx_frame hsame
  rw [hhp] at f1 f2
  have hWs : s.WarmedH U.vm := State.WarmedH.trans hW0 hW
  have hcl : s.vm.findClass cls = some ce.cls := by
    have h9 := hO.cls
    rw [hvm] at h9
    exact h9
  have hall : s.sameButNew ({ U with vm := s.vm } : State) locs mc ms := by
    subst hA
    obtain ⟨e1, e2⟩ := hsame
    rw [State.setFrames_setFrames] at e1
    have h2 : (T.setVm s.vm).sameButNew ({ U with vm := s.vm } : State) [] (0 + 1) (0 + 6) := ⟨e1, e2⟩
    have h3 := X.same.trans h2
    rw [List.append_nil] at h3
    exact h3.mono hc hs
  refine ⟨U, ?_, .threw T.heap.size, hrun, hend, Or.inr ⟨T.heap.size, rfl, cls, ce, locs, hx U hWs.alike f1 (fun q hq => f2 q hq (fun z hz => nomatch hz)), hce, hO.vm, hcl, hWs, hall, hf⟩⟩
  refine st1 _ ?_
  show Steps p.tables e below (T1.setTop { method := m, pc := pc + 3, locals := ls, stack := .ref T.heap.size :: rest, locked := none }) _
  jvm_step X₁.here [X₁.here.top, hexec, d3', Value.category]
  exact X₁.ldcStringW hexec (own := own) (text := text) (index := is) (a := sa) hown' hstr'.1 hstr'.2
    (g := { method := m, pc := pc + 4, locals := ls, stack := .ref T.heap.size :: .ref T.heap.size :: rest, locked := none }) rfl d4' _ hsteps
end Ends
section Bodies
variable {l : Launch}
theorem vx_ofW {y : MethodName} {ws ws' : List Cond} {rm : Room} {Pc : Array Value → State → Prop} {Qc : Array Value → State → Outcome → State → Prop} {XC : String → State → State → Prop} {mc ms : Nat} {free : Addr → Prop} {cc : ByteArray} {maxL : Nat} {ret : Option FieldType}
    (hy : plainName y.cls = true) (hw : ws = Cond.code y cc maxL ret :: ws')
    (body : ∀ p e s m args below meth c s₁, BodyLoose p l y (headSpec ws rm) cc maxL ret e s m args below meth c s₁ → c.maxLocals = maxL → (∀ x ∈ c.exceptionTable.toList, False) → Pc args s →
      W p l e (headSpec ws rm).room s m args below meth c s.heap [] 0 0 (vx_MQ below Qc XC args s mc ms free) (entryFrame m args maxL)) : vx_Met l y ws rm Pc Qc XC mc ms free := by
  refine MetFree.of_bodyS (code := cc) (maxLocals := maxL) (ret := ret) hy ?_ ?_
  · intro args s m h hn
    obtain ⟨meth, c, h1, h2, h3, h4, h5, h6, -, -⟩ := Cond.code_spec hn (atoms_spec (ws := ws) h _ (by rw [hw]; exact List.mem_cons_self))
    exact ⟨meth, c, h1, h2, h3, h4, h5, h6⟩
  · intro p e s m args below meth c s₁ B hml hP _
    have hh0 : s₁.heap = s.heap := by rw [B.state]; rfl
    have ht : ∀ x ∈ c.exceptionTable.toList, False := by
      obtain ⟨meth9, c9, h1, h2, -, -, -, -, h7, -⟩ := Cond.code_spec B.named (atoms_spec (ws := ws) B.pre _ (by rw [hw]; exact List.mem_cons_self))
      cases Option.some.inj (h1.symm.trans B.method)
      cases Option.some.inj (h2.symm.trans (Stand.of_body B).code)
      intro x hx
      rw [Array.isEmpty_iff.mp h7] at hx
      cases hx
    obtain ⟨t, a1, o, b1, b2, b3⟩ := body p e s m args below meth c s₁ B hml ht hP s₁ hh0 (Stand.of_body B)
    exact ⟨t, o, a1, b1, b2, b3⟩
/-- the table of a body with handlers -/
theorem vx_table {p : Program} {x y : MethodName} {S : Spec} {cc bytes : ByteArray} {maxL maxL' : Nat} {ret ret' : Option FieldType} {e : Env} {s s₁ : State} {m : MethodId} {args : Array Value} {below : List Frame} {meth : Method} {c : Code} {hh : List (Nat × Nat × Nat × Nat)}
    (B : BodyLoose p l y S cc maxL ret e s m args below meth c s₁) (h : (Cond.codeWith y bytes maxL' ret' hh).before args s = true) : c.exceptionTable.toList = tableOf hh := by
  obtain ⟨m9, meth9, c9, hn9, h1, h2, -, -, h6, -⟩ := Cond.codeWith_spec h
  cases Option.some.inj (hn9.symm.trans B.named)
  cases Option.some.inj (h1.symm.trans B.method)
  cases Option.some.inj (h2.symm.trans (Stand.of_body B).code)
  rw [← h6, table_eq]
end Bodies
end VXA
/-! ===== END ===== -/
/-! ===== BEGIN a static call of a method with an exception table ===== -/
section VXS
variable {p : Program} {l : Launch} {e : Env} {R : Room} {s : State} {m : MethodId} {args : Array Value} {below : List Frame} {meth : Method} {c : Code} {T : State} {H : Heap} {locs : List Loc} {cells slots : Nat}
abbrev vx_CSW (R : Room) (s : State) (args : Array Value) (own : String) (index : Nat) (y : MethodName) (bytes : ByteArray) (maxL : Nat) (ret : Option FieldType) (hh : List (Nat × Nat × Nat × Nat)) (ws : List Cond) (rm : Room) (mc ms n : Nat) : Prop :=
  (rm.cells = mc ∧ rm.slots = ms ∧ rm.frames + 1 ≤ R.frames ∧ 8 + (maxL + 11) + rm.locals ≤ R.locals ∧ (∀ w ∈ ws, ∀ (a' : Array Value) (U : State), s.WarmedH U.vm → w.before a' U = true) ∧ Cond.codeWith y bytes maxL ret hh ∈ ws) ∧
  (Cond.codeWith y bytes maxL ret hh).before args s = true ∧ (Cond.initialized y.cls).before args s = true ∧ (y.cls ≠ "java/lang/invoke/MethodHandle" ∧ y.cls ≠ "java/lang/invoke/VarHandle") ∧
  (∀ sig, parseMethodDescriptor y.desc = some sig → n = sig.parameters.length) ∧ (Cond.methodLink own index y).before args s = true ∧ (Cond.static y).before args s = true
theorem vx_cwSW {own : String} {index maxL mc ms : Nat} {y : MethodName} {bytes : ByteArray} {ret : Option FieldType} {hh : List (Nat × Nat × Nat × Nat)} {Ts ws ws' : List Cond} {rm : Room} (n : Nat) (ht : ∀ w ∈ Ts, w.before args s = true) (hT : GoodIn Ts (va_wsS own index y ws)) (hw : ws = Cond.codeWith y bytes maxL ret hh :: ws') (hrc : rm.cells = mc) (hrs : rm.slots = ms)
    (hd : y.cls ≠ "java/lang/invoke/MethodHandle" ∧ y.cls ≠ "java/lang/invoke/VarHandle" ∧ (parseMethodDescriptor y.desc).map (fun d => d.parameters.length) = some n) (hR : rm.frames + 1 ≤ R.frames ∧ 8 + (maxL + 11) + rm.locals ≤ R.locals) :
    vx_CSW R s args own index y bytes maxL ret hh ws rm mc ms n := by
  have ok : ∀ w ∈ va_wsS own index y ws, w.before args s = true := fun w h => ht w (hT w h).1
  have hG : GoodIn Ts ws := fun w h => hT w (by unfold va_wsS; exact List.mem_append_right _ h)
  have hc : Cond.codeWith y bytes maxL ret hh ∈ ws := by rw [hw]; exact List.mem_cons_self
  refine ⟨⟨hrc, hrs, hR.1, hR.2, pay_in ht hG, hc⟩, ht _ (hG _ hc).1, ok _ (by simp [va_wsS]), ⟨hd.1, hd.2.1⟩, fun sig h => ?_, ok _ (by simp [va_wsS]), ok _ (by simp [va_wsS])⟩
  have h2 := hd.2.2
  rw [h] at h2
  exact (Option.some.inj h2).symm
theorem vx_callSW (X : Stand p l e R s m args below meth c T locs cells slots) (hexec : p.tables.exec = Jvm.exec) {own : String} {index : Nat} {y : MethodName} {bytes : ByteArray} {maxL : Nat} {ret : Option FieldType} {hh : List (Nat × Nat × Nat × Nat)}
    (hown : s.vm.findClass own = some m.cls) (hlink : (Cond.methodLink own index y).before args s = true) (hstat : (Cond.static y).before args s = true) (hinit : (Cond.initialized y.cls).before args s = true)
    (hcode : (Cond.codeWith y bytes maxL ret hh).before args s = true) (hy : y.cls ≠ "java/lang/invoke/MethodHandle" ∧ y.cls ≠ "java/lang/invoke/VarHandle")
    {W9 : Nat} {Pre : Pt → Array Value → Prop} {Post : Pt → Array Value → Option Value → Pt → Prop} (hK : Back l R p e below s args y 3 W9 Pre Post)
    {g : JFrame} (hg : g.method = m) (hsize : g.locals.size = c.maxLocals) {argsL rest : List Value} (hlen : ∀ sig, parseMethodDescriptor y.desc = some sig → argsL.length = sig.parameters.length)
    (hstack : g.stack = argsL.reverse ++ rest) (hW : 2 * g.monitorRoom + (rest.map fun v => v.category).sum ≤ W9) (hdg : decode c.code g.pc = .ok (.invokestatic index, 3))
    (hpre : ∀ vm₁, s.WarmedH vm₁ → Pre ⟨T.setVm vm₁, locs, cells, slots⟩ argsL.toArray) :
    ∃ (v : Option Value) (vm₁ : Vm) (B : Pt), s.WarmedH vm₁ ∧ Stand p l e R s m args below meth c B.U B.locs B.cells B.slots ∧ Post ⟨T.setVm vm₁, locs, cells, slots⟩ argsL.toArray v B ∧
      ∀ target, Steps p.tables e below (B.U.setTop { g with pc := g.pc + 3, stack := v.toList ++ rest }) target → Steps p.tables e below (T.setTop g) target := by
  obtain ⟨mk, methM, cM, hnamed, hmethM, -, -, -, -, -, -, hsigM⟩ := Cond.codeWith_spec hcode
  have hstatic : methM.isStatic = true := Cond.static_spec hnamed hmethM hstat
  obtain ⟨kP, hkP, -⟩ := className_of_methodNamed hnamed
  have hinitP : kP.init = .initialized := Cond.initialized_spec (findClass_of_methodNamed hnamed) hkP hinit
  obtain ⟨vm₁, X₁, hstep₁⟩ := X.invokestatic hexec hown hlink hnamed hmethM hstatic hkP hinitP hy (g := g) hg (argsL := argsL) (rest := rest) (hlen _ hsigM) hstack hdg
  obtain ⟨v, B, X', hpost, hsteps⟩ := hK m meth c ⟨T.setVm vm₁, locs, cells, slots⟩ { g with stack := rest } (.invokestatic index) mk argsL.toArray X₁ hg hsize hdg hW (X₁.named hnamed) (hpre vm₁ X₁.warmed)
  exact ⟨v, vm₁, B, X₁.warmed, X', hpost, fun target h => hstep₁ _ fun acts => by rw [doInvoke_state]; exact hsteps.trans h⟩
theorem vx_runSW {y : MethodName} {bytes cc : ByteArray} {maxL nL mc ms n index : Nat} {ret : Option FieldType} {hh : List (Nat × Nat × Nat × Nat)} {ws : List Cond} {rm : Room} {Pc : Array Value → State → Prop} {Qc : Array Value → State → Outcome → State → Prop} {free : Addr → Prop} {Ts : List Cond} {own : String} {As rest : List Value} {g : JFrame}
    (S : CallFix p m c cc nL s args Ts own) (hM : Met l y ws rm Pc Qc mc ms free) (cw : vx_CSW R s args own index y bytes maxL ret hh ws rm mc ms n) (hp : PreS s H Pc As)
    (hg : g.method = m) (hn : As.length = n) (hsize : g.locals.size = nL) (hstack : g.stack = As.reverse ++ rest) (hW : 2 * g.monitorRoom + (rest.map fun v => v.category).sum ≤ 8) (hdg : decode cc g.pc = .ok (.invokestatic index, 3)) (hf : cells + mc ≤ R.cells ∧ slots + ms ≤ R.slots) :
    va_Run p l e R s m args below meth c H locs cells slots mc ms g rest (Qc As.toArray) (free) := by
  obtain ⟨⟨hrc, hrs, hfr, hlo, hws, hcw⟩, hcode, hini, hy, hlen, hl, hstt⟩ := cw
  have hK : Back l R p e below s args y 3 8 (PreOf R mc ms Pc) (PostOf Qc mc ms free) := va_backW (hh := hh) (bytes := bytes) (maxL := maxL) (ret := ret) hM hp.1 hrc hrs hfr hlo hws hcw (fun a' U hW => word_at hW (Or.inl (by first | rfl | simp [Cond.onTables, Cond.keeps, Cond.steady])) hini)
  obtain ⟨hx, hb, hml, ho, -⟩ := S
  intro T hT X
  obtain ⟨v, vm₁, ⟨U', l2, c2, s2⟩, hW₁, X', ⟨g', mk, t, L, e1, e2, hq, h1, hL, h2, h3⟩, st⟩ := vx_callSW X hx (hh := hh) (bytes := bytes) (maxL := maxL) (ret := ret) ho hl hstt hini hcode hy hK hg (hsize.trans hml.symm) (argsL := As) (rest := rest) (fun sig h => hn.trans (hlen sig h)) hstack hW (by rw [hb]; exact hdg)
    (fun vm₁ hW₁ => ⟨hf.1, hf.2, hp.2 (T.setVm vm₁) hT hW₁⟩)
  dsimp only [Pt.U, Pt.locs, Pt.cells, Pt.slots] at X' e1 e2 h1 h2 h3 st
  subst h1; subst h2; subst h3
  exact ⟨v, (T.setVm vm₁).calling g' mk As.toArray, t, U', L, hT, X', hL, e1, e2, hq, st⟩
/-- not caught here, past rows that name other classes: it goes on to the caller -/
theorem vx_outP {p : Program} {l : Launch} {e : Env} {R : Room} {s : State} {m : MethodId} {args : Array Value} {below : List Frame} {meth : Method} {c : Code} {H : Heap} {locs : List Loc} {cells slots : Nat} {free : Addr → Prop} {ls : Array Slot} {rest : List Value} {Qc : Array Value → State → Outcome → State → Prop} {XC : String → State → State → Prop}
    {pc : Nat} {own E : String} {ce : Cell} {q : Addr} {mc ms : Nat} (hown : s.vm.findClass own = some m.cls) (hlocks : meth.locks = false)
    (hpass : ∀ z ∈ c.exceptionTable.toList, covers z pc = false ∨ (z.catchType ≠ 0 ∧ ∃ nm : String, (Cond.classLink own z.catchType nm).before args s = true ∧ va_Nc E nm s)) (hcell : H[q]? = some ce) (hv : ce.vm = .none) (hcl : s.vm.findClass E = some ce.cls)
    (hx : ∀ t : State, t.heap = H → s.vm.Alike t.vm → XC E s t) (hf : ∀ z ∈ locs, free z.base) (hc : cells ≤ mc) (hs : slots ≤ ms) :
    vx_W p l e R s m args below meth c H locs cells slots (vx_MQ below Qc XC args s mc ms free) (F0 m pc ls rest) q := by
  intro T hT X
  have hpl : e.platform.magicAccessors = ({} : Platform).magicAccessors := by rw [X.admits.platform]
  obtain ⟨vm', hW', X', st⟩ := X.outThrough hlocks q (g := F0 m pc ls rest) rfl rfl rfl (cell := ce) (by rw [hT]; exact hcell) (by rw [hv]; rfl)
    (by obtain ⟨k9, h9, -⟩ := Vm.findClass_spec hcl; exact ⟨k9, h9⟩) (fun z hz => by
      rcases hpass z hz with h | ⟨hz0, nm, hl1, hn1⟩
      · exact Or.inl h
      · obtain ⟨c6, hc6, hcl6⟩ := Cond.classLink_spec hown hl1 e.platform hpl
        obtain ⟨a8, b8, h1, h2, h3⟩ := hn1
        cases Option.some.inj (h1.symm.trans hcl)
        cases Option.some.inj (h2.symm.trans hc6)
        exact Or.inr ⟨hz0, _, hcl6, h3⟩)
  obtain ⟨g₀, hfr⟩ := X'.frames_eq
  have hcell9 : ((T.setVm vm').setFrames (.throwing q :: below)).heap[q]? = some ce := by
    show T.heap[q]? = some ce
    rw [hT]; exact hcell
  have hend : Ended ((T.setVm vm').setFrames (.throwing q :: below)) below (.threw q) := State.frames_setFrames _ (State.cur_lt_of_frames hfr)
  refine ⟨(T.setVm vm').setFrames (.throwing q :: below), ?_, .threw q, X'.here.running, hend, Or.inr ⟨q, rfl, E, ce, locs, hx _ hT (X'.ends _).1.alike, hcell9, hv, hcl, (X'.ends _).1, (X'.ends _).2.mono hc hs, hf⟩⟩
  rw [X.pushThrowing_eq]
  exact st
/-- a thing of a world lies in the heap -/
theorem vx_lt {D : va_G} {cl : List vw_C} {ws : va_W} {H1 : Heap} (h : va_P D cl ws H1) {k : Nat} {q : Nat × va_E} (hk : ws[k]? = some q) : q.1 < H1.size := (h k q hk).lt
end VXS
/-! ===== END ===== -/
/-! ===== BEGIN methods with a table of their own: called by a name, returning or throwing ===== -/
section VXH
/-! vx_backW, vx_callVX, vx_callSX, vx_callVW, vx_runVW, vx_runVX, vx_runSX, vx_ofWH follow the same proofs as their sisters above (Free/Laws.lean, Shelf42/LK1.lean); vx_outP calls Shelf42/NT130.lean (outThrough). -/
section
variable {l : Launch} {R : Room} {p : Program} {e : Env} {below : List Frame} {s : State} {sargs : Array Value} {y : MethodName} {len W9 : Nat}
theorem vx_backW {ws : List Cond} {rm : Room} {Pc : Array Value → State → Prop} {Qc : Array Value → State → Outcome → State → Prop} {XC : String → State → State → Prop} {mc ms : Nat} {free : Addr → Prop} {bytes : ByteArray} {maxL : Nat} {ret : Option FieldType} {hh : List (Nat × Nat × Nat × Nat)}
    (hM : vx_Met l y ws rm Pc Qc XC mc ms free) (hblind : FrameBlind Pc) (hrc : rm.cells = mc) (hrs : rm.slots = ms)
    (hframes : rm.frames + 1 ≤ R.frames) (hlocals : W9 + (maxL + 11) + rm.locals ≤ R.locals)
    (hws : ∀ w ∈ ws, ∀ a' U, s.WarmedH U.vm → w.before a' U = true) (hcode : Cond.codeWith y bytes maxL ret hh ∈ ws) (hinit : ∀ a' U, s.WarmedH U.vm → (Cond.initialized y.cls).before a' U = true) :
    vx_Back l R p e below s sargs y len W9 (PreOf R mc ms Pc) (PostOf Qc mc ms free) (vx_Post XC mc ms free) := by
  intro m meth c A g ig mk a X hg hsize hdg hW hn hp
  have h1 : (headSpec ws rm).pre.before a A.U = true := atoms_intro fun w hw => hws w hw _ _ X.warmed
  have h2 : (Cond.codeWith y bytes maxL ret hh).before a A.U = true := hws _ hcode _ _ X.warmed
  have h3 : (Cond.initialized y.cls).before a A.U = true := hinit _ _ X.warmed
  have h4 : A.cells + (headSpec ws rm).room.cells ≤ R.cells := by rw [show (headSpec ws rm).room.cells = mc from hrc]; exact hp.1
  have h5 : A.slots + (headSpec ws rm).room.slots ≤ R.slots := by rw [show (headSpec ws rm).room.slots = ms from hrs]; exact hp.2.1
  have hPc : Pc a (A.U.calling g mk a) := hblind _ _ _ _ hp.2.2
  obtain ⟨U, Ls, c0, s0⟩ := A
  dsimp only [Pt.U, Pt.locs, Pt.cells, Pt.slots] at h1 h2 h3 h4 h5 X hn hPc ⊢
  obtain ⟨m9, methY, cY, hn9, hmY, hcY, -, hlY, -⟩ := Cond.codeWith_spec h2
  cases Option.some.inj (hn9.symm.trans hn)
  obtain ⟨kY, hkY, -⟩ := className_of_methodNamed hn
  have hinitY : kY.init = .initialized := Cond.initialized_spec (findClass_of_methodNamed hn) hkY h3
  have h : At U g.method c below := by rw [hg]; exact X.here
  have hlocals9 : W9 + (maxL + 11) + (headSpec ws rm).room.locals ≤ R.locals := hlocals
  have happ : (headSpec ws rm).appliesLoose y e.platform (U.calling g mk a) = true :=
    Spec.appliesLoose_calling (g := g) h hdg hn hkY hinitY
      (X.room_calling (g := g) (R' := (headSpec ws rm).room) hsize hmY hcY hframes (by rw [hlY]; omega) h4 h5) h1
  obtain ⟨mid, hmid⟩ := h.above
  have hfr : (U.setTop g).frames = (.java g :: mid) ++ below := by rw [State.frames_setTop' g h.top, hmid]; rfl
  obtain ⟨o, s₂, hsteps, -, hend, hq⟩ := Steps.callFree hM p X.admits X.cas X.clock (acts := []) hfr happ hPc trivial
  have hq' : vx_Q Qc XC mc ms free a (U.calling g mk a) o s₂ := hq
  rw [State.frames_setTop' g h.top] at hend
  obtain ⟨g₀, hg0⟩ := Option.isSome_iff_exists.mp h.top
  obtain ⟨r, hr⟩ := State.topJava?_eq_some.mp hg0
  have hr' : (({ U with heap := s₂.heap, slotsUsed := s₂.slotsUsed } : State).setVm s₂.vm).frames = .java g₀ :: r := hr
  rcases hq' with ⟨hqc, L, hfe, hL⟩ | ⟨q, rfl, E, ce, L, hx, hce, hcv, hcl, hW₂, hsm, hL⟩
  · obtain ⟨⟨v, rfl⟩, hW₂, e2, q2, q3, q4, q5, q6⟩ := id hfe
    have e3 : s₂ = ({ (U.calling g mk a).setFrames s₂.frames with heap := s₂.heap, slotsUsed := s₂.slotsUsed } : State).setVm s₂.vm := by
      have : s₂ = ({ s₂ with vm := (U.calling g mk a).vm } : State).setVm s₂.vm := rfl
      rw [e2] at this
      exact this
    obtain ⟨c₂, i₂, len₂, hc₂, hd₂, hf₂⟩ := hend
    have hW' : U.WarmedH s₂.vm := hW₂
    have hcc : c₂ = c := by
      have h1 : s₂.code? g.method = U.code? g.method := by
        rw [State.code?_eq, State.code?_eq, hW'.alike.method?]
      exact Option.some.inj (hc₂.symm.trans (h1.trans h.code))
    subst hcc
    have hlen : len₂ = len := by rw [hdg] at hd₂; cases hd₂; rfl
    subst hlen
    have hs₂ : s₂ = (({ U with heap := s₂.heap, slotsUsed := s₂.slotsUsed } : State).setVm s₂.vm).setTop { g with pc := g.pc + len₂, stack := v.toList ++ g.stack } := by
      refine e3.trans ?_
      rw [hf₂, State.calling_eq h.top, State.setFrames_setFrames, State.setTop_of_frames _ hr', hr]
      rfl
    have hsame : U.sameButNew ({ U with heap := s₂.heap, slotsUsed := s₂.slotsUsed } : State) L mc ms := by
      refine ⟨?_, q2, q3, q4, q5, q6⟩
      obtain ⟨t, ht, -⟩ := State.frames_cons hr
      show ({ U with heap := s₂.heap, slotsUsed := s₂.slotsUsed } : State) = { U.setFrames U.frames with heap := s₂.heap, slotsUsed := s₂.slotsUsed }
      rw [State.setFrames_self ht]
    subst hg
    refine Or.inl ⟨v, ⟨(({ U with heap := s₂.heap, slotsUsed := s₂.slotsUsed } : State).setVm s₂.vm), Ls ++ L, c0 + mc, s0 + ms⟩,
      ⟨X.admits, X.cas, X.clock, X.frames, X.room, X.hears, X.method, X.code, (X.here.setHeapUsed s₂.heap s₂.slotsUsed).setVm hW'.alike, X.tail, State.WarmedH.trans X.warmed hW', X.limits, X.bytes, X.same.trans (hsame.setVm s.vm)⟩,
      ⟨g, mk, s₂, L, rfl, rfl, hqc, rfl, hL, rfl, rfl⟩, ?_⟩
    show Steps p.tables e below _ ((({ U with heap := s₂.heap, slotsUsed := s₂.slotsUsed } : State).setVm s₂.vm).setTop { g with pc := g.pc + len₂, stack := v.toList ++ g.stack })
    rw [← hs₂]
    exact hsteps
  · obtain ⟨e2, q2, q3, q4, q5, q6⟩ := id hsm
    have e3 : s₂ = ({ (U.calling g mk a).setFrames s₂.frames with heap := s₂.heap, slotsUsed := s₂.slotsUsed } : State).setVm s₂.vm := by
      have : s₂ = ({ s₂ with vm := (U.calling g mk a).vm } : State).setVm s₂.vm := rfl
      rw [e2] at this
      exact this
    have hf₂ : s₂.frames = .throwing q :: .java g :: U.frames.tail := hend
    have hW' : U.WarmedH s₂.vm := hW₂
    have hs₂ : s₂ = ((({ U with heap := s₂.heap, slotsUsed := s₂.slotsUsed } : State).setVm s₂.vm).setTop g).pushFrame (.throwing q) := by
      refine e3.trans ?_
      rw [hf₂, State.calling_eq h.top, State.setFrames_setFrames, State.pushFrame, State.frames_setTop _ hr', State.setTop_of_frames _ hr', State.setFrames_setFrames, hr]
      rfl
    have hsame : U.sameButNew ({ U with heap := s₂.heap, slotsUsed := s₂.slotsUsed } : State) L mc ms := by
      refine ⟨?_, q2, q3, q4, q5, q6⟩
      obtain ⟨t, ht, -⟩ := State.frames_cons hr
      show ({ U with heap := s₂.heap, slotsUsed := s₂.slotsUsed } : State) = { U.setFrames U.frames with heap := s₂.heap, slotsUsed := s₂.slotsUsed }
      rw [State.setFrames_self ht]
    subst hg
    refine Or.inr ⟨q, ⟨(({ U with heap := s₂.heap, slotsUsed := s₂.slotsUsed } : State).setVm s₂.vm), Ls ++ L, c0 + mc, s0 + ms⟩,
      ⟨X.admits, X.cas, X.clock, X.frames, X.room, X.hears, X.method, X.code, (X.here.setHeapUsed s₂.heap s₂.slotsUsed).setVm hW'.alike, X.tail, State.WarmedH.trans X.warmed hW', X.limits, X.bytes, X.same.trans (hsame.setVm s.vm)⟩,
      ⟨g, mk, s₂, L, E, ce, rfl, rfl, hx, hce, hcv, hcl, rfl, hL, rfl, rfl⟩, ?_⟩
    show Steps p.tables e below _ (((({ U with heap := s₂.heap, slotsUsed := s₂.slotsUsed } : State).setVm s₂.vm).setTop g).pushFrame (.throwing q))
    rw [← hs₂]
    exact hsteps
end
variable {p : Program} {l : Launch} {e : Env} {R : Room} {s : State} {m : MethodId} {args : Array Value} {below : List Frame} {meth : Method} {c : Code} {T : State} {H : Heap} {locs : List Loc} {cells slots : Nat}
theorem vx_callVX (X : Stand p l e R s m args below meth c T locs cells slots) (hexec : p.tables.exec = Jvm.exec) {own C : String} {index : Nat} {y : MethodName} {bytes : ByteArray} {maxL : Nat} {ret : Option FieldType} {hh : List (Nat × Nat × Nat × Nat)}
    (hown : s.vm.findClass own = some m.cls) (hlink : (Cond.methodLink own index y).before args s = true) (hinst : (Cond.instanceMethod y).before args s = true) (hsel : (Cond.selects C y y).before args s = true)
    (hcode : (Cond.codeWith y bytes maxL ret hh).before args s = true) (hy : y.cls ≠ "java/lang/invoke/MethodHandle" ∧ y.cls ≠ "java/lang/invoke/VarHandle")
    {W9 : Nat} {Pre : Pt → Array Value → Prop} {Post : Pt → Array Value → Option Value → Pt → Prop} {PostX : Pt → Array Value → Addr → Pt → Prop} (hK : vx_Back l R p e below s args y 3 W9 Pre Post PostX)
    {b : Addr} {cellB : Cell} (hcell : T.heap[b]? = some cellB) (hobj : cellB.vm.isStatics = false) (hcls : s.vm.findClass C = some cellB.cls)
    {g : JFrame} (hg : g.method = m) (hsize : g.locals.size = c.maxLocals) {argsL rest : List Value} (hlen : ∀ sig, parseMethodDescriptor y.desc = some sig → argsL.length = sig.parameters.length)
    (hstack : g.stack = argsL.reverse ++ .ref b :: rest) (hW : 2 * g.monitorRoom + (rest.map fun v => v.category).sum ≤ W9) (hdg : decode c.code g.pc = .ok (.invokevirtual index, 3))
    (hpre : ∀ vm₁, s.WarmedH vm₁ → Pre ⟨T.setVm vm₁, locs, cells, slots⟩ (Value.ref b :: argsL).toArray) :
    (∃ (v : Option Value) (vm₁ : Vm) (B : Pt), s.WarmedH vm₁ ∧ Stand p l e R s m args below meth c B.U B.locs B.cells B.slots ∧ Post ⟨T.setVm vm₁, locs, cells, slots⟩ (Value.ref b :: argsL).toArray v B ∧
      ∀ target, Steps p.tables e below (B.U.setTop { g with pc := g.pc + 3, stack := v.toList ++ rest }) target → Steps p.tables e below (T.setTop g) target) ∨
    (∃ (q : Addr) (vm₁ : Vm) (B : Pt), s.WarmedH vm₁ ∧ Stand p l e R s m args below meth c B.U B.locs B.cells B.slots ∧ PostX ⟨T.setVm vm₁, locs, cells, slots⟩ (Value.ref b :: argsL).toArray q B ∧
      Steps p.tables e below (T.setTop g) ((B.U.setTop { g with stack := rest }).pushFrame (.throwing q))) := by
  obtain ⟨mk, methM, hnamed, hmethM, hstM, habM⟩ := Cond.instanceMethod_spec hinst
  obtain ⟨m8, methM', cM, hn8, hmethM', -, -, -, -, -, -, hsigM⟩ := Cond.codeWith_spec hcode
  cases Option.some.inj (hn8.symm.trans hnamed)
  cases hmethM.symm.trans hmethM'
  obtain ⟨c2, r2, m2, q1, q2, q3, q4, kP, hkP, hkPi⟩ := Cond.selects_spec hsel
  cases hcls.symm.trans q1
  cases (State.methodFound?_of_named hnamed hy).symm.trans q2
  cases hnamed.symm.trans q3
  have hselP : selectMethod e.platform s.vm cellB.cls mk = .method mk := by rw [Launch.admits_selectMethod X.admits]; exact q4
  obtain ⟨vm₁, X₁, hstep₁⟩ := X.invokevirtual hexec hown hlink hnamed hmethM hstM hkP hkPi hy (a := b) (cell := cellB) hcell
    (fun z h => by rw [h] at hobj; cases hobj) hselP hmethM habM hkP hkPi (g := g) hg (argsL := argsL) (rest := rest) (hlen _ hsigM) hstack hdg
  rcases hK m meth c ⟨T.setVm vm₁, locs, cells, slots⟩ { g with stack := rest } (.invokevirtual index) mk (Value.ref b :: argsL).toArray X₁ hg hsize hdg hW (X₁.named hnamed) (hpre vm₁ X₁.warmed) with ⟨v, B, X', hpost, hsteps⟩ | ⟨q, B, X', hpost, hsteps⟩
  · exact Or.inl ⟨v, vm₁, B, X₁.warmed, X', hpost, fun target h => hstep₁ _ fun acts => by rw [doInvoke_state]; exact hsteps.trans h⟩
  · exact Or.inr ⟨q, vm₁, B, X₁.warmed, X', hpost, hstep₁ _ fun acts => by rw [doInvoke_state]; exact hsteps⟩
theorem vx_callSX (X : Stand p l e R s m args below meth c T locs cells slots) (hexec : p.tables.exec = Jvm.exec) {own : String} {index : Nat} {y : MethodName} {bytes : ByteArray} {maxL : Nat} {ret : Option FieldType} {hh : List (Nat × Nat × Nat × Nat)}
    (hown : s.vm.findClass own = some m.cls) (hlink : (Cond.methodLink own index y).before args s = true) (hstat : (Cond.static y).before args s = true) (hinit : (Cond.initialized y.cls).before args s = true)
    (hcode : (Cond.codeWith y bytes maxL ret hh).before args s = true) (hy : y.cls ≠ "java/lang/invoke/MethodHandle" ∧ y.cls ≠ "java/lang/invoke/VarHandle")
    {W9 : Nat} {Pre : Pt → Array Value → Prop} {Post : Pt → Array Value → Option Value → Pt → Prop} {PostX : Pt → Array Value → Addr → Pt → Prop} (hK : vx_Back l R p e below s args y 3 W9 Pre Post PostX)
    {g : JFrame} (hg : g.method = m) (hsize : g.locals.size = c.maxLocals) {argsL rest : List Value} (hlen : ∀ sig, parseMethodDescriptor y.desc = some sig → argsL.length = sig.parameters.length)
    (hstack : g.stack = argsL.reverse ++ rest) (hW : 2 * g.monitorRoom + (rest.map fun v => v.category).sum ≤ W9) (hdg : decode c.code g.pc = .ok (.invokestatic index, 3))
    (hpre : ∀ vm₁, s.WarmedH vm₁ → Pre ⟨T.setVm vm₁, locs, cells, slots⟩ argsL.toArray) :
    (∃ (v : Option Value) (vm₁ : Vm) (B : Pt), s.WarmedH vm₁ ∧ Stand p l e R s m args below meth c B.U B.locs B.cells B.slots ∧ Post ⟨T.setVm vm₁, locs, cells, slots⟩ argsL.toArray v B ∧
      ∀ target, Steps p.tables e below (B.U.setTop { g with pc := g.pc + 3, stack := v.toList ++ rest }) target → Steps p.tables e below (T.setTop g) target) ∨
    (∃ (q : Addr) (vm₁ : Vm) (B : Pt), s.WarmedH vm₁ ∧ Stand p l e R s m args below meth c B.U B.locs B.cells B.slots ∧ PostX ⟨T.setVm vm₁, locs, cells, slots⟩ argsL.toArray q B ∧
      Steps p.tables e below (T.setTop g) ((B.U.setTop { g with stack := rest }).pushFrame (.throwing q))) := by
  obtain ⟨mk, methM, cM, hnamed, hmethM, -, -, -, -, -, -, hsigM⟩ := Cond.codeWith_spec hcode
  have hstatic : methM.isStatic = true := Cond.static_spec hnamed hmethM hstat
  obtain ⟨kP, hkP, -⟩ := className_of_methodNamed hnamed
  have hinitP : kP.init = .initialized := Cond.initialized_spec (findClass_of_methodNamed hnamed) hkP hinit
  obtain ⟨vm₁, X₁, hstep₁⟩ := X.invokestatic hexec hown hlink hnamed hmethM hstatic hkP hinitP hy (g := g) hg (argsL := argsL) (rest := rest) (hlen _ hsigM) hstack hdg
  rcases hK m meth c ⟨T.setVm vm₁, locs, cells, slots⟩ { g with stack := rest } (.invokestatic index) mk argsL.toArray X₁ hg hsize hdg hW (X₁.named hnamed) (hpre vm₁ X₁.warmed) with ⟨v, B, X', hpost, hsteps⟩ | ⟨q, B, X', hpost, hsteps⟩
  · exact Or.inl ⟨v, vm₁, B, X₁.warmed, X', hpost, fun target h => hstep₁ _ fun acts => by rw [doInvoke_state]; exact hsteps.trans h⟩
  · exact Or.inr ⟨q, vm₁, B, X₁.warmed, X', hpost, hstep₁ _ fun acts => by rw [doInvoke_state]; exact hsteps⟩
theorem vx_callVW (X : Stand p l e R s m args below meth c T locs cells slots) (hexec : p.tables.exec = Jvm.exec) {own C : String} {index : Nat} {y : MethodName} {bytes : ByteArray} {maxL : Nat} {ret : Option FieldType} {hh : List (Nat × Nat × Nat × Nat)}
    (hown : s.vm.findClass own = some m.cls) (hlink : (Cond.methodLink own index y).before args s = true) (hinst : (Cond.instanceMethod y).before args s = true) (hsel : (Cond.selects C y y).before args s = true)
    (hcode : (Cond.codeWith y bytes maxL ret hh).before args s = true) (hy : y.cls ≠ "java/lang/invoke/MethodHandle" ∧ y.cls ≠ "java/lang/invoke/VarHandle")
    {W9 : Nat} {Pre : Pt → Array Value → Prop} {Post : Pt → Array Value → Option Value → Pt → Prop} (hK : Back l R p e below s args y 3 W9 Pre Post)
    {b : Addr} {cellB : Cell} (hcell : T.heap[b]? = some cellB) (hobj : cellB.vm.isStatics = false) (hcls : s.vm.findClass C = some cellB.cls)
    {g : JFrame} (hg : g.method = m) (hsize : g.locals.size = c.maxLocals) {argsL rest : List Value} (hlen : ∀ sig, parseMethodDescriptor y.desc = some sig → argsL.length = sig.parameters.length)
    (hstack : g.stack = argsL.reverse ++ .ref b :: rest) (hW : 2 * g.monitorRoom + (rest.map fun v => v.category).sum ≤ W9) (hdg : decode c.code g.pc = .ok (.invokevirtual index, 3))
    (hpre : ∀ vm₁, s.WarmedH vm₁ → Pre ⟨T.setVm vm₁, locs, cells, slots⟩ (Value.ref b :: argsL).toArray) :
    ∃ (v : Option Value) (vm₁ : Vm) (B : Pt), s.WarmedH vm₁ ∧ Stand p l e R s m args below meth c B.U B.locs B.cells B.slots ∧ Post ⟨T.setVm vm₁, locs, cells, slots⟩ (Value.ref b :: argsL).toArray v B ∧
      ∀ target, Steps p.tables e below (B.U.setTop { g with pc := g.pc + 3, stack := v.toList ++ rest }) target → Steps p.tables e below (T.setTop g) target := by
  obtain ⟨mk, methM, hnamed, hmethM, hstM, habM⟩ := Cond.instanceMethod_spec hinst
  obtain ⟨m8, methM', cM, hn8, hmethM', -, -, -, -, -, -, hsigM⟩ := Cond.codeWith_spec hcode
  cases Option.some.inj (hn8.symm.trans hnamed)
  cases hmethM.symm.trans hmethM'
  obtain ⟨c2, r2, m2, q1, q2, q3, q4, kP, hkP, hkPi⟩ := Cond.selects_spec hsel
  cases hcls.symm.trans q1
  cases (State.methodFound?_of_named hnamed hy).symm.trans q2
  cases hnamed.symm.trans q3
  have hselP : selectMethod e.platform s.vm cellB.cls mk = .method mk := by rw [Launch.admits_selectMethod X.admits]; exact q4
  obtain ⟨vm₁, X₁, hstep₁⟩ := X.invokevirtual hexec hown hlink hnamed hmethM hstM hkP hkPi hy (a := b) (cell := cellB) hcell
    (fun z h => by rw [h] at hobj; cases hobj) hselP hmethM habM hkP hkPi (g := g) hg (argsL := argsL) (rest := rest) (hlen _ hsigM) hstack hdg
  obtain ⟨v, B, X', hpost, hsteps⟩ := hK m meth c ⟨T.setVm vm₁, locs, cells, slots⟩ { g with stack := rest } (.invokevirtual index) mk (Value.ref b :: argsL).toArray X₁ hg hsize hdg hW (X₁.named hnamed) (hpre vm₁ X₁.warmed)
  exact ⟨v, vm₁, B, X₁.warmed, X', hpost, fun target h => hstep₁ _ fun acts => by rw [doInvoke_state]; exact hsteps.trans h⟩
abbrev vx_CVW (R : Room) (s : State) (args : Array Value) (own C : String) (index : Nat) (y : MethodName) (bytes : ByteArray) (maxL : Nat) (ret : Option FieldType) (hh : List (Nat × Nat × Nat × Nat)) (ws : List Cond) (rm : Room) (mc ms n : Nat) : Prop :=
  (rm.cells = mc ∧ rm.slots = ms ∧ rm.frames + 1 ≤ R.frames ∧ 8 + (maxL + 11) + rm.locals ≤ R.locals ∧ (∀ w ∈ ws, ∀ (a' : Array Value) (U : State), s.WarmedH U.vm → w.before a' U = true) ∧ Cond.codeWith y bytes maxL ret hh ∈ ws) ∧
  (Cond.codeWith y bytes maxL ret hh).before args s = true ∧ (Cond.initialized y.cls).before args s = true ∧ (y.cls ≠ "java/lang/invoke/MethodHandle" ∧ y.cls ≠ "java/lang/invoke/VarHandle") ∧
  (∀ sig, parseMethodDescriptor y.desc = some sig → n = sig.parameters.length) ∧ (Cond.methodLink own index y).before args s = true ∧ (Cond.instanceMethod y).before args s = true ∧ (Cond.selects C y y).before args s = true
theorem vx_cwVW {own C : String} {index maxL mc ms : Nat} {y : MethodName} {bytes : ByteArray} {ret : Option FieldType} {hh : List (Nat × Nat × Nat × Nat)} {Ts ws ws' : List Cond} {rm : Room} (n : Nat) (ht : ∀ w ∈ Ts, w.before args s = true) (hT : GoodIn Ts (wsV own index C y ws)) (hw : ws = Cond.codeWith y bytes maxL ret hh :: ws') (hrc : rm.cells = mc) (hrs : rm.slots = ms)
    (hd : y.cls = C ∧ y.cls ≠ "java/lang/invoke/MethodHandle" ∧ y.cls ≠ "java/lang/invoke/VarHandle" ∧ (parseMethodDescriptor y.desc).map (fun d => d.parameters.length) = some n) (hR : rm.frames + 1 ≤ R.frames ∧ 8 + (maxL + 11) + rm.locals ≤ R.locals) :
    vx_CVW R s args own C index y bytes maxL ret hh ws rm mc ms n := by
  obtain ⟨hC, hd⟩ := hd
  subst hC
  have ok : ∀ w ∈ wsV own index y.cls y ws, w.before args s = true := fun w h => ht w (hT w h).1
  have hG : GoodIn Ts ws := fun w h => hT w (by unfold wsV; exact List.mem_append_right _ h)
  have hc : Cond.codeWith y bytes maxL ret hh ∈ ws := by rw [hw]; exact List.mem_cons_self
  refine ⟨⟨hrc, hrs, hR.1, hR.2, pay_in ht hG, hc⟩, ht _ (hG _ hc).1, ok _ (by simp [wsV]), ⟨hd.1, hd.2.1⟩, fun sig h => ?_, ok _ (by simp [wsV]), ok _ (by simp [wsV]), ok _ (by simp [wsV])⟩
  have h2 := hd.2.2
  rw [h] at h2
  exact (Option.some.inj h2).symm
theorem vx_runVW {y : MethodName} {bytes cc : ByteArray} {maxL nL mc ms n index : Nat} {ret : Option FieldType} {hh : List (Nat × Nat × Nat × Nat)} {ws : List Cond} {rm : Room} {Pc : Array Value → State → Prop} {Qc : Array Value → State → Outcome → State → Prop} {free : Addr → Prop} {Ts : List Cond} {own C : String} {b : Addr} {As rest : List Value} {g : JFrame}
    (S : CallFix p m c cc nL s args Ts own) (hM : Met l y ws rm Pc Qc mc ms free) (cw : vx_CVW R s args own C index y bytes maxL ret hh ws rm mc ms n) (hp : PreV s H C b Pc As)
    (hg : g.method = m) (hn : As.length = n) (hsize : g.locals.size = nL) (hstack : g.stack = As.reverse ++ .ref b :: rest) (hW : 2 * g.monitorRoom + (rest.map fun v => v.category).sum ≤ 8) (hdg : decode cc g.pc = .ok (.invokevirtual index, 3)) (hf : cells + mc ≤ R.cells ∧ slots + ms ≤ R.slots) :
    va_Run p l e R s m args below meth c H locs cells slots mc ms g rest (Qc (Value.ref b :: As).toArray) free := by
  obtain ⟨⟨hrc, hrs, hfr, hlo, hws, hcw⟩, hcode, hini, hy, hlen, hl, hin, hse⟩ := cw
  have hK : Back l R p e below s args y 3 8 (PreOf R mc ms Pc) (PostOf Qc mc ms free) := va_backW (hh := hh) (bytes := bytes) (maxL := maxL) (ret := ret) hM hp.1 hrc hrs hfr hlo hws hcw (fun a' U hW => word_at hW (Or.inl (by first | rfl | simp [Cond.onTables, Cond.keeps, Cond.steady])) hini)
  obtain ⟨hx, hb, hml, ho, -⟩ := S
  obtain ⟨-, ⟨cellB, hcB, hoB, hclB⟩, hPc⟩ := hp
  intro T hT X
  obtain ⟨v, vm₁, ⟨U', l2, c2, s2⟩, hW₁, X', ⟨g', mk, t, L, e1, e2, hq, h1, hL, h2, h3⟩, st⟩ := vx_callVW X hx (C := C) (hh := hh) (bytes := bytes) (maxL := maxL) (ret := ret) ho hl hin hse hcode hy hK (by rw [hT]; exact hcB) hoB hclB hg (hsize.trans hml.symm) (argsL := As) (rest := rest) (fun sig h => hn.trans (hlen sig h)) hstack hW (by rw [hb]; exact hdg)
    (fun vm₁ hW₁ => ⟨hf.1, hf.2, hPc (T.setVm vm₁) hT hW₁⟩)
  dsimp only [Pt.U, Pt.locs, Pt.cells, Pt.slots] at X' e1 e2 h1 h2 h3 st
  subst h1; subst h2; subst h3
  exact ⟨v, (T.setVm vm₁).calling g' mk (Value.ref b :: As).toArray, t, U', L, hT, X', hL, e1, e2, hq, st⟩
section
variable {y : MethodName} {bytes cc : ByteArray} {maxL nL mc ms n index : Nat} {ret : Option FieldType} {ws : List Cond} {rm : Room} {Pc : Array Value → State → Prop} {Qc : Array Value → State → Outcome → State → Prop} {XC : String → State → State → Prop} {free : Addr → Prop} {Ts : List Cond} {own C : String} {b : Addr} {As rest : List Value} {g : JFrame}
theorem vx_runVX {hh : List (Nat × Nat × Nat × Nat)} (S : CallFix p m c cc nL s args Ts own) (hM : vx_Met l y ws rm Pc Qc XC mc ms free) (cw : vx_CVW R s args own C index y bytes maxL ret hh ws rm mc ms n) (hp : PreV s H C b Pc As)
    (hg : g.method = m) (hn : As.length = n) (hsize : g.locals.size = nL) (hstack : g.stack = As.reverse ++ .ref b :: rest) (hW : 2 * g.monitorRoom + (rest.map fun v => v.category).sum ≤ 8) (hdg : decode cc g.pc = .ok (.invokevirtual index, 3)) (hf : cells + mc ≤ R.cells ∧ slots + ms ≤ R.slots) :
    vx_Run p l e R s m args below meth c H locs cells slots mc ms g rest (Qc (Value.ref b :: As).toArray) XC free := by
  obtain ⟨⟨hrc, hrs, hfr, hlo, hws, hcw⟩, hcode, hini, hy, hlen, hl, hin, hse⟩ := cw
  have hK : vx_Back l R p e below s args y 3 8 (PreOf R mc ms Pc) (PostOf Qc mc ms free) (vx_Post XC mc ms free) := vx_backW (hh := hh) (bytes := bytes) (maxL := maxL) (ret := ret) hM hp.1 hrc hrs hfr hlo hws hcw (fun a' U hW => word_at hW (Or.inl (by first | rfl | simp [Cond.onTables, Cond.keeps, Cond.steady])) hini)
  obtain ⟨hx, hb, hml, ho, -⟩ := S
  obtain ⟨-, ⟨cellB, hcB, hoB, hclB⟩, hPc⟩ := hp
  intro T hT X
  rcases vx_callVX X hx (C := C) (hh := hh) (bytes := bytes) (maxL := maxL) (ret := ret) ho hl hin hse hcode hy hK (by rw [hT]; exact hcB) hoB hclB hg (hsize.trans hml.symm) (argsL := As) (rest := rest) (fun sig h => hn.trans (hlen sig h)) hstack hW (by rw [hb]; exact hdg)
    (fun vm₁ hW₁ => ⟨hf.1, hf.2, hPc (T.setVm vm₁) hT hW₁⟩) with ⟨v, vm₁, ⟨U', l2, c2, s2⟩, hW₁, X', ⟨g', mk, t, L, e1, e2, hq, h1, hL, h2, h3⟩, st⟩ | ⟨q, vm₁, ⟨U', l2, c2, s2⟩, hW₁, X', ⟨g', mk, t, L, E, ce, e1, e2, hq, hce, hcv, hcl, h1, hL, h2, h3⟩, st⟩
  · dsimp only [Pt.U, Pt.locs, Pt.cells, Pt.slots] at X' e1 e2 h1 h2 h3 st
    subst h1; subst h2; subst h3
    exact Or.inl ⟨v, (T.setVm vm₁).calling g' mk (Value.ref b :: As).toArray, t, U', L, hT, X', hL, e1, e2, hq, st⟩
  · dsimp only [Pt.U, Pt.locs, Pt.cells, Pt.slots] at X' e1 e2 h1 h2 h3 st hcl
    subst h1; subst h2; subst h3
    exact Or.inr ⟨q, (T.setVm vm₁).calling g' mk (Value.ref b :: As).toArray, t, U', L, E, ce, hT, X', hL, e1, e2, hq, hce, hcv, vx_cls hW₁ hcl, st⟩
theorem vx_runSX {hh : List (Nat × Nat × Nat × Nat)} (S : CallFix p m c cc nL s args Ts own) (hM : vx_Met l y ws rm Pc Qc XC mc ms free) (cw : vx_CSW R s args own index y bytes maxL ret hh ws rm mc ms n) (hp : PreS s H Pc As)
    (hg : g.method = m) (hn : As.length = n) (hsize : g.locals.size = nL) (hstack : g.stack = As.reverse ++ rest) (hW : 2 * g.monitorRoom + (rest.map fun v => v.category).sum ≤ 8) (hdg : decode cc g.pc = .ok (.invokestatic index, 3)) (hf : cells + mc ≤ R.cells ∧ slots + ms ≤ R.slots) :
    vx_Run p l e R s m args below meth c H locs cells slots mc ms g rest (Qc As.toArray) XC free := by
  obtain ⟨⟨hrc, hrs, hfr, hlo, hws, hcw⟩, hcode, hini, hy, hlen, hl, hstt⟩ := cw
  have hK : vx_Back l R p e below s args y 3 8 (PreOf R mc ms Pc) (PostOf Qc mc ms free) (vx_Post XC mc ms free) := vx_backW (hh := hh) (bytes := bytes) (maxL := maxL) (ret := ret) hM hp.1 hrc hrs hfr hlo hws hcw (fun a' U hW => word_at hW (Or.inl (by first | rfl | simp [Cond.onTables, Cond.keeps, Cond.steady])) hini)
  obtain ⟨hx, hb, hml, ho, -⟩ := S
  intro T hT X
  rcases vx_callSX X hx (hh := hh) (bytes := bytes) (maxL := maxL) (ret := ret) ho hl hstt hini hcode hy hK hg (hsize.trans hml.symm) (argsL := As) (rest := rest) (fun sig h => hn.trans (hlen sig h)) hstack hW (by rw [hb]; exact hdg)
    (fun vm₁ hW₁ => ⟨hf.1, hf.2, hp.2 (T.setVm vm₁) hT hW₁⟩) with ⟨v, vm₁, ⟨U', l2, c2, s2⟩, hW₁, X', ⟨g', mk, t, L, e1, e2, hq, h1, hL, h2, h3⟩, st⟩ | ⟨q, vm₁, ⟨U', l2, c2, s2⟩, hW₁, X', ⟨g', mk, t, L, E, ce, e1, e2, hq, hce, hcv, hcl, h1, hL, h2, h3⟩, st⟩
  · dsimp only [Pt.U, Pt.locs, Pt.cells, Pt.slots] at X' e1 e2 h1 h2 h3 st
    subst h1; subst h2; subst h3
    exact Or.inl ⟨v, (T.setVm vm₁).calling g' mk As.toArray, t, U', L, hT, X', hL, e1, e2, hq, st⟩
  · dsimp only [Pt.U, Pt.locs, Pt.cells, Pt.slots] at X' e1 e2 h1 h2 h3 st hcl
    subst h1; subst h2; subst h3
    exact Or.inr ⟨q, (T.setVm vm₁).calling g' mk As.toArray, t, U', L, E, ce, hT, X', hL, e1, e2, hq, hce, hcv, vx_cls hW₁ hcl, st⟩
end
end VXH
theorem vx_ofWH {l : Launch} {y : MethodName} {ws ws' : List Cond} {rm : Room} {Pc : Array Value → State → Prop} {Qc : Array Value → State → Outcome → State → Prop} {XC : String → State → State → Prop} {mc ms : Nat} {free : Addr → Prop} {cc : ByteArray} {maxL : Nat} {ret : Option FieldType} {hh : List (Nat × Nat × Nat × Nat)}
    (hy : plainName y.cls = true) (hw : ws = Cond.codeWith y cc maxL ret hh :: ws')
    (body : ∀ p e s m args below meth c s₁, BodyLoose p l y (headSpec ws rm) cc maxL ret e s m args below meth c s₁ → c.maxLocals = maxL → Pc args s →
      W p l e (headSpec ws rm).room s m args below meth c s.heap [] 0 0 (vx_MQ below Qc XC args s mc ms free) (entryFrame m args maxL)) : vx_Met l y ws rm Pc Qc XC mc ms free := by
  refine MetFree.of_bodyS (code := cc) (maxLocals := maxL) (ret := ret) hy ?_ ?_
  · intro args s m h hn
    obtain ⟨m9, meth, c, hn9, h1, h2, h3, h4, -, h5, h6, -⟩ := Cond.codeWith_spec (atoms_spec (ws := ws) h _ (by rw [hw]; exact List.mem_cons_self))
    cases hn.symm.trans hn9
    exact ⟨meth, c, h1, h2, h3, h4, h5, h6⟩
  · intro p e s m args below meth c s₁ B hml hP _
    have hh0 : s₁.heap = s.heap := by rw [B.state]; rfl
    obtain ⟨t, a1, o, b1, b2, b3⟩ := body p e s m args below meth c s₁ B hml hP s₁ hh0 (Stand.of_body B)
    exact ⟨t, o, a1, b1, b2, b3⟩
/-! ===== END ===== -/
end
section
/-! ===== BEGIN printed: names, fields, word lists, decode rows ===== -/
def RX0 : String := "LotTracker"
def TX0 : u_T := fun k => match k with
  | 0 => ("LotTracker", "stepTool", "[I", true)
  | 1 => ("LotTracker", "stepMinutes", "[I", true)
  | 2 => ("LotTracker", "stepLimit", "[I", true)
  | 3 => ("LotTracker", "stepBack", "[I", true)
  | 4 => ("LotTracker", "stepCount", "I", false)
  | 5 => ("LotTracker", "lotState", "[I", true)
  | 6 => ("LotTracker", "lotStep", "[I", true)
  | 7 => ("LotTracker", "lotMoment", "[I", true)
  | 8 => ("LotTracker", "lotHeld", "[Z", true)
  | 9 => ("LotTracker", "lotReworks", "[I", true)
  | 10 => ("LotTracker", "lotParent", "[I", true)
  | 11 => ("LotTracker", "lotSize", "[I", true)
  | 12 => ("LotTracker", "lotCount", "I", false)
  | 13 => ("LotTracker", "waferLot", "[I", true)
  | 14 => ("LotTracker", "waferPath", "[[I", true)
  | 15 => ("LotTracker", "waferPathLength", "[I", true)
  | 16 => ("LotTracker", "waferCount", "I", false)
  | _ => ("LotTracker", "now", "I", false)
def tyX0 : Nat → FieldType := fun k => match k with
  | 0 => .array .int
  | 1 => .array .int
  | 2 => .array .int
  | 3 => .array .int
  | 4 => .int
  | 5 => .array .int
  | 6 => .array .int
  | 7 => .array .int
  | 8 => .array .boolean
  | 9 => .array .int
  | 10 => .array .int
  | 11 => .array .int
  | 12 => .int
  | 13 => .array .int
  | 14 => .array (.array .int)
  | 15 => .array .int
  | 16 => .int
  | _ => .int
abbrev wsX00 : List Cond := u_ws RX0 TX0 18
theorem nmX0 : ∀ a, a < 18 → ∀ b, b < 18 → a ≠ b → (TX0 a).2.1 ≠ (TX0 b).2.1 := by decide +kernel
theorem tyX0_ok : ∀ k, k < 18 → parseFieldDescriptor (TX0 k).2.2.1 = some (tyX0 k) := by decide +kernel
abbrev cX0_init : ByteArray := prog_1_method_1_code
def yX0_init : MethodName := ⟨RX0, "<init>", "()V"⟩
abbrev cX0_addStep : ByteArray := prog_1_method_2_code
def yX0_addStep : MethodName := ⟨RX0, "addStep", "(IIII)I"⟩
abbrev cX0_enter : ByteArray := prog_1_method_3_code
def yX0_enter : MethodName := ⟨RX0, "enter", "(I)I"⟩
abbrev cX0_start : ByteArray := prog_1_method_4_code
def yX0_start : MethodName := ⟨RX0, "start", "(I)I"⟩
abbrev cX0_rework : ByteArray := prog_1_method_5_code
def yX0_rework : MethodName := ⟨RX0, "rework", "(I)I"⟩
abbrev cX0_split : ByteArray := prog_1_method_6_code
def yX0_split : MethodName := ⟨RX0, "split", "(II)I"⟩
abbrev cX0_merge : ByteArray := prog_1_method_7_code
def yX0_merge : MethodName := ⟨RX0, "merge", "(II)I"⟩
abbrev cX0_hold : ByteArray := prog_1_method_8_code
def yX0_hold : MethodName := ⟨RX0, "hold", "(IZ)Z"⟩
abbrev cX0_scrap : ByteArray := prog_1_method_9_code
def yX0_scrap : MethodName := ⟨RX0, "scrap", "(I)I"⟩
abbrev cX0_advance : ByteArray := prog_1_method_10_code
def yX0_advance : MethodName := ⟨RX0, "advance", "(I)I"⟩
abbrev cX0_time : ByteArray := prog_1_method_11_code
def yX0_time : MethodName := ⟨RX0, "time", "()I"⟩
abbrev cX0_lots : ByteArray := prog_1_method_12_code
def yX0_lots : MethodName := ⟨RX0, "lots", "()I"⟩
abbrev cX0_wafers : ByteArray := prog_1_method_13_code
def yX0_wafers : MethodName := ⟨RX0, "wafers", "()I"⟩
abbrev cX0_state : ByteArray := prog_1_method_14_code
def yX0_state : MethodName := ⟨RX0, "state", "(I)I"⟩
abbrev cX0_stepOf : ByteArray := prog_1_method_15_code
def yX0_stepOf : MethodName := ⟨RX0, "stepOf", "(I)I"⟩
abbrev cX0_size : ByteArray := prog_1_method_16_code
def yX0_size : MethodName := ⟨RX0, "size", "(I)I"⟩
abbrev cX0_slack : ByteArray := prog_1_method_17_code
def yX0_slack : MethodName := ⟨RX0, "slack", "(I)I"⟩
abbrev cX0_isLate : ByteArray := prog_1_method_18_code
def yX0_isLate : MethodName := ⟨RX0, "isLate", "(I)Z"⟩
abbrev cX0_reworks : ByteArray := prog_1_method_19_code
def yX0_reworks : MethodName := ⟨RX0, "reworks", "(I)I"⟩
abbrev cX0_nextFor : ByteArray := prog_1_method_20_code
def yX0_nextFor : MethodName := ⟨RX0, "nextFor", "(I)I"⟩
abbrev cX0_wafersAt : ByteArray := prog_1_method_21_code
def yX0_wafersAt : MethodName := ⟨RX0, "wafersAt", "(I)I"⟩
abbrev cX0_wafersAtByWafers : ByteArray := prog_1_method_22_code
def yX0_wafersAtByWafers : MethodName := ⟨RX0, "wafersAtByWafers", "(I)I"⟩
abbrev cX0_lotOf : ByteArray := prog_1_method_23_code
def yX0_lotOf : MethodName := ⟨RX0, "lotOf", "(I)I"⟩
abbrev cX0_parentOf : ByteArray := prog_1_method_24_code
def yX0_parentOf : MethodName := ⟨RX0, "parentOf", "(I)I"⟩
abbrev cX0_common : ByteArray := prog_1_method_25_code
def yX0_common : MethodName := ⟨RX0, "common", "(II)I"⟩
abbrev cX0_path : ByteArray := prog_1_method_26_code
def yX0_path : MethodName := ⟨RX0, "path", "(I)I"⟩
abbrev cX0_pathAt : ByteArray := prog_1_method_27_code
def yX0_pathAt : MethodName := ⟨RX0, "pathAt", "(II)I"⟩
abbrev cX0_isWithin : ByteArray := prog_1_method_28_code
def yX0_isWithin : MethodName := ⟨RX0, "isWithin", "(III)Z"⟩
abbrev cX0_isStep : ByteArray := prog_1_method_29_code
def yX0_isStep : MethodName := ⟨RX0, "isStep", "(I)Z"⟩
abbrev cX0_isLot : ByteArray := prog_1_method_30_code
def yX0_isLot : MethodName := ⟨RX0, "isLot", "(I)Z"⟩
abbrev cX0_checkTool : ByteArray := prog_1_method_31_code
def yX0_checkTool : MethodName := ⟨RX0, "checkTool", "(I)V"⟩
abbrev cX0_checkStep : ByteArray := prog_1_method_32_code
def yX0_checkStep : MethodName := ⟨RX0, "checkStep", "(I)V"⟩
abbrev cX0_checkLot : ByteArray := prog_1_method_33_code
def yX0_checkLot : MethodName := ⟨RX0, "checkLot", "(I)V"⟩
abbrev cX0_checkWafer : ByteArray := prog_1_method_34_code
def yX0_checkWafer : MethodName := ⟨RX0, "checkWafer", "(I)V"⟩
abbrev cX0_isFree : ByteArray := prog_1_method_35_code
def yX0_isFree : MethodName := ⟨RX0, "isFree", "(I)Z"⟩
abbrev cX0_isReady : ByteArray := prog_1_method_36_code
def yX0_isReady : MethodName := ⟨RX0, "isReady", "(I)Z"⟩
abbrev cX0_usesTool : ByteArray := prog_1_method_37_code
def yX0_usesTool : MethodName := ⟨RX0, "usesTool", "(II)Z"⟩
abbrev cX0_isBusy : ByteArray := prog_1_method_38_code
def yX0_isBusy : MethodName := ⟨RX0, "isBusy", "(I)Z"⟩
abbrev cX0_waitingLeft : ByteArray := prog_1_method_39_code
def yX0_waitingLeft : MethodName := ⟨RX0, "waitingLeft", "(I)I"⟩
abbrev cX0_parentOrNone : ByteArray := prog_1_method_40_code
def yX0_parentOrNone : MethodName := ⟨RX0, "parentOrNone", "(I)I"⟩
abbrev cX0_makeLot : ByteArray := prog_1_method_41_code
def yX0_makeLot : MethodName := ⟨RX0, "makeLot", "(IIZII)I"⟩
abbrev cX0_makeWafer : ByteArray := prog_1_method_42_code
def yX0_makeWafer : MethodName := ⟨RX0, "makeWafer", "(I)V"⟩
abbrev cX0_putInto : ByteArray := prog_1_method_43_code
def yX0_putInto : MethodName := ⟨RX0, "putInto", "(II)V"⟩
abbrev cX0_moveWafers : ByteArray := prog_1_method_44_code
def yX0_moveWafers : MethodName := ⟨RX0, "moveWafers", "(III)V"⟩
abbrev cX0_leaveRoute : ByteArray := prog_1_method_45_code
def yX0_leaveRoute : MethodName := ⟨RX0, "leaveRoute", "(II)V"⟩
abbrev cX0_endProcessing : ByteArray := prog_1_method_46_code
def yX0_endProcessing : MethodName := ⟨RX0, "endProcessing", "(I)V"⟩
def RX1 : String := "LotTrackerModel"
def TX1 : u_T := fun k => match k with
  | 0 => ("LotTrackerModel", "thrown", "I", false)
  | 1 => ("LotTrackerModel", "now", "I", false)
  | 2 => ("LotTrackerModel", "stepMany", "I", false)
  | 3 => ("LotTrackerModel", "tools", "[I", true)
  | 4 => ("LotTrackerModel", "minutes", "[I", true)
  | 5 => ("LotTrackerModel", "limits", "[I", true)
  | 6 => ("LotTrackerModel", "backs", "[I", true)
  | 7 => ("LotTrackerModel", "lotMany", "I", false)
  | 8 => ("LotTrackerModel", "states", "[I", true)
  | 9 => ("LotTrackerModel", "steps", "[I", true)
  | 10 => ("LotTrackerModel", "since", "[I", true)
  | 11 => ("LotTrackerModel", "ends", "[I", true)
  | 12 => ("LotTrackerModel", "areHeld", "[Z", true)
  | 13 => ("LotTrackerModel", "again", "[I", true)
  | 14 => ("LotTrackerModel", "parents", "[I", true)
  | 15 => ("LotTrackerModel", "waferMany", "I", false)
  | 16 => ("LotTrackerModel", "lotOfWafer", "[I", true)
  | 17 => ("LotTrackerModel", "pathMany", "[I", true)
  | 18 => ("LotTrackerModel", "paths", "[I", true)
  | _ => ("LotTrackerModel", "isAncestor", "[Z", true)
def tyX1 : Nat → FieldType := fun k => match k with
  | 0 => .int
  | 1 => .int
  | 2 => .int
  | 3 => .array .int
  | 4 => .array .int
  | 5 => .array .int
  | 6 => .array .int
  | 7 => .int
  | 8 => .array .int
  | 9 => .array .int
  | 10 => .array .int
  | 11 => .array .int
  | 12 => .array .boolean
  | 13 => .array .int
  | 14 => .array .int
  | 15 => .int
  | 16 => .array .int
  | 17 => .array .int
  | 18 => .array .int
  | _ => .array .boolean
abbrev wsX10 : List Cond := u_ws RX1 TX1 20
theorem nmX1 : ∀ a, a < 20 → ∀ b, b < 20 → a ≠ b → (TX1 a).2.1 ≠ (TX1 b).2.1 := by decide +kernel
theorem tyX1_ok : ∀ k, k < 20 → parseFieldDescriptor (TX1 k).2.2.1 = some (tyX1 k) := by decide +kernel
abbrev cX1_init : ByteArray := prog_3_method_1_code
def yX1_init : MethodName := ⟨RX1, "<init>", "()V"⟩
abbrev cX1_thrown : ByteArray := prog_3_method_2_code
def yX1_thrown : MethodName := ⟨RX1, "thrown", "()I"⟩
abbrev cX1_fails : ByteArray := prog_3_method_3_code
def yX1_fails : MethodName := ⟨RX1, "fails", "(I)I"⟩
abbrev cX1_in : ByteArray := prog_3_method_4_code
def yX1_in : MethodName := ⟨RX1, "in", "(III)Z"⟩
abbrev cX1_isTool : ByteArray := prog_3_method_5_code
def yX1_isTool : MethodName := ⟨RX1, "isTool", "(I)Z"⟩
abbrev cX1_isLot : ByteArray := prog_3_method_6_code
def yX1_isLot : MethodName := ⟨RX1, "isLot", "(I)Z"⟩
abbrev cX1_isWafer : ByteArray := prog_3_method_7_code
def yX1_isWafer : MethodName := ⟨RX1, "isWafer", "(I)Z"⟩
abbrev cX1_addStep : ByteArray := prog_3_method_8_code
def yX1_addStep : MethodName := ⟨RX1, "addStep", "(IIII)I"⟩
abbrev cX1_puts : ByteArray := prog_3_method_9_code
def yX1_puts : MethodName := ⟨RX1, "puts", "(II)V"⟩
abbrev cX1_count : ByteArray := prog_3_method_10_code
def yX1_count : MethodName := ⟨RX1, "count", "(I)I"⟩
abbrev cX1_enter : ByteArray := prog_3_method_11_code
def yX1_enter : MethodName := ⟨RX1, "enter", "(I)I"⟩
abbrev cX1_waited : ByteArray := prog_3_method_12_code
def yX1_waited : MethodName := ⟨RX1, "waited", "(I)I"⟩
abbrev cX1_tooLate : ByteArray := prog_3_method_13_code
def yX1_tooLate : MethodName := ⟨RX1, "tooLate", "(I)Z"⟩
abbrev cX1_isBusy : ByteArray := prog_3_method_14_code
def yX1_isBusy : MethodName := ⟨RX1, "isBusy", "(I)Z"⟩
abbrev cX1_start : ByteArray := prog_3_method_15_code
def yX1_start : MethodName := ⟨RX1, "start", "(I)I"⟩
abbrev cX1_rework : ByteArray := prog_3_method_16_code
def yX1_rework : MethodName := ⟨RX1, "rework", "(I)I"⟩
abbrev cX1_split : ByteArray := prog_3_method_17_code
def yX1_split : MethodName := ⟨RX1, "split", "(II)I"⟩
abbrev cX1_canMerge : ByteArray := prog_3_method_18_code
def yX1_canMerge : MethodName := ⟨RX1, "canMerge", "(I)Z"⟩
abbrev cX1_merge : ByteArray := prog_3_method_19_code
def yX1_merge : MethodName := ⟨RX1, "merge", "(II)I"⟩
abbrev cX1_hold : ByteArray := prog_3_method_20_code
def yX1_hold : MethodName := ⟨RX1, "hold", "(IZ)Z"⟩
abbrev cX1_scrap : ByteArray := prog_3_method_21_code
def yX1_scrap : MethodName := ⟨RX1, "scrap", "(I)I"⟩
abbrev cX1_advance : ByteArray := prog_3_method_22_code
def yX1_advance : MethodName := ⟨RX1, "advance", "(I)I"⟩
abbrev cX1_time : ByteArray := prog_3_method_23_code
def yX1_time : MethodName := ⟨RX1, "time", "()I"⟩
abbrev cX1_lots : ByteArray := prog_3_method_24_code
def yX1_lots : MethodName := ⟨RX1, "lots", "()I"⟩
abbrev cX1_wafers : ByteArray := prog_3_method_25_code
def yX1_wafers : MethodName := ⟨RX1, "wafers", "()I"⟩
abbrev cX1_told : ByteArray := prog_3_method_26_code
def yX1_told : MethodName := ⟨RX1, "told", "([II)I"⟩
abbrev cX1_state : ByteArray := prog_3_method_27_code
def yX1_state : MethodName := ⟨RX1, "state", "(I)I"⟩
abbrev cX1_stepOf : ByteArray := prog_3_method_28_code
def yX1_stepOf : MethodName := ⟨RX1, "stepOf", "(I)I"⟩
abbrev cX1_size : ByteArray := prog_3_method_29_code
def yX1_size : MethodName := ⟨RX1, "size", "(I)I"⟩
abbrev cX1_left : ByteArray := prog_3_method_30_code
def yX1_left : MethodName := ⟨RX1, "left", "(I)I"⟩
abbrev cX1_slack : ByteArray := prog_3_method_31_code
def yX1_slack : MethodName := ⟨RX1, "slack", "(I)I"⟩
abbrev cX1_isLate : ByteArray := prog_3_method_32_code
def yX1_isLate : MethodName := ⟨RX1, "isLate", "(I)Z"⟩
abbrev cX1_reworks : ByteArray := prog_3_method_33_code
def yX1_reworks : MethodName := ⟨RX1, "reworks", "(I)I"⟩
abbrev cX1_nextFor : ByteArray := prog_3_method_34_code
def yX1_nextFor : MethodName := ⟨RX1, "nextFor", "(I)I"⟩
abbrev cX1_at : ByteArray := prog_3_method_35_code
def yX1_at : MethodName := ⟨RX1, "at", "(I)I"⟩
abbrev cX1_wafersAt : ByteArray := prog_3_method_36_code
def yX1_wafersAt : MethodName := ⟨RX1, "wafersAt", "(I)I"⟩
abbrev cX1_wafersAtByWafers : ByteArray := prog_3_method_37_code
def yX1_wafersAtByWafers : MethodName := ⟨RX1, "wafersAtByWafers", "(I)I"⟩
abbrev cX1_lotOf : ByteArray := prog_3_method_38_code
def yX1_lotOf : MethodName := ⟨RX1, "lotOf", "(I)I"⟩
abbrev cX1_parentOf : ByteArray := prog_3_method_39_code
def yX1_parentOf : MethodName := ⟨RX1, "parentOf", "(I)I"⟩
abbrev cX1_common : ByteArray := prog_3_method_40_code
def yX1_common : MethodName := ⟨RX1, "common", "(II)I"⟩
abbrev cX1_path : ByteArray := prog_3_method_41_code
def yX1_path : MethodName := ⟨RX1, "path", "(I)I"⟩
abbrev cX1_pathAt : ByteArray := prog_3_method_42_code
def yX1_pathAt : MethodName := ⟨RX1, "pathAt", "(II)I"⟩
def RJ9 : String := "java/lang/Math"
def TJ9 : u_T := fun k => match k with
  | _ => ("", "", "", false)
def tyJ9 : Nat → FieldType := fun k => match k with
  | _ => .int
abbrev wsJ90 : List Cond := u_ws RJ9 TJ9 0
theorem nmJ9 : ∀ a, a < 0 → ∀ b, b < 0 → a ≠ b → (TJ9 a).2.1 ≠ (TJ9 b).2.1 := by decide +kernel
theorem tyJ9_ok : ∀ k, k < 0 → parseFieldDescriptor (TJ9 k).2.2.1 = some (tyJ9 k) := by decide +kernel
abbrev cJ9_max_7cf53 : ByteArray := prog_8_method_65_code
def yJ9_max_7cf53 : MethodName := ⟨RJ9, "max", "(II)I"⟩
abbrev cJ9_min_7cf53 : ByteArray := prog_8_method_69_code
def yJ9_min_7cf53 : MethodName := ⟨RJ9, "min", "(II)I"⟩
def RJ0 : String := "java/lang/String"
def TJ0 : u_T := fun k => match k with
  | _ => ("", "", "", false)
def tyJ0 : Nat → FieldType := fun k => match k with
  | _ => .int
abbrev wsJ00 : List Cond := u_ws RJ0 TJ0 0
theorem nmJ0 : ∀ a, a < 0 → ∀ b, b < 0 → a ≠ b → (TJ0 a).2.1 ≠ (TJ0 b).2.1 := by decide +kernel
theorem tyJ0_ok : ∀ k, k < 0 → parseFieldDescriptor (TJ0 k).2.2.1 = some (tyJ0 k) := by decide +kernel
def RL : String := "LotTrackerLaw"
abbrev cL_addStep : ByteArray := method_3_code
def yL_addStep : MethodName := ⟨RL, "addStep", "(LLotTracker;IIII[J)I"⟩
abbrev cL_enter : ByteArray := method_4_code
def yL_enter : MethodName := ⟨RL, "enter", "(LLotTracker;I[J)I"⟩
abbrev cL_start : ByteArray := method_5_code
def yL_start : MethodName := ⟨RL, "start", "(LLotTracker;I[J)I"⟩
abbrev cL_rework : ByteArray := method_6_code
def yL_rework : MethodName := ⟨RL, "rework", "(LLotTracker;I[J)I"⟩
abbrev cL_split : ByteArray := method_7_code
def yL_split : MethodName := ⟨RL, "split", "(LLotTracker;II[J)I"⟩
abbrev cL_merge : ByteArray := method_8_code
def yL_merge : MethodName := ⟨RL, "merge", "(LLotTracker;II[J)I"⟩
abbrev cL_hold : ByteArray := method_9_code
def yL_hold : MethodName := ⟨RL, "hold", "(LLotTracker;IZ[J)I"⟩
abbrev cL_scrap : ByteArray := method_10_code
def yL_scrap : MethodName := ⟨RL, "scrap", "(LLotTracker;I[J)I"⟩
abbrev cL_advance : ByteArray := method_11_code
def yL_advance : MethodName := ⟨RL, "advance", "(LLotTracker;I[J)I"⟩
abbrev cL_state : ByteArray := method_12_code
def yL_state : MethodName := ⟨RL, "state", "(LLotTracker;I[J)I"⟩
abbrev cL_stepOf : ByteArray := method_13_code
def yL_stepOf : MethodName := ⟨RL, "stepOf", "(LLotTracker;I[J)I"⟩
abbrev cL_size : ByteArray := method_14_code
def yL_size : MethodName := ⟨RL, "size", "(LLotTracker;I[J)I"⟩
abbrev cL_slack : ByteArray := method_15_code
def yL_slack : MethodName := ⟨RL, "slack", "(LLotTracker;I[J)I"⟩
abbrev cL_isLate : ByteArray := method_16_code
def yL_isLate : MethodName := ⟨RL, "isLate", "(LLotTracker;I[J)I"⟩
abbrev cL_reworks : ByteArray := method_17_code
def yL_reworks : MethodName := ⟨RL, "reworks", "(LLotTracker;I[J)I"⟩
abbrev cL_nextFor : ByteArray := method_18_code
def yL_nextFor : MethodName := ⟨RL, "nextFor", "(LLotTracker;I[J)I"⟩
abbrev cL_wafersAt : ByteArray := method_19_code
def yL_wafersAt : MethodName := ⟨RL, "wafersAt", "(LLotTracker;I[J)I"⟩
abbrev cL_wafersAtByWafers : ByteArray := method_20_code
def yL_wafersAtByWafers : MethodName := ⟨RL, "wafersAtByWafers", "(LLotTracker;I[J)I"⟩
abbrev cL_lotOf : ByteArray := method_21_code
def yL_lotOf : MethodName := ⟨RL, "lotOf", "(LLotTracker;I[J)I"⟩
abbrev cL_parentOf : ByteArray := method_22_code
def yL_parentOf : MethodName := ⟨RL, "parentOf", "(LLotTracker;I[J)I"⟩
abbrev cL_common : ByteArray := method_23_code
def yL_common : MethodName := ⟨RL, "common", "(LLotTracker;II[J)I"⟩
abbrev cL_path : ByteArray := method_24_code
def yL_path : MethodName := ⟨RL, "path", "(LLotTracker;I[J)I"⟩
abbrev cL_pathAt : ByteArray := method_25_code
def yL_pathAt : MethodName := ⟨RL, "pathAt", "(LLotTracker;II[J)I"⟩
abbrev cL_law : ByteArray := code
def yL_law : MethodName := ⟨RL, "law", "([I)Z"⟩
def wsX0_init : List Cond := .code yX0_init cX0_init 1 none :: ([.methodLink RX0 3 objectInit, .instanceMethod objectInit, .code objectInit ⟨#[0xb1]⟩ 1 none, .arrayClass .int, .fieldLink RX0 9 "LotTracker" "stepTool" "[I", .fieldLink RX0 13 "LotTracker" "stepMinutes" "[I", .fieldLink RX0 16 "LotTracker" "stepLimit" "[I", .fieldLink RX0 19 "LotTracker" "stepBack" "[I", .fieldLink RX0 22 "LotTracker" "stepCount" "I", .fieldLink RX0 26 "LotTracker" "lotState" "[I", .fieldLink RX0 29 "LotTracker" "lotStep" "[I", .fieldLink RX0 32 "LotTracker" "lotMoment" "[I", .arrayClass .boolean, .fieldLink RX0 35 "LotTracker" "lotHeld" "[Z", .fieldLink RX0 39 "LotTracker" "lotReworks" "[I", .fieldLink RX0 42 "LotTracker" "lotParent" "[I", .fieldLink RX0 45 "LotTracker" "lotSize" "[I", .fieldLink RX0 48 "LotTracker" "lotCount" "I", .fieldLink RX0 51 "LotTracker" "waferLot" "[I", .classLink RX0 54 "[[I", .fieldLink RX0 56 "LotTracker" "waferPath" "[[I", .fieldLink RX0 59 "LotTracker" "waferPathLength" "[I", .fieldLink RX0 62 "LotTracker" "waferCount" "I", .fieldLink RX0 65 "LotTracker" "now" "I"] ++ wsX00)
def wsX0_isWithin : List Cond := .code yX0_isWithin cX0_isWithin 3 (some .boolean) :: ([])
def wsX0_checkTool : List Cond := .code yX0_checkTool cX0_checkTool 1 none :: ([.classLink RX0 172 "java/lang/IndexOutOfBoundsException", .initialized "java/lang/IndexOutOfBoundsException", .methodLink RX0 72 yX0_isWithin, .static yX0_isWithin, .initialized RX0, .code yX0_isWithin cX0_isWithin 3 (some .boolean)] ++ (vx_atS RX0 176 "java/lang/IndexOutOfBoundsException" ["java/lang/RuntimeException", "java/lang/Exception"]).filter goodWord)
def wsX0_addStep : List Cond := .code yX0_addStep cX0_addStep 6 (some .int) :: ([.classLink RX0 76 "java/lang/IllegalArgumentException", .initialized "java/lang/IllegalArgumentException", .classLink RX0 83 "java/lang/IllegalStateException", .initialized "java/lang/IllegalStateException", .fieldLink RX0 22 "LotTracker" "stepCount" "I", .fieldLink RX0 48 "LotTracker" "lotCount" "I", .fieldLink RX0 9 "LotTracker" "stepTool" "[I", .fieldLink RX0 13 "LotTracker" "stepMinutes" "[I", .fieldLink RX0 16 "LotTracker" "stepLimit" "[I", .fieldLink RX0 19 "LotTracker" "stepBack" "[I", .methodLink RX0 68 yX0_checkTool, .static yX0_checkTool, .initialized RX0, .code yX0_checkTool cX0_checkTool 1 none, .classLink RX0 172 "java/lang/IndexOutOfBoundsException", .initialized "java/lang/IndexOutOfBoundsException", .methodLink RX0 72 yX0_isWithin, .static yX0_isWithin, .code yX0_isWithin cX0_isWithin 3 (some .boolean)] ++ wsX00 ++ (vx_atS RX0 80 "java/lang/IllegalArgumentException" ["java/lang/RuntimeException", "java/lang/Exception"]).filter goodWord ++ (vx_atS RX0 87 "java/lang/IllegalStateException" ["java/lang/RuntimeException", "java/lang/Exception"]).filter goodWord ++ (vx_atS RX0 176 "java/lang/IndexOutOfBoundsException" ["java/lang/RuntimeException", "java/lang/Exception"]).filter goodWord)
def wsX0_makeLot : List Cond := .code yX0_makeLot cX0_makeLot 7 (some .int) :: ([.fieldLink RX0 48 "LotTracker" "lotCount" "I", .fieldLink RX0 26 "LotTracker" "lotState" "[I", .fieldLink RX0 29 "LotTracker" "lotStep" "[I", .fieldLink RX0 32 "LotTracker" "lotMoment" "[I", .fieldLink RX0 35 "LotTracker" "lotHeld" "[Z", .fieldLink RX0 39 "LotTracker" "lotReworks" "[I", .fieldLink RX0 42 "LotTracker" "lotParent" "[I", .fieldLink RX0 45 "LotTracker" "lotSize" "[I"] ++ wsX00)
def wsX0_putInto : List Cond := .code yX0_putInto cX0_putInto 4 none :: ([.fieldLink RX0 51 "LotTracker" "waferLot" "[I", .fieldLink RX0 45 "LotTracker" "lotSize" "[I", .fieldLink RX0 59 "LotTracker" "waferPathLength" "[I", .fieldLink RX0 56 "LotTracker" "waferPath" "[[I"] ++ wsX00)
def wsX0_makeWafer : List Cond := .code yX0_makeWafer cX0_makeWafer 3 none :: ([.fieldLink RX0 62 "LotTracker" "waferCount" "I", .fieldLink RX0 59 "LotTracker" "waferPathLength" "[I", .methodLink RX0 186 yX0_putInto, .instanceMethod yX0_putInto, .selects RX0 yX0_putInto yX0_putInto, .initialized RX0, .code yX0_putInto cX0_putInto 4 none, .fieldLink RX0 51 "LotTracker" "waferLot" "[I", .fieldLink RX0 45 "LotTracker" "lotSize" "[I", .fieldLink RX0 56 "LotTracker" "waferPath" "[[I"] ++ wsX00)
def wsX0_enter_r1 : List Cond := [Cond.classLink RX0 76 "java/lang/IllegalArgumentException", Cond.initialized "java/lang/IllegalArgumentException", Cond.classLink RX0 83 "java/lang/IllegalStateException", Cond.initialized "java/lang/IllegalStateException", Cond.fieldLink RX0 22 "LotTracker" "stepCount" "I", Cond.fieldLink RX0 48 "LotTracker" "lotCount" "I", Cond.fieldLink RX0 62 "LotTracker" "waferCount" "I", Cond.fieldLink RX0 65 "LotTracker" "now" "I", Cond.methodLink RX0 72 yX0_isWithin, Cond.static yX0_isWithin, Cond.initialized RX0, Cond.code yX0_isWithin cX0_isWithin 3 (some .boolean), Cond.methodLink RX0 92 yX0_makeLot, Cond.instanceMethod yX0_makeLot, Cond.selects RX0 yX0_makeLot yX0_makeLot, Cond.code yX0_makeLot cX0_makeLot 7 (some .int), Cond.fieldLink RX0 26 "LotTracker" "lotState" "[I", Cond.fieldLink RX0 29 "LotTracker" "lotStep" "[I", Cond.fieldLink RX0 32 "LotTracker" "lotMoment" "[I", Cond.fieldLink RX0 35 "LotTracker" "lotHeld" "[Z", Cond.fieldLink RX0 39 "LotTracker" "lotReworks" "[I", Cond.fieldLink RX0 42 "LotTracker" "lotParent" "[I", Cond.fieldLink RX0 45 "LotTracker" "lotSize" "[I", Cond.methodLink RX0 96 yX0_makeWafer]
def wsX0_enter_r2 : List Cond := [Cond.instanceMethod yX0_makeWafer, Cond.selects RX0 yX0_makeWafer yX0_makeWafer, Cond.code yX0_makeWafer cX0_makeWafer 3 none, Cond.fieldLink RX0 59 "LotTracker" "waferPathLength" "[I", Cond.methodLink RX0 186 yX0_putInto, Cond.instanceMethod yX0_putInto, Cond.selects RX0 yX0_putInto yX0_putInto, Cond.code yX0_putInto cX0_putInto 4 none, Cond.fieldLink RX0 51 "LotTracker" "waferLot" "[I", Cond.fieldLink RX0 56 "LotTracker" "waferPath" "[[I"]
def wsX0_enter : List Cond := .code yX0_enter cX0_enter 4 (some .int) :: ((wsX0_enter_r1 ++ wsX0_enter_r2) ++ wsX00 ++ (vx_atS RX0 80 "java/lang/IllegalArgumentException" ["java/lang/RuntimeException", "java/lang/Exception"]).filter goodWord ++ (vx_atS RX0 87 "java/lang/IllegalStateException" ["java/lang/RuntimeException", "java/lang/Exception"]).filter goodWord)
def wsX0_isLot : List Cond := .code yX0_isLot cX0_isLot 2 (some .boolean) :: ([.fieldLink RX0 48 "LotTracker" "lotCount" "I"] ++ wsX00)
def wsX0_checkLot : List Cond := .code yX0_checkLot cX0_checkLot 2 none :: ([.classLink RX0 172 "java/lang/IndexOutOfBoundsException", .initialized "java/lang/IndexOutOfBoundsException", .methodLink RX0 147 yX0_isLot, .instanceMethod yX0_isLot, .selects RX0 yX0_isLot yX0_isLot, .initialized RX0, .code yX0_isLot cX0_isLot 2 (some .boolean), .fieldLink RX0 48 "LotTracker" "lotCount" "I"] ++ wsX00 ++ (vx_atS RX0 176 "java/lang/IndexOutOfBoundsException" ["java/lang/RuntimeException", "java/lang/Exception"]).filter goodWord)
def wsX0_isFree : List Cond := .code yX0_isFree cX0_isFree 2 (some .boolean) :: ([.fieldLink RX0 26 "LotTracker" "lotState" "[I", .fieldLink RX0 35 "LotTracker" "lotHeld" "[Z"] ++ wsX00)
def wsX0_isStep : List Cond := .code yX0_isStep cX0_isStep 2 (some .boolean) :: ([.fieldLink RX0 22 "LotTracker" "stepCount" "I"] ++ wsX00)
def wsX0_waitingLeft : List Cond := .code yX0_waitingLeft cX0_waitingLeft 3 (some .int) :: ([.fieldLink RX0 29 "LotTracker" "lotStep" "[I", .fieldLink RX0 26 "LotTracker" "lotState" "[I", .constant RX0 161 (2000000), .fieldLink RX0 16 "LotTracker" "stepLimit" "[I", .constant RX0 185 (1000000), .fieldLink RX0 65 "LotTracker" "now" "I", .fieldLink RX0 32 "LotTracker" "lotMoment" "[I", .methodLink RX0 106 yX0_isStep, .instanceMethod yX0_isStep, .selects RX0 yX0_isStep yX0_isStep, .initialized RX0, .code yX0_isStep cX0_isStep 2 (some .boolean), .fieldLink RX0 22 "LotTracker" "stepCount" "I"] ++ wsX00)
def wsX0_isReady : List Cond := .code yX0_isReady cX0_isReady 2 (some .boolean) :: ([.methodLink RX0 114 yX0_isFree, .instanceMethod yX0_isFree, .selects RX0 yX0_isFree yX0_isFree, .initialized RX0, .code yX0_isFree cX0_isFree 2 (some .boolean), .fieldLink RX0 26 "LotTracker" "lotState" "[I", .fieldLink RX0 35 "LotTracker" "lotHeld" "[Z", .methodLink RX0 157 yX0_waitingLeft, .instanceMethod yX0_waitingLeft, .selects RX0 yX0_waitingLeft yX0_waitingLeft, .code yX0_waitingLeft cX0_waitingLeft 3 (some .int), .fieldLink RX0 29 "LotTracker" "lotStep" "[I", .constant RX0 161 (2000000), .fieldLink RX0 16 "LotTracker" "stepLimit" "[I", .constant RX0 185 (1000000), .fieldLink RX0 65 "LotTracker" "now" "I", .fieldLink RX0 32 "LotTracker" "lotMoment" "[I", .methodLink RX0 106 yX0_isStep, .instanceMethod yX0_isStep, .selects RX0 yX0_isStep yX0_isStep, .code yX0_isStep cX0_isStep 2 (some .boolean), .fieldLink RX0 22 "LotTracker" "stepCount" "I"] ++ wsX00)
def wsX0_usesTool : List Cond := .code yX0_usesTool cX0_usesTool 4 (some .boolean) :: ([.fieldLink RX0 29 "LotTracker" "lotStep" "[I", .fieldLink RX0 9 "LotTracker" "stepTool" "[I", .methodLink RX0 106 yX0_isStep, .instanceMethod yX0_isStep, .selects RX0 yX0_isStep yX0_isStep, .initialized RX0, .code yX0_isStep cX0_isStep 2 (some .boolean), .fieldLink RX0 22 "LotTracker" "stepCount" "I"] ++ wsX00)
def wsX0_isBusy : List Cond := .code yX0_isBusy cX0_isBusy 3 (some .boolean) :: ([.fieldLink RX0 48 "LotTracker" "lotCount" "I", .fieldLink RX0 26 "LotTracker" "lotState" "[I", .methodLink RX0 162 yX0_usesTool, .instanceMethod yX0_usesTool, .selects RX0 yX0_usesTool yX0_usesTool, .initialized RX0, .code yX0_usesTool cX0_usesTool 4 (some .boolean), .fieldLink RX0 29 "LotTracker" "lotStep" "[I", .fieldLink RX0 9 "LotTracker" "stepTool" "[I", .methodLink RX0 106 yX0_isStep, .instanceMethod yX0_isStep, .selects RX0 yX0_isStep yX0_isStep, .code yX0_isStep cX0_isStep 2 (some .boolean), .fieldLink RX0 22 "LotTracker" "stepCount" "I"] ++ wsX00)
def wsX0_start_r1 : List Cond := [Cond.classLink RX0 83 "java/lang/IllegalStateException", Cond.initialized "java/lang/IllegalStateException", Cond.fieldLink RX0 29 "LotTracker" "lotStep" "[I", Cond.fieldLink RX0 9 "LotTracker" "stepTool" "[I", Cond.fieldLink RX0 26 "LotTracker" "lotState" "[I", Cond.fieldLink RX0 32 "LotTracker" "lotMoment" "[I", Cond.fieldLink RX0 65 "LotTracker" "now" "I", Cond.fieldLink RX0 13 "LotTracker" "stepMinutes" "[I", Cond.methodLink RX0 99 yX0_checkLot, Cond.instanceMethod yX0_checkLot, Cond.selects RX0 yX0_checkLot yX0_checkLot, Cond.initialized RX0, Cond.code yX0_checkLot cX0_checkLot 2 none, Cond.classLink RX0 172 "java/lang/IndexOutOfBoundsException", Cond.initialized "java/lang/IndexOutOfBoundsException", Cond.methodLink RX0 147 yX0_isLot, Cond.instanceMethod yX0_isLot, Cond.selects RX0 yX0_isLot yX0_isLot, Cond.code yX0_isLot cX0_isLot 2 (some .boolean), Cond.fieldLink RX0 48 "LotTracker" "lotCount" "I", Cond.methodLink RX0 102 yX0_isReady, Cond.instanceMethod yX0_isReady, Cond.selects RX0 yX0_isReady yX0_isReady, Cond.code yX0_isReady cX0_isReady 2 (some .boolean)]
def wsX0_start_r2 : List Cond := [Cond.methodLink RX0 114 yX0_isFree, Cond.instanceMethod yX0_isFree, Cond.selects RX0 yX0_isFree yX0_isFree, Cond.code yX0_isFree cX0_isFree 2 (some .boolean), Cond.fieldLink RX0 35 "LotTracker" "lotHeld" "[Z", Cond.methodLink RX0 157 yX0_waitingLeft, Cond.instanceMethod yX0_waitingLeft, Cond.selects RX0 yX0_waitingLeft yX0_waitingLeft, Cond.code yX0_waitingLeft cX0_waitingLeft 3 (some .int), Cond.constant RX0 161 (2000000), Cond.fieldLink RX0 16 "LotTracker" "stepLimit" "[I", Cond.constant RX0 185 (1000000), Cond.methodLink RX0 106 yX0_isStep, Cond.instanceMethod yX0_isStep, Cond.selects RX0 yX0_isStep yX0_isStep, Cond.code yX0_isStep cX0_isStep 2 (some .boolean), Cond.fieldLink RX0 22 "LotTracker" "stepCount" "I", Cond.methodLink RX0 109 yX0_isBusy, Cond.instanceMethod yX0_isBusy, Cond.selects RX0 yX0_isBusy yX0_isBusy, Cond.code yX0_isBusy cX0_isBusy 3 (some .boolean), Cond.methodLink RX0 162 yX0_usesTool, Cond.instanceMethod yX0_usesTool, Cond.selects RX0 yX0_usesTool yX0_usesTool]
def wsX0_start_r3 : List Cond := [Cond.code yX0_usesTool cX0_usesTool 4 (some .boolean)]
def wsX0_start : List Cond := .code yX0_start cX0_start 3 (some .int) :: ((wsX0_start_r1 ++ (wsX0_start_r2 ++ wsX0_start_r3)) ++ wsX00 ++ (vx_atS RX0 87 "java/lang/IllegalStateException" ["java/lang/RuntimeException", "java/lang/Exception"]).filter goodWord ++ (vx_atS RX0 176 "java/lang/IndexOutOfBoundsException" ["java/lang/RuntimeException", "java/lang/Exception"]).filter goodWord)
def wsX0_rework_r1 : List Cond := [Cond.classLink RX0 83 "java/lang/IllegalStateException", Cond.initialized "java/lang/IllegalStateException", Cond.fieldLink RX0 29 "LotTracker" "lotStep" "[I", Cond.fieldLink RX0 39 "LotTracker" "lotReworks" "[I", Cond.fieldLink RX0 19 "LotTracker" "stepBack" "[I", Cond.fieldLink RX0 32 "LotTracker" "lotMoment" "[I", Cond.fieldLink RX0 65 "LotTracker" "now" "I", Cond.methodLink RX0 99 yX0_checkLot, Cond.instanceMethod yX0_checkLot, Cond.selects RX0 yX0_checkLot yX0_checkLot, Cond.initialized RX0, Cond.code yX0_checkLot cX0_checkLot 2 none, Cond.classLink RX0 172 "java/lang/IndexOutOfBoundsException", Cond.initialized "java/lang/IndexOutOfBoundsException", Cond.methodLink RX0 147 yX0_isLot, Cond.instanceMethod yX0_isLot, Cond.selects RX0 yX0_isLot yX0_isLot, Cond.code yX0_isLot cX0_isLot 2 (some .boolean), Cond.fieldLink RX0 48 "LotTracker" "lotCount" "I", Cond.methodLink RX0 114 yX0_isFree, Cond.instanceMethod yX0_isFree, Cond.selects RX0 yX0_isFree yX0_isFree, Cond.code yX0_isFree cX0_isFree 2 (some .boolean), Cond.fieldLink RX0 26 "LotTracker" "lotState" "[I"]
def wsX0_rework_r2 : List Cond := [Cond.fieldLink RX0 35 "LotTracker" "lotHeld" "[Z", Cond.methodLink RX0 106 yX0_isStep, Cond.instanceMethod yX0_isStep, Cond.selects RX0 yX0_isStep yX0_isStep, Cond.code yX0_isStep cX0_isStep 2 (some .boolean), Cond.fieldLink RX0 22 "LotTracker" "stepCount" "I"]
def wsX0_rework : List Cond := .code yX0_rework cX0_rework 3 (some .int) :: ((wsX0_rework_r1 ++ wsX0_rework_r2) ++ wsX00 ++ (vx_atS RX0 87 "java/lang/IllegalStateException" ["java/lang/RuntimeException", "java/lang/Exception"]).filter goodWord ++ (vx_atS RX0 176 "java/lang/IndexOutOfBoundsException" ["java/lang/RuntimeException", "java/lang/Exception"]).filter goodWord)
def wsX0_moveWafers : List Cond := .code yX0_moveWafers cX0_moveWafers 6 none :: ([.fieldLink RX0 62 "LotTracker" "waferCount" "I", .fieldLink RX0 51 "LotTracker" "waferLot" "[I", .fieldLink RX0 45 "LotTracker" "lotSize" "[I", .methodLink RX0 186 yX0_putInto, .instanceMethod yX0_putInto, .selects RX0 yX0_putInto yX0_putInto, .initialized RX0, .code yX0_putInto cX0_putInto 4 none, .fieldLink RX0 59 "LotTracker" "waferPathLength" "[I", .fieldLink RX0 56 "LotTracker" "waferPath" "[[I"] ++ wsX00)
def wsX0_split_r1 : List Cond := [Cond.classLink RX0 76 "java/lang/IllegalArgumentException", Cond.initialized "java/lang/IllegalArgumentException", Cond.classLink RX0 83 "java/lang/IllegalStateException", Cond.initialized "java/lang/IllegalStateException", Cond.fieldLink RX0 45 "LotTracker" "lotSize" "[I", Cond.fieldLink RX0 26 "LotTracker" "lotState" "[I", Cond.fieldLink RX0 48 "LotTracker" "lotCount" "I", Cond.fieldLink RX0 29 "LotTracker" "lotStep" "[I", Cond.fieldLink RX0 32 "LotTracker" "lotMoment" "[I", Cond.fieldLink RX0 35 "LotTracker" "lotHeld" "[Z", Cond.fieldLink RX0 39 "LotTracker" "lotReworks" "[I", Cond.methodLink RX0 99 yX0_checkLot, Cond.instanceMethod yX0_checkLot, Cond.selects RX0 yX0_checkLot yX0_checkLot, Cond.initialized RX0, Cond.code yX0_checkLot cX0_checkLot 2 none, Cond.classLink RX0 172 "java/lang/IndexOutOfBoundsException", Cond.initialized "java/lang/IndexOutOfBoundsException", Cond.methodLink RX0 147 yX0_isLot, Cond.instanceMethod yX0_isLot, Cond.selects RX0 yX0_isLot yX0_isLot, Cond.code yX0_isLot cX0_isLot 2 (some .boolean), Cond.methodLink RX0 72 yX0_isWithin, Cond.static yX0_isWithin]
def wsX0_split_r2 : List Cond := [Cond.code yX0_isWithin cX0_isWithin 3 (some .boolean), Cond.methodLink RX0 92 yX0_makeLot, Cond.instanceMethod yX0_makeLot, Cond.selects RX0 yX0_makeLot yX0_makeLot, Cond.code yX0_makeLot cX0_makeLot 7 (some .int), Cond.fieldLink RX0 42 "LotTracker" "lotParent" "[I", Cond.methodLink RX0 121 yX0_moveWafers, Cond.instanceMethod yX0_moveWafers, Cond.selects RX0 yX0_moveWafers yX0_moveWafers, Cond.code yX0_moveWafers cX0_moveWafers 6 none, Cond.fieldLink RX0 62 "LotTracker" "waferCount" "I", Cond.fieldLink RX0 51 "LotTracker" "waferLot" "[I", Cond.methodLink RX0 186 yX0_putInto, Cond.instanceMethod yX0_putInto, Cond.selects RX0 yX0_putInto yX0_putInto, Cond.code yX0_putInto cX0_putInto 4 none, Cond.fieldLink RX0 59 "LotTracker" "waferPathLength" "[I", Cond.fieldLink RX0 56 "LotTracker" "waferPath" "[[I"]
def wsX0_split : List Cond := .code yX0_split cX0_split 4 (some .int) :: ((wsX0_split_r1 ++ wsX0_split_r2) ++ wsX00 ++ (vx_atS RX0 80 "java/lang/IllegalArgumentException" ["java/lang/RuntimeException", "java/lang/Exception"]).filter goodWord ++ (vx_atS RX0 87 "java/lang/IllegalStateException" ["java/lang/RuntimeException", "java/lang/Exception"]).filter goodWord ++ (vx_atS RX0 176 "java/lang/IndexOutOfBoundsException" ["java/lang/RuntimeException", "java/lang/Exception"]).filter goodWord)
def wsX0_leaveRoute : List Cond := .code yX0_leaveRoute cX0_leaveRoute 3 none :: ([.fieldLink RX0 26 "LotTracker" "lotState" "[I", .fieldLink RX0 29 "LotTracker" "lotStep" "[I"] ++ wsX00)
def wsX0_merge_r1 : List Cond := [Cond.classLink RX0 76 "java/lang/IllegalArgumentException", Cond.initialized "java/lang/IllegalArgumentException", Cond.classLink RX0 83 "java/lang/IllegalStateException", Cond.initialized "java/lang/IllegalStateException", Cond.fieldLink RX0 29 "LotTracker" "lotStep" "[I", Cond.fieldLink RX0 32 "LotTracker" "lotMoment" "[I", Cond.methodLink RX0 129 Lib.Math.min.name, Cond.static Lib.Math.min.name, Cond.initialized "java/lang/Math", Cond.code Lib.Math.min.name Lib.Math.min.code 2 (some .int), Cond.fieldLink RX0 39 "LotTracker" "lotReworks" "[I", Cond.methodLink RX0 135 Lib.Math.max.name, Cond.static Lib.Math.max.name, Cond.code Lib.Math.max.name Lib.Math.max.code 2 (some .int), Cond.fieldLink RX0 45 "LotTracker" "lotSize" "[I", Cond.methodLink RX0 99 yX0_checkLot, Cond.instanceMethod yX0_checkLot, Cond.selects RX0 yX0_checkLot yX0_checkLot, Cond.initialized RX0, Cond.code yX0_checkLot cX0_checkLot 2 none, Cond.classLink RX0 172 "java/lang/IndexOutOfBoundsException", Cond.initialized "java/lang/IndexOutOfBoundsException", Cond.methodLink RX0 147 yX0_isLot, Cond.instanceMethod yX0_isLot]
def wsX0_merge_r2 : List Cond := [Cond.selects RX0 yX0_isLot yX0_isLot, Cond.code yX0_isLot cX0_isLot 2 (some .boolean), Cond.fieldLink RX0 48 "LotTracker" "lotCount" "I", Cond.methodLink RX0 114 yX0_isFree, Cond.instanceMethod yX0_isFree, Cond.selects RX0 yX0_isFree yX0_isFree, Cond.code yX0_isFree cX0_isFree 2 (some .boolean), Cond.fieldLink RX0 26 "LotTracker" "lotState" "[I", Cond.fieldLink RX0 35 "LotTracker" "lotHeld" "[Z", Cond.methodLink RX0 121 yX0_moveWafers, Cond.instanceMethod yX0_moveWafers, Cond.selects RX0 yX0_moveWafers yX0_moveWafers, Cond.code yX0_moveWafers cX0_moveWafers 6 none, Cond.fieldLink RX0 62 "LotTracker" "waferCount" "I", Cond.fieldLink RX0 51 "LotTracker" "waferLot" "[I", Cond.methodLink RX0 186 yX0_putInto, Cond.instanceMethod yX0_putInto, Cond.selects RX0 yX0_putInto yX0_putInto, Cond.code yX0_putInto cX0_putInto 4 none, Cond.fieldLink RX0 59 "LotTracker" "waferPathLength" "[I", Cond.fieldLink RX0 56 "LotTracker" "waferPath" "[[I", Cond.methodLink RX0 138 yX0_leaveRoute, Cond.instanceMethod yX0_leaveRoute, Cond.selects RX0 yX0_leaveRoute yX0_leaveRoute]
def wsX0_merge_r3 : List Cond := [Cond.code yX0_leaveRoute cX0_leaveRoute 3 none]
def wsX0_merge : List Cond := .code yX0_merge cX0_merge 3 (some .int) :: ((wsX0_merge_r1 ++ (wsX0_merge_r2 ++ wsX0_merge_r3)) ++ wsX00 ++ (vx_atS RX0 80 "java/lang/IllegalArgumentException" ["java/lang/RuntimeException", "java/lang/Exception"]).filter goodWord ++ (vx_atS RX0 87 "java/lang/IllegalStateException" ["java/lang/RuntimeException", "java/lang/Exception"]).filter goodWord ++ (vx_atS RX0 176 "java/lang/IndexOutOfBoundsException" ["java/lang/RuntimeException", "java/lang/Exception"]).filter goodWord)
def wsX0_hold : List Cond := .code yX0_hold cX0_hold 4 (some .boolean) :: ([.classLink RX0 83 "java/lang/IllegalStateException", .initialized "java/lang/IllegalStateException", .fieldLink RX0 26 "LotTracker" "lotState" "[I", .fieldLink RX0 35 "LotTracker" "lotHeld" "[Z", .methodLink RX0 99 yX0_checkLot, .instanceMethod yX0_checkLot, .selects RX0 yX0_checkLot yX0_checkLot, .initialized RX0, .code yX0_checkLot cX0_checkLot 2 none, .classLink RX0 172 "java/lang/IndexOutOfBoundsException", .initialized "java/lang/IndexOutOfBoundsException", .methodLink RX0 147 yX0_isLot, .instanceMethod yX0_isLot, .selects RX0 yX0_isLot yX0_isLot, .code yX0_isLot cX0_isLot 2 (some .boolean), .fieldLink RX0 48 "LotTracker" "lotCount" "I"] ++ wsX00 ++ (vx_atS RX0 87 "java/lang/IllegalStateException" ["java/lang/RuntimeException", "java/lang/Exception"]).filter goodWord ++ (vx_atS RX0 176 "java/lang/IndexOutOfBoundsException" ["java/lang/RuntimeException", "java/lang/Exception"]).filter goodWord)
def wsX0_checkWafer : List Cond := .code yX0_checkWafer cX0_checkWafer 2 none :: ([.classLink RX0 172 "java/lang/IndexOutOfBoundsException", .initialized "java/lang/IndexOutOfBoundsException", .fieldLink RX0 62 "LotTracker" "waferCount" "I"] ++ wsX00 ++ (vx_atS RX0 176 "java/lang/IndexOutOfBoundsException" ["java/lang/RuntimeException", "java/lang/Exception"]).filter goodWord)
def wsX0_scrap : List Cond := .code yX0_scrap cX0_scrap 3 (some .int) :: ([.classLink RX0 83 "java/lang/IllegalStateException", .initialized "java/lang/IllegalStateException", .fieldLink RX0 51 "LotTracker" "waferLot" "[I", .fieldLink RX0 26 "LotTracker" "lotState" "[I", .fieldLink RX0 45 "LotTracker" "lotSize" "[I", .methodLink RX0 144 yX0_checkWafer, .instanceMethod yX0_checkWafer, .selects RX0 yX0_checkWafer yX0_checkWafer, .initialized RX0, .code yX0_checkWafer cX0_checkWafer 2 none, .classLink RX0 172 "java/lang/IndexOutOfBoundsException", .initialized "java/lang/IndexOutOfBoundsException", .fieldLink RX0 62 "LotTracker" "waferCount" "I", .methodLink RX0 147 yX0_isLot, .instanceMethod yX0_isLot, .selects RX0 yX0_isLot yX0_isLot, .code yX0_isLot cX0_isLot 2 (some .boolean), .fieldLink RX0 48 "LotTracker" "lotCount" "I", .methodLink RX0 138 yX0_leaveRoute, .instanceMethod yX0_leaveRoute, .selects RX0 yX0_leaveRoute yX0_leaveRoute, .code yX0_leaveRoute cX0_leaveRoute 3 none, .fieldLink RX0 29 "LotTracker" "lotStep" "[I"] ++ wsX00 ++ (vx_atS RX0 87 "java/lang/IllegalStateException" ["java/lang/RuntimeException", "java/lang/Exception"]).filter goodWord ++ (vx_atS RX0 176 "java/lang/IndexOutOfBoundsException" ["java/lang/RuntimeException", "java/lang/Exception"]).filter goodWord)
def wsX0_endProcessing : List Cond := .code yX0_endProcessing cX0_endProcessing 3 none :: ([.fieldLink RX0 29 "LotTracker" "lotStep" "[I", .fieldLink RX0 26 "LotTracker" "lotState" "[I", .methodLink RX0 106 yX0_isStep, .instanceMethod yX0_isStep, .selects RX0 yX0_isStep yX0_isStep, .initialized RX0, .code yX0_isStep cX0_isStep 2 (some .boolean), .fieldLink RX0 22 "LotTracker" "stepCount" "I", .methodLink RX0 138 yX0_leaveRoute, .instanceMethod yX0_leaveRoute, .selects RX0 yX0_leaveRoute yX0_leaveRoute, .code yX0_leaveRoute cX0_leaveRoute 3 none] ++ wsX00)
def wsX0_advance : List Cond := .code yX0_advance cX0_advance 4 (some .int) :: ([.classLink RX0 76 "java/lang/IllegalArgumentException", .initialized "java/lang/IllegalArgumentException", .fieldLink RX0 65 "LotTracker" "now" "I", .fieldLink RX0 48 "LotTracker" "lotCount" "I", .fieldLink RX0 26 "LotTracker" "lotState" "[I", .fieldLink RX0 32 "LotTracker" "lotMoment" "[I", .methodLink RX0 72 yX0_isWithin, .static yX0_isWithin, .initialized RX0, .code yX0_isWithin cX0_isWithin 3 (some .boolean), .methodLink RX0 154 yX0_endProcessing, .instanceMethod yX0_endProcessing, .selects RX0 yX0_endProcessing yX0_endProcessing, .code yX0_endProcessing cX0_endProcessing 3 none, .fieldLink RX0 29 "LotTracker" "lotStep" "[I", .methodLink RX0 106 yX0_isStep, .instanceMethod yX0_isStep, .selects RX0 yX0_isStep yX0_isStep, .code yX0_isStep cX0_isStep 2 (some .boolean), .fieldLink RX0 22 "LotTracker" "stepCount" "I", .methodLink RX0 138 yX0_leaveRoute, .instanceMethod yX0_leaveRoute, .selects RX0 yX0_leaveRoute yX0_leaveRoute, .code yX0_leaveRoute cX0_leaveRoute 3 none] ++ wsX00 ++ (vx_atS RX0 80 "java/lang/IllegalArgumentException" ["java/lang/RuntimeException", "java/lang/Exception"]).filter goodWord)
def wsX0_time : List Cond := .code yX0_time cX0_time 1 (some .int) :: ([.fieldLink RX0 65 "LotTracker" "now" "I"] ++ wsX00)
def wsX0_lots : List Cond := .code yX0_lots cX0_lots 1 (some .int) :: ([.fieldLink RX0 48 "LotTracker" "lotCount" "I"] ++ wsX00)
def wsX0_wafers : List Cond := .code yX0_wafers cX0_wafers 1 (some .int) :: ([.fieldLink RX0 62 "LotTracker" "waferCount" "I"] ++ wsX00)
def wsX0_state : List Cond := .code yX0_state cX0_state 2 (some .int) :: ([.fieldLink RX0 26 "LotTracker" "lotState" "[I", .methodLink RX0 99 yX0_checkLot, .instanceMethod yX0_checkLot, .selects RX0 yX0_checkLot yX0_checkLot, .initialized RX0, .code yX0_checkLot cX0_checkLot 2 none, .classLink RX0 172 "java/lang/IndexOutOfBoundsException", .initialized "java/lang/IndexOutOfBoundsException", .methodLink RX0 147 yX0_isLot, .instanceMethod yX0_isLot, .selects RX0 yX0_isLot yX0_isLot, .code yX0_isLot cX0_isLot 2 (some .boolean), .fieldLink RX0 48 "LotTracker" "lotCount" "I"] ++ wsX00 ++ (vx_atS RX0 176 "java/lang/IndexOutOfBoundsException" ["java/lang/RuntimeException", "java/lang/Exception"]).filter goodWord)
def wsX0_stepOf : List Cond := .code yX0_stepOf cX0_stepOf 2 (some .int) :: ([.fieldLink RX0 29 "LotTracker" "lotStep" "[I", .methodLink RX0 99 yX0_checkLot, .instanceMethod yX0_checkLot, .selects RX0 yX0_checkLot yX0_checkLot, .initialized RX0, .code yX0_checkLot cX0_checkLot 2 none, .classLink RX0 172 "java/lang/IndexOutOfBoundsException", .initialized "java/lang/IndexOutOfBoundsException", .methodLink RX0 147 yX0_isLot, .instanceMethod yX0_isLot, .selects RX0 yX0_isLot yX0_isLot, .code yX0_isLot cX0_isLot 2 (some .boolean), .fieldLink RX0 48 "LotTracker" "lotCount" "I"] ++ wsX00 ++ (vx_atS RX0 176 "java/lang/IndexOutOfBoundsException" ["java/lang/RuntimeException", "java/lang/Exception"]).filter goodWord)
def wsX0_size : List Cond := .code yX0_size cX0_size 2 (some .int) :: ([.fieldLink RX0 45 "LotTracker" "lotSize" "[I", .methodLink RX0 99 yX0_checkLot, .instanceMethod yX0_checkLot, .selects RX0 yX0_checkLot yX0_checkLot, .initialized RX0, .code yX0_checkLot cX0_checkLot 2 none, .classLink RX0 172 "java/lang/IndexOutOfBoundsException", .initialized "java/lang/IndexOutOfBoundsException", .methodLink RX0 147 yX0_isLot, .instanceMethod yX0_isLot, .selects RX0 yX0_isLot yX0_isLot, .code yX0_isLot cX0_isLot 2 (some .boolean), .fieldLink RX0 48 "LotTracker" "lotCount" "I"] ++ wsX00 ++ (vx_atS RX0 176 "java/lang/IndexOutOfBoundsException" ["java/lang/RuntimeException", "java/lang/Exception"]).filter goodWord)
def wsX0_slack_r1 : List Cond := [Cond.methodLink RX0 99 yX0_checkLot, Cond.instanceMethod yX0_checkLot, Cond.selects RX0 yX0_checkLot yX0_checkLot, Cond.initialized RX0, Cond.code yX0_checkLot cX0_checkLot 2 none, Cond.classLink RX0 172 "java/lang/IndexOutOfBoundsException", Cond.initialized "java/lang/IndexOutOfBoundsException", Cond.methodLink RX0 147 yX0_isLot, Cond.instanceMethod yX0_isLot, Cond.selects RX0 yX0_isLot yX0_isLot, Cond.code yX0_isLot cX0_isLot 2 (some .boolean), Cond.fieldLink RX0 48 "LotTracker" "lotCount" "I", Cond.methodLink RX0 157 yX0_waitingLeft, Cond.instanceMethod yX0_waitingLeft, Cond.selects RX0 yX0_waitingLeft yX0_waitingLeft, Cond.code yX0_waitingLeft cX0_waitingLeft 3 (some .int), Cond.fieldLink RX0 29 "LotTracker" "lotStep" "[I", Cond.fieldLink RX0 26 "LotTracker" "lotState" "[I", Cond.constant RX0 161 (2000000), Cond.fieldLink RX0 16 "LotTracker" "stepLimit" "[I", Cond.constant RX0 185 (1000000), Cond.fieldLink RX0 65 "LotTracker" "now" "I", Cond.fieldLink RX0 32 "LotTracker" "lotMoment" "[I", Cond.methodLink RX0 106 yX0_isStep]
def wsX0_slack_r2 : List Cond := [Cond.instanceMethod yX0_isStep, Cond.selects RX0 yX0_isStep yX0_isStep, Cond.code yX0_isStep cX0_isStep 2 (some .boolean), Cond.fieldLink RX0 22 "LotTracker" "stepCount" "I"]
def wsX0_slack : List Cond := .code yX0_slack cX0_slack 2 (some .int) :: ((wsX0_slack_r1 ++ wsX0_slack_r2) ++ wsX00 ++ (vx_atS RX0 176 "java/lang/IndexOutOfBoundsException" ["java/lang/RuntimeException", "java/lang/Exception"]).filter goodWord)
def wsX0_isLate_r1 : List Cond := [Cond.methodLink RX0 99 yX0_checkLot, Cond.instanceMethod yX0_checkLot, Cond.selects RX0 yX0_checkLot yX0_checkLot, Cond.initialized RX0, Cond.code yX0_checkLot cX0_checkLot 2 none, Cond.classLink RX0 172 "java/lang/IndexOutOfBoundsException", Cond.initialized "java/lang/IndexOutOfBoundsException", Cond.methodLink RX0 147 yX0_isLot, Cond.instanceMethod yX0_isLot, Cond.selects RX0 yX0_isLot yX0_isLot, Cond.code yX0_isLot cX0_isLot 2 (some .boolean), Cond.fieldLink RX0 48 "LotTracker" "lotCount" "I", Cond.methodLink RX0 157 yX0_waitingLeft, Cond.instanceMethod yX0_waitingLeft, Cond.selects RX0 yX0_waitingLeft yX0_waitingLeft, Cond.code yX0_waitingLeft cX0_waitingLeft 3 (some .int), Cond.fieldLink RX0 29 "LotTracker" "lotStep" "[I", Cond.fieldLink RX0 26 "LotTracker" "lotState" "[I", Cond.constant RX0 161 (2000000), Cond.fieldLink RX0 16 "LotTracker" "stepLimit" "[I", Cond.constant RX0 185 (1000000), Cond.fieldLink RX0 65 "LotTracker" "now" "I", Cond.fieldLink RX0 32 "LotTracker" "lotMoment" "[I", Cond.methodLink RX0 106 yX0_isStep]
def wsX0_isLate_r2 : List Cond := [Cond.instanceMethod yX0_isStep, Cond.selects RX0 yX0_isStep yX0_isStep, Cond.code yX0_isStep cX0_isStep 2 (some .boolean), Cond.fieldLink RX0 22 "LotTracker" "stepCount" "I"]
def wsX0_isLate : List Cond := .code yX0_isLate cX0_isLate 2 (some .boolean) :: ((wsX0_isLate_r1 ++ wsX0_isLate_r2) ++ wsX00 ++ (vx_atS RX0 176 "java/lang/IndexOutOfBoundsException" ["java/lang/RuntimeException", "java/lang/Exception"]).filter goodWord)
def wsX0_reworks : List Cond := .code yX0_reworks cX0_reworks 2 (some .int) :: ([.fieldLink RX0 39 "LotTracker" "lotReworks" "[I", .methodLink RX0 99 yX0_checkLot, .instanceMethod yX0_checkLot, .selects RX0 yX0_checkLot yX0_checkLot, .initialized RX0, .code yX0_checkLot cX0_checkLot 2 none, .classLink RX0 172 "java/lang/IndexOutOfBoundsException", .initialized "java/lang/IndexOutOfBoundsException", .methodLink RX0 147 yX0_isLot, .instanceMethod yX0_isLot, .selects RX0 yX0_isLot yX0_isLot, .code yX0_isLot cX0_isLot 2 (some .boolean), .fieldLink RX0 48 "LotTracker" "lotCount" "I"] ++ wsX00 ++ (vx_atS RX0 176 "java/lang/IndexOutOfBoundsException" ["java/lang/RuntimeException", "java/lang/Exception"]).filter goodWord)
def wsX0_nextFor_r1 : List Cond := [Cond.constant RX0 161 (2000000), Cond.fieldLink RX0 48 "LotTracker" "lotCount" "I", Cond.methodLink RX0 68 yX0_checkTool, Cond.static yX0_checkTool, Cond.initialized RX0, Cond.code yX0_checkTool cX0_checkTool 1 none, Cond.classLink RX0 172 "java/lang/IndexOutOfBoundsException", Cond.initialized "java/lang/IndexOutOfBoundsException", Cond.methodLink RX0 72 yX0_isWithin, Cond.static yX0_isWithin, Cond.code yX0_isWithin cX0_isWithin 3 (some .boolean), Cond.methodLink RX0 109 yX0_isBusy, Cond.instanceMethod yX0_isBusy, Cond.selects RX0 yX0_isBusy yX0_isBusy, Cond.code yX0_isBusy cX0_isBusy 3 (some .boolean), Cond.fieldLink RX0 26 "LotTracker" "lotState" "[I", Cond.methodLink RX0 162 yX0_usesTool, Cond.instanceMethod yX0_usesTool, Cond.selects RX0 yX0_usesTool yX0_usesTool, Cond.code yX0_usesTool cX0_usesTool 4 (some .boolean), Cond.fieldLink RX0 29 "LotTracker" "lotStep" "[I", Cond.fieldLink RX0 9 "LotTracker" "stepTool" "[I", Cond.methodLink RX0 106 yX0_isStep, Cond.instanceMethod yX0_isStep]
def wsX0_nextFor_r2 : List Cond := [Cond.selects RX0 yX0_isStep yX0_isStep, Cond.code yX0_isStep cX0_isStep 2 (some .boolean), Cond.fieldLink RX0 22 "LotTracker" "stepCount" "I", Cond.methodLink RX0 102 yX0_isReady, Cond.instanceMethod yX0_isReady, Cond.selects RX0 yX0_isReady yX0_isReady, Cond.code yX0_isReady cX0_isReady 2 (some .boolean), Cond.methodLink RX0 114 yX0_isFree, Cond.instanceMethod yX0_isFree, Cond.selects RX0 yX0_isFree yX0_isFree, Cond.code yX0_isFree cX0_isFree 2 (some .boolean), Cond.fieldLink RX0 35 "LotTracker" "lotHeld" "[Z", Cond.methodLink RX0 157 yX0_waitingLeft, Cond.instanceMethod yX0_waitingLeft, Cond.selects RX0 yX0_waitingLeft yX0_waitingLeft, Cond.code yX0_waitingLeft cX0_waitingLeft 3 (some .int), Cond.fieldLink RX0 16 "LotTracker" "stepLimit" "[I", Cond.constant RX0 185 (1000000), Cond.fieldLink RX0 65 "LotTracker" "now" "I", Cond.fieldLink RX0 32 "LotTracker" "lotMoment" "[I"]
def wsX0_nextFor : List Cond := .code yX0_nextFor cX0_nextFor 5 (some .int) :: ((wsX0_nextFor_r1 ++ wsX0_nextFor_r2) ++ wsX00 ++ (vx_atS RX0 176 "java/lang/IndexOutOfBoundsException" ["java/lang/RuntimeException", "java/lang/Exception"]).filter goodWord)
def wsX0_checkStep : List Cond := .code yX0_checkStep cX0_checkStep 2 none :: ([.classLink RX0 172 "java/lang/IndexOutOfBoundsException", .initialized "java/lang/IndexOutOfBoundsException", .methodLink RX0 106 yX0_isStep, .instanceMethod yX0_isStep, .selects RX0 yX0_isStep yX0_isStep, .initialized RX0, .code yX0_isStep cX0_isStep 2 (some .boolean), .fieldLink RX0 22 "LotTracker" "stepCount" "I"] ++ wsX00 ++ (vx_atS RX0 176 "java/lang/IndexOutOfBoundsException" ["java/lang/RuntimeException", "java/lang/Exception"]).filter goodWord)
def wsX0_wafersAt : List Cond := .code yX0_wafersAt cX0_wafersAt 4 (some .int) :: ([.fieldLink RX0 48 "LotTracker" "lotCount" "I", .fieldLink RX0 29 "LotTracker" "lotStep" "[I", .fieldLink RX0 45 "LotTracker" "lotSize" "[I", .methodLink RX0 166 yX0_checkStep, .instanceMethod yX0_checkStep, .selects RX0 yX0_checkStep yX0_checkStep, .initialized RX0, .code yX0_checkStep cX0_checkStep 2 none, .classLink RX0 172 "java/lang/IndexOutOfBoundsException", .initialized "java/lang/IndexOutOfBoundsException", .methodLink RX0 106 yX0_isStep, .instanceMethod yX0_isStep, .selects RX0 yX0_isStep yX0_isStep, .code yX0_isStep cX0_isStep 2 (some .boolean), .fieldLink RX0 22 "LotTracker" "stepCount" "I"] ++ wsX00 ++ (vx_atS RX0 176 "java/lang/IndexOutOfBoundsException" ["java/lang/RuntimeException", "java/lang/Exception"]).filter goodWord)
def wsX0_wafersAtByWafers : List Cond := .code yX0_wafersAtByWafers cX0_wafersAtByWafers 5 (some .int) :: ([.fieldLink RX0 62 "LotTracker" "waferCount" "I", .fieldLink RX0 51 "LotTracker" "waferLot" "[I", .fieldLink RX0 29 "LotTracker" "lotStep" "[I", .methodLink RX0 166 yX0_checkStep, .instanceMethod yX0_checkStep, .selects RX0 yX0_checkStep yX0_checkStep, .initialized RX0, .code yX0_checkStep cX0_checkStep 2 none, .classLink RX0 172 "java/lang/IndexOutOfBoundsException", .initialized "java/lang/IndexOutOfBoundsException", .methodLink RX0 106 yX0_isStep, .instanceMethod yX0_isStep, .selects RX0 yX0_isStep yX0_isStep, .code yX0_isStep cX0_isStep 2 (some .boolean), .fieldLink RX0 22 "LotTracker" "stepCount" "I", .methodLink RX0 147 yX0_isLot, .instanceMethod yX0_isLot, .selects RX0 yX0_isLot yX0_isLot, .code yX0_isLot cX0_isLot 2 (some .boolean), .fieldLink RX0 48 "LotTracker" "lotCount" "I"] ++ wsX00 ++ (vx_atS RX0 176 "java/lang/IndexOutOfBoundsException" ["java/lang/RuntimeException", "java/lang/Exception"]).filter goodWord)
def wsX0_lotOf : List Cond := .code yX0_lotOf cX0_lotOf 2 (some .int) :: ([.fieldLink RX0 51 "LotTracker" "waferLot" "[I", .methodLink RX0 144 yX0_checkWafer, .instanceMethod yX0_checkWafer, .selects RX0 yX0_checkWafer yX0_checkWafer, .initialized RX0, .code yX0_checkWafer cX0_checkWafer 2 none, .classLink RX0 172 "java/lang/IndexOutOfBoundsException", .initialized "java/lang/IndexOutOfBoundsException", .fieldLink RX0 62 "LotTracker" "waferCount" "I"] ++ wsX00 ++ (vx_atS RX0 176 "java/lang/IndexOutOfBoundsException" ["java/lang/RuntimeException", "java/lang/Exception"]).filter goodWord)
def wsX0_parentOf : List Cond := .code yX0_parentOf cX0_parentOf 2 (some .int) :: ([.fieldLink RX0 42 "LotTracker" "lotParent" "[I", .methodLink RX0 99 yX0_checkLot, .instanceMethod yX0_checkLot, .selects RX0 yX0_checkLot yX0_checkLot, .initialized RX0, .code yX0_checkLot cX0_checkLot 2 none, .classLink RX0 172 "java/lang/IndexOutOfBoundsException", .initialized "java/lang/IndexOutOfBoundsException", .methodLink RX0 147 yX0_isLot, .instanceMethod yX0_isLot, .selects RX0 yX0_isLot yX0_isLot, .code yX0_isLot cX0_isLot 2 (some .boolean), .fieldLink RX0 48 "LotTracker" "lotCount" "I"] ++ wsX00 ++ (vx_atS RX0 176 "java/lang/IndexOutOfBoundsException" ["java/lang/RuntimeException", "java/lang/Exception"]).filter goodWord)
def wsX0_parentOrNone : List Cond := .code yX0_parentOrNone cX0_parentOrNone 2 (some .int) :: ([.fieldLink RX0 42 "LotTracker" "lotParent" "[I", .methodLink RX0 147 yX0_isLot, .instanceMethod yX0_isLot, .selects RX0 yX0_isLot yX0_isLot, .initialized RX0, .code yX0_isLot cX0_isLot 2 (some .boolean), .fieldLink RX0 48 "LotTracker" "lotCount" "I"] ++ wsX00)
def wsX0_common : List Cond := .code yX0_common cX0_common 6 (some .int) :: ([.methodLink RX0 99 yX0_checkLot, .instanceMethod yX0_checkLot, .selects RX0 yX0_checkLot yX0_checkLot, .initialized RX0, .code yX0_checkLot cX0_checkLot 2 none, .classLink RX0 172 "java/lang/IndexOutOfBoundsException", .initialized "java/lang/IndexOutOfBoundsException", .methodLink RX0 147 yX0_isLot, .instanceMethod yX0_isLot, .selects RX0 yX0_isLot yX0_isLot, .code yX0_isLot cX0_isLot 2 (some .boolean), .fieldLink RX0 48 "LotTracker" "lotCount" "I", .methodLink RX0 169 yX0_parentOrNone, .instanceMethod yX0_parentOrNone, .selects RX0 yX0_parentOrNone yX0_parentOrNone, .code yX0_parentOrNone cX0_parentOrNone 2 (some .int), .fieldLink RX0 42 "LotTracker" "lotParent" "[I"] ++ wsX00 ++ (vx_atS RX0 176 "java/lang/IndexOutOfBoundsException" ["java/lang/RuntimeException", "java/lang/Exception"]).filter goodWord)
def wsX0_path : List Cond := .code yX0_path cX0_path 2 (some .int) :: ([.fieldLink RX0 59 "LotTracker" "waferPathLength" "[I", .methodLink RX0 144 yX0_checkWafer, .instanceMethod yX0_checkWafer, .selects RX0 yX0_checkWafer yX0_checkWafer, .initialized RX0, .code yX0_checkWafer cX0_checkWafer 2 none, .classLink RX0 172 "java/lang/IndexOutOfBoundsException", .initialized "java/lang/IndexOutOfBoundsException", .fieldLink RX0 62 "LotTracker" "waferCount" "I"] ++ wsX00 ++ (vx_atS RX0 176 "java/lang/IndexOutOfBoundsException" ["java/lang/RuntimeException", "java/lang/Exception"]).filter goodWord)
def wsX0_pathAt : List Cond := .code yX0_pathAt cX0_pathAt 3 (some .int) :: ([.classLink RX0 172 "java/lang/IndexOutOfBoundsException", .initialized "java/lang/IndexOutOfBoundsException", .fieldLink RX0 59 "LotTracker" "waferPathLength" "[I", .fieldLink RX0 56 "LotTracker" "waferPath" "[[I", .methodLink RX0 144 yX0_checkWafer, .instanceMethod yX0_checkWafer, .selects RX0 yX0_checkWafer yX0_checkWafer, .initialized RX0, .code yX0_checkWafer cX0_checkWafer 2 none, .fieldLink RX0 62 "LotTracker" "waferCount" "I", .methodLink RX0 72 yX0_isWithin, .static yX0_isWithin, .code yX0_isWithin cX0_isWithin 3 (some .boolean)] ++ wsX00 ++ (vx_atS RX0 176 "java/lang/IndexOutOfBoundsException" ["java/lang/RuntimeException", "java/lang/Exception"]).filter goodWord)
def wsX1_init : List Cond := .code yX1_init cX1_init 1 none :: ([.methodLink RX1 1 objectInit, .instanceMethod objectInit, .code objectInit ⟨#[0xb1]⟩ 1 none, .arrayClass .int, .fieldLink RX1 7 "LotTrackerModel" "tools" "[I", .fieldLink RX1 13 "LotTrackerModel" "minutes" "[I", .fieldLink RX1 16 "LotTrackerModel" "limits" "[I", .fieldLink RX1 19 "LotTrackerModel" "backs" "[I", .fieldLink RX1 22 "LotTrackerModel" "states" "[I", .fieldLink RX1 25 "LotTrackerModel" "steps" "[I", .fieldLink RX1 28 "LotTrackerModel" "since" "[I", .fieldLink RX1 31 "LotTrackerModel" "ends" "[I", .arrayClass .boolean, .fieldLink RX1 34 "LotTrackerModel" "areHeld" "[Z", .fieldLink RX1 38 "LotTrackerModel" "again" "[I", .fieldLink RX1 41 "LotTrackerModel" "parents" "[I", .fieldLink RX1 44 "LotTrackerModel" "lotOfWafer" "[I", .fieldLink RX1 47 "LotTrackerModel" "pathMany" "[I", .fieldLink RX1 50 "LotTrackerModel" "paths" "[I", .fieldLink RX1 53 "LotTrackerModel" "isAncestor" "[Z", .fieldLink RX1 56 "LotTrackerModel" "thrown" "I"] ++ wsX10)
def wsX1_thrown : List Cond := .code yX1_thrown cX1_thrown 1 (some .int) :: ([.fieldLink RX1 56 "LotTrackerModel" "thrown" "I"] ++ wsX10)
def wsX1_fails : List Cond := .code yX1_fails cX1_fails 2 (some .int) :: ([.fieldLink RX1 56 "LotTrackerModel" "thrown" "I"] ++ wsX10)
def wsX1_in : List Cond := .code yX1_in cX1_in 3 (some .boolean) :: ([])
def wsX1_isTool : List Cond := .code yX1_isTool cX1_isTool 1 (some .boolean) :: ([.methodLink RX1 60 yX1_in, .static yX1_in, .initialized RX1, .code yX1_in cX1_in 3 (some .boolean)])
def wsX1_isLot : List Cond := .code yX1_isLot cX1_isLot 2 (some .boolean) :: ([.fieldLink RX1 64 "LotTrackerModel" "lotMany" "I", .methodLink RX1 60 yX1_in, .static yX1_in, .initialized RX1, .code yX1_in cX1_in 3 (some .boolean)] ++ wsX10)
def wsX1_isWafer : List Cond := .code yX1_isWafer cX1_isWafer 2 (some .boolean) :: ([.fieldLink RX1 67 "LotTrackerModel" "waferMany" "I", .methodLink RX1 60 yX1_in, .static yX1_in, .initialized RX1, .code yX1_in cX1_in 3 (some .boolean)] ++ wsX10)
def wsX1_addStep : List Cond := .code yX1_addStep cX1_addStep 6 (some .int) :: ([.fieldLink RX1 70 "LotTrackerModel" "stepMany" "I", .fieldLink RX1 64 "LotTrackerModel" "lotMany" "I", .fieldLink RX1 56 "LotTrackerModel" "thrown" "I", .fieldLink RX1 7 "LotTrackerModel" "tools" "[I", .fieldLink RX1 13 "LotTrackerModel" "minutes" "[I", .fieldLink RX1 16 "LotTrackerModel" "limits" "[I", .fieldLink RX1 19 "LotTrackerModel" "backs" "[I", .methodLink RX1 60 yX1_in, .static yX1_in, .initialized RX1, .code yX1_in cX1_in 3 (some .boolean), .methodLink RX1 73 yX1_isTool, .static yX1_isTool, .code yX1_isTool cX1_isTool 1 (some .boolean)] ++ wsX10)
def wsX1_puts : List Cond := .code yX1_puts cX1_puts 3 none :: ([.fieldLink RX1 44 "LotTrackerModel" "lotOfWafer" "[I", .fieldLink RX1 50 "LotTrackerModel" "paths" "[I", .fieldLink RX1 47 "LotTrackerModel" "pathMany" "[I"] ++ wsX10)
def wsX1_count : List Cond := .code yX1_count cX1_count 4 (some .int) :: ([.fieldLink RX1 67 "LotTrackerModel" "waferMany" "I", .fieldLink RX1 44 "LotTrackerModel" "lotOfWafer" "[I"] ++ wsX10)
def wsX1_enter : List Cond := .code yX1_enter cX1_enter 3 (some .int) :: ([.fieldLink RX1 70 "LotTrackerModel" "stepMany" "I", .fieldLink RX1 64 "LotTrackerModel" "lotMany" "I", .fieldLink RX1 67 "LotTrackerModel" "waferMany" "I", .fieldLink RX1 56 "LotTrackerModel" "thrown" "I", .fieldLink RX1 41 "LotTrackerModel" "parents" "[I", .fieldLink RX1 28 "LotTrackerModel" "since" "[I", .fieldLink RX1 77 "LotTrackerModel" "now" "I", .methodLink RX1 60 yX1_in, .static yX1_in, .initialized RX1, .code yX1_in cX1_in 3 (some .boolean), .methodLink RX1 80 yX1_puts, .instanceMethod yX1_puts, .selects RX1 yX1_puts yX1_puts, .code yX1_puts cX1_puts 3 none, .fieldLink RX1 44 "LotTrackerModel" "lotOfWafer" "[I", .fieldLink RX1 50 "LotTrackerModel" "paths" "[I", .fieldLink RX1 47 "LotTrackerModel" "pathMany" "[I"] ++ wsX10)
def wsX1_waited : List Cond := .code yX1_waited cX1_waited 2 (some .int) :: ([.fieldLink RX1 77 "LotTrackerModel" "now" "I", .fieldLink RX1 28 "LotTrackerModel" "since" "[I"] ++ wsX10)
def wsX1_tooLate : List Cond := .code yX1_tooLate cX1_tooLate 2 (some .boolean) :: ([.fieldLink RX1 22 "LotTrackerModel" "states" "[I", .fieldLink RX1 16 "LotTrackerModel" "limits" "[I", .fieldLink RX1 25 "LotTrackerModel" "steps" "[I", .methodLink RX1 84 yX1_waited, .instanceMethod yX1_waited, .selects RX1 yX1_waited yX1_waited, .initialized RX1, .code yX1_waited cX1_waited 2 (some .int), .fieldLink RX1 77 "LotTrackerModel" "now" "I", .fieldLink RX1 28 "LotTrackerModel" "since" "[I"] ++ wsX10)
def wsX1_isBusy : List Cond := .code yX1_isBusy cX1_isBusy 4 (some .boolean) :: ([.fieldLink RX1 64 "LotTrackerModel" "lotMany" "I", .fieldLink RX1 22 "LotTrackerModel" "states" "[I", .fieldLink RX1 7 "LotTrackerModel" "tools" "[I", .fieldLink RX1 25 "LotTrackerModel" "steps" "[I"] ++ wsX10)
def wsX1_start_r1 : List Cond := [Cond.fieldLink RX1 56 "LotTrackerModel" "thrown" "I", Cond.fieldLink RX1 22 "LotTrackerModel" "states" "[I", Cond.fieldLink RX1 34 "LotTrackerModel" "areHeld" "[Z", Cond.fieldLink RX1 7 "LotTrackerModel" "tools" "[I", Cond.fieldLink RX1 25 "LotTrackerModel" "steps" "[I", Cond.fieldLink RX1 31 "LotTrackerModel" "ends" "[I", Cond.fieldLink RX1 77 "LotTrackerModel" "now" "I", Cond.fieldLink RX1 13 "LotTrackerModel" "minutes" "[I", Cond.methodLink RX1 88 yX1_isLot, Cond.instanceMethod yX1_isLot, Cond.selects RX1 yX1_isLot yX1_isLot, Cond.initialized RX1, Cond.code yX1_isLot cX1_isLot 2 (some .boolean), Cond.fieldLink RX1 64 "LotTrackerModel" "lotMany" "I", Cond.methodLink RX1 60 yX1_in, Cond.static yX1_in, Cond.code yX1_in cX1_in 3 (some .boolean), Cond.methodLink RX1 91 yX1_tooLate, Cond.instanceMethod yX1_tooLate, Cond.selects RX1 yX1_tooLate yX1_tooLate, Cond.code yX1_tooLate cX1_tooLate 2 (some .boolean), Cond.fieldLink RX1 16 "LotTrackerModel" "limits" "[I", Cond.methodLink RX1 84 yX1_waited, Cond.instanceMethod yX1_waited]
def wsX1_start_r2 : List Cond := [Cond.selects RX1 yX1_waited yX1_waited, Cond.code yX1_waited cX1_waited 2 (some .int), Cond.fieldLink RX1 28 "LotTrackerModel" "since" "[I", Cond.methodLink RX1 94 yX1_isBusy, Cond.instanceMethod yX1_isBusy, Cond.selects RX1 yX1_isBusy yX1_isBusy, Cond.code yX1_isBusy cX1_isBusy 4 (some .boolean)]
def wsX1_start : List Cond := .code yX1_start cX1_start 2 (some .int) :: ((wsX1_start_r1 ++ wsX1_start_r2) ++ wsX10)
def wsX1_rework : List Cond := .code yX1_rework cX1_rework 2 (some .int) :: ([.fieldLink RX1 22 "LotTrackerModel" "states" "[I", .fieldLink RX1 34 "LotTrackerModel" "areHeld" "[Z", .fieldLink RX1 38 "LotTrackerModel" "again" "[I", .fieldLink RX1 56 "LotTrackerModel" "thrown" "I", .fieldLink RX1 25 "LotTrackerModel" "steps" "[I", .fieldLink RX1 19 "LotTrackerModel" "backs" "[I", .fieldLink RX1 28 "LotTrackerModel" "since" "[I", .fieldLink RX1 77 "LotTrackerModel" "now" "I", .methodLink RX1 88 yX1_isLot, .instanceMethod yX1_isLot, .selects RX1 yX1_isLot yX1_isLot, .initialized RX1, .code yX1_isLot cX1_isLot 2 (some .boolean), .fieldLink RX1 64 "LotTrackerModel" "lotMany" "I", .methodLink RX1 60 yX1_in, .static yX1_in, .code yX1_in cX1_in 3 (some .boolean)] ++ wsX10)
def wsX1_split_r1 : List Cond := [Cond.fieldLink RX1 22 "LotTrackerModel" "states" "[I", Cond.fieldLink RX1 64 "LotTrackerModel" "lotMany" "I", Cond.fieldLink RX1 56 "LotTrackerModel" "thrown" "I", Cond.fieldLink RX1 25 "LotTrackerModel" "steps" "[I", Cond.fieldLink RX1 28 "LotTrackerModel" "since" "[I", Cond.fieldLink RX1 34 "LotTrackerModel" "areHeld" "[Z", Cond.fieldLink RX1 38 "LotTrackerModel" "again" "[I", Cond.fieldLink RX1 41 "LotTrackerModel" "parents" "[I", Cond.fieldLink RX1 67 "LotTrackerModel" "waferMany" "I", Cond.fieldLink RX1 44 "LotTrackerModel" "lotOfWafer" "[I", Cond.methodLink RX1 88 yX1_isLot, Cond.instanceMethod yX1_isLot, Cond.selects RX1 yX1_isLot yX1_isLot, Cond.initialized RX1, Cond.code yX1_isLot cX1_isLot 2 (some .boolean), Cond.methodLink RX1 60 yX1_in, Cond.static yX1_in, Cond.code yX1_in cX1_in 3 (some .boolean), Cond.methodLink RX1 97 yX1_count, Cond.instanceMethod yX1_count, Cond.selects RX1 yX1_count yX1_count, Cond.code yX1_count cX1_count 4 (some .int), Cond.methodLink RX1 80 yX1_puts, Cond.instanceMethod yX1_puts]
def wsX1_split_r2 : List Cond := [Cond.selects RX1 yX1_puts yX1_puts, Cond.code yX1_puts cX1_puts 3 none, Cond.fieldLink RX1 50 "LotTrackerModel" "paths" "[I", Cond.fieldLink RX1 47 "LotTrackerModel" "pathMany" "[I"]
def wsX1_split : List Cond := .code yX1_split cX1_split 6 (some .int) :: ((wsX1_split_r1 ++ wsX1_split_r2) ++ wsX10)
def wsX1_canMerge : List Cond := .code yX1_canMerge cX1_canMerge 2 (some .boolean) :: ([.fieldLink RX1 22 "LotTrackerModel" "states" "[I", .fieldLink RX1 34 "LotTrackerModel" "areHeld" "[Z"] ++ wsX10)
def wsX1_merge_r1 : List Cond := [Cond.fieldLink RX1 25 "LotTrackerModel" "steps" "[I", Cond.fieldLink RX1 56 "LotTrackerModel" "thrown" "I", Cond.fieldLink RX1 67 "LotTrackerModel" "waferMany" "I", Cond.fieldLink RX1 44 "LotTrackerModel" "lotOfWafer" "[I", Cond.fieldLink RX1 28 "LotTrackerModel" "since" "[I", Cond.fieldLink RX1 38 "LotTrackerModel" "again" "[I", Cond.fieldLink RX1 22 "LotTrackerModel" "states" "[I", Cond.methodLink RX1 88 yX1_isLot, Cond.instanceMethod yX1_isLot, Cond.selects RX1 yX1_isLot yX1_isLot, Cond.initialized RX1, Cond.code yX1_isLot cX1_isLot 2 (some .boolean), Cond.fieldLink RX1 64 "LotTrackerModel" "lotMany" "I", Cond.methodLink RX1 60 yX1_in, Cond.static yX1_in, Cond.code yX1_in cX1_in 3 (some .boolean), Cond.methodLink RX1 100 yX1_canMerge, Cond.instanceMethod yX1_canMerge, Cond.selects RX1 yX1_canMerge yX1_canMerge, Cond.code yX1_canMerge cX1_canMerge 2 (some .boolean), Cond.fieldLink RX1 34 "LotTrackerModel" "areHeld" "[Z", Cond.methodLink RX1 80 yX1_puts, Cond.instanceMethod yX1_puts, Cond.selects RX1 yX1_puts yX1_puts]
def wsX1_merge_r2 : List Cond := [Cond.code yX1_puts cX1_puts 3 none, Cond.fieldLink RX1 50 "LotTrackerModel" "paths" "[I", Cond.fieldLink RX1 47 "LotTrackerModel" "pathMany" "[I", Cond.methodLink RX1 97 yX1_count, Cond.instanceMethod yX1_count, Cond.selects RX1 yX1_count yX1_count, Cond.code yX1_count cX1_count 4 (some .int)]
def wsX1_merge : List Cond := .code yX1_merge cX1_merge 4 (some .int) :: ((wsX1_merge_r1 ++ wsX1_merge_r2) ++ wsX10)
def wsX1_hold : List Cond := .code yX1_hold cX1_hold 4 (some .boolean) :: ([.fieldLink RX1 22 "LotTrackerModel" "states" "[I", .fieldLink RX1 56 "LotTrackerModel" "thrown" "I", .fieldLink RX1 34 "LotTrackerModel" "areHeld" "[Z", .methodLink RX1 88 yX1_isLot, .instanceMethod yX1_isLot, .selects RX1 yX1_isLot yX1_isLot, .initialized RX1, .code yX1_isLot cX1_isLot 2 (some .boolean), .fieldLink RX1 64 "LotTrackerModel" "lotMany" "I", .methodLink RX1 60 yX1_in, .static yX1_in, .code yX1_in cX1_in 3 (some .boolean)] ++ wsX10)
def wsX1_scrap : List Cond := .code yX1_scrap cX1_scrap 3 (some .int) :: ([.fieldLink RX1 44 "LotTrackerModel" "lotOfWafer" "[I", .fieldLink RX1 22 "LotTrackerModel" "states" "[I", .fieldLink RX1 56 "LotTrackerModel" "thrown" "I", .methodLink RX1 103 yX1_isWafer, .instanceMethod yX1_isWafer, .selects RX1 yX1_isWafer yX1_isWafer, .initialized RX1, .code yX1_isWafer cX1_isWafer 2 (some .boolean), .fieldLink RX1 67 "LotTrackerModel" "waferMany" "I", .methodLink RX1 60 yX1_in, .static yX1_in, .code yX1_in cX1_in 3 (some .boolean), .methodLink RX1 97 yX1_count, .instanceMethod yX1_count, .selects RX1 yX1_count yX1_count, .code yX1_count cX1_count 4 (some .int)] ++ wsX10)
def wsX1_advance : List Cond := .code yX1_advance cX1_advance 4 (some .int) :: ([.fieldLink RX1 56 "LotTrackerModel" "thrown" "I", .fieldLink RX1 77 "LotTrackerModel" "now" "I", .fieldLink RX1 64 "LotTrackerModel" "lotMany" "I", .fieldLink RX1 22 "LotTrackerModel" "states" "[I", .fieldLink RX1 31 "LotTrackerModel" "ends" "[I", .fieldLink RX1 25 "LotTrackerModel" "steps" "[I", .fieldLink RX1 28 "LotTrackerModel" "since" "[I", .fieldLink RX1 70 "LotTrackerModel" "stepMany" "I", .methodLink RX1 60 yX1_in, .static yX1_in, .initialized RX1, .code yX1_in cX1_in 3 (some .boolean)] ++ wsX10)
def wsX1_time : List Cond := .code yX1_time cX1_time 1 (some .int) :: ([.fieldLink RX1 56 "LotTrackerModel" "thrown" "I", .fieldLink RX1 77 "LotTrackerModel" "now" "I"] ++ wsX10)
def wsX1_lots : List Cond := .code yX1_lots cX1_lots 1 (some .int) :: ([.fieldLink RX1 56 "LotTrackerModel" "thrown" "I", .fieldLink RX1 64 "LotTrackerModel" "lotMany" "I"] ++ wsX10)
def wsX1_wafers : List Cond := .code yX1_wafers cX1_wafers 1 (some .int) :: ([.fieldLink RX1 56 "LotTrackerModel" "thrown" "I", .fieldLink RX1 67 "LotTrackerModel" "waferMany" "I"] ++ wsX10)
def wsX1_told : List Cond := .code yX1_told cX1_told 3 (some .int) :: ([.fieldLink RX1 56 "LotTrackerModel" "thrown" "I", .methodLink RX1 88 yX1_isLot, .instanceMethod yX1_isLot, .selects RX1 yX1_isLot yX1_isLot, .initialized RX1, .code yX1_isLot cX1_isLot 2 (some .boolean), .fieldLink RX1 64 "LotTrackerModel" "lotMany" "I", .methodLink RX1 60 yX1_in, .static yX1_in, .code yX1_in cX1_in 3 (some .boolean), .methodLink RX1 106 yX1_fails, .instanceMethod yX1_fails, .selects RX1 yX1_fails yX1_fails, .code yX1_fails cX1_fails 2 (some .int)] ++ wsX10)
def wsX1_state : List Cond := .code yX1_state cX1_state 2 (some .int) :: ([.fieldLink RX1 22 "LotTrackerModel" "states" "[I", .methodLink RX1 109 yX1_told, .instanceMethod yX1_told, .selects RX1 yX1_told yX1_told, .initialized RX1, .code yX1_told cX1_told 3 (some .int), .fieldLink RX1 56 "LotTrackerModel" "thrown" "I", .methodLink RX1 88 yX1_isLot, .instanceMethod yX1_isLot, .selects RX1 yX1_isLot yX1_isLot, .code yX1_isLot cX1_isLot 2 (some .boolean), .fieldLink RX1 64 "LotTrackerModel" "lotMany" "I", .methodLink RX1 60 yX1_in, .static yX1_in, .code yX1_in cX1_in 3 (some .boolean), .methodLink RX1 106 yX1_fails, .instanceMethod yX1_fails, .selects RX1 yX1_fails yX1_fails, .code yX1_fails cX1_fails 2 (some .int)] ++ wsX10)
def wsX1_stepOf : List Cond := .code yX1_stepOf cX1_stepOf 3 (some .int) :: ([.fieldLink RX1 25 "LotTrackerModel" "steps" "[I", .fieldLink RX1 56 "LotTrackerModel" "thrown" "I", .fieldLink RX1 22 "LotTrackerModel" "states" "[I", .methodLink RX1 109 yX1_told, .instanceMethod yX1_told, .selects RX1 yX1_told yX1_told, .initialized RX1, .code yX1_told cX1_told 3 (some .int), .methodLink RX1 88 yX1_isLot, .instanceMethod yX1_isLot, .selects RX1 yX1_isLot yX1_isLot, .code yX1_isLot cX1_isLot 2 (some .boolean), .fieldLink RX1 64 "LotTrackerModel" "lotMany" "I", .methodLink RX1 60 yX1_in, .static yX1_in, .code yX1_in cX1_in 3 (some .boolean), .methodLink RX1 106 yX1_fails, .instanceMethod yX1_fails, .selects RX1 yX1_fails yX1_fails, .code yX1_fails cX1_fails 2 (some .int)] ++ wsX10)
def wsX1_size : List Cond := .code yX1_size cX1_size 2 (some .int) :: ([.fieldLink RX1 56 "LotTrackerModel" "thrown" "I", .methodLink RX1 88 yX1_isLot, .instanceMethod yX1_isLot, .selects RX1 yX1_isLot yX1_isLot, .initialized RX1, .code yX1_isLot cX1_isLot 2 (some .boolean), .fieldLink RX1 64 "LotTrackerModel" "lotMany" "I", .methodLink RX1 60 yX1_in, .static yX1_in, .code yX1_in cX1_in 3 (some .boolean), .methodLink RX1 97 yX1_count, .instanceMethod yX1_count, .selects RX1 yX1_count yX1_count, .code yX1_count cX1_count 4 (some .int), .fieldLink RX1 67 "LotTrackerModel" "waferMany" "I", .fieldLink RX1 44 "LotTrackerModel" "lotOfWafer" "[I", .methodLink RX1 106 yX1_fails, .instanceMethod yX1_fails, .selects RX1 yX1_fails yX1_fails, .code yX1_fails cX1_fails 2 (some .int)] ++ wsX10)
def wsX1_left : List Cond := .code yX1_left cX1_left 3 (some .int) :: ([.fieldLink RX1 16 "LotTrackerModel" "limits" "[I", .fieldLink RX1 25 "LotTrackerModel" "steps" "[I", .constant RX1 113 (1000000), .methodLink RX1 84 yX1_waited, .instanceMethod yX1_waited, .selects RX1 yX1_waited yX1_waited, .initialized RX1, .code yX1_waited cX1_waited 2 (some .int), .fieldLink RX1 77 "LotTrackerModel" "now" "I", .fieldLink RX1 28 "LotTrackerModel" "since" "[I"] ++ wsX10)
def wsX1_slack_r1 : List Cond := [Cond.fieldLink RX1 56 "LotTrackerModel" "thrown" "I", Cond.fieldLink RX1 22 "LotTrackerModel" "states" "[I", Cond.constant RX1 117 (2000000), Cond.methodLink RX1 88 yX1_isLot, Cond.instanceMethod yX1_isLot, Cond.selects RX1 yX1_isLot yX1_isLot, Cond.initialized RX1, Cond.code yX1_isLot cX1_isLot 2 (some .boolean), Cond.fieldLink RX1 64 "LotTrackerModel" "lotMany" "I", Cond.methodLink RX1 60 yX1_in, Cond.static yX1_in, Cond.code yX1_in cX1_in 3 (some .boolean), Cond.methodLink RX1 114 yX1_left, Cond.instanceMethod yX1_left, Cond.selects RX1 yX1_left yX1_left, Cond.code yX1_left cX1_left 3 (some .int), Cond.fieldLink RX1 16 "LotTrackerModel" "limits" "[I", Cond.fieldLink RX1 25 "LotTrackerModel" "steps" "[I", Cond.constant RX1 113 (1000000), Cond.methodLink RX1 84 yX1_waited, Cond.instanceMethod yX1_waited, Cond.selects RX1 yX1_waited yX1_waited, Cond.code yX1_waited cX1_waited 2 (some .int), Cond.fieldLink RX1 77 "LotTrackerModel" "now" "I"]
def wsX1_slack_r2 : List Cond := [Cond.fieldLink RX1 28 "LotTrackerModel" "since" "[I"]
def wsX1_slack : List Cond := .code yX1_slack cX1_slack 2 (some .int) :: ((wsX1_slack_r1 ++ wsX1_slack_r2) ++ wsX10)
def wsX1_isLate : List Cond := .code yX1_isLate cX1_isLate 2 (some .boolean) :: ([.fieldLink RX1 56 "LotTrackerModel" "thrown" "I", .methodLink RX1 88 yX1_isLot, .instanceMethod yX1_isLot, .selects RX1 yX1_isLot yX1_isLot, .initialized RX1, .code yX1_isLot cX1_isLot 2 (some .boolean), .fieldLink RX1 64 "LotTrackerModel" "lotMany" "I", .methodLink RX1 60 yX1_in, .static yX1_in, .code yX1_in cX1_in 3 (some .boolean), .methodLink RX1 91 yX1_tooLate, .instanceMethod yX1_tooLate, .selects RX1 yX1_tooLate yX1_tooLate, .code yX1_tooLate cX1_tooLate 2 (some .boolean), .fieldLink RX1 22 "LotTrackerModel" "states" "[I", .fieldLink RX1 16 "LotTrackerModel" "limits" "[I", .fieldLink RX1 25 "LotTrackerModel" "steps" "[I", .methodLink RX1 84 yX1_waited, .instanceMethod yX1_waited, .selects RX1 yX1_waited yX1_waited, .code yX1_waited cX1_waited 2 (some .int), .fieldLink RX1 77 "LotTrackerModel" "now" "I", .fieldLink RX1 28 "LotTrackerModel" "since" "[I"] ++ wsX10)
def wsX1_reworks : List Cond := .code yX1_reworks cX1_reworks 2 (some .int) :: ([.fieldLink RX1 38 "LotTrackerModel" "again" "[I", .methodLink RX1 109 yX1_told, .instanceMethod yX1_told, .selects RX1 yX1_told yX1_told, .initialized RX1, .code yX1_told cX1_told 3 (some .int), .fieldLink RX1 56 "LotTrackerModel" "thrown" "I", .methodLink RX1 88 yX1_isLot, .instanceMethod yX1_isLot, .selects RX1 yX1_isLot yX1_isLot, .code yX1_isLot cX1_isLot 2 (some .boolean), .fieldLink RX1 64 "LotTrackerModel" "lotMany" "I", .methodLink RX1 60 yX1_in, .static yX1_in, .code yX1_in cX1_in 3 (some .boolean), .methodLink RX1 106 yX1_fails, .instanceMethod yX1_fails, .selects RX1 yX1_fails yX1_fails, .code yX1_fails cX1_fails 2 (some .int)] ++ wsX10)
def wsX1_nextFor_r1 : List Cond := [Cond.fieldLink RX1 56 "LotTrackerModel" "thrown" "I", Cond.fieldLink RX1 64 "LotTrackerModel" "lotMany" "I", Cond.fieldLink RX1 22 "LotTrackerModel" "states" "[I", Cond.fieldLink RX1 34 "LotTrackerModel" "areHeld" "[Z", Cond.fieldLink RX1 7 "LotTrackerModel" "tools" "[I", Cond.fieldLink RX1 25 "LotTrackerModel" "steps" "[I", Cond.methodLink RX1 73 yX1_isTool, Cond.static yX1_isTool, Cond.initialized RX1, Cond.code yX1_isTool cX1_isTool 1 (some .boolean), Cond.methodLink RX1 60 yX1_in, Cond.static yX1_in, Cond.code yX1_in cX1_in 3 (some .boolean), Cond.methodLink RX1 94 yX1_isBusy, Cond.instanceMethod yX1_isBusy, Cond.selects RX1 yX1_isBusy yX1_isBusy, Cond.code yX1_isBusy cX1_isBusy 4 (some .boolean), Cond.methodLink RX1 91 yX1_tooLate, Cond.instanceMethod yX1_tooLate, Cond.selects RX1 yX1_tooLate yX1_tooLate, Cond.code yX1_tooLate cX1_tooLate 2 (some .boolean), Cond.fieldLink RX1 16 "LotTrackerModel" "limits" "[I", Cond.methodLink RX1 84 yX1_waited, Cond.instanceMethod yX1_waited]
def wsX1_nextFor_r2 : List Cond := [Cond.selects RX1 yX1_waited yX1_waited, Cond.code yX1_waited cX1_waited 2 (some .int), Cond.fieldLink RX1 77 "LotTrackerModel" "now" "I", Cond.fieldLink RX1 28 "LotTrackerModel" "since" "[I", Cond.methodLink RX1 114 yX1_left, Cond.instanceMethod yX1_left, Cond.selects RX1 yX1_left yX1_left, Cond.code yX1_left cX1_left 3 (some .int), Cond.constant RX1 113 (1000000)]
def wsX1_nextFor : List Cond := .code yX1_nextFor cX1_nextFor 5 (some .int) :: ((wsX1_nextFor_r1 ++ wsX1_nextFor_r2) ++ wsX10)
def wsX1_at : List Cond := .code yX1_at cX1_at 4 (some .int) :: ([.fieldLink RX1 70 "LotTrackerModel" "stepMany" "I", .fieldLink RX1 56 "LotTrackerModel" "thrown" "I", .fieldLink RX1 64 "LotTrackerModel" "lotMany" "I", .fieldLink RX1 22 "LotTrackerModel" "states" "[I", .fieldLink RX1 25 "LotTrackerModel" "steps" "[I", .methodLink RX1 60 yX1_in, .static yX1_in, .initialized RX1, .code yX1_in cX1_in 3 (some .boolean), .methodLink RX1 97 yX1_count, .instanceMethod yX1_count, .selects RX1 yX1_count yX1_count, .code yX1_count cX1_count 4 (some .int), .fieldLink RX1 67 "LotTrackerModel" "waferMany" "I", .fieldLink RX1 44 "LotTrackerModel" "lotOfWafer" "[I"] ++ wsX10)
def wsX1_wafersAt : List Cond := .code yX1_wafersAt cX1_wafersAt 2 (some .int) :: ([.methodLink RX1 118 yX1_at, .instanceMethod yX1_at, .selects RX1 yX1_at yX1_at, .initialized RX1, .code yX1_at cX1_at 4 (some .int), .fieldLink RX1 70 "LotTrackerModel" "stepMany" "I", .fieldLink RX1 56 "LotTrackerModel" "thrown" "I", .fieldLink RX1 64 "LotTrackerModel" "lotMany" "I", .fieldLink RX1 22 "LotTrackerModel" "states" "[I", .fieldLink RX1 25 "LotTrackerModel" "steps" "[I", .methodLink RX1 60 yX1_in, .static yX1_in, .code yX1_in cX1_in 3 (some .boolean), .methodLink RX1 97 yX1_count, .instanceMethod yX1_count, .selects RX1 yX1_count yX1_count, .code yX1_count cX1_count 4 (some .int), .fieldLink RX1 67 "LotTrackerModel" "waferMany" "I", .fieldLink RX1 44 "LotTrackerModel" "lotOfWafer" "[I"] ++ wsX10)
def wsX1_wafersAtByWafers : List Cond := .code yX1_wafersAtByWafers cX1_wafersAtByWafers 2 (some .int) :: ([.methodLink RX1 118 yX1_at, .instanceMethod yX1_at, .selects RX1 yX1_at yX1_at, .initialized RX1, .code yX1_at cX1_at 4 (some .int), .fieldLink RX1 70 "LotTrackerModel" "stepMany" "I", .fieldLink RX1 56 "LotTrackerModel" "thrown" "I", .fieldLink RX1 64 "LotTrackerModel" "lotMany" "I", .fieldLink RX1 22 "LotTrackerModel" "states" "[I", .fieldLink RX1 25 "LotTrackerModel" "steps" "[I", .methodLink RX1 60 yX1_in, .static yX1_in, .code yX1_in cX1_in 3 (some .boolean), .methodLink RX1 97 yX1_count, .instanceMethod yX1_count, .selects RX1 yX1_count yX1_count, .code yX1_count cX1_count 4 (some .int), .fieldLink RX1 67 "LotTrackerModel" "waferMany" "I", .fieldLink RX1 44 "LotTrackerModel" "lotOfWafer" "[I"] ++ wsX10)
def wsX1_lotOf : List Cond := .code yX1_lotOf cX1_lotOf 2 (some .int) :: ([.fieldLink RX1 56 "LotTrackerModel" "thrown" "I", .fieldLink RX1 44 "LotTrackerModel" "lotOfWafer" "[I", .methodLink RX1 103 yX1_isWafer, .instanceMethod yX1_isWafer, .selects RX1 yX1_isWafer yX1_isWafer, .initialized RX1, .code yX1_isWafer cX1_isWafer 2 (some .boolean), .fieldLink RX1 67 "LotTrackerModel" "waferMany" "I", .methodLink RX1 60 yX1_in, .static yX1_in, .code yX1_in cX1_in 3 (some .boolean), .methodLink RX1 106 yX1_fails, .instanceMethod yX1_fails, .selects RX1 yX1_fails yX1_fails, .code yX1_fails cX1_fails 2 (some .int)] ++ wsX10)
def wsX1_parentOf : List Cond := .code yX1_parentOf cX1_parentOf 2 (some .int) :: ([.fieldLink RX1 41 "LotTrackerModel" "parents" "[I", .methodLink RX1 109 yX1_told, .instanceMethod yX1_told, .selects RX1 yX1_told yX1_told, .initialized RX1, .code yX1_told cX1_told 3 (some .int), .fieldLink RX1 56 "LotTrackerModel" "thrown" "I", .methodLink RX1 88 yX1_isLot, .instanceMethod yX1_isLot, .selects RX1 yX1_isLot yX1_isLot, .code yX1_isLot cX1_isLot 2 (some .boolean), .fieldLink RX1 64 "LotTrackerModel" "lotMany" "I", .methodLink RX1 60 yX1_in, .static yX1_in, .code yX1_in cX1_in 3 (some .boolean), .methodLink RX1 106 yX1_fails, .instanceMethod yX1_fails, .selects RX1 yX1_fails yX1_fails, .code yX1_fails cX1_fails 2 (some .int)] ++ wsX10)
def wsX1_common : List Cond := .code yX1_common cX1_common 4 (some .int) :: ([.fieldLink RX1 56 "LotTrackerModel" "thrown" "I", .fieldLink RX1 53 "LotTrackerModel" "isAncestor" "[Z", .fieldLink RX1 41 "LotTrackerModel" "parents" "[I", .methodLink RX1 88 yX1_isLot, .instanceMethod yX1_isLot, .selects RX1 yX1_isLot yX1_isLot, .initialized RX1, .code yX1_isLot cX1_isLot 2 (some .boolean), .fieldLink RX1 64 "LotTrackerModel" "lotMany" "I", .methodLink RX1 60 yX1_in, .static yX1_in, .code yX1_in cX1_in 3 (some .boolean)] ++ wsX10)
def wsX1_path : List Cond := .code yX1_path cX1_path 2 (some .int) :: ([.fieldLink RX1 56 "LotTrackerModel" "thrown" "I", .fieldLink RX1 47 "LotTrackerModel" "pathMany" "[I", .methodLink RX1 103 yX1_isWafer, .instanceMethod yX1_isWafer, .selects RX1 yX1_isWafer yX1_isWafer, .initialized RX1, .code yX1_isWafer cX1_isWafer 2 (some .boolean), .fieldLink RX1 67 "LotTrackerModel" "waferMany" "I", .methodLink RX1 60 yX1_in, .static yX1_in, .code yX1_in cX1_in 3 (some .boolean), .methodLink RX1 106 yX1_fails, .instanceMethod yX1_fails, .selects RX1 yX1_fails yX1_fails, .code yX1_fails cX1_fails 2 (some .int)] ++ wsX10)
def wsX1_pathAt : List Cond := .code yX1_pathAt cX1_pathAt 3 (some .int) :: ([.fieldLink RX1 47 "LotTrackerModel" "pathMany" "[I", .fieldLink RX1 56 "LotTrackerModel" "thrown" "I", .fieldLink RX1 50 "LotTrackerModel" "paths" "[I", .methodLink RX1 103 yX1_isWafer, .instanceMethod yX1_isWafer, .selects RX1 yX1_isWafer yX1_isWafer, .initialized RX1, .code yX1_isWafer cX1_isWafer 2 (some .boolean), .fieldLink RX1 67 "LotTrackerModel" "waferMany" "I", .methodLink RX1 60 yX1_in, .static yX1_in, .code yX1_in cX1_in 3 (some .boolean)] ++ wsX10)
def wsJ9_max_7cf53 : List Cond := .code yJ9_max_7cf53 cJ9_max_7cf53 2 (some .int) :: ([])
def wsJ9_min_7cf53 : List Cond := .code yJ9_min_7cf53 cJ9_min_7cf53 2 (some .int) :: ([])
def wsL_addStep_r1 : List Cond := [Cond.classLink RL 13 "java/lang/IndexOutOfBoundsException", Cond.classLink RL 15 "java/lang/IllegalArgumentException", Cond.classLink RL 17 "java/lang/IllegalStateException", Cond.methodLink RL 7 yX0_addStep, Cond.instanceMethod yX0_addStep, Cond.selects RX0 yX0_addStep yX0_addStep, Cond.initialized RX0, Cond.code yX0_addStep cX0_addStep 6 (some .int), Cond.classLink RX0 76 "java/lang/IllegalArgumentException", Cond.initialized "java/lang/IllegalArgumentException", Cond.classLink RX0 83 "java/lang/IllegalStateException", Cond.initialized "java/lang/IllegalStateException", Cond.fieldLink RX0 22 "LotTracker" "stepCount" "I", Cond.fieldLink RX0 48 "LotTracker" "lotCount" "I", Cond.fieldLink RX0 9 "LotTracker" "stepTool" "[I", Cond.fieldLink RX0 13 "LotTracker" "stepMinutes" "[I", Cond.fieldLink RX0 16 "LotTracker" "stepLimit" "[I", Cond.fieldLink RX0 19 "LotTracker" "stepBack" "[I", Cond.methodLink RX0 68 yX0_checkTool, Cond.static yX0_checkTool, Cond.code yX0_checkTool cX0_checkTool 1 none, Cond.classLink RX0 172 "java/lang/IndexOutOfBoundsException", Cond.initialized "java/lang/IndexOutOfBoundsException", Cond.methodLink RX0 72 yX0_isWithin]
def wsL_addStep_r2 : List Cond := [Cond.static yX0_isWithin, Cond.code yX0_isWithin cX0_isWithin 3 (some .boolean)]
def wsL_addStep : List Cond := .codeWith yL_addStep cL_addStep 7 (some .int) [(0, 14, 17, 13), (0, 14, 21, 15), (0, 14, 25, 17)] :: ((wsL_addStep_r1 ++ wsL_addStep_r2) ++ wsX00 ++ (vx_atS RX0 80 "java/lang/IllegalArgumentException" ["java/lang/RuntimeException", "java/lang/Exception"]).filter goodWord ++ (vx_atS RX0 87 "java/lang/IllegalStateException" ["java/lang/RuntimeException", "java/lang/Exception"]).filter goodWord ++ (vx_atS RX0 176 "java/lang/IndexOutOfBoundsException" ["java/lang/RuntimeException", "java/lang/Exception"]).filter goodWord)
def wsL_enter_r1 : List Cond := [Cond.classLink RL 15 "java/lang/IllegalArgumentException", Cond.classLink RL 17 "java/lang/IllegalStateException", Cond.methodLink RL 19 yX0_enter, Cond.instanceMethod yX0_enter, Cond.selects RX0 yX0_enter yX0_enter, Cond.initialized RX0, Cond.code yX0_enter cX0_enter 4 (some .int), Cond.classLink RX0 76 "java/lang/IllegalArgumentException", Cond.initialized "java/lang/IllegalArgumentException", Cond.classLink RX0 83 "java/lang/IllegalStateException", Cond.initialized "java/lang/IllegalStateException", Cond.fieldLink RX0 22 "LotTracker" "stepCount" "I", Cond.fieldLink RX0 48 "LotTracker" "lotCount" "I", Cond.fieldLink RX0 62 "LotTracker" "waferCount" "I", Cond.fieldLink RX0 65 "LotTracker" "now" "I", Cond.methodLink RX0 72 yX0_isWithin, Cond.static yX0_isWithin, Cond.code yX0_isWithin cX0_isWithin 3 (some .boolean), Cond.methodLink RX0 92 yX0_makeLot, Cond.instanceMethod yX0_makeLot, Cond.selects RX0 yX0_makeLot yX0_makeLot, Cond.code yX0_makeLot cX0_makeLot 7 (some .int), Cond.fieldLink RX0 26 "LotTracker" "lotState" "[I", Cond.fieldLink RX0 29 "LotTracker" "lotStep" "[I"]
def wsL_enter_r2 : List Cond := [Cond.fieldLink RX0 32 "LotTracker" "lotMoment" "[I", Cond.fieldLink RX0 35 "LotTracker" "lotHeld" "[Z", Cond.fieldLink RX0 39 "LotTracker" "lotReworks" "[I", Cond.fieldLink RX0 42 "LotTracker" "lotParent" "[I", Cond.fieldLink RX0 45 "LotTracker" "lotSize" "[I", Cond.methodLink RX0 96 yX0_makeWafer, Cond.instanceMethod yX0_makeWafer, Cond.selects RX0 yX0_makeWafer yX0_makeWafer, Cond.code yX0_makeWafer cX0_makeWafer 3 none, Cond.fieldLink RX0 59 "LotTracker" "waferPathLength" "[I", Cond.methodLink RX0 186 yX0_putInto, Cond.instanceMethod yX0_putInto, Cond.selects RX0 yX0_putInto yX0_putInto, Cond.code yX0_putInto cX0_putInto 4 none, Cond.fieldLink RX0 51 "LotTracker" "waferLot" "[I", Cond.fieldLink RX0 56 "LotTracker" "waferPath" "[[I"]
def wsL_enter : List Cond := .codeWith yL_enter cL_enter 4 (some .int) [(0, 9, 12, 15), (0, 9, 15, 17)] :: ((wsL_enter_r1 ++ wsL_enter_r2) ++ wsX00 ++ (vx_atS RX0 80 "java/lang/IllegalArgumentException" ["java/lang/RuntimeException", "java/lang/Exception"]).filter goodWord ++ (vx_atS RX0 87 "java/lang/IllegalStateException" ["java/lang/RuntimeException", "java/lang/Exception"]).filter goodWord)
def wsL_start_r1 : List Cond := [Cond.classLink RL 13 "java/lang/IndexOutOfBoundsException", Cond.classLink RL 17 "java/lang/IllegalStateException", Cond.methodLink RL 23 yX0_start, Cond.instanceMethod yX0_start, Cond.selects RX0 yX0_start yX0_start, Cond.initialized RX0, Cond.code yX0_start cX0_start 3 (some .int), Cond.classLink RX0 83 "java/lang/IllegalStateException", Cond.initialized "java/lang/IllegalStateException", Cond.fieldLink RX0 29 "LotTracker" "lotStep" "[I", Cond.fieldLink RX0 9 "LotTracker" "stepTool" "[I", Cond.fieldLink RX0 26 "LotTracker" "lotState" "[I", Cond.fieldLink RX0 32 "LotTracker" "lotMoment" "[I", Cond.fieldLink RX0 65 "LotTracker" "now" "I", Cond.fieldLink RX0 13 "LotTracker" "stepMinutes" "[I", Cond.methodLink RX0 99 yX0_checkLot, Cond.instanceMethod yX0_checkLot, Cond.selects RX0 yX0_checkLot yX0_checkLot, Cond.code yX0_checkLot cX0_checkLot 2 none, Cond.classLink RX0 172 "java/lang/IndexOutOfBoundsException", Cond.initialized "java/lang/IndexOutOfBoundsException", Cond.methodLink RX0 147 yX0_isLot, Cond.instanceMethod yX0_isLot, Cond.selects RX0 yX0_isLot yX0_isLot]
def wsL_start_r2 : List Cond := [Cond.code yX0_isLot cX0_isLot 2 (some .boolean), Cond.fieldLink RX0 48 "LotTracker" "lotCount" "I", Cond.methodLink RX0 102 yX0_isReady, Cond.instanceMethod yX0_isReady, Cond.selects RX0 yX0_isReady yX0_isReady, Cond.code yX0_isReady cX0_isReady 2 (some .boolean), Cond.methodLink RX0 114 yX0_isFree, Cond.instanceMethod yX0_isFree, Cond.selects RX0 yX0_isFree yX0_isFree, Cond.code yX0_isFree cX0_isFree 2 (some .boolean), Cond.fieldLink RX0 35 "LotTracker" "lotHeld" "[Z", Cond.methodLink RX0 157 yX0_waitingLeft, Cond.instanceMethod yX0_waitingLeft, Cond.selects RX0 yX0_waitingLeft yX0_waitingLeft, Cond.code yX0_waitingLeft cX0_waitingLeft 3 (some .int), Cond.constant RX0 161 (2000000), Cond.fieldLink RX0 16 "LotTracker" "stepLimit" "[I", Cond.constant RX0 185 (1000000), Cond.methodLink RX0 106 yX0_isStep, Cond.instanceMethod yX0_isStep, Cond.selects RX0 yX0_isStep yX0_isStep, Cond.code yX0_isStep cX0_isStep 2 (some .boolean), Cond.fieldLink RX0 22 "LotTracker" "stepCount" "I", Cond.methodLink RX0 109 yX0_isBusy]
def wsL_start_r3 : List Cond := [Cond.instanceMethod yX0_isBusy, Cond.selects RX0 yX0_isBusy yX0_isBusy, Cond.code yX0_isBusy cX0_isBusy 3 (some .boolean), Cond.methodLink RX0 162 yX0_usesTool, Cond.instanceMethod yX0_usesTool, Cond.selects RX0 yX0_usesTool yX0_usesTool, Cond.code yX0_usesTool cX0_usesTool 4 (some .boolean)]
def wsL_start : List Cond := .codeWith yL_start cL_start 4 (some .int) [(0, 9, 12, 13), (0, 9, 15, 17)] :: ((wsL_start_r1 ++ (wsL_start_r2 ++ wsL_start_r3)) ++ wsX00 ++ (vx_atS RX0 87 "java/lang/IllegalStateException" ["java/lang/RuntimeException", "java/lang/Exception"]).filter goodWord ++ (vx_atS RX0 176 "java/lang/IndexOutOfBoundsException" ["java/lang/RuntimeException", "java/lang/Exception"]).filter goodWord)
def wsL_rework_r1 : List Cond := [Cond.classLink RL 13 "java/lang/IndexOutOfBoundsException", Cond.classLink RL 17 "java/lang/IllegalStateException", Cond.methodLink RL 26 yX0_rework, Cond.instanceMethod yX0_rework, Cond.selects RX0 yX0_rework yX0_rework, Cond.initialized RX0, Cond.code yX0_rework cX0_rework 3 (some .int), Cond.classLink RX0 83 "java/lang/IllegalStateException", Cond.initialized "java/lang/IllegalStateException", Cond.fieldLink RX0 29 "LotTracker" "lotStep" "[I", Cond.fieldLink RX0 39 "LotTracker" "lotReworks" "[I", Cond.fieldLink RX0 19 "LotTracker" "stepBack" "[I", Cond.fieldLink RX0 32 "LotTracker" "lotMoment" "[I", Cond.fieldLink RX0 65 "LotTracker" "now" "I", Cond.methodLink RX0 99 yX0_checkLot, Cond.instanceMethod yX0_checkLot, Cond.selects RX0 yX0_checkLot yX0_checkLot, Cond.code yX0_checkLot cX0_checkLot 2 none, Cond.classLink RX0 172 "java/lang/IndexOutOfBoundsException", Cond.initialized "java/lang/IndexOutOfBoundsException", Cond.methodLink RX0 147 yX0_isLot, Cond.instanceMethod yX0_isLot, Cond.selects RX0 yX0_isLot yX0_isLot, Cond.code yX0_isLot cX0_isLot 2 (some .boolean)]
def wsL_rework_r2 : List Cond := [Cond.fieldLink RX0 48 "LotTracker" "lotCount" "I", Cond.methodLink RX0 114 yX0_isFree, Cond.instanceMethod yX0_isFree, Cond.selects RX0 yX0_isFree yX0_isFree, Cond.code yX0_isFree cX0_isFree 2 (some .boolean), Cond.fieldLink RX0 26 "LotTracker" "lotState" "[I", Cond.fieldLink RX0 35 "LotTracker" "lotHeld" "[Z", Cond.methodLink RX0 106 yX0_isStep, Cond.instanceMethod yX0_isStep, Cond.selects RX0 yX0_isStep yX0_isStep, Cond.code yX0_isStep cX0_isStep 2 (some .boolean), Cond.fieldLink RX0 22 "LotTracker" "stepCount" "I"]
def wsL_rework : List Cond := .codeWith yL_rework cL_rework 4 (some .int) [(0, 9, 12, 13), (0, 9, 15, 17)] :: ((wsL_rework_r1 ++ wsL_rework_r2) ++ wsX00 ++ (vx_atS RX0 87 "java/lang/IllegalStateException" ["java/lang/RuntimeException", "java/lang/Exception"]).filter goodWord ++ (vx_atS RX0 176 "java/lang/IndexOutOfBoundsException" ["java/lang/RuntimeException", "java/lang/Exception"]).filter goodWord)
def wsL_split_r1 : List Cond := [Cond.classLink RL 13 "java/lang/IndexOutOfBoundsException", Cond.classLink RL 15 "java/lang/IllegalArgumentException", Cond.classLink RL 17 "java/lang/IllegalStateException", Cond.methodLink RL 29 yX0_split, Cond.instanceMethod yX0_split, Cond.selects RX0 yX0_split yX0_split, Cond.initialized RX0, Cond.code yX0_split cX0_split 4 (some .int), Cond.classLink RX0 76 "java/lang/IllegalArgumentException", Cond.initialized "java/lang/IllegalArgumentException", Cond.classLink RX0 83 "java/lang/IllegalStateException", Cond.initialized "java/lang/IllegalStateException", Cond.fieldLink RX0 45 "LotTracker" "lotSize" "[I", Cond.fieldLink RX0 26 "LotTracker" "lotState" "[I", Cond.fieldLink RX0 48 "LotTracker" "lotCount" "I", Cond.fieldLink RX0 29 "LotTracker" "lotStep" "[I", Cond.fieldLink RX0 32 "LotTracker" "lotMoment" "[I", Cond.fieldLink RX0 35 "LotTracker" "lotHeld" "[Z", Cond.fieldLink RX0 39 "LotTracker" "lotReworks" "[I", Cond.methodLink RX0 99 yX0_checkLot, Cond.instanceMethod yX0_checkLot, Cond.selects RX0 yX0_checkLot yX0_checkLot, Cond.code yX0_checkLot cX0_checkLot 2 none, Cond.classLink RX0 172 "java/lang/IndexOutOfBoundsException"]
def wsL_split_r2 : List Cond := [Cond.initialized "java/lang/IndexOutOfBoundsException", Cond.methodLink RX0 147 yX0_isLot, Cond.instanceMethod yX0_isLot, Cond.selects RX0 yX0_isLot yX0_isLot, Cond.code yX0_isLot cX0_isLot 2 (some .boolean), Cond.methodLink RX0 72 yX0_isWithin, Cond.static yX0_isWithin, Cond.code yX0_isWithin cX0_isWithin 3 (some .boolean), Cond.methodLink RX0 92 yX0_makeLot, Cond.instanceMethod yX0_makeLot, Cond.selects RX0 yX0_makeLot yX0_makeLot, Cond.code yX0_makeLot cX0_makeLot 7 (some .int), Cond.fieldLink RX0 42 "LotTracker" "lotParent" "[I", Cond.methodLink RX0 121 yX0_moveWafers, Cond.instanceMethod yX0_moveWafers, Cond.selects RX0 yX0_moveWafers yX0_moveWafers, Cond.code yX0_moveWafers cX0_moveWafers 6 none, Cond.fieldLink RX0 62 "LotTracker" "waferCount" "I", Cond.fieldLink RX0 51 "LotTracker" "waferLot" "[I", Cond.methodLink RX0 186 yX0_putInto, Cond.instanceMethod yX0_putInto, Cond.selects RX0 yX0_putInto yX0_putInto, Cond.code yX0_putInto cX0_putInto 4 none, Cond.fieldLink RX0 59 "LotTracker" "waferPathLength" "[I"]
def wsL_split_r3 : List Cond := [Cond.fieldLink RX0 56 "LotTracker" "waferPath" "[[I"]
def wsL_split : List Cond := .codeWith yL_split cL_split 5 (some .int) [(0, 10, 13, 13), (0, 10, 17, 15), (0, 10, 21, 17)] :: ((wsL_split_r1 ++ (wsL_split_r2 ++ wsL_split_r3)) ++ wsX00 ++ (vx_atS RX0 80 "java/lang/IllegalArgumentException" ["java/lang/RuntimeException", "java/lang/Exception"]).filter goodWord ++ (vx_atS RX0 87 "java/lang/IllegalStateException" ["java/lang/RuntimeException", "java/lang/Exception"]).filter goodWord ++ (vx_atS RX0 176 "java/lang/IndexOutOfBoundsException" ["java/lang/RuntimeException", "java/lang/Exception"]).filter goodWord)
def wsL_merge_r1 : List Cond := [Cond.classLink RL 13 "java/lang/IndexOutOfBoundsException", Cond.classLink RL 15 "java/lang/IllegalArgumentException", Cond.classLink RL 17 "java/lang/IllegalStateException", Cond.methodLink RL 33 yX0_merge, Cond.instanceMethod yX0_merge, Cond.selects RX0 yX0_merge yX0_merge, Cond.initialized RX0, Cond.code yX0_merge cX0_merge 3 (some .int), Cond.classLink RX0 76 "java/lang/IllegalArgumentException", Cond.initialized "java/lang/IllegalArgumentException", Cond.classLink RX0 83 "java/lang/IllegalStateException", Cond.initialized "java/lang/IllegalStateException", Cond.fieldLink RX0 29 "LotTracker" "lotStep" "[I", Cond.fieldLink RX0 32 "LotTracker" "lotMoment" "[I", Cond.methodLink RX0 129 Lib.Math.min.name, Cond.static Lib.Math.min.name, Cond.initialized "java/lang/Math", Cond.code Lib.Math.min.name Lib.Math.min.code 2 (some .int), Cond.fieldLink RX0 39 "LotTracker" "lotReworks" "[I", Cond.methodLink RX0 135 Lib.Math.max.name, Cond.static Lib.Math.max.name, Cond.code Lib.Math.max.name Lib.Math.max.code 2 (some .int), Cond.fieldLink RX0 45 "LotTracker" "lotSize" "[I", Cond.methodLink RX0 99 yX0_checkLot]
def wsL_merge_r2 : List Cond := [Cond.instanceMethod yX0_checkLot, Cond.selects RX0 yX0_checkLot yX0_checkLot, Cond.code yX0_checkLot cX0_checkLot 2 none, Cond.classLink RX0 172 "java/lang/IndexOutOfBoundsException", Cond.initialized "java/lang/IndexOutOfBoundsException", Cond.methodLink RX0 147 yX0_isLot, Cond.instanceMethod yX0_isLot, Cond.selects RX0 yX0_isLot yX0_isLot, Cond.code yX0_isLot cX0_isLot 2 (some .boolean), Cond.fieldLink RX0 48 "LotTracker" "lotCount" "I", Cond.methodLink RX0 114 yX0_isFree, Cond.instanceMethod yX0_isFree, Cond.selects RX0 yX0_isFree yX0_isFree, Cond.code yX0_isFree cX0_isFree 2 (some .boolean), Cond.fieldLink RX0 26 "LotTracker" "lotState" "[I", Cond.fieldLink RX0 35 "LotTracker" "lotHeld" "[Z", Cond.methodLink RX0 121 yX0_moveWafers, Cond.instanceMethod yX0_moveWafers, Cond.selects RX0 yX0_moveWafers yX0_moveWafers, Cond.code yX0_moveWafers cX0_moveWafers 6 none, Cond.fieldLink RX0 62 "LotTracker" "waferCount" "I", Cond.fieldLink RX0 51 "LotTracker" "waferLot" "[I", Cond.methodLink RX0 186 yX0_putInto, Cond.instanceMethod yX0_putInto]
def wsL_merge_r3 : List Cond := [Cond.selects RX0 yX0_putInto yX0_putInto, Cond.code yX0_putInto cX0_putInto 4 none, Cond.fieldLink RX0 59 "LotTracker" "waferPathLength" "[I", Cond.fieldLink RX0 56 "LotTracker" "waferPath" "[[I", Cond.methodLink RX0 138 yX0_leaveRoute, Cond.instanceMethod yX0_leaveRoute, Cond.selects RX0 yX0_leaveRoute yX0_leaveRoute, Cond.code yX0_leaveRoute cX0_leaveRoute 3 none]
def wsL_merge : List Cond := .codeWith yL_merge cL_merge 5 (some .int) [(0, 10, 13, 13), (0, 10, 17, 15), (0, 10, 21, 17)] :: ((wsL_merge_r1 ++ (wsL_merge_r2 ++ wsL_merge_r3)) ++ wsX00 ++ (vx_atS RX0 80 "java/lang/IllegalArgumentException" ["java/lang/RuntimeException", "java/lang/Exception"]).filter goodWord ++ (vx_atS RX0 87 "java/lang/IllegalStateException" ["java/lang/RuntimeException", "java/lang/Exception"]).filter goodWord ++ (vx_atS RX0 176 "java/lang/IndexOutOfBoundsException" ["java/lang/RuntimeException", "java/lang/Exception"]).filter goodWord)
def wsL_hold : List Cond := .codeWith yL_hold cL_hold 5 (some .int) [(0, 17, 20, 13), (0, 17, 24, 17)] :: ([.classLink RL 13 "java/lang/IndexOutOfBoundsException", .classLink RL 17 "java/lang/IllegalStateException", .methodLink RL 36 yX0_hold, .instanceMethod yX0_hold, .selects RX0 yX0_hold yX0_hold, .initialized RX0, .code yX0_hold cX0_hold 4 (some .boolean), .classLink RX0 83 "java/lang/IllegalStateException", .initialized "java/lang/IllegalStateException", .fieldLink RX0 26 "LotTracker" "lotState" "[I", .fieldLink RX0 35 "LotTracker" "lotHeld" "[Z", .methodLink RX0 99 yX0_checkLot, .instanceMethod yX0_checkLot, .selects RX0 yX0_checkLot yX0_checkLot, .code yX0_checkLot cX0_checkLot 2 none, .classLink RX0 172 "java/lang/IndexOutOfBoundsException", .initialized "java/lang/IndexOutOfBoundsException", .methodLink RX0 147 yX0_isLot, .instanceMethod yX0_isLot, .selects RX0 yX0_isLot yX0_isLot, .code yX0_isLot cX0_isLot 2 (some .boolean), .fieldLink RX0 48 "LotTracker" "lotCount" "I"] ++ wsX00 ++ (vx_atS RX0 87 "java/lang/IllegalStateException" ["java/lang/RuntimeException", "java/lang/Exception"]).filter goodWord ++ (vx_atS RX0 176 "java/lang/IndexOutOfBoundsException" ["java/lang/RuntimeException", "java/lang/Exception"]).filter goodWord)
def wsL_scrap_r1 : List Cond := [Cond.classLink RL 13 "java/lang/IndexOutOfBoundsException", Cond.classLink RL 17 "java/lang/IllegalStateException", Cond.methodLink RL 40 yX0_scrap, Cond.instanceMethod yX0_scrap, Cond.selects RX0 yX0_scrap yX0_scrap, Cond.initialized RX0, Cond.code yX0_scrap cX0_scrap 3 (some .int), Cond.classLink RX0 83 "java/lang/IllegalStateException", Cond.initialized "java/lang/IllegalStateException", Cond.fieldLink RX0 51 "LotTracker" "waferLot" "[I", Cond.fieldLink RX0 26 "LotTracker" "lotState" "[I", Cond.fieldLink RX0 45 "LotTracker" "lotSize" "[I", Cond.methodLink RX0 144 yX0_checkWafer, Cond.instanceMethod yX0_checkWafer, Cond.selects RX0 yX0_checkWafer yX0_checkWafer, Cond.code yX0_checkWafer cX0_checkWafer 2 none, Cond.classLink RX0 172 "java/lang/IndexOutOfBoundsException", Cond.initialized "java/lang/IndexOutOfBoundsException", Cond.fieldLink RX0 62 "LotTracker" "waferCount" "I", Cond.methodLink RX0 147 yX0_isLot, Cond.instanceMethod yX0_isLot, Cond.selects RX0 yX0_isLot yX0_isLot, Cond.code yX0_isLot cX0_isLot 2 (some .boolean), Cond.fieldLink RX0 48 "LotTracker" "lotCount" "I"]
def wsL_scrap_r2 : List Cond := [Cond.methodLink RX0 138 yX0_leaveRoute, Cond.instanceMethod yX0_leaveRoute, Cond.selects RX0 yX0_leaveRoute yX0_leaveRoute, Cond.code yX0_leaveRoute cX0_leaveRoute 3 none, Cond.fieldLink RX0 29 "LotTracker" "lotStep" "[I"]
def wsL_scrap : List Cond := .codeWith yL_scrap cL_scrap 4 (some .int) [(0, 9, 12, 13), (0, 9, 15, 17)] :: ((wsL_scrap_r1 ++ wsL_scrap_r2) ++ wsX00 ++ (vx_atS RX0 87 "java/lang/IllegalStateException" ["java/lang/RuntimeException", "java/lang/Exception"]).filter goodWord ++ (vx_atS RX0 176 "java/lang/IndexOutOfBoundsException" ["java/lang/RuntimeException", "java/lang/Exception"]).filter goodWord)
def wsL_advance_r1 : List Cond := [Cond.classLink RL 15 "java/lang/IllegalArgumentException", Cond.methodLink RL 43 yX0_advance, Cond.instanceMethod yX0_advance, Cond.selects RX0 yX0_advance yX0_advance, Cond.initialized RX0, Cond.code yX0_advance cX0_advance 4 (some .int), Cond.classLink RX0 76 "java/lang/IllegalArgumentException", Cond.initialized "java/lang/IllegalArgumentException", Cond.fieldLink RX0 65 "LotTracker" "now" "I", Cond.fieldLink RX0 48 "LotTracker" "lotCount" "I", Cond.fieldLink RX0 26 "LotTracker" "lotState" "[I", Cond.fieldLink RX0 32 "LotTracker" "lotMoment" "[I", Cond.methodLink RX0 72 yX0_isWithin, Cond.static yX0_isWithin, Cond.code yX0_isWithin cX0_isWithin 3 (some .boolean), Cond.methodLink RX0 154 yX0_endProcessing, Cond.instanceMethod yX0_endProcessing, Cond.selects RX0 yX0_endProcessing yX0_endProcessing, Cond.code yX0_endProcessing cX0_endProcessing 3 none, Cond.fieldLink RX0 29 "LotTracker" "lotStep" "[I", Cond.methodLink RX0 106 yX0_isStep, Cond.instanceMethod yX0_isStep, Cond.selects RX0 yX0_isStep yX0_isStep, Cond.code yX0_isStep cX0_isStep 2 (some .boolean)]
def wsL_advance_r2 : List Cond := [Cond.fieldLink RX0 22 "LotTracker" "stepCount" "I", Cond.methodLink RX0 138 yX0_leaveRoute, Cond.instanceMethod yX0_leaveRoute, Cond.selects RX0 yX0_leaveRoute yX0_leaveRoute, Cond.code yX0_leaveRoute cX0_leaveRoute 3 none]
def wsL_advance : List Cond := .codeWith yL_advance cL_advance 4 (some .int) [(0, 9, 12, 15)] :: ((wsL_advance_r1 ++ wsL_advance_r2) ++ wsX00 ++ (vx_atS RX0 80 "java/lang/IllegalArgumentException" ["java/lang/RuntimeException", "java/lang/Exception"]).filter goodWord)
def wsL_state : List Cond := .codeWith yL_state cL_state 4 (some .int) [(0, 9, 12, 13)] :: ([.classLink RL 13 "java/lang/IndexOutOfBoundsException", .methodLink RL 46 yX0_state, .instanceMethod yX0_state, .selects RX0 yX0_state yX0_state, .initialized RX0, .code yX0_state cX0_state 2 (some .int), .fieldLink RX0 26 "LotTracker" "lotState" "[I", .methodLink RX0 99 yX0_checkLot, .instanceMethod yX0_checkLot, .selects RX0 yX0_checkLot yX0_checkLot, .code yX0_checkLot cX0_checkLot 2 none, .classLink RX0 172 "java/lang/IndexOutOfBoundsException", .initialized "java/lang/IndexOutOfBoundsException", .methodLink RX0 147 yX0_isLot, .instanceMethod yX0_isLot, .selects RX0 yX0_isLot yX0_isLot, .code yX0_isLot cX0_isLot 2 (some .boolean), .fieldLink RX0 48 "LotTracker" "lotCount" "I"] ++ wsX00 ++ (vx_atS RX0 176 "java/lang/IndexOutOfBoundsException" ["java/lang/RuntimeException", "java/lang/Exception"]).filter goodWord)
def wsL_stepOf : List Cond := .codeWith yL_stepOf cL_stepOf 4 (some .int) [(0, 9, 12, 13)] :: ([.classLink RL 13 "java/lang/IndexOutOfBoundsException", .methodLink RL 49 yX0_stepOf, .instanceMethod yX0_stepOf, .selects RX0 yX0_stepOf yX0_stepOf, .initialized RX0, .code yX0_stepOf cX0_stepOf 2 (some .int), .fieldLink RX0 29 "LotTracker" "lotStep" "[I", .methodLink RX0 99 yX0_checkLot, .instanceMethod yX0_checkLot, .selects RX0 yX0_checkLot yX0_checkLot, .code yX0_checkLot cX0_checkLot 2 none, .classLink RX0 172 "java/lang/IndexOutOfBoundsException", .initialized "java/lang/IndexOutOfBoundsException", .methodLink RX0 147 yX0_isLot, .instanceMethod yX0_isLot, .selects RX0 yX0_isLot yX0_isLot, .code yX0_isLot cX0_isLot 2 (some .boolean), .fieldLink RX0 48 "LotTracker" "lotCount" "I"] ++ wsX00 ++ (vx_atS RX0 176 "java/lang/IndexOutOfBoundsException" ["java/lang/RuntimeException", "java/lang/Exception"]).filter goodWord)
def wsL_size : List Cond := .codeWith yL_size cL_size 4 (some .int) [(0, 9, 12, 13)] :: ([.classLink RL 13 "java/lang/IndexOutOfBoundsException", .methodLink RL 52 yX0_size, .instanceMethod yX0_size, .selects RX0 yX0_size yX0_size, .initialized RX0, .code yX0_size cX0_size 2 (some .int), .fieldLink RX0 45 "LotTracker" "lotSize" "[I", .methodLink RX0 99 yX0_checkLot, .instanceMethod yX0_checkLot, .selects RX0 yX0_checkLot yX0_checkLot, .code yX0_checkLot cX0_checkLot 2 none, .classLink RX0 172 "java/lang/IndexOutOfBoundsException", .initialized "java/lang/IndexOutOfBoundsException", .methodLink RX0 147 yX0_isLot, .instanceMethod yX0_isLot, .selects RX0 yX0_isLot yX0_isLot, .code yX0_isLot cX0_isLot 2 (some .boolean), .fieldLink RX0 48 "LotTracker" "lotCount" "I"] ++ wsX00 ++ (vx_atS RX0 176 "java/lang/IndexOutOfBoundsException" ["java/lang/RuntimeException", "java/lang/Exception"]).filter goodWord)
def wsL_slack_r1 : List Cond := [Cond.classLink RL 13 "java/lang/IndexOutOfBoundsException", Cond.methodLink RL 55 yX0_slack, Cond.instanceMethod yX0_slack, Cond.selects RX0 yX0_slack yX0_slack, Cond.initialized RX0, Cond.code yX0_slack cX0_slack 2 (some .int), Cond.methodLink RX0 99 yX0_checkLot, Cond.instanceMethod yX0_checkLot, Cond.selects RX0 yX0_checkLot yX0_checkLot, Cond.code yX0_checkLot cX0_checkLot 2 none, Cond.classLink RX0 172 "java/lang/IndexOutOfBoundsException", Cond.initialized "java/lang/IndexOutOfBoundsException", Cond.methodLink RX0 147 yX0_isLot, Cond.instanceMethod yX0_isLot, Cond.selects RX0 yX0_isLot yX0_isLot, Cond.code yX0_isLot cX0_isLot 2 (some .boolean), Cond.fieldLink RX0 48 "LotTracker" "lotCount" "I", Cond.methodLink RX0 157 yX0_waitingLeft, Cond.instanceMethod yX0_waitingLeft, Cond.selects RX0 yX0_waitingLeft yX0_waitingLeft, Cond.code yX0_waitingLeft cX0_waitingLeft 3 (some .int), Cond.fieldLink RX0 29 "LotTracker" "lotStep" "[I", Cond.fieldLink RX0 26 "LotTracker" "lotState" "[I", Cond.constant RX0 161 (2000000)]
def wsL_slack_r2 : List Cond := [Cond.fieldLink RX0 16 "LotTracker" "stepLimit" "[I", Cond.constant RX0 185 (1000000), Cond.fieldLink RX0 65 "LotTracker" "now" "I", Cond.fieldLink RX0 32 "LotTracker" "lotMoment" "[I", Cond.methodLink RX0 106 yX0_isStep, Cond.instanceMethod yX0_isStep, Cond.selects RX0 yX0_isStep yX0_isStep, Cond.code yX0_isStep cX0_isStep 2 (some .boolean), Cond.fieldLink RX0 22 "LotTracker" "stepCount" "I"]
def wsL_slack : List Cond := .codeWith yL_slack cL_slack 4 (some .int) [(0, 9, 12, 13)] :: ((wsL_slack_r1 ++ wsL_slack_r2) ++ wsX00 ++ (vx_atS RX0 176 "java/lang/IndexOutOfBoundsException" ["java/lang/RuntimeException", "java/lang/Exception"]).filter goodWord)
def wsL_isLate_r1 : List Cond := [Cond.classLink RL 13 "java/lang/IndexOutOfBoundsException", Cond.methodLink RL 58 yX0_isLate, Cond.instanceMethod yX0_isLate, Cond.selects RX0 yX0_isLate yX0_isLate, Cond.initialized RX0, Cond.code yX0_isLate cX0_isLate 2 (some .boolean), Cond.methodLink RX0 99 yX0_checkLot, Cond.instanceMethod yX0_checkLot, Cond.selects RX0 yX0_checkLot yX0_checkLot, Cond.code yX0_checkLot cX0_checkLot 2 none, Cond.classLink RX0 172 "java/lang/IndexOutOfBoundsException", Cond.initialized "java/lang/IndexOutOfBoundsException", Cond.methodLink RX0 147 yX0_isLot, Cond.instanceMethod yX0_isLot, Cond.selects RX0 yX0_isLot yX0_isLot, Cond.code yX0_isLot cX0_isLot 2 (some .boolean), Cond.fieldLink RX0 48 "LotTracker" "lotCount" "I", Cond.methodLink RX0 157 yX0_waitingLeft, Cond.instanceMethod yX0_waitingLeft, Cond.selects RX0 yX0_waitingLeft yX0_waitingLeft, Cond.code yX0_waitingLeft cX0_waitingLeft 3 (some .int), Cond.fieldLink RX0 29 "LotTracker" "lotStep" "[I", Cond.fieldLink RX0 26 "LotTracker" "lotState" "[I", Cond.constant RX0 161 (2000000)]
def wsL_isLate_r2 : List Cond := [Cond.fieldLink RX0 16 "LotTracker" "stepLimit" "[I", Cond.constant RX0 185 (1000000), Cond.fieldLink RX0 65 "LotTracker" "now" "I", Cond.fieldLink RX0 32 "LotTracker" "lotMoment" "[I", Cond.methodLink RX0 106 yX0_isStep, Cond.instanceMethod yX0_isStep, Cond.selects RX0 yX0_isStep yX0_isStep, Cond.code yX0_isStep cX0_isStep 2 (some .boolean), Cond.fieldLink RX0 22 "LotTracker" "stepCount" "I"]
def wsL_isLate : List Cond := .codeWith yL_isLate cL_isLate 4 (some .int) [(0, 16, 19, 13)] :: ((wsL_isLate_r1 ++ wsL_isLate_r2) ++ wsX00 ++ (vx_atS RX0 176 "java/lang/IndexOutOfBoundsException" ["java/lang/RuntimeException", "java/lang/Exception"]).filter goodWord)
def wsL_reworks : List Cond := .codeWith yL_reworks cL_reworks 4 (some .int) [(0, 9, 12, 13)] :: ([.classLink RL 13 "java/lang/IndexOutOfBoundsException", .methodLink RL 62 yX0_reworks, .instanceMethod yX0_reworks, .selects RX0 yX0_reworks yX0_reworks, .initialized RX0, .code yX0_reworks cX0_reworks 2 (some .int), .fieldLink RX0 39 "LotTracker" "lotReworks" "[I", .methodLink RX0 99 yX0_checkLot, .instanceMethod yX0_checkLot, .selects RX0 yX0_checkLot yX0_checkLot, .code yX0_checkLot cX0_checkLot 2 none, .classLink RX0 172 "java/lang/IndexOutOfBoundsException", .initialized "java/lang/IndexOutOfBoundsException", .methodLink RX0 147 yX0_isLot, .instanceMethod yX0_isLot, .selects RX0 yX0_isLot yX0_isLot, .code yX0_isLot cX0_isLot 2 (some .boolean), .fieldLink RX0 48 "LotTracker" "lotCount" "I"] ++ wsX00 ++ (vx_atS RX0 176 "java/lang/IndexOutOfBoundsException" ["java/lang/RuntimeException", "java/lang/Exception"]).filter goodWord)
def wsL_nextFor_r1 : List Cond := [Cond.classLink RL 13 "java/lang/IndexOutOfBoundsException", Cond.methodLink RL 65 yX0_nextFor, Cond.instanceMethod yX0_nextFor, Cond.selects RX0 yX0_nextFor yX0_nextFor, Cond.initialized RX0, Cond.code yX0_nextFor cX0_nextFor 5 (some .int), Cond.constant RX0 161 (2000000), Cond.fieldLink RX0 48 "LotTracker" "lotCount" "I", Cond.methodLink RX0 68 yX0_checkTool, Cond.static yX0_checkTool, Cond.code yX0_checkTool cX0_checkTool 1 none, Cond.classLink RX0 172 "java/lang/IndexOutOfBoundsException", Cond.initialized "java/lang/IndexOutOfBoundsException", Cond.methodLink RX0 72 yX0_isWithin, Cond.static yX0_isWithin, Cond.code yX0_isWithin cX0_isWithin 3 (some .boolean), Cond.methodLink RX0 109 yX0_isBusy, Cond.instanceMethod yX0_isBusy, Cond.selects RX0 yX0_isBusy yX0_isBusy, Cond.code yX0_isBusy cX0_isBusy 3 (some .boolean), Cond.fieldLink RX0 26 "LotTracker" "lotState" "[I", Cond.methodLink RX0 162 yX0_usesTool, Cond.instanceMethod yX0_usesTool, Cond.selects RX0 yX0_usesTool yX0_usesTool]
def wsL_nextFor_r2 : List Cond := [Cond.code yX0_usesTool cX0_usesTool 4 (some .boolean), Cond.fieldLink RX0 29 "LotTracker" "lotStep" "[I", Cond.fieldLink RX0 9 "LotTracker" "stepTool" "[I", Cond.methodLink RX0 106 yX0_isStep, Cond.instanceMethod yX0_isStep, Cond.selects RX0 yX0_isStep yX0_isStep, Cond.code yX0_isStep cX0_isStep 2 (some .boolean), Cond.fieldLink RX0 22 "LotTracker" "stepCount" "I", Cond.methodLink RX0 102 yX0_isReady, Cond.instanceMethod yX0_isReady, Cond.selects RX0 yX0_isReady yX0_isReady, Cond.code yX0_isReady cX0_isReady 2 (some .boolean), Cond.methodLink RX0 114 yX0_isFree, Cond.instanceMethod yX0_isFree, Cond.selects RX0 yX0_isFree yX0_isFree, Cond.code yX0_isFree cX0_isFree 2 (some .boolean), Cond.fieldLink RX0 35 "LotTracker" "lotHeld" "[Z", Cond.methodLink RX0 157 yX0_waitingLeft, Cond.instanceMethod yX0_waitingLeft, Cond.selects RX0 yX0_waitingLeft yX0_waitingLeft, Cond.code yX0_waitingLeft cX0_waitingLeft 3 (some .int), Cond.fieldLink RX0 16 "LotTracker" "stepLimit" "[I", Cond.constant RX0 185 (1000000), Cond.fieldLink RX0 65 "LotTracker" "now" "I"]
def wsL_nextFor_r3 : List Cond := [Cond.fieldLink RX0 32 "LotTracker" "lotMoment" "[I"]
def wsL_nextFor : List Cond := .codeWith yL_nextFor cL_nextFor 4 (some .int) [(0, 9, 12, 13)] :: ((wsL_nextFor_r1 ++ (wsL_nextFor_r2 ++ wsL_nextFor_r3)) ++ wsX00 ++ (vx_atS RX0 176 "java/lang/IndexOutOfBoundsException" ["java/lang/RuntimeException", "java/lang/Exception"]).filter goodWord)
def wsL_wafersAt : List Cond := .codeWith yL_wafersAt cL_wafersAt 4 (some .int) [(0, 9, 12, 13)] :: ([.classLink RL 13 "java/lang/IndexOutOfBoundsException", .methodLink RL 68 yX0_wafersAt, .instanceMethod yX0_wafersAt, .selects RX0 yX0_wafersAt yX0_wafersAt, .initialized RX0, .code yX0_wafersAt cX0_wafersAt 4 (some .int), .fieldLink RX0 48 "LotTracker" "lotCount" "I", .fieldLink RX0 29 "LotTracker" "lotStep" "[I", .fieldLink RX0 45 "LotTracker" "lotSize" "[I", .methodLink RX0 166 yX0_checkStep, .instanceMethod yX0_checkStep, .selects RX0 yX0_checkStep yX0_checkStep, .code yX0_checkStep cX0_checkStep 2 none, .classLink RX0 172 "java/lang/IndexOutOfBoundsException", .initialized "java/lang/IndexOutOfBoundsException", .methodLink RX0 106 yX0_isStep, .instanceMethod yX0_isStep, .selects RX0 yX0_isStep yX0_isStep, .code yX0_isStep cX0_isStep 2 (some .boolean), .fieldLink RX0 22 "LotTracker" "stepCount" "I"] ++ wsX00 ++ (vx_atS RX0 176 "java/lang/IndexOutOfBoundsException" ["java/lang/RuntimeException", "java/lang/Exception"]).filter goodWord)
def wsL_wafersAtByWafers_r1 : List Cond := [Cond.classLink RL 13 "java/lang/IndexOutOfBoundsException", Cond.methodLink RL 71 yX0_wafersAtByWafers, Cond.instanceMethod yX0_wafersAtByWafers, Cond.selects RX0 yX0_wafersAtByWafers yX0_wafersAtByWafers, Cond.initialized RX0, Cond.code yX0_wafersAtByWafers cX0_wafersAtByWafers 5 (some .int), Cond.fieldLink RX0 62 "LotTracker" "waferCount" "I", Cond.fieldLink RX0 51 "LotTracker" "waferLot" "[I", Cond.fieldLink RX0 29 "LotTracker" "lotStep" "[I", Cond.methodLink RX0 166 yX0_checkStep, Cond.instanceMethod yX0_checkStep, Cond.selects RX0 yX0_checkStep yX0_checkStep, Cond.code yX0_checkStep cX0_checkStep 2 none, Cond.classLink RX0 172 "java/lang/IndexOutOfBoundsException", Cond.initialized "java/lang/IndexOutOfBoundsException", Cond.methodLink RX0 106 yX0_isStep, Cond.instanceMethod yX0_isStep, Cond.selects RX0 yX0_isStep yX0_isStep, Cond.code yX0_isStep cX0_isStep 2 (some .boolean), Cond.fieldLink RX0 22 "LotTracker" "stepCount" "I", Cond.methodLink RX0 147 yX0_isLot, Cond.instanceMethod yX0_isLot, Cond.selects RX0 yX0_isLot yX0_isLot, Cond.code yX0_isLot cX0_isLot 2 (some .boolean)]
def wsL_wafersAtByWafers_r2 : List Cond := [Cond.fieldLink RX0 48 "LotTracker" "lotCount" "I"]
def wsL_wafersAtByWafers : List Cond := .codeWith yL_wafersAtByWafers cL_wafersAtByWafers 4 (some .int) [(0, 9, 12, 13)] :: ((wsL_wafersAtByWafers_r1 ++ wsL_wafersAtByWafers_r2) ++ wsX00 ++ (vx_atS RX0 176 "java/lang/IndexOutOfBoundsException" ["java/lang/RuntimeException", "java/lang/Exception"]).filter goodWord)
def wsL_lotOf : List Cond := .codeWith yL_lotOf cL_lotOf 4 (some .int) [(0, 9, 12, 13)] :: ([.classLink RL 13 "java/lang/IndexOutOfBoundsException", .methodLink RL 74 yX0_lotOf, .instanceMethod yX0_lotOf, .selects RX0 yX0_lotOf yX0_lotOf, .initialized RX0, .code yX0_lotOf cX0_lotOf 2 (some .int), .fieldLink RX0 51 "LotTracker" "waferLot" "[I", .methodLink RX0 144 yX0_checkWafer, .instanceMethod yX0_checkWafer, .selects RX0 yX0_checkWafer yX0_checkWafer, .code yX0_checkWafer cX0_checkWafer 2 none, .classLink RX0 172 "java/lang/IndexOutOfBoundsException", .initialized "java/lang/IndexOutOfBoundsException", .fieldLink RX0 62 "LotTracker" "waferCount" "I"] ++ wsX00 ++ (vx_atS RX0 176 "java/lang/IndexOutOfBoundsException" ["java/lang/RuntimeException", "java/lang/Exception"]).filter goodWord)
def wsL_parentOf : List Cond := .codeWith yL_parentOf cL_parentOf 4 (some .int) [(0, 9, 12, 13)] :: ([.classLink RL 13 "java/lang/IndexOutOfBoundsException", .methodLink RL 77 yX0_parentOf, .instanceMethod yX0_parentOf, .selects RX0 yX0_parentOf yX0_parentOf, .initialized RX0, .code yX0_parentOf cX0_parentOf 2 (some .int), .fieldLink RX0 42 "LotTracker" "lotParent" "[I", .methodLink RX0 99 yX0_checkLot, .instanceMethod yX0_checkLot, .selects RX0 yX0_checkLot yX0_checkLot, .code yX0_checkLot cX0_checkLot 2 none, .classLink RX0 172 "java/lang/IndexOutOfBoundsException", .initialized "java/lang/IndexOutOfBoundsException", .methodLink RX0 147 yX0_isLot, .instanceMethod yX0_isLot, .selects RX0 yX0_isLot yX0_isLot, .code yX0_isLot cX0_isLot 2 (some .boolean), .fieldLink RX0 48 "LotTracker" "lotCount" "I"] ++ wsX00 ++ (vx_atS RX0 176 "java/lang/IndexOutOfBoundsException" ["java/lang/RuntimeException", "java/lang/Exception"]).filter goodWord)
def wsL_common : List Cond := .codeWith yL_common cL_common 5 (some .int) [(0, 10, 13, 13)] :: ([.classLink RL 13 "java/lang/IndexOutOfBoundsException", .methodLink RL 80 yX0_common, .instanceMethod yX0_common, .selects RX0 yX0_common yX0_common, .initialized RX0, .code yX0_common cX0_common 6 (some .int), .methodLink RX0 99 yX0_checkLot, .instanceMethod yX0_checkLot, .selects RX0 yX0_checkLot yX0_checkLot, .code yX0_checkLot cX0_checkLot 2 none, .classLink RX0 172 "java/lang/IndexOutOfBoundsException", .initialized "java/lang/IndexOutOfBoundsException", .methodLink RX0 147 yX0_isLot, .instanceMethod yX0_isLot, .selects RX0 yX0_isLot yX0_isLot, .code yX0_isLot cX0_isLot 2 (some .boolean), .fieldLink RX0 48 "LotTracker" "lotCount" "I", .methodLink RX0 169 yX0_parentOrNone, .instanceMethod yX0_parentOrNone, .selects RX0 yX0_parentOrNone yX0_parentOrNone, .code yX0_parentOrNone cX0_parentOrNone 2 (some .int), .fieldLink RX0 42 "LotTracker" "lotParent" "[I"] ++ wsX00 ++ (vx_atS RX0 176 "java/lang/IndexOutOfBoundsException" ["java/lang/RuntimeException", "java/lang/Exception"]).filter goodWord)
def wsL_path : List Cond := .codeWith yL_path cL_path 4 (some .int) [(0, 9, 12, 13)] :: ([.classLink RL 13 "java/lang/IndexOutOfBoundsException", .methodLink RL 83 yX0_path, .instanceMethod yX0_path, .selects RX0 yX0_path yX0_path, .initialized RX0, .code yX0_path cX0_path 2 (some .int), .fieldLink RX0 59 "LotTracker" "waferPathLength" "[I", .methodLink RX0 144 yX0_checkWafer, .instanceMethod yX0_checkWafer, .selects RX0 yX0_checkWafer yX0_checkWafer, .code yX0_checkWafer cX0_checkWafer 2 none, .classLink RX0 172 "java/lang/IndexOutOfBoundsException", .initialized "java/lang/IndexOutOfBoundsException", .fieldLink RX0 62 "LotTracker" "waferCount" "I"] ++ wsX00 ++ (vx_atS RX0 176 "java/lang/IndexOutOfBoundsException" ["java/lang/RuntimeException", "java/lang/Exception"]).filter goodWord)
def wsL_pathAt : List Cond := .codeWith yL_pathAt cL_pathAt 5 (some .int) [(0, 10, 13, 13)] :: ([.classLink RL 13 "java/lang/IndexOutOfBoundsException", .methodLink RL 86 yX0_pathAt, .instanceMethod yX0_pathAt, .selects RX0 yX0_pathAt yX0_pathAt, .initialized RX0, .code yX0_pathAt cX0_pathAt 3 (some .int), .classLink RX0 172 "java/lang/IndexOutOfBoundsException", .initialized "java/lang/IndexOutOfBoundsException", .fieldLink RX0 59 "LotTracker" "waferPathLength" "[I", .fieldLink RX0 56 "LotTracker" "waferPath" "[[I", .methodLink RX0 144 yX0_checkWafer, .instanceMethod yX0_checkWafer, .selects RX0 yX0_checkWafer yX0_checkWafer, .code yX0_checkWafer cX0_checkWafer 2 none, .fieldLink RX0 62 "LotTracker" "waferCount" "I", .methodLink RX0 72 yX0_isWithin, .static yX0_isWithin, .code yX0_isWithin cX0_isWithin 3 (some .boolean)] ++ wsX00 ++ (vx_atS RX0 176 "java/lang/IndexOutOfBoundsException" ["java/lang/RuntimeException", "java/lang/Exception"]).filter goodWord)
def wsL_law0_r1 : List Cond := [Cond.classLink RL 8 RX0, Cond.instantiable RX0 18, Cond.initialized RX0, Cond.classLink RL 90 RX1, Cond.instantiable RX1 20, Cond.initialized RX1, Cond.arrayClass .long, Cond.methodLink RL 89 yX0_init, Cond.instanceMethod yX0_init, Cond.code yX0_init cX0_init 1 none, Cond.methodLink RX0 3 objectInit, Cond.instanceMethod objectInit, Cond.code objectInit ⟨#[0xb1]⟩ 1 none, Cond.arrayClass .int, Cond.fieldLink RX0 9 "LotTracker" "stepTool" "[I", Cond.fieldLink RX0 13 "LotTracker" "stepMinutes" "[I", Cond.fieldLink RX0 16 "LotTracker" "stepLimit" "[I", Cond.fieldLink RX0 19 "LotTracker" "stepBack" "[I", Cond.fieldLink RX0 22 "LotTracker" "stepCount" "I", Cond.fieldLink RX0 26 "LotTracker" "lotState" "[I", Cond.fieldLink RX0 29 "LotTracker" "lotStep" "[I", Cond.fieldLink RX0 32 "LotTracker" "lotMoment" "[I", Cond.arrayClass .boolean, Cond.fieldLink RX0 35 "LotTracker" "lotHeld" "[Z"]
def wsL_law0_r2 : List Cond := [Cond.fieldLink RX0 39 "LotTracker" "lotReworks" "[I", Cond.fieldLink RX0 42 "LotTracker" "lotParent" "[I", Cond.fieldLink RX0 45 "LotTracker" "lotSize" "[I", Cond.fieldLink RX0 48 "LotTracker" "lotCount" "I", Cond.fieldLink RX0 51 "LotTracker" "waferLot" "[I", Cond.classLink RX0 54 "[[I", Cond.fieldLink RX0 56 "LotTracker" "waferPath" "[[I", Cond.fieldLink RX0 59 "LotTracker" "waferPathLength" "[I", Cond.fieldLink RX0 62 "LotTracker" "waferCount" "I", Cond.fieldLink RX0 65 "LotTracker" "now" "I", Cond.methodLink RL 92 yX1_init, Cond.instanceMethod yX1_init, Cond.code yX1_init cX1_init 1 none, Cond.methodLink RX1 1 objectInit, Cond.fieldLink RX1 7 "LotTrackerModel" "tools" "[I", Cond.fieldLink RX1 13 "LotTrackerModel" "minutes" "[I", Cond.fieldLink RX1 16 "LotTrackerModel" "limits" "[I", Cond.fieldLink RX1 19 "LotTrackerModel" "backs" "[I", Cond.fieldLink RX1 22 "LotTrackerModel" "states" "[I", Cond.fieldLink RX1 25 "LotTrackerModel" "steps" "[I", Cond.fieldLink RX1 28 "LotTrackerModel" "since" "[I", Cond.fieldLink RX1 31 "LotTrackerModel" "ends" "[I", Cond.fieldLink RX1 34 "LotTrackerModel" "areHeld" "[Z", Cond.fieldLink RX1 38 "LotTrackerModel" "again" "[I"]
def wsL_law0_r3 : List Cond := [Cond.fieldLink RX1 41 "LotTrackerModel" "parents" "[I", Cond.fieldLink RX1 44 "LotTrackerModel" "lotOfWafer" "[I", Cond.fieldLink RX1 47 "LotTrackerModel" "pathMany" "[I", Cond.fieldLink RX1 50 "LotTrackerModel" "paths" "[I", Cond.fieldLink RX1 53 "LotTrackerModel" "isAncestor" "[Z", Cond.fieldLink RX1 56 "LotTrackerModel" "thrown" "I", Cond.methodLink RL 93 yL_addStep, Cond.static yL_addStep, Cond.initialized RL, Cond.codeWith yL_addStep cL_addStep 7 (some .int) [(0, 14, 17, 13), (0, 14, 21, 15), (0, 14, 25, 17)], Cond.classLink RL 13 "java/lang/IndexOutOfBoundsException", Cond.classLink RL 15 "java/lang/IllegalArgumentException", Cond.classLink RL 17 "java/lang/IllegalStateException", Cond.methodLink RL 7 yX0_addStep, Cond.instanceMethod yX0_addStep, Cond.selects RX0 yX0_addStep yX0_addStep, Cond.code yX0_addStep cX0_addStep 6 (some .int), Cond.classLink RX0 76 "java/lang/IllegalArgumentException", Cond.initialized "java/lang/IllegalArgumentException", Cond.classLink RX0 83 "java/lang/IllegalStateException", Cond.initialized "java/lang/IllegalStateException", Cond.methodLink RX0 68 yX0_checkTool, Cond.static yX0_checkTool, Cond.code yX0_checkTool cX0_checkTool 1 none]
def wsL_law0_r4 : List Cond := [Cond.classLink RX0 172 "java/lang/IndexOutOfBoundsException", Cond.initialized "java/lang/IndexOutOfBoundsException", Cond.methodLink RX0 72 yX0_isWithin, Cond.static yX0_isWithin, Cond.code yX0_isWithin cX0_isWithin 3 (some .boolean), Cond.methodLink RL 98 yX1_addStep, Cond.instanceMethod yX1_addStep, Cond.selects RX1 yX1_addStep yX1_addStep, Cond.code yX1_addStep cX1_addStep 6 (some .int), Cond.fieldLink RX1 70 "LotTrackerModel" "stepMany" "I", Cond.fieldLink RX1 64 "LotTrackerModel" "lotMany" "I", Cond.methodLink RX1 60 yX1_in, Cond.static yX1_in, Cond.code yX1_in cX1_in 3 (some .boolean), Cond.methodLink RX1 73 yX1_isTool, Cond.static yX1_isTool, Cond.code yX1_isTool cX1_isTool 1 (some .boolean), Cond.methodLink RL 99 yX1_thrown, Cond.instanceMethod yX1_thrown, Cond.selects RX1 yX1_thrown yX1_thrown, Cond.code yX1_thrown cX1_thrown 1 (some .int), Cond.methodLink RL 103 yL_enter, Cond.static yL_enter, Cond.codeWith yL_enter cL_enter 4 (some .int) [(0, 9, 12, 15), (0, 9, 15, 17)]]
def wsL_law0_r5 : List Cond := [Cond.methodLink RL 19 yX0_enter, Cond.instanceMethod yX0_enter, Cond.selects RX0 yX0_enter yX0_enter, Cond.code yX0_enter cX0_enter 4 (some .int), Cond.methodLink RX0 92 yX0_makeLot, Cond.instanceMethod yX0_makeLot, Cond.selects RX0 yX0_makeLot yX0_makeLot, Cond.code yX0_makeLot cX0_makeLot 7 (some .int), Cond.methodLink RX0 96 yX0_makeWafer, Cond.instanceMethod yX0_makeWafer, Cond.selects RX0 yX0_makeWafer yX0_makeWafer, Cond.code yX0_makeWafer cX0_makeWafer 3 none, Cond.methodLink RX0 186 yX0_putInto, Cond.instanceMethod yX0_putInto, Cond.selects RX0 yX0_putInto yX0_putInto, Cond.code yX0_putInto cX0_putInto 4 none, Cond.methodLink RL 106 yX1_enter, Cond.instanceMethod yX1_enter, Cond.selects RX1 yX1_enter yX1_enter, Cond.code yX1_enter cX1_enter 3 (some .int), Cond.fieldLink RX1 67 "LotTrackerModel" "waferMany" "I", Cond.fieldLink RX1 77 "LotTrackerModel" "now" "I", Cond.methodLink RX1 80 yX1_puts, Cond.instanceMethod yX1_puts]
def wsL_law0_r6 : List Cond := [Cond.selects RX1 yX1_puts yX1_puts, Cond.code yX1_puts cX1_puts 3 none, Cond.methodLink RL 107 yL_start, Cond.static yL_start, Cond.codeWith yL_start cL_start 4 (some .int) [(0, 9, 12, 13), (0, 9, 15, 17)], Cond.methodLink RL 23 yX0_start, Cond.instanceMethod yX0_start, Cond.selects RX0 yX0_start yX0_start, Cond.code yX0_start cX0_start 3 (some .int), Cond.methodLink RX0 99 yX0_checkLot, Cond.instanceMethod yX0_checkLot, Cond.selects RX0 yX0_checkLot yX0_checkLot, Cond.code yX0_checkLot cX0_checkLot 2 none, Cond.methodLink RX0 147 yX0_isLot, Cond.instanceMethod yX0_isLot, Cond.selects RX0 yX0_isLot yX0_isLot, Cond.code yX0_isLot cX0_isLot 2 (some .boolean), Cond.methodLink RX0 102 yX0_isReady, Cond.instanceMethod yX0_isReady, Cond.selects RX0 yX0_isReady yX0_isReady, Cond.code yX0_isReady cX0_isReady 2 (some .boolean), Cond.methodLink RX0 114 yX0_isFree, Cond.instanceMethod yX0_isFree, Cond.selects RX0 yX0_isFree yX0_isFree]
def wsL_law0_r7 : List Cond := [Cond.code yX0_isFree cX0_isFree 2 (some .boolean), Cond.methodLink RX0 157 yX0_waitingLeft, Cond.instanceMethod yX0_waitingLeft, Cond.selects RX0 yX0_waitingLeft yX0_waitingLeft, Cond.code yX0_waitingLeft cX0_waitingLeft 3 (some .int), Cond.constant RX0 161 (2000000), Cond.constant RX0 185 (1000000), Cond.methodLink RX0 106 yX0_isStep, Cond.instanceMethod yX0_isStep, Cond.selects RX0 yX0_isStep yX0_isStep, Cond.code yX0_isStep cX0_isStep 2 (some .boolean), Cond.methodLink RX0 109 yX0_isBusy, Cond.instanceMethod yX0_isBusy, Cond.selects RX0 yX0_isBusy yX0_isBusy, Cond.code yX0_isBusy cX0_isBusy 3 (some .boolean), Cond.methodLink RX0 162 yX0_usesTool, Cond.instanceMethod yX0_usesTool, Cond.selects RX0 yX0_usesTool yX0_usesTool, Cond.code yX0_usesTool cX0_usesTool 4 (some .boolean), Cond.methodLink RL 109 yX1_start, Cond.instanceMethod yX1_start, Cond.selects RX1 yX1_start yX1_start, Cond.code yX1_start cX1_start 2 (some .int), Cond.methodLink RX1 88 yX1_isLot]
def wsL_law0_r8 : List Cond := [Cond.instanceMethod yX1_isLot, Cond.selects RX1 yX1_isLot yX1_isLot, Cond.code yX1_isLot cX1_isLot 2 (some .boolean), Cond.methodLink RX1 91 yX1_tooLate, Cond.instanceMethod yX1_tooLate, Cond.selects RX1 yX1_tooLate yX1_tooLate, Cond.code yX1_tooLate cX1_tooLate 2 (some .boolean), Cond.methodLink RX1 84 yX1_waited, Cond.instanceMethod yX1_waited, Cond.selects RX1 yX1_waited yX1_waited, Cond.code yX1_waited cX1_waited 2 (some .int), Cond.methodLink RX1 94 yX1_isBusy, Cond.instanceMethod yX1_isBusy, Cond.selects RX1 yX1_isBusy yX1_isBusy, Cond.code yX1_isBusy cX1_isBusy 4 (some .boolean), Cond.methodLink RL 110 yL_rework, Cond.static yL_rework, Cond.codeWith yL_rework cL_rework 4 (some .int) [(0, 9, 12, 13), (0, 9, 15, 17)], Cond.methodLink RL 26 yX0_rework, Cond.instanceMethod yX0_rework, Cond.selects RX0 yX0_rework yX0_rework, Cond.code yX0_rework cX0_rework 3 (some .int), Cond.methodLink RL 112 yX1_rework, Cond.instanceMethod yX1_rework]
def wsL_law0_r9 : List Cond := [Cond.selects RX1 yX1_rework yX1_rework, Cond.code yX1_rework cX1_rework 2 (some .int), Cond.methodLink RL 113 yL_split, Cond.static yL_split, Cond.codeWith yL_split cL_split 5 (some .int) [(0, 10, 13, 13), (0, 10, 17, 15), (0, 10, 21, 17)], Cond.methodLink RL 29 yX0_split, Cond.instanceMethod yX0_split, Cond.selects RX0 yX0_split yX0_split, Cond.code yX0_split cX0_split 4 (some .int), Cond.methodLink RX0 121 yX0_moveWafers, Cond.instanceMethod yX0_moveWafers, Cond.selects RX0 yX0_moveWafers yX0_moveWafers, Cond.code yX0_moveWafers cX0_moveWafers 6 none, Cond.methodLink RL 116 yX1_split, Cond.instanceMethod yX1_split, Cond.selects RX1 yX1_split yX1_split, Cond.code yX1_split cX1_split 6 (some .int), Cond.methodLink RX1 97 yX1_count, Cond.instanceMethod yX1_count, Cond.selects RX1 yX1_count yX1_count, Cond.code yX1_count cX1_count 4 (some .int), Cond.methodLink RL 117 yL_merge, Cond.static yL_merge, Cond.codeWith yL_merge cL_merge 5 (some .int) [(0, 10, 13, 13), (0, 10, 17, 15), (0, 10, 21, 17)]]
def wsL_law0_r10 : List Cond := [Cond.methodLink RL 33 yX0_merge, Cond.instanceMethod yX0_merge, Cond.selects RX0 yX0_merge yX0_merge, Cond.code yX0_merge cX0_merge 3 (some .int), Cond.methodLink RX0 129 Lib.Math.min.name, Cond.static Lib.Math.min.name, Cond.initialized "java/lang/Math", Cond.code Lib.Math.min.name Lib.Math.min.code 2 (some .int), Cond.methodLink RX0 135 Lib.Math.max.name, Cond.static Lib.Math.max.name, Cond.code Lib.Math.max.name Lib.Math.max.code 2 (some .int), Cond.methodLink RX0 138 yX0_leaveRoute, Cond.instanceMethod yX0_leaveRoute, Cond.selects RX0 yX0_leaveRoute yX0_leaveRoute, Cond.code yX0_leaveRoute cX0_leaveRoute 3 none, Cond.methodLink RL 119 yX1_merge, Cond.instanceMethod yX1_merge, Cond.selects RX1 yX1_merge yX1_merge, Cond.code yX1_merge cX1_merge 4 (some .int), Cond.methodLink RX1 100 yX1_canMerge, Cond.instanceMethod yX1_canMerge, Cond.selects RX1 yX1_canMerge yX1_canMerge, Cond.code yX1_canMerge cX1_canMerge 2 (some .boolean), Cond.methodLink RL 120 yL_hold]
def wsL_law0_r11 : List Cond := [Cond.static yL_hold, Cond.codeWith yL_hold cL_hold 5 (some .int) [(0, 17, 20, 13), (0, 17, 24, 17)], Cond.methodLink RL 36 yX0_hold, Cond.instanceMethod yX0_hold, Cond.selects RX0 yX0_hold yX0_hold, Cond.code yX0_hold cX0_hold 4 (some .boolean), Cond.methodLink RL 123 yX1_hold, Cond.instanceMethod yX1_hold, Cond.selects RX1 yX1_hold yX1_hold, Cond.code yX1_hold cX1_hold 4 (some .boolean), Cond.methodLink RL 124 yL_scrap, Cond.static yL_scrap, Cond.codeWith yL_scrap cL_scrap 4 (some .int) [(0, 9, 12, 13), (0, 9, 15, 17)], Cond.methodLink RL 40 yX0_scrap, Cond.instanceMethod yX0_scrap, Cond.selects RX0 yX0_scrap yX0_scrap, Cond.code yX0_scrap cX0_scrap 3 (some .int), Cond.methodLink RX0 144 yX0_checkWafer, Cond.instanceMethod yX0_checkWafer, Cond.selects RX0 yX0_checkWafer yX0_checkWafer, Cond.code yX0_checkWafer cX0_checkWafer 2 none, Cond.methodLink RL 126 yX1_scrap, Cond.instanceMethod yX1_scrap, Cond.selects RX1 yX1_scrap yX1_scrap]
def wsL_law0_r12 : List Cond := [Cond.code yX1_scrap cX1_scrap 3 (some .int), Cond.methodLink RX1 103 yX1_isWafer, Cond.instanceMethod yX1_isWafer, Cond.selects RX1 yX1_isWafer yX1_isWafer, Cond.code yX1_isWafer cX1_isWafer 2 (some .boolean), Cond.methodLink RL 127 yL_advance, Cond.static yL_advance, Cond.codeWith yL_advance cL_advance 4 (some .int) [(0, 9, 12, 15)], Cond.methodLink RL 43 yX0_advance, Cond.instanceMethod yX0_advance, Cond.selects RX0 yX0_advance yX0_advance, Cond.code yX0_advance cX0_advance 4 (some .int), Cond.methodLink RX0 154 yX0_endProcessing, Cond.instanceMethod yX0_endProcessing, Cond.selects RX0 yX0_endProcessing yX0_endProcessing, Cond.code yX0_endProcessing cX0_endProcessing 3 none, Cond.methodLink RL 129 yX1_advance, Cond.instanceMethod yX1_advance, Cond.selects RX1 yX1_advance yX1_advance, Cond.code yX1_advance cX1_advance 4 (some .int), Cond.methodLink RL 130 yX0_time, Cond.instanceMethod yX0_time, Cond.selects RX0 yX0_time yX0_time, Cond.code yX0_time cX0_time 1 (some .int)]
def wsL_law0_r13 : List Cond := [Cond.methodLink RL 133 yX1_time, Cond.instanceMethod yX1_time, Cond.selects RX1 yX1_time yX1_time, Cond.code yX1_time cX1_time 1 (some .int), Cond.methodLink RL 134 yX0_lots, Cond.instanceMethod yX0_lots, Cond.selects RX0 yX0_lots yX0_lots, Cond.code yX0_lots cX0_lots 1 (some .int), Cond.methodLink RL 137 yX1_lots, Cond.instanceMethod yX1_lots, Cond.selects RX1 yX1_lots yX1_lots, Cond.code yX1_lots cX1_lots 1 (some .int), Cond.methodLink RL 138 yX0_wafers, Cond.instanceMethod yX0_wafers, Cond.selects RX0 yX0_wafers yX0_wafers, Cond.code yX0_wafers cX0_wafers 1 (some .int), Cond.methodLink RL 141 yX1_wafers, Cond.instanceMethod yX1_wafers, Cond.selects RX1 yX1_wafers yX1_wafers, Cond.code yX1_wafers cX1_wafers 1 (some .int), Cond.methodLink RL 142 yL_state, Cond.static yL_state, Cond.codeWith yL_state cL_state 4 (some .int) [(0, 9, 12, 13)], Cond.methodLink RL 46 yX0_state]
def wsL_law0_r14 : List Cond := [Cond.instanceMethod yX0_state, Cond.selects RX0 yX0_state yX0_state, Cond.code yX0_state cX0_state 2 (some .int), Cond.methodLink RL 144 yX1_state, Cond.instanceMethod yX1_state, Cond.selects RX1 yX1_state yX1_state, Cond.code yX1_state cX1_state 2 (some .int), Cond.methodLink RX1 109 yX1_told, Cond.instanceMethod yX1_told, Cond.selects RX1 yX1_told yX1_told, Cond.code yX1_told cX1_told 3 (some .int), Cond.methodLink RX1 106 yX1_fails, Cond.instanceMethod yX1_fails, Cond.selects RX1 yX1_fails yX1_fails, Cond.code yX1_fails cX1_fails 2 (some .int), Cond.methodLink RL 145 yL_stepOf, Cond.static yL_stepOf, Cond.codeWith yL_stepOf cL_stepOf 4 (some .int) [(0, 9, 12, 13)], Cond.methodLink RL 49 yX0_stepOf, Cond.instanceMethod yX0_stepOf, Cond.selects RX0 yX0_stepOf yX0_stepOf, Cond.code yX0_stepOf cX0_stepOf 2 (some .int), Cond.methodLink RL 147 yX1_stepOf, Cond.instanceMethod yX1_stepOf]
def wsL_law0_r15 : List Cond := [Cond.selects RX1 yX1_stepOf yX1_stepOf, Cond.code yX1_stepOf cX1_stepOf 3 (some .int), Cond.methodLink RL 148 yL_size, Cond.static yL_size, Cond.codeWith yL_size cL_size 4 (some .int) [(0, 9, 12, 13)], Cond.methodLink RL 52 yX0_size, Cond.instanceMethod yX0_size, Cond.selects RX0 yX0_size yX0_size, Cond.code yX0_size cX0_size 2 (some .int), Cond.methodLink RL 150 yX1_size, Cond.instanceMethod yX1_size, Cond.selects RX1 yX1_size yX1_size, Cond.code yX1_size cX1_size 2 (some .int), Cond.methodLink RL 151 yL_slack, Cond.static yL_slack, Cond.codeWith yL_slack cL_slack 4 (some .int) [(0, 9, 12, 13)], Cond.methodLink RL 55 yX0_slack, Cond.instanceMethod yX0_slack, Cond.selects RX0 yX0_slack yX0_slack, Cond.code yX0_slack cX0_slack 2 (some .int), Cond.methodLink RL 153 yX1_slack, Cond.instanceMethod yX1_slack, Cond.selects RX1 yX1_slack yX1_slack, Cond.code yX1_slack cX1_slack 2 (some .int)]
def wsL_law0_r16 : List Cond := [Cond.constant RX1 117 (2000000), Cond.methodLink RX1 114 yX1_left, Cond.instanceMethod yX1_left, Cond.selects RX1 yX1_left yX1_left, Cond.code yX1_left cX1_left 3 (some .int), Cond.constant RX1 113 (1000000), Cond.methodLink RL 154 yL_isLate, Cond.static yL_isLate, Cond.codeWith yL_isLate cL_isLate 4 (some .int) [(0, 16, 19, 13)], Cond.methodLink RL 58 yX0_isLate, Cond.instanceMethod yX0_isLate, Cond.selects RX0 yX0_isLate yX0_isLate, Cond.code yX0_isLate cX0_isLate 2 (some .boolean), Cond.methodLink RL 156 yX1_isLate, Cond.instanceMethod yX1_isLate, Cond.selects RX1 yX1_isLate yX1_isLate, Cond.code yX1_isLate cX1_isLate 2 (some .boolean), Cond.methodLink RL 157 yL_reworks, Cond.static yL_reworks, Cond.codeWith yL_reworks cL_reworks 4 (some .int) [(0, 9, 12, 13)], Cond.methodLink RL 62 yX0_reworks, Cond.instanceMethod yX0_reworks, Cond.selects RX0 yX0_reworks yX0_reworks, Cond.code yX0_reworks cX0_reworks 2 (some .int)]
def wsL_law0_r17 : List Cond := [Cond.methodLink RL 159 yX1_reworks, Cond.instanceMethod yX1_reworks, Cond.selects RX1 yX1_reworks yX1_reworks, Cond.code yX1_reworks cX1_reworks 2 (some .int), Cond.methodLink RL 160 yL_nextFor, Cond.static yL_nextFor, Cond.codeWith yL_nextFor cL_nextFor 4 (some .int) [(0, 9, 12, 13)], Cond.methodLink RL 65 yX0_nextFor, Cond.instanceMethod yX0_nextFor, Cond.selects RX0 yX0_nextFor yX0_nextFor, Cond.code yX0_nextFor cX0_nextFor 5 (some .int), Cond.methodLink RL 162 yX1_nextFor, Cond.instanceMethod yX1_nextFor, Cond.selects RX1 yX1_nextFor yX1_nextFor, Cond.code yX1_nextFor cX1_nextFor 5 (some .int), Cond.methodLink RL 163 yL_wafersAt, Cond.static yL_wafersAt, Cond.codeWith yL_wafersAt cL_wafersAt 4 (some .int) [(0, 9, 12, 13)], Cond.methodLink RL 68 yX0_wafersAt, Cond.instanceMethod yX0_wafersAt, Cond.selects RX0 yX0_wafersAt yX0_wafersAt, Cond.code yX0_wafersAt cX0_wafersAt 4 (some .int), Cond.methodLink RX0 166 yX0_checkStep, Cond.instanceMethod yX0_checkStep]
def wsL_law0_r18 : List Cond := [Cond.selects RX0 yX0_checkStep yX0_checkStep, Cond.code yX0_checkStep cX0_checkStep 2 none, Cond.methodLink RL 165 yX1_wafersAt, Cond.instanceMethod yX1_wafersAt, Cond.selects RX1 yX1_wafersAt yX1_wafersAt, Cond.code yX1_wafersAt cX1_wafersAt 2 (some .int), Cond.methodLink RX1 118 yX1_at, Cond.instanceMethod yX1_at, Cond.selects RX1 yX1_at yX1_at, Cond.code yX1_at cX1_at 4 (some .int), Cond.methodLink RL 166 yL_wafersAtByWafers, Cond.static yL_wafersAtByWafers, Cond.codeWith yL_wafersAtByWafers cL_wafersAtByWafers 4 (some .int) [(0, 9, 12, 13)], Cond.methodLink RL 71 yX0_wafersAtByWafers, Cond.instanceMethod yX0_wafersAtByWafers, Cond.selects RX0 yX0_wafersAtByWafers yX0_wafersAtByWafers, Cond.code yX0_wafersAtByWafers cX0_wafersAtByWafers 5 (some .int), Cond.methodLink RL 168 yX1_wafersAtByWafers, Cond.instanceMethod yX1_wafersAtByWafers, Cond.selects RX1 yX1_wafersAtByWafers yX1_wafersAtByWafers, Cond.code yX1_wafersAtByWafers cX1_wafersAtByWafers 2 (some .int), Cond.methodLink RL 169 yL_lotOf, Cond.static yL_lotOf, Cond.codeWith yL_lotOf cL_lotOf 4 (some .int) [(0, 9, 12, 13)]]
def wsL_law0_r19 : List Cond := [Cond.methodLink RL 74 yX0_lotOf, Cond.instanceMethod yX0_lotOf, Cond.selects RX0 yX0_lotOf yX0_lotOf, Cond.code yX0_lotOf cX0_lotOf 2 (some .int), Cond.methodLink RL 171 yX1_lotOf, Cond.instanceMethod yX1_lotOf, Cond.selects RX1 yX1_lotOf yX1_lotOf, Cond.code yX1_lotOf cX1_lotOf 2 (some .int), Cond.methodLink RL 172 yL_parentOf, Cond.static yL_parentOf, Cond.codeWith yL_parentOf cL_parentOf 4 (some .int) [(0, 9, 12, 13)], Cond.methodLink RL 77 yX0_parentOf, Cond.instanceMethod yX0_parentOf, Cond.selects RX0 yX0_parentOf yX0_parentOf, Cond.code yX0_parentOf cX0_parentOf 2 (some .int), Cond.methodLink RL 174 yX1_parentOf, Cond.instanceMethod yX1_parentOf, Cond.selects RX1 yX1_parentOf yX1_parentOf, Cond.code yX1_parentOf cX1_parentOf 2 (some .int), Cond.methodLink RL 175 yL_common, Cond.static yL_common, Cond.codeWith yL_common cL_common 5 (some .int) [(0, 10, 13, 13)], Cond.methodLink RL 80 yX0_common, Cond.instanceMethod yX0_common]
def wsL_law0_r20 : List Cond := [Cond.selects RX0 yX0_common yX0_common, Cond.code yX0_common cX0_common 6 (some .int), Cond.methodLink RX0 169 yX0_parentOrNone, Cond.instanceMethod yX0_parentOrNone, Cond.selects RX0 yX0_parentOrNone yX0_parentOrNone, Cond.code yX0_parentOrNone cX0_parentOrNone 2 (some .int), Cond.methodLink RL 177 yX1_common, Cond.instanceMethod yX1_common, Cond.selects RX1 yX1_common yX1_common, Cond.code yX1_common cX1_common 4 (some .int), Cond.methodLink RL 178 yL_path, Cond.static yL_path, Cond.codeWith yL_path cL_path 4 (some .int) [(0, 9, 12, 13)], Cond.methodLink RL 83 yX0_path, Cond.instanceMethod yX0_path, Cond.selects RX0 yX0_path yX0_path, Cond.code yX0_path cX0_path 2 (some .int), Cond.methodLink RL 180 yX1_path, Cond.instanceMethod yX1_path, Cond.selects RX1 yX1_path yX1_path, Cond.code yX1_path cX1_path 2 (some .int), Cond.methodLink RL 181 yL_pathAt, Cond.static yL_pathAt, Cond.codeWith yL_pathAt cL_pathAt 5 (some .int) [(0, 10, 13, 13)]]
def wsL_law0_r21 : List Cond := [Cond.methodLink RL 86 yX0_pathAt, Cond.instanceMethod yX0_pathAt, Cond.selects RX0 yX0_pathAt yX0_pathAt, Cond.code yX0_pathAt cX0_pathAt 3 (some .int), Cond.methodLink RL 183 yX1_pathAt, Cond.instanceMethod yX1_pathAt, Cond.selects RX1 yX1_pathAt yX1_pathAt, Cond.code yX1_pathAt cX1_pathAt 3 (some .int)]
def wsL_law0 : List Cond := (wsL_law0_r1 ++ (wsL_law0_r2 ++ (wsL_law0_r3 ++ (wsL_law0_r4 ++ (wsL_law0_r5 ++ (wsL_law0_r6 ++ (wsL_law0_r7 ++ (wsL_law0_r8 ++ (wsL_law0_r9 ++ (wsL_law0_r10 ++ (wsL_law0_r11 ++ (wsL_law0_r12 ++ (wsL_law0_r13 ++ (wsL_law0_r14 ++ (wsL_law0_r15 ++ (wsL_law0_r16 ++ (wsL_law0_r17 ++ (wsL_law0_r18 ++ (wsL_law0_r19 ++ (wsL_law0_r20 ++ wsL_law0_r21)))))))))))))))))))) ++ wsX00 ++ wsX10 ++ ([] : List Cond)
def wsL_law : List Cond := wsL_law0 ++ (vx_atS RX0 80 "java/lang/IllegalArgumentException" ["java/lang/RuntimeException", "java/lang/Exception"]).filter goodWord ++ (vx_atS RX0 87 "java/lang/IllegalStateException" ["java/lang/RuntimeException", "java/lang/Exception"]).filter goodWord ++ (vx_atS RX0 176 "java/lang/IndexOutOfBoundsException" ["java/lang/RuntimeException", "java/lang/Exception"]).filter goodWord
set_option maxRecDepth 20000 in
theorem wsL_law0_r1_in : ∀ w ∈ wsL_law0_r1, w ∈ lw_tbl := mem_r [40, 41, 31, 479, 480, 32, 710, 42, 43, 44, 45, 46, 47, 105, 50, 51, 52, 53, 54, 55, 56, 57, 106, 58] (by decide +kernel)
theorem wsL_law0_r2_in : ∀ w ∈ wsL_law0_r2, w ∈ lw_tbl := mem_r [59, 60, 61, 62, 63, 48, 64, 65, 66, 67, 481, 482, 483, 484, 488, 489, 490, 491, 493, 494, 495, 496, 497, 498] (by decide +kernel)
theorem wsL_law0_r3_in : ∀ w ∈ wsL_law0_r3, w ∈ lw_tbl := mem_r [499, 501, 502, 503, 504, 485, 119, 120, 30, 121, 122, 123, 124, 125, 126, 127, 128, 203, 37, 219, 38, 129, 130, 131] (by decide +kernel)
theorem wsL_law0_r4_in : ∀ w ∈ wsL_law0_r4, w ∈ lw_tbl := mem_r [135, 36, 132, 133, 134, 550, 551, 552, 553, 487, 492, 554, 555, 556, 557, 558, 559, 546, 547, 548, 549, 235, 236, 237] (by decide +kernel)
theorem wsL_law0_r5_in : ∀ w ∈ wsL_law0_r5, w ∈ lw_tbl := mem_r [238, 239, 240, 241, 244, 246, 1, 247, 248, 250, 2, 251, 252, 254, 3, 255, 560, 561, 562, 563, 500, 486, 564, 566] (by decide +kernel)
theorem wsL_law0_r6_in : ∀ w ∈ wsL_law0_r6, w ∈ lw_tbl := mem_r [18, 567, 256, 257, 258, 259, 260, 261, 262, 263, 265, 4, 266, 267, 269, 5, 270, 272, 274, 6, 275, 276, 278, 7] (by decide +kernel)
theorem wsL_law0_r7_in : ∀ w ∈ wsL_law0_r7, w ∈ lw_tbl := mem_r [279, 280, 282, 8, 283, 288, 289, 284, 286, 9, 287, 290, 292, 10, 293, 294, 296, 11, 297, 568, 569, 570, 571, 572] (by decide +kernel)
theorem wsL_law0_r8_in : ∀ w ∈ wsL_law0_r8, w ∈ lw_tbl := mem_r [574, 19, 575, 576, 578, 20, 579, 580, 582, 21, 583, 584, 586, 22, 587, 299, 300, 301, 302, 303, 304, 305, 588, 589] (by decide +kernel)
theorem wsL_law0_r9_in : ∀ w ∈ wsL_law0_r9, w ∈ lw_tbl := mem_r [590, 591, 307, 308, 309, 310, 311, 312, 313, 315, 317, 12, 318, 592, 593, 594, 595, 596, 598, 23, 599, 319, 320, 321] (by decide +kernel)
theorem wsL_law0_r10_in : ∀ w ∈ wsL_law0_r10, w ∈ lw_tbl := mem_r [322, 323, 324, 325, 328, 329, 39, 330, 331, 332, 333, 334, 336, 13, 337, 600, 601, 602, 603, 604, 606, 24, 607, 338] (by decide +kernel)
theorem wsL_law0_r11_in : ∀ w ∈ wsL_law0_r11, w ∈ lw_tbl := mem_r [339, 340, 341, 342, 343, 344, 608, 609, 610, 611, 346, 347, 348, 349, 350, 351, 352, 353, 355, 14, 356, 612, 613, 614] (by decide +kernel)
theorem wsL_law0_r12_in : ∀ w ∈ wsL_law0_r12, w ∈ lw_tbl := mem_r [615, 616, 618, 25, 619, 359, 360, 361, 362, 363, 364, 365, 367, 369, 15, 370, 620, 621, 622, 623, 107, 108, 109, 110] (by decide +kernel)
theorem wsL_law0_r13_in : ∀ w ∈ wsL_law0_r13, w ∈ lw_tbl := mem_r [624, 625, 626, 627, 111, 112, 113, 114, 628, 629, 630, 631, 115, 116, 117, 118, 632, 633, 634, 635, 371, 372, 373, 374] (by decide +kernel)
theorem wsL_law0_r14_in : ∀ w ∈ wsL_law0_r14, w ∈ lw_tbl := mem_r [375, 376, 377, 636, 637, 638, 639, 640, 642, 26, 643, 644, 646, 27, 647, 378, 379, 380, 381, 382, 383, 384, 648, 649] (by decide +kernel)
theorem wsL_law0_r15_in : ∀ w ∈ wsL_law0_r15, w ∈ lw_tbl := mem_r [650, 651, 385, 386, 387, 388, 389, 390, 391, 652, 653, 654, 655, 392, 393, 394, 395, 396, 397, 398, 656, 657, 658, 659] (by decide +kernel)
theorem wsL_law0_r16_in : ∀ w ∈ wsL_law0_r16, w ∈ lw_tbl := mem_r [665, 660, 662, 28, 663, 664, 399, 400, 401, 402, 403, 404, 405, 666, 667, 668, 669, 406, 407, 408, 409, 410, 411, 412] (by decide +kernel)
theorem wsL_law0_r17_in : ∀ w ∈ wsL_law0_r17, w ∈ lw_tbl := mem_r [670, 671, 672, 673, 413, 414, 415, 416, 417, 418, 419, 674, 675, 676, 677, 420, 421, 422, 423, 424, 425, 426, 427, 429] (by decide +kernel)
theorem wsL_law0_r18_in : ∀ w ∈ wsL_law0_r18, w ∈ lw_tbl := mem_r [16, 430, 678, 679, 680, 681, 682, 684, 29, 685, 432, 433, 434, 435, 436, 437, 438, 686, 687, 688, 689, 439, 440, 441] (by decide +kernel)
theorem wsL_law0_r19_in : ∀ w ∈ wsL_law0_r19, w ∈ lw_tbl := mem_r [442, 443, 444, 445, 690, 691, 692, 693, 446, 447, 448, 449, 450, 451, 452, 694, 695, 696, 697, 453, 454, 455, 456, 457] (by decide +kernel)
theorem wsL_law0_r20_in : ∀ w ∈ wsL_law0_r20, w ∈ lw_tbl := mem_r [458, 459, 460, 462, 17, 463, 698, 699, 700, 701, 464, 465, 466, 467, 468, 469, 470, 702, 703, 704, 705, 471, 472, 473] (by decide +kernel)
theorem wsL_law0_r21_in : ∀ w ∈ wsL_law0_r21, w ∈ lw_tbl := mem_r [474, 475, 476, 477, 706, 707, 708, 709] (by decide +kernel)
theorem wsX00_in : ∀ w ∈ wsX00, w ∈ lw_tbl := by decide +kernel
theorem wsX10_in : ∀ w ∈ wsX10, w ∈ lw_tbl := by decide +kernel
theorem wsL_law_in0 : ∀ w ∈ wsL_law0, w ∈ lw_tbl := List.forall_mem_append.mpr ⟨List.forall_mem_append.mpr ⟨List.forall_mem_append.mpr ⟨(List.forall_mem_append.mpr ⟨wsL_law0_r1_in, (List.forall_mem_append.mpr ⟨wsL_law0_r2_in, (List.forall_mem_append.mpr ⟨wsL_law0_r3_in, (List.forall_mem_append.mpr ⟨wsL_law0_r4_in, (List.forall_mem_append.mpr ⟨wsL_law0_r5_in, (List.forall_mem_append.mpr ⟨wsL_law0_r6_in, (List.forall_mem_append.mpr ⟨wsL_law0_r7_in, (List.forall_mem_append.mpr ⟨wsL_law0_r8_in, (List.forall_mem_append.mpr ⟨wsL_law0_r9_in, (List.forall_mem_append.mpr ⟨wsL_law0_r10_in, (List.forall_mem_append.mpr ⟨wsL_law0_r11_in, (List.forall_mem_append.mpr ⟨wsL_law0_r12_in, (List.forall_mem_append.mpr ⟨wsL_law0_r13_in, (List.forall_mem_append.mpr ⟨wsL_law0_r14_in, (List.forall_mem_append.mpr ⟨wsL_law0_r15_in, (List.forall_mem_append.mpr ⟨wsL_law0_r16_in, (List.forall_mem_append.mpr ⟨wsL_law0_r17_in, (List.forall_mem_append.mpr ⟨wsL_law0_r18_in, (List.forall_mem_append.mpr ⟨wsL_law0_r19_in, (List.forall_mem_append.mpr ⟨wsL_law0_r20_in, wsL_law0_r21_in⟩)⟩)⟩)⟩)⟩)⟩)⟩)⟩)⟩)⟩)⟩)⟩)⟩)⟩)⟩)⟩)⟩)⟩)⟩)⟩), wsX00_in⟩, wsX10_in⟩, fun _ h => nomatch h⟩
theorem wsL_law_x0 : ∀ w ∈ (vx_atS RX0 80 "java/lang/IllegalArgumentException" ["java/lang/RuntimeException", "java/lang/Exception"]).filter goodWord, w ∈ lw_tbl := by decide +kernel
theorem wsL_law_x1 : ∀ w ∈ (vx_atS RX0 87 "java/lang/IllegalStateException" ["java/lang/RuntimeException", "java/lang/Exception"]).filter goodWord, w ∈ lw_tbl := by decide +kernel
theorem wsL_law_x2 : ∀ w ∈ (vx_atS RX0 176 "java/lang/IndexOutOfBoundsException" ["java/lang/RuntimeException", "java/lang/Exception"]).filter goodWord, w ∈ lw_tbl := by decide +kernel
theorem wsL_law_in : ∀ w ∈ wsL_law, w ∈ lw_tbl := fun w h => (List.mem_append.mp h).elim (fun h => (List.mem_append.mp h).elim (fun h => (List.mem_append.mp h).elim (fun h => wsL_law_in0 w h) (fun h => wsL_law_x0 w h)) (fun h => wsL_law_x1 w h)) (fun h => wsL_law_x2 w h)
theorem inlX0 : ∀ w ∈ wsX00, w ∈ wsL_law := fun _ h => List.mem_append_left _ (List.mem_append_left _ (List.mem_append_left _ (List.mem_append_left _ (List.mem_append_left _ (List.mem_append_right _ h)))))
theorem inX0 : ∀ w ∈ wsX00, w ∈ lw_tbl := fun w h => wsL_law_in w (inlX0 w h)
theorem inlX1 : ∀ w ∈ wsX10, w ∈ wsL_law := fun _ h => List.mem_append_left _ (List.mem_append_left _ (List.mem_append_left _ (List.mem_append_left _ (List.mem_append_right _ h))))
theorem inX1 : ∀ w ∈ wsX10, w ∈ lw_tbl := fun w h => wsL_law_in w (inlX1 w h)
theorem inJ9 : ∀ w ∈ wsJ90, w ∈ lw_tbl := by decide +kernel
theorem inJ0 : ∀ w ∈ wsJ00, w ∈ lw_tbl := by decide +kernel
abbrev vwCl : List vw_C := [(RX0, TX0, 18), (RX1, TX1, 20)]
end
section
/-! THE FRAMEWORK: one judgement over a pure state. A method's world is a family wf of cell lists over a pure state u; G says: in every heap that holds wf u, with locals L and stack st at pc, the machine comes to Q. -/
abbrev LU : Type := Nat → Nat → Int32
/-- array k replaced -/
def up (u : LU) (k : Nat) (f : Nat → Int32) : LU := fun j => if j = k then f else u j
theorem up_s (u : LU) (k : Nat) (f : Nat → Int32) : up u k f k = f := if_pos rfl
theorem up_n (u : LU) (k : Nat) (f : Nat → Int32) {j : Nat} (h : j ≠ k) : up u k f j = u j := if_neg h
/-- a truth as an int -/
noncomputable def bP (P : Prop) : Int32 := @ite _ P (Classical.propDecidable P) 1 0
theorem bP_t {P : Prop} (h : P) : bP P = 1 := by unfold bP; exact if_pos h
theorem bP_f {P : Prop} (h : ¬ P) : bP P = 0 := by unfold bP; exact if_neg h
theorem bP_0 {P : Prop} : bP P = 0 ↔ ¬ P := ⟨fun h q => by rw [bP_t q] at h; exact absurd h (by decide), bP_f⟩
theorem bP_n0 {P : Prop} : ¬ bP P = 0 ↔ P := ⟨fun h => Classical.byContradiction (fun q => h (bP_f q)), fun q h => by rw [bP_t q] at h; exact absurd h (by decide)⟩
theorem bP_1 {P : Prop} : bP P = 1 ↔ P := ⟨fun h => Classical.byContradiction (fun q => by rw [bP_f q] at h; exact absurd h (by decide)), bP_t⟩
theorem bP_c {P P' : Prop} (h : P ↔ P') : bP P = bP P' := congrArg bP (propext h)
theorem bP_or (P : Prop) : bP P = 0 ∨ bP P = 1 := (Classical.em P).elim (fun h => Or.inr (bP_t h)) (fun h => Or.inl (bP_f h))
theorem bP_ti {P : Prop} : (bP P).toInt = 0 ∧ ¬ P ∨ (bP P).toInt = 1 ∧ P := (Classical.em P).elim (fun h => Or.inr ⟨by rw [bP_t h]; rfl, h⟩) (fun h => Or.inl ⟨by rw [bP_f h]; rfl, h⟩)
theorem bP_nar (P : Prop) : narrow .boolean (.int (bP P)) = .int (bP P) := by rcases bP_or P with h | h <;> rw [h] <;> rfl
theorem bP_vp (P : Prop) : vp_nar .boolean (bP P) = bP P := by rcases bP_or P with h | h <;> rw [h] <;> rfl
/-- what a method's body knows throughout -/
def CX {S : Type} (p : Program) (s : State) (m : MethodId) (args : Array Value) (meth : Method) (c : Code) (D : va_G) (tys : List (ClassId × FieldType)) (A : Nat → Prop) (own : String) (cc : ByteArray) (Ts : List Cond) (nL : Nat) (wf : S → va_W) : Prop :=
  p.tables.exec = Jvm.exec ∧ c.code = cc ∧ c.maxLocals = nL ∧ s.vm.findClass own = some m.cls ∧ (∀ w ∈ Ts, w.before args s = true) ∧ va_K D vwCl tys s ∧ (∀ q, s.heap.size ≤ q → A q) ∧ (∀ u, va_D A (wf u)) ∧ meth.locks = false
def G {S : Type} (p : Program) (l : Launch) (e : Env) (R : Room) (s : State) (m : MethodId) (args : Array Value) (below : List Frame) (meth : Method) (c : Code) (D : va_G) (A : Nat → Prop) (nL : Nat) (wf : S → va_W) (cells slots : Nat) (Q : State → Prop) (u : S) (pc : Nat) (L : List (Nat × Value)) (st : List Value) : Prop :=
  ∀ (H : Heap) (locs : List Loc) (ls : Array Slot), va_P D vwCl (wf u) H → va_S A s.heap H locs → lv_has ls nL L → W p l e R s m args below meth c H locs cells slots Q (F0 m pc ls st)
section GR
variable {S : Type} {p : Program} {l : Launch} {e : Env} {R : Room} {s : State} {m : MethodId} {args : Array Value} {below : List Frame} {meth : Method} {c : Code} {D : va_G} {tys : List (ClassId × FieldType)} {A : Nat → Prop} {own : String} {cc : ByteArray} {Ts : List Cond} {nL : Nat} {wf : S → va_W} {cells slots : Nat} {Q : State → Prop} {u : S} {pc pc' : Nat} {L : List (Nat × Value)} {st : List Value}
theorem g_widen {k n : Nat} (h1 : cells ≤ k) (h2 : slots ≤ n) (kk : G p l e R s m args below meth c D A nL wf k n Q u pc L st) : G p l e R s m args below meth c D A nL wf cells slots Q u pc L st :=
  fun H locs ls hP hS hl => W.widen h1 h2 (kk H locs ls hP hS hl)
theorem g_sub {L' : List (Nat × Value)} (ks : List Nat) (hL : lv_pick L ks = L') (kk : G p l e R s m args below meth c D A nL wf cells slots Q u pc L' st) : G p l e R s m args below meth c D A nL wf cells slots Q u pc L st :=
  fun H locs ls hP hS hl => kk H locs ls hP hS (lv_sub hl ks hL)
theorem g_st {u' : S} (h : u = u') (kk : G p l e R s m args below meth c D A nL wf cells slots Q u' pc L st) : G p l e R s m args below meth c D A nL wf cells slots Q u pc L st := h ▸ kk
theorem g_iconst (C : CX p s m args meth c D tys A own cc Ts nL wf) {n : Int} {v : Int32} (hdg : decode cc pc = .ok (.iconst n, 1)) (hp : pc + 1 = pc') (hv : Int32.ofInt n = v) (kk : G p l e R s m args below meth c D A nL wf cells slots Q u pc' L (.int v :: st)) : G p l e R s m args below meth c D A nL wf cells slots Q u pc L st := by
  subst hp; exact fun H locs ls hP hS hl => lv_iconst C.1 C.2.1 hdg hv (kk H locs ls hP hS hl)
theorem g_bipush (C : CX p s m args meth c D tys A own cc Ts nL wf) {n : Int} {v : Int32} (hdg : decode cc pc = .ok (.bipush n, 2)) (hp : pc + 2 = pc') (hv : (Int8.ofInt n).toInt32 = v) (kk : G p l e R s m args below meth c D A nL wf cells slots Q u pc' L (.int v :: st)) : G p l e R s m args below meth c D A nL wf cells slots Q u pc L st := by
  subst hp; exact fun H locs ls hP hS hl => lv_bipush C.1 C.2.1 hdg hv (kk H locs ls hP hS hl)
theorem g_sipush (C : CX p s m args meth c D tys A own cc Ts nL wf) {n : Int} {v : Int32} (hdg : decode cc pc = .ok (.sipush n, 3)) (hp : pc + 3 = pc') (hv : (Int16.ofInt n).toInt32 = v) (kk : G p l e R s m args below meth c D A nL wf cells slots Q u pc' L (.int v :: st)) : G p l e R s m args below meth c D A nL wf cells slots Q u pc L st := by
  subst hp; exact fun H locs ls hP hS hl => lv_sipush C.1 C.2.1 hdg hv (kk H locs ls hP hS hl)
theorem g_ldc (C : CX p s m args meth c D tys A own cc Ts nL wf) {index : Nat} {v : Int32} (hdg : decode cc pc = .ok (.ldc index, 2)) (hp : pc + 2 = pc') (hc : Cond.constant own index v ∈ Ts) (kk : G p l e R s m args below meth c D A nL wf cells slots Q u pc' L (.int v :: st)) : G p l e R s m args below meth c D A nL wf cells slots Q u pc L st := by
  subst hp; exact fun H locs ls hP hS hl => lv_ldc C.1 C.2.1 C.2.2.2.1 (C.2.2.2.2.1 _ hc) hdg (kk H locs ls hP hS hl)
theorem g_iload_n (C : CX p s m args meth c D tys A own cc Ts nL wf) {k : Fin 4} {i q : Nat} {x : Int32} (hdg : decode cc pc = .ok (.iload_n k, 1)) (hp : pc + 1 = pc') (hi : (k : Nat) = i) (hL : L[q]? = some (i, .int x)) (kk : G p l e R s m args below meth c D A nL wf cells slots Q u pc' L (.int x :: st)) : G p l e R s m args below meth c D A nL wf cells slots Q u pc L st := by
  subst hp; exact fun H locs ls hP hS hl => lv_iload_n C.1 C.2.1 hdg hi (lv_at hl q hL) (kk H locs ls hP hS hl)
theorem g_iload (C : CX p s m args meth c D tys A own cc Ts nL wf) {i q : Nat} {x : Int32} (hdg : decode cc pc = .ok (.iload i, 2)) (hp : pc + 2 = pc') (hL : L[q]? = some (i, .int x)) (kk : G p l e R s m args below meth c D A nL wf cells slots Q u pc' L (.int x :: st)) : G p l e R s m args below meth c D A nL wf cells slots Q u pc L st := by
  subst hp; exact fun H locs ls hP hS hl => lv_iload C.1 C.2.1 hdg (lv_at hl q hL) (kk H locs ls hP hS hl)
theorem g_aload_n (C : CX p s m args meth c D tys A own cc Ts nL wf) {k : Fin 4} {i q : Nat} {x : Nat} (hdg : decode cc pc = .ok (.aload_n k, 1)) (hp : pc + 1 = pc') (hi : (k : Nat) = i) (hL : L[q]? = some (i, .ref x)) (kk : G p l e R s m args below meth c D A nL wf cells slots Q u pc' L (.ref x :: st)) : G p l e R s m args below meth c D A nL wf cells slots Q u pc L st := by
  subst hp; exact fun H locs ls hP hS hl => lv_aload_n C.1 C.2.1 hdg hi (lv_at hl q hL) (kk H locs ls hP hS hl)
theorem g_aload (C : CX p s m args meth c D tys A own cc Ts nL wf) {i q : Nat} {x : Nat} (hdg : decode cc pc = .ok (.aload i, 2)) (hp : pc + 2 = pc') (hL : L[q]? = some (i, .ref x)) (kk : G p l e R s m args below meth c D A nL wf cells slots Q u pc' L (.ref x :: st)) : G p l e R s m args below meth c D A nL wf cells slots Q u pc L st := by
  subst hp; exact fun H locs ls hP hS hl => lv_aload C.1 C.2.1 hdg (lv_at hl q hL) (kk H locs ls hP hS hl)
theorem g_istore_n (C : CX p s m args meth c D tys A own cc Ts nL wf) {k : Fin 4} {i : Nat} {x : Int32} {L' : List (Nat × Value)} (hdg : decode cc pc = .ok (.istore_n k, 1)) (hp : pc + 1 = pc') (hi : (k : Nat) = i) (hn : i < nL) (hl : (i, Value.int x) :: L.filter (fun q => !(q.1 == i) && !(q.1 + 1 == i && q.2.category == 2)) = L') (kk : G p l e R s m args below meth c D A nL wf cells slots Q u pc' L' st) : G p l e R s m args below meth c D A nL wf cells slots Q u pc L (.int x :: st) := by
  subst hp; exact fun H locs ls hP hS h => lv_istore_n C.1 C.2.1 hdg hi h hn hl (fun ls' h' => kk H locs ls' hP hS h')
theorem g_istore (C : CX p s m args meth c D tys A own cc Ts nL wf) {i : Nat} {x : Int32} {L' : List (Nat × Value)} (hdg : decode cc pc = .ok (.istore i, 2)) (hp : pc + 2 = pc') (hn : i < nL) (hl : (i, Value.int x) :: L.filter (fun q => !(q.1 == i) && !(q.1 + 1 == i && q.2.category == 2)) = L') (kk : G p l e R s m args below meth c D A nL wf cells slots Q u pc' L' st) : G p l e R s m args below meth c D A nL wf cells slots Q u pc L (.int x :: st) := by
  subst hp; exact fun H locs ls hP hS h => lv_istore C.1 C.2.1 hdg h hn hl (fun ls' h' => kk H locs ls' hP hS h')
theorem g_astore_n (C : CX p s m args meth c D tys A own cc Ts nL wf) {k : Fin 4} {i : Nat} {x : Nat} {L' : List (Nat × Value)} (hdg : decode cc pc = .ok (.astore_n k, 1)) (hp : pc + 1 = pc') (hi : (k : Nat) = i) (hn : i < nL) (hl : (i, Value.ref x) :: L.filter (fun q => !(q.1 == i) && !(q.1 + 1 == i && q.2.category == 2)) = L') (kk : G p l e R s m args below meth c D A nL wf cells slots Q u pc' L' st) : G p l e R s m args below meth c D A nL wf cells slots Q u pc L (.ref x :: st) := by
  subst hp; exact fun H locs ls hP hS h => lv_astore_n C.1 C.2.1 hdg hi h hn hl (fun ls' h' => kk H locs ls' hP hS h')
theorem g_astore (C : CX p s m args meth c D tys A own cc Ts nL wf) {i : Nat} {x : Nat} {L' : List (Nat × Value)} (hdg : decode cc pc = .ok (.astore i, 2)) (hp : pc + 2 = pc') (hn : i < nL) (hl : (i, Value.ref x) :: L.filter (fun q => !(q.1 == i) && !(q.1 + 1 == i && q.2.category == 2)) = L') (kk : G p l e R s m args below meth c D A nL wf cells slots Q u pc' L' st) : G p l e R s m args below meth c D A nL wf cells slots Q u pc L (.ref x :: st) := by
  subst hp; exact fun H locs ls hP hS h => lv_astore C.1 C.2.1 hdg h hn hl (fun ls' h' => kk H locs ls' hP hS h')
theorem g_iinc (C : CX p s m args meth c D tys A own cc Ts nL wf) {i k : Nat} {n : Int} {x v : Int32} {L' : List (Nat × Value)} (hdg : decode cc pc = .ok (.iinc i n, 3)) (hp : pc + 3 = pc') (hk : L[k]? = some (i, .int x)) (hv : x + Int32.ofInt n = v) (hn : i < nL) (hl : (i, Value.int v) :: L.filter (fun q => !(q.1 == i) && !(q.1 + 1 == i && q.2.category == 2)) = L') (kk : G p l e R s m args below meth c D A nL wf cells slots Q u pc' L' st) : G p l e R s m args below meth c D A nL wf cells slots Q u pc L st := by
  subst hp; exact fun H locs ls hP hS h => lv_iinc C.1 C.2.1 hdg h hk hv hn hl (fun ls' h' => kk H locs ls' hP hS h')
theorem g_iadd (C : CX p s m args meth c D tys A own cc Ts nL wf) {x y : Int32} (hdg : decode cc pc = .ok (.iadd, 1)) (hp : pc + 1 = pc') (kk : G p l e R s m args below meth c D A nL wf cells slots Q u pc' L (.int (x + y) :: st)) : G p l e R s m args below meth c D A nL wf cells slots Q u pc L (.int y :: .int x :: st) := by
  subst hp; exact fun H locs ls hP hS hl => lv_iadd C.1 C.2.1 hdg (kk H locs ls hP hS hl)
theorem g_isub (C : CX p s m args meth c D tys A own cc Ts nL wf) {x y : Int32} (hdg : decode cc pc = .ok (.isub, 1)) (hp : pc + 1 = pc') (kk : G p l e R s m args below meth c D A nL wf cells slots Q u pc' L (.int (x - y) :: st)) : G p l e R s m args below meth c D A nL wf cells slots Q u pc L (.int y :: .int x :: st) := by
  subst hp; exact fun H locs ls hP hS hl => lv_isub C.1 C.2.1 hdg (kk H locs ls hP hS hl)
theorem g_imul (C : CX p s m args meth c D tys A own cc Ts nL wf) {x y : Int32} (hdg : decode cc pc = .ok (.imul, 1)) (hp : pc + 1 = pc') (kk : G p l e R s m args below meth c D A nL wf cells slots Q u pc' L (.int (x * y) :: st)) : G p l e R s m args below meth c D A nL wf cells slots Q u pc L (.int y :: .int x :: st) := by
  subst hp; exact fun H locs ls hP hS hl => lv_imul C.1 C.2.1 hdg (kk H locs ls hP hS hl)
theorem g_iand (C : CX p s m args meth c D tys A own cc Ts nL wf) {x y : Int32} (hdg : decode cc pc = .ok (.iand, 1)) (hp : pc + 1 = pc') (kk : G p l e R s m args below meth c D A nL wf cells slots Q u pc' L (.int (x &&& y) :: st)) : G p l e R s m args below meth c D A nL wf cells slots Q u pc L (.int y :: .int x :: st) := by
  subst hp; exact fun H locs ls hP hS hl => lv_iand C.1 C.2.1 hdg (kk H locs ls hP hS hl)
theorem g_dup (C : CX p s m args meth c D tys A own cc Ts nL wf) {v : Value} (hdg : decode cc pc = .ok (.dup, 1)) (hp : pc + 1 = pc') (hv : v.category = 1) (kk : G p l e R s m args below meth c D A nL wf cells slots Q u pc' L (v :: v :: st)) : G p l e R s m args below meth c D A nL wf cells slots Q u pc L (v :: st) := by
  subst hp; exact fun H locs ls hP hS hl => lv_dup C.1 C.2.1 hdg hv (kk H locs ls hP hS hl)
theorem g_dup2 (C : CX p s m args meth c D tys A own cc Ts nL wf) {v w : Value} (hdg : decode cc pc = .ok (.dup2, 1)) (hp : pc + 1 = pc') (hv : v.category = 1) (hw : w.category = 1) (kk : G p l e R s m args below meth c D A nL wf cells slots Q u pc' L (v :: w :: v :: w :: st)) : G p l e R s m args below meth c D A nL wf cells slots Q u pc L (v :: w :: st) := by
  subst hp; exact fun H locs ls hP hS hl => lv_dup2_11 C.1 C.2.1 hdg hv hw (kk H locs ls hP hS hl)
theorem g_goto (C : CX p s m args meth c D tys A own cc Ts nL wf) {off : Int} {tgt : Nat} (hdg : decode cc pc = .ok (.goto off, 3)) (ht : (pc : Int) + off = (tgt : Int)) (kk : G p l e R s m args below meth c D A nL wf cells slots Q u tgt L st) : G p l e R s m args below meth c D A nL wf cells slots Q u pc L st :=
  fun H locs ls hP hS hl => lv_goto C.1 C.2.1 hdg ht (kk H locs ls hP hS hl)
theorem ti_0 : (0 : Int32).toInt = 0 := Int32.toInt_zero
theorem ii_eq (x : Int32) : (x = 0) ↔ (x.toInt = 0) := by
  have h := @Int32.toInt_inj x 0
  rw [ti_0] at h
  exact h.symm
theorem ii_ne (x : Int32) : (¬ x = 0) ↔ (¬ x.toInt = 0) := by
  have h := @Int32.toInt_inj x 0
  rw [ti_0] at h
  exact not_congr h.symm
theorem ii_lt (x : Int32) : (x < 0) ↔ (x.toInt < 0) := by
  have h := @Int32.lt_iff_toInt_lt x 0
  rw [ti_0] at h
  exact h
theorem ii_ge (x : Int32) : (0 ≤ x) ↔ (0 ≤ x.toInt) := by
  have h := @Int32.le_iff_toInt_le 0 x
  rw [ti_0] at h
  exact h
theorem ii_gt (x : Int32) : (0 < x) ↔ (0 < x.toInt) := by
  have h := @Int32.lt_iff_toInt_lt 0 x
  rw [ti_0] at h
  exact h
theorem ii_le (x : Int32) : (x ≤ 0) ↔ (x.toInt ≤ 0) := by
  have h := @Int32.le_iff_toInt_le x 0
  rw [ti_0] at h
  exact h
theorem cc_eq (x y : Int32) : (x = y) ↔ (x.toInt = y.toInt) := Int32.toInt_inj.symm
theorem cc_ne (x y : Int32) : (¬ x = y) ↔ (¬ x.toInt = y.toInt) := not_congr Int32.toInt_inj.symm
theorem cc_lt (x y : Int32) : (x < y) ↔ (x.toInt < y.toInt) := Int32.lt_iff_toInt_lt
theorem cc_ge (x y : Int32) : (y ≤ x) ↔ (y.toInt ≤ x.toInt) := Int32.le_iff_toInt_le
theorem cc_gt (x y : Int32) : (y < x) ↔ (y.toInt < x.toInt) := Int32.lt_iff_toInt_lt
theorem cc_le (x y : Int32) : (x ≤ y) ↔ (x.toInt ≤ y.toInt) := Int32.le_iff_toInt_le
theorem g_if_eq (C : CX p s m args meth c D tys A own cc Ts nL wf) {x : Int32} {off : Int} {tgt : Nat} (hdg : decode cc pc = .ok (.ifCond .eq off, 3)) (hp : pc + 3 = pc') (ht : (pc : Int) + off = (tgt : Int)) (kt : x.toInt = 0 → G p l e R s m args below meth c D A nL wf cells slots Q u tgt L st) (kf : ¬ (x.toInt = 0) → G p l e R s m args below meth c D A nL wf cells slots Q u pc' L st) : G p l e R s m args below meth c D A nL wf cells slots Q u pc L (.int x :: st) := by
  subst hp; exact fun H locs ls hP hS hl => lv_if_eq C.1 C.2.1 hdg ht (fun h => kt ((ii_eq x).mp h) H locs ls hP hS hl) (fun h => kf (fun h9 => h ((ii_eq x).mpr h9)) H locs ls hP hS hl)
theorem g_if_ne (C : CX p s m args meth c D tys A own cc Ts nL wf) {x : Int32} {off : Int} {tgt : Nat} (hdg : decode cc pc = .ok (.ifCond .ne off, 3)) (hp : pc + 3 = pc') (ht : (pc : Int) + off = (tgt : Int)) (kt : ¬ x.toInt = 0 → G p l e R s m args below meth c D A nL wf cells slots Q u tgt L st) (kf : x.toInt = 0 → G p l e R s m args below meth c D A nL wf cells slots Q u pc' L st) : G p l e R s m args below meth c D A nL wf cells slots Q u pc L (.int x :: st) := by
  subst hp; exact fun H locs ls hP hS hl => lv_if_ne C.1 C.2.1 hdg ht (fun h => kt ((ii_ne x).mp h) H locs ls hP hS hl) (fun h => kf ((ii_eq x).mp h) H locs ls hP hS hl)
theorem g_if_lt (C : CX p s m args meth c D tys A own cc Ts nL wf) {x : Int32} {off : Int} {tgt : Nat} (hdg : decode cc pc = .ok (.ifCond .lt off, 3)) (hp : pc + 3 = pc') (ht : (pc : Int) + off = (tgt : Int)) (kt : x.toInt < 0 → G p l e R s m args below meth c D A nL wf cells slots Q u tgt L st) (kf : ¬ (x.toInt < 0) → G p l e R s m args below meth c D A nL wf cells slots Q u pc' L st) : G p l e R s m args below meth c D A nL wf cells slots Q u pc L (.int x :: st) := by
  subst hp; exact fun H locs ls hP hS hl => lv_if_lt C.1 C.2.1 hdg ht (fun h => kt ((ii_lt x).mp h) H locs ls hP hS hl) (fun h => kf (fun h9 => h ((ii_lt x).mpr h9)) H locs ls hP hS hl)
theorem g_if_ge (C : CX p s m args meth c D tys A own cc Ts nL wf) {x : Int32} {off : Int} {tgt : Nat} (hdg : decode cc pc = .ok (.ifCond .ge off, 3)) (hp : pc + 3 = pc') (ht : (pc : Int) + off = (tgt : Int)) (kt : 0 ≤ x.toInt → G p l e R s m args below meth c D A nL wf cells slots Q u tgt L st) (kf : ¬ (0 ≤ x.toInt) → G p l e R s m args below meth c D A nL wf cells slots Q u pc' L st) : G p l e R s m args below meth c D A nL wf cells slots Q u pc L (.int x :: st) := by
  subst hp; exact fun H locs ls hP hS hl => lv_if_ge C.1 C.2.1 hdg ht (fun h => kt ((ii_ge x).mp h) H locs ls hP hS hl) (fun h => kf (fun h9 => h ((ii_ge x).mpr h9)) H locs ls hP hS hl)
theorem g_if_gt (C : CX p s m args meth c D tys A own cc Ts nL wf) {x : Int32} {off : Int} {tgt : Nat} (hdg : decode cc pc = .ok (.ifCond .gt off, 3)) (hp : pc + 3 = pc') (ht : (pc : Int) + off = (tgt : Int)) (kt : 0 < x.toInt → G p l e R s m args below meth c D A nL wf cells slots Q u tgt L st) (kf : ¬ (0 < x.toInt) → G p l e R s m args below meth c D A nL wf cells slots Q u pc' L st) : G p l e R s m args below meth c D A nL wf cells slots Q u pc L (.int x :: st) := by
  subst hp; exact fun H locs ls hP hS hl => lv_if_gt C.1 C.2.1 hdg ht (fun h => kt ((ii_gt x).mp h) H locs ls hP hS hl) (fun h => kf (fun h9 => h ((ii_gt x).mpr h9)) H locs ls hP hS hl)
theorem g_if_le (C : CX p s m args meth c D tys A own cc Ts nL wf) {x : Int32} {off : Int} {tgt : Nat} (hdg : decode cc pc = .ok (.ifCond .le off, 3)) (hp : pc + 3 = pc') (ht : (pc : Int) + off = (tgt : Int)) (kt : x.toInt ≤ 0 → G p l e R s m args below meth c D A nL wf cells slots Q u tgt L st) (kf : ¬ (x.toInt ≤ 0) → G p l e R s m args below meth c D A nL wf cells slots Q u pc' L st) : G p l e R s m args below meth c D A nL wf cells slots Q u pc L (.int x :: st) := by
  subst hp; exact fun H locs ls hP hS hl => lv_if_le C.1 C.2.1 hdg ht (fun h => kt ((ii_le x).mp h) H locs ls hP hS hl) (fun h => kf (fun h9 => h ((ii_le x).mpr h9)) H locs ls hP hS hl)
theorem g_icmp_eq (C : CX p s m args meth c D tys A own cc Ts nL wf) {x y : Int32} {off : Int} {tgt : Nat} (hdg : decode cc pc = .ok (.if_icmp .eq off, 3)) (hp : pc + 3 = pc') (ht : (pc : Int) + off = (tgt : Int)) (kt : x.toInt = y.toInt → G p l e R s m args below meth c D A nL wf cells slots Q u tgt L st) (kf : ¬ (x.toInt = y.toInt) → G p l e R s m args below meth c D A nL wf cells slots Q u pc' L st) : G p l e R s m args below meth c D A nL wf cells slots Q u pc L (.int y :: .int x :: st) := by
  subst hp; exact fun H locs ls hP hS hl => lv_icmp_eq C.1 C.2.1 hdg ht (fun h => kt ((cc_eq x y).mp h) H locs ls hP hS hl) (fun h => kf (fun h9 => h ((cc_eq x y).mpr h9)) H locs ls hP hS hl)
theorem g_icmp_ne (C : CX p s m args meth c D tys A own cc Ts nL wf) {x y : Int32} {off : Int} {tgt : Nat} (hdg : decode cc pc = .ok (.if_icmp .ne off, 3)) (hp : pc + 3 = pc') (ht : (pc : Int) + off = (tgt : Int)) (kt : ¬ x.toInt = y.toInt → G p l e R s m args below meth c D A nL wf cells slots Q u tgt L st) (kf : x.toInt = y.toInt → G p l e R s m args below meth c D A nL wf cells slots Q u pc' L st) : G p l e R s m args below meth c D A nL wf cells slots Q u pc L (.int y :: .int x :: st) := by
  subst hp; exact fun H locs ls hP hS hl => lv_icmp_ne C.1 C.2.1 hdg ht (fun h => kt ((cc_ne x y).mp h) H locs ls hP hS hl) (fun h => kf ((cc_eq x y).mp h) H locs ls hP hS hl)
theorem g_icmp_lt (C : CX p s m args meth c D tys A own cc Ts nL wf) {x y : Int32} {off : Int} {tgt : Nat} (hdg : decode cc pc = .ok (.if_icmp .lt off, 3)) (hp : pc + 3 = pc') (ht : (pc : Int) + off = (tgt : Int)) (kt : x.toInt < y.toInt → G p l e R s m args below meth c D A nL wf cells slots Q u tgt L st) (kf : ¬ (x.toInt < y.toInt) → G p l e R s m args below meth c D A nL wf cells slots Q u pc' L st) : G p l e R s m args below meth c D A nL wf cells slots Q u pc L (.int y :: .int x :: st) := by
  subst hp; exact fun H locs ls hP hS hl => lv_icmp_lt C.1 C.2.1 hdg ht (fun h => kt ((cc_lt x y).mp h) H locs ls hP hS hl) (fun h => kf (fun h9 => h ((cc_lt x y).mpr h9)) H locs ls hP hS hl)
theorem g_icmp_ge (C : CX p s m args meth c D tys A own cc Ts nL wf) {x y : Int32} {off : Int} {tgt : Nat} (hdg : decode cc pc = .ok (.if_icmp .ge off, 3)) (hp : pc + 3 = pc') (ht : (pc : Int) + off = (tgt : Int)) (kt : y.toInt ≤ x.toInt → G p l e R s m args below meth c D A nL wf cells slots Q u tgt L st) (kf : ¬ (y.toInt ≤ x.toInt) → G p l e R s m args below meth c D A nL wf cells slots Q u pc' L st) : G p l e R s m args below meth c D A nL wf cells slots Q u pc L (.int y :: .int x :: st) := by
  subst hp; exact fun H locs ls hP hS hl => lv_icmp_ge C.1 C.2.1 hdg ht (fun h => kt ((cc_ge x y).mp h) H locs ls hP hS hl) (fun h => kf (fun h9 => h ((cc_ge x y).mpr h9)) H locs ls hP hS hl)
theorem g_icmp_gt (C : CX p s m args meth c D tys A own cc Ts nL wf) {x y : Int32} {off : Int} {tgt : Nat} (hdg : decode cc pc = .ok (.if_icmp .gt off, 3)) (hp : pc + 3 = pc') (ht : (pc : Int) + off = (tgt : Int)) (kt : y.toInt < x.toInt → G p l e R s m args below meth c D A nL wf cells slots Q u tgt L st) (kf : ¬ (y.toInt < x.toInt) → G p l e R s m args below meth c D A nL wf cells slots Q u pc' L st) : G p l e R s m args below meth c D A nL wf cells slots Q u pc L (.int y :: .int x :: st) := by
  subst hp; exact fun H locs ls hP hS hl => lv_icmp_gt C.1 C.2.1 hdg ht (fun h => kt ((cc_gt x y).mp h) H locs ls hP hS hl) (fun h => kf (fun h9 => h ((cc_gt x y).mpr h9)) H locs ls hP hS hl)
theorem g_icmp_le (C : CX p s m args meth c D tys A own cc Ts nL wf) {x y : Int32} {off : Int} {tgt : Nat} (hdg : decode cc pc = .ok (.if_icmp .le off, 3)) (hp : pc + 3 = pc') (ht : (pc : Int) + off = (tgt : Int)) (kt : x.toInt ≤ y.toInt → G p l e R s m args below meth c D A nL wf cells slots Q u tgt L st) (kf : ¬ (x.toInt ≤ y.toInt) → G p l e R s m args below meth c D A nL wf cells slots Q u pc' L st) : G p l e R s m args below meth c D A nL wf cells slots Q u pc L (.int y :: .int x :: st) := by
  subst hp; exact fun H locs ls hP hS hl => lv_icmp_le C.1 C.2.1 hdg ht (fun h => kt ((cc_le x y).mp h) H locs ls hP hS hl) (fun h => kf (fun h9 => h ((cc_le x y).mpr h9)) H locs ls hP hS hl)
theorem g_ifP_eq (C : CX p s m args meth c D tys A own cc Ts nL wf) {P : Prop} {off : Int} {tgt : Nat} (hdg : decode cc pc = .ok (.ifCond .eq off, 3)) (hp : pc + 3 = pc') (ht : (pc : Int) + off = (tgt : Int)) (kt : ¬ P → G p l e R s m args below meth c D A nL wf cells slots Q u tgt L st) (kf : P → G p l e R s m args below meth c D A nL wf cells slots Q u pc' L st) : G p l e R s m args below meth c D A nL wf cells slots Q u pc L (.int (bP P) :: st) := by
  subst hp; exact fun H locs ls hP hS hl => lv_if_eq C.1 C.2.1 hdg ht (fun h => kt (bP_0.mp h) H locs ls hP hS hl) (fun h => kf (bP_n0.mp h) H locs ls hP hS hl)
theorem g_ifP_ne (C : CX p s m args meth c D tys A own cc Ts nL wf) {P : Prop} {off : Int} {tgt : Nat} (hdg : decode cc pc = .ok (.ifCond .ne off, 3)) (hp : pc + 3 = pc') (ht : (pc : Int) + off = (tgt : Int)) (kt : P → G p l e R s m args below meth c D A nL wf cells slots Q u tgt L st) (kf : ¬ P → G p l e R s m args below meth c D A nL wf cells slots Q u pc' L st) : G p l e R s m args below meth c D A nL wf cells slots Q u pc L (.int (bP P) :: st) := by
  subst hp; exact fun H locs ls hP hS hl => lv_if_ne C.1 C.2.1 hdg ht (fun h => kt (bP_n0.mp h) H locs ls hP hS hl) (fun h => kf (bP_0.mp h) H locs ls hP hS hl)
theorem g_get (C : CX p s m args meth c D tys A own cc Ts nL wf) {ref Cn : String} {T : u_T} {N ci index : Nat} (hF : ∀ w ∈ u_ws Cn T N, w.before args s = true) (q0 : Nat) {b : Nat} {fs : List Value} (he : (wf u)[q0]? = some (b, .inr (ci, fs))) (hc : vwCl[ci]? = some (Cn, T, N)) (k : Nat) (hk : k < N) (hlink : Cond.fieldLink own index ref (T k).2.1 (T k).2.2.1 ∈ Ts) (hsame : (T k).1 = ref) {v : Value} (hv : fs[k]? = some v) (hdg : decode cc pc = .ok (.getfield index, 3)) (hp : pc + 3 = pc')
    (kk : G p l e R s m args below meth c D A nL wf cells slots Q u pc' L (v :: st)) : G p l e R s m args below meth c D A nL wf cells slots Q u pc L (.ref b :: st) := by
  subst hp; subst hsame
  exact fun H locs ls hP hS hl => va_get C.1 C.2.1 (Ts := u_ws Cn T N) hF (fun _ h => h) C.2.2.2.1 C.2.2.2.2.2.1 hP q0 he hc k hk (C.2.2.2.2.1 _ hlink) (fun _ h => h) hv hdg (kk H locs ls hP hS hl)
theorem g_putI (C : CX p s m args meth c D tys A own cc Ts nL wf) {ref Cn : String} {T : u_T} {N ci index : Nat} (hF : ∀ w ∈ u_ws Cn T N, w.before args s = true) (ty0 : Nat → FieldType) (hty : ∀ k, k < N → parseFieldDescriptor (T k).2.2.1 = some (ty0 k)) (hnm : ∀ a, a < N → ∀ b, b < N → a ≠ b → (T a).2.1 ≠ (T b).2.1) (q0 : Nat) {b : Nat} {fs : List Value} (he : (wf u)[q0]? = some (b, .inr (ci, fs))) (hc : vwCl[ci]? = some (Cn, T, N)) (k : Nat) (hk : k < N) (hlink : Cond.fieldLink own index ref (T k).2.1 (T k).2.2.1 ∈ Ts) (hsame : (T k).1 = ref) (hfin : (T k).2.2.2 = false) (hd : parseFieldDescriptor (T k).2.2.1 = some .int) {x : Int32} (hl0 : k < fs.length) (hdg : decode cc pc = .ok (.putfield index, 3)) (hp : pc + 3 = pc') {u' : S} (hset : (wf u).set q0 (b, .inr (ci, fs.set k (.int x))) = wf u')
    (kk : G p l e R s m args below meth c D A nL wf cells slots Q u' pc' L st) : G p l e R s m args below meth c D A nL wf cells slots Q u pc L (.int x :: .ref b :: st) := by
  subst hp; subst hsame
  exact fun H locs ls hP hS hl => va_put C.1 C.2.1 (Ts := u_ws Cn T N) hF (fun _ h => h) ty0 hty hnm C.2.2.2.1 C.2.2.2.2.2.1 hP (C.2.2.2.2.2.2.2.1 u) hS q0 he hc k hk (C.2.2.2.2.1 _ hlink) (fun _ h => h) hfin hd rfl rfl hl0 hdg (fun H1 locs1 hP1 _ hS1 => kk H1 locs1 ls (hset ▸ hP1) hS1 hl)
theorem g_iald (C : CX p s m args meth c D tys A own cc Ts nL wf) (q0 t0 : Nat) {b n : Nat} {cA : ClassId} {f : Nat → Int32} (he : (wf u)[q0]? = some (b, .inl (cA, n, .inl f))) (ht : tys[t0]? = some (cA, .int)) {i : Int32} {k : Nat} (hin : vp_in i n) (hk : i.toNatClampNeg = k) (hdg : decode cc pc = .ok (.iaload, 1)) (hp : pc + 1 = pc')
    (kk : G p l e R s m args below meth c D A nL wf cells slots Q u pc' L (.int (f k) :: st)) : G p l e R s m args below meth c D A nL wf cells slots Q u pc L (.int i :: .ref b :: st) := by
  subst hp; subst hk; exact fun H locs ls hP hS hl => va_iald C.1 C.2.1 C.2.2.2.2.2.1 hP q0 t0 he ht hin hdg (kk H locs ls hP hS hl)
theorem g_zald (C : CX p s m args meth c D tys A own cc Ts nL wf) (q0 t0 : Nat) {b n : Nat} {cA : ClassId} {f : Nat → Int32} (he : (wf u)[q0]? = some (b, .inl (cA, n, .inl f))) (ht : tys[t0]? = some (cA, .boolean)) {i : Int32} {k : Nat} (hin : vp_in i n) (hk : i.toNatClampNeg = k) (hdg : decode cc pc = .ok (.baload, 1)) (hp : pc + 1 = pc')
    (kk : G p l e R s m args below meth c D A nL wf cells slots Q u pc' L (.int (f k) :: st)) : G p l e R s m args below meth c D A nL wf cells slots Q u pc L (.int i :: .ref b :: st) := by
  subst hp; subst hk; exact fun H locs ls hP hS hl => va_zald C.1 C.2.1 C.2.2.2.2.2.1 hP q0 t0 he ht hin hdg (kk H locs ls hP hS hl)
theorem g_iast (C : CX p s m args meth c D tys A own cc Ts nL wf) (q0 t0 : Nat) {b n : Nat} {cA : ClassId} {f : Nat → Int32} (he : (wf u)[q0]? = some (b, .inl (cA, n, .inl f))) (ht : tys[t0]? = some (cA, .int)) {i x : Int32} {k : Nat} (hin : vp_in i n) (hk : i.toNatClampNeg = k) (hdg : decode cc pc = .ok (.iastore, 1)) (hp : pc + 1 = pc') {u' : S} (hset : (wf u).set q0 (b, .inl (cA, n, .inl (upd f k x))) = wf u')
    (kk : G p l e R s m args below meth c D A nL wf cells slots Q u' pc' L st) : G p l e R s m args below meth c D A nL wf cells slots Q u pc L (.int x :: .int i :: .ref b :: st) := by
  subst hp; subst hk; exact fun H locs ls hP hS hl => va_iast C.1 C.2.1 C.2.2.2.2.2.1 hP (C.2.2.2.2.2.2.2.1 u) hS q0 t0 he ht hin hdg (fun H1 locs1 hP1 _ hS1 => kk H1 locs1 ls (hset ▸ hP1) hS1 hl)
theorem g_zast (C : CX p s m args meth c D tys A own cc Ts nL wf) (q0 t0 : Nat) {b n : Nat} {cA : ClassId} {f : Nat → Int32} (he : (wf u)[q0]? = some (b, .inl (cA, n, .inl f))) (ht : tys[t0]? = some (cA, .boolean)) {i x : Int32} (hx : vp_nar .boolean x = x) {k : Nat} (hin : vp_in i n) (hk : i.toNatClampNeg = k) (hdg : decode cc pc = .ok (.bastore, 1)) (hp : pc + 1 = pc') {u' : S} (hset : (wf u).set q0 (b, .inl (cA, n, .inl (upd f k x))) = wf u')
    (kk : G p l e R s m args below meth c D A nL wf cells slots Q u' pc' L st) : G p l e R s m args below meth c D A nL wf cells slots Q u pc L (.int x :: .int i :: .ref b :: st) := by
  subst hp; subst hk; exact fun H locs ls hP hS hl => va_zast C.1 C.2.1 C.2.2.2.2.2.1 hP (C.2.2.2.2.2.2.2.1 u) hS q0 t0 he ht hin hdg (fun H1 locs1 hP1 _ hS1 => kk H1 locs1 ls (hset ▸ (hx ▸ hP1)) hS1 hl)
theorem g_aald (C : CX p s m args meth c D tys A own cc Ts nL wf) (q0 t0 : Nat) {b n : Nat} {cA : ClassId} {ty : FieldType} {f : Nat → Option Nat} (he : (wf u)[q0]? = some (b, .inl (cA, n, .inr (.inr (.inr (.inr f)))))) (ht : tys[t0]? = some (cA, .array ty)) {i : Int32} {x : Nat} (hin : vp_in i n) (hf : f i.toNatClampNeg = some x) (hdg : decode cc pc = .ok (.aaload, 1)) (hp : pc + 1 = pc')
    (kk : G p l e R s m args below meth c D A nL wf cells slots Q u pc' L (.ref x :: st)) : G p l e R s m args below meth c D A nL wf cells slots Q u pc L (.int i :: .ref b :: st) := by
  subst hp
  intro H locs ls hP hS hl
  have hlt : i.toNatClampNeg < n := Nat.not_le.mp fun q => hin (Or.inr q)
  refine W.aald (v := va_rf (f i.toNatClampNeg)) (ty := .array ty) C.1 C.2.1 (hP q0 _ he) ((C.2.2.2.2.2.1.2 t0 _ ht).1 n (fun j => va_rf (f j))) rfl (fun q => by cases q) (by show ¬ (i < 0 ∨ (arrV _ _ _).slots.size ≤ _); rw [arrV_size]; exact hin) (by show (arrV _ _ _).slots[_]? = _; rw [arrV_read _ _ hlt]) rfl rfl hdg ?_
  rw [hf]
  exact kk H locs ls hP hS hl
end GR
/-- the statics and texts that a throw of the class uses -/
def EV (A : Nat → Prop) (U : State) (H : Heap) (tx : List (Nat × String)) : Prop := vx_Zq Bundle.tN "UNASSIGNED_STACK" Bundle.steD A U H ∧ vx_Zq Bundle.tN "SUPPRESSED_SENTINEL" Bundle.listD A U H ∧ ∀ q ∈ tx, ∃ sa, vk_R RX0 q.1 q.2 sa U
theorem EV.warm {A : Nat → Prop} {s U : State} {H : Heap} {tx : List (Nat × String)} (hW : s.WarmedH U.vm) (h : EV A s H tx) : EV A U H tx :=
  ⟨h.1.moved hW.alike, h.2.1.moved hW.alike, fun q hq => by obtain ⟨sa, h1⟩ := h.2.2 q hq; exact ⟨sa, vk_R.warm hW h1⟩⟩
theorem EV.same {A : Nat → Prop} {s U : State} {H : Heap} {tx : List (Nat × String)} (hv : U.vm = s.vm) (h : EV A s H tx) : EV A U H tx :=
  ⟨h.1.moved (by rw [hv]; exact Vm.Alike.refl _), h.2.1.moved (by rw [hv]; exact Vm.Alike.refl _), fun q hq => by obtain ⟨sa, h1⟩ := h.2.2 q hq; exact ⟨sa, vk_R.same hv h1⟩⟩
theorem EV.kept {A : Nat → Prop} {U : State} {H H1 : Heap} {tx : List (Nat × String)} (h : EV A U H tx) (hq : ∀ a : Nat, a < H.size → ¬ A a → H1[a]? = H[a]?) : EV A U H1 tx := ⟨h.1.kept hq, h.2.1.kept hq, h.2.2⟩
theorem EV.narrow {A B : Nat → Prop} {U : State} {H : Heap} {tx : List (Nat × String)} (h : EV A U H tx) (hAB : ∀ q, B q → A q) : EV B U H tx := ⟨h.1.narrow hAB, h.2.1.narrow hAB, h.2.2⟩
/-- a contract's start and end -/
def KB {S : Type} (D : va_G) (tys : List (ClassId × FieldType)) (wf : S → va_W) (u : S) (sz : Nat) : State → Prop := fun U => U.heap.size = sz ∧ va_P D vwCl (wf u) U.heap ∧ va_K D vwCl tys U ∧ va_D (fun _ => True) (wf u)
def KE {S : Type} (D : va_G) (tys : List (ClassId × FieldType)) (wf : S → va_W) (u : S) (t : State) : Prop := va_P D vwCl (wf u) t.heap ∧ va_K D vwCl tys t
def KI {S : Type} (l : Launch) (y : MethodName) (ws : List Cond) (rm : Room) (D : va_G) (tys : List (ClassId × FieldType)) (wf : S → va_W) (As : List Value) (u : S) (post : Int32 → S → Prop) : Prop :=
  ∀ sz, Met l y ws rm (va_Pc As (KB D tys wf u sz)) (va_Qi post (KE D tys wf) (va_A (wf u) sz)) rm.cells rm.slots (va_A (wf u) sz)
def KV {S : Type} (l : Launch) (y : MethodName) (ws : List Cond) (rm : Room) (D : va_G) (tys : List (ClassId × FieldType)) (wf : S → va_W) (As : List Value) (u : S) (post : S → Prop) : Prop :=
  ∀ sz, Met l y ws rm (va_Pc As (KB D tys wf u sz)) (va_Qv post (KE D tys wf) (va_A (wf u) sz)) rm.cells rm.slots (va_A (wf u) sz)
def KX {S : Type} (D : va_G) (tys : List (ClassId × FieldType)) (wf : S → va_W) (u : S) (xp : String → Prop) (A : Nat → Prop) : String → State → State → Prop := vx_X (fun u' : S => u' = u) (fun E u' t => xp E ∧ KE D tys wf u' t) A
def XI {S : Type} (l : Launch) (y : MethodName) (ws : List Cond) (rm : Room) (D : va_G) (tys : List (ClassId × FieldType)) (tx : List (Nat × String)) (wf : S → va_W) (As : List Value) (u : S) (post : Int32 → S → Prop) (xp : String → Prop) : Prop :=
  ∀ sz, vx_Met l y ws rm (va_Pc As (fun U => KB D tys wf u sz U ∧ EV (va_A (wf u) sz) U U.heap tx)) (va_Qi post (KE D tys wf) (va_A (wf u) sz)) (KX D tys wf u xp (va_A (wf u) sz)) rm.cells rm.slots (va_A (wf u) sz)
def XV {S : Type} (l : Launch) (y : MethodName) (ws : List Cond) (rm : Room) (D : va_G) (tys : List (ClassId × FieldType)) (tx : List (Nat × String)) (wf : S → va_W) (As : List Value) (u : S) (post : S → Prop) (xp : String → Prop) : Prop :=
  ∀ sz, vx_Met l y ws rm (va_Pc As (fun U => KB D tys wf u sz U ∧ EV (va_A (wf u) sz) U U.heap tx)) (va_Qv post (KE D tys wf) (va_A (wf u) sz)) (KX D tys wf u xp (va_A (wf u) sz)) rm.cells rm.slots (va_A (wf u) sz)
theorem KB.blind {S : Type} {D : va_G} {tys : List (ClassId × FieldType)} {wf : S → va_W} {u : S} {sz : Nat} {As : List Value} : FrameBlind (va_Pc As (KB D tys wf u sz)) := fun a U g mk q => by
  obtain ⟨q0, q1, q2, q3, q4⟩ := q
  exact ⟨q0, q1, q2, va_K.moved (u := U) (U := U.calling g mk a) (Vm.Alike.refl U.vm) q3, q4⟩
theorem KB.blindX {S : Type} {D : va_G} {tys : List (ClassId × FieldType)} {tx : List (Nat × String)} {wf : S → va_W} {u : S} {sz : Nat} {As : List Value} {A : Nat → Prop} : FrameBlind (va_Pc As (fun U => KB D tys wf u sz U ∧ EV A U U.heap tx)) := fun a U g mk q => by
  obtain ⟨q0, ⟨q1, q2, q3, q4⟩, q5⟩ := q
  exact ⟨q0, ⟨q1, q2, va_K.moved (u := U) (U := U.calling g mk a) (Vm.Alike.refl U.vm) q3, q4⟩, EV.same (s := U) (U := U.calling g mk a) rfl q5⟩
section GC
variable {S : Type} {p : Program} {l : Launch} {e : Env} {R : Room} {s : State} {m : MethodId} {args : Array Value} {below : List Frame} {meth : Method} {c : Code} {D : va_G} {tys : List (ClassId × FieldType)} {A : Nat → Prop} {own : String} {cc : ByteArray} {Ts : List Cond} {nL : Nat} {wf : S → va_W} {cells slots cells' slots' : Nat} {Q : State → Prop} {u : S} {pc pc' : Nat} {L : List (Nat × Value)} {st st0 As : List Value} {tx : List (Nat × String)}
variable {y : MethodName} {ws ws' : List Cond} {rm : Room} {index maxL n b : Nat} {bytes : ByteArray} {ret : Option FieldType} {Cn : String} {posti : Int32 → S → Prop} {postv : S → Prop} {xp : String → Prop}
theorem cx_A (C : CX p s m args meth c D tys A own cc Ts nL wf) {H : Heap} {locs : List Loc} (hS : va_S A s.heap H locs) : ∀ q, va_A (wf u) H.size q → A q := by
  intro q h
  rcases h with ⟨k, e, h⟩ | h
  · exact (C.2.2.2.2.2.2.2.1 u).2 k _ h
  · exact C.2.2.2.2.2.2.1 q (Nat.le_trans hS.1 h)
theorem cx_EV (C : CX p s m args meth c D tys A own cc Ts nL wf) (hE : EV A s s.heap tx) {H : Heap} {locs : List Loc} (hS : va_S A s.heap H locs) {U : State} (hU : U.heap = H) (hW : s.WarmedH U.vm) : EV (va_A (wf u) H.size) U U.heap tx := by
  rw [hU]
  exact EV.warm hW ((hE.kept (fun a h1 h2 => hS.2.1 a h1 h2)).narrow (cx_A C hS))
theorem cx_fix (C : CX p s m args meth c D tys A own cc Ts nL wf) : CallFix p m c cc nL s args Ts own := ⟨C.1, C.2.1, C.2.2.1, C.2.2.2.1, C.2.2.2.2.1⟩
theorem cx_KB (C : CX p s m args meth c D tys A own cc Ts nL wf) {H : Heap} (hP : va_P D vwCl (wf u) H) {U : State} (hU : U.heap = H) (hW : s.WarmedH U.vm) : KB D tys wf u H.size U :=
  ⟨by rw [hU], by rw [hU]; exact hP, va_K.moved hW.alike C.2.2.2.2.2.1, (C.2.2.2.2.2.2.2.1 u).weaken (fun _ _ _ _ => trivial)⟩
theorem g_calliV (C : CX p s m args meth c D tys A own cc Ts nL wf) (hM : KI l y ws rm D tys wf (.ref b :: As) u posti) (gd : GoodIn Ts (wsV own index Cn y ws)) (hw : ws = Cond.code y bytes maxL ret :: ws') (hd : y.cls = Cn ∧ y.cls ≠ "java/lang/invoke/MethodHandle" ∧ y.cls ≠ "java/lang/invoke/VarHandle" ∧ (parseMethodDescriptor y.desc).map (fun d => d.parameters.length) = some n) (hR : rm.frames + 1 ≤ R.frames ∧ 8 + (maxL + 11) + rm.locals ≤ R.locals)
    (q0 : Nat) {ci N : Nat} {T : u_T} {fs : List Value} (he : (wf u)[q0]? = some (b, .inr (ci, fs))) (hc : vwCl[ci]? = some (Cn, T, N)) (hn : As.length = n) (hst : st0 = As.reverse ++ .ref b :: st) (hW : (st.map fun v => v.category).sum ≤ 8) (hdg : decode cc pc = .ok (.invokevirtual index, 3)) (hp : pc + 3 = pc') (hcl : cells + rm.cells = cells') (hsl : slots + rm.slots = slots') (hf : cells' ≤ R.cells ∧ slots' ≤ R.slots)
    (kk : ∀ (r : Int32) (u' : S), posti r u' → G p l e R s m args below meth c D A nL wf cells' slots' Q u' pc' L (.int r :: st)) : G p l e R s m args below meth c D A nL wf cells slots Q u pc L st0 := by
  subst hp; subst hcl; subst hsl
  intro H locs ls hP hS hl
  refine va_calli (va_runV (As := As) (rest := st) (cx_fix C) (hM H.size) (cwV n C.2.2.2.2.1 gd hw rfl rfl hd hR) ⟨KB.blind, va_recv C.2.2.2.2.2.1 hP hc he, fun U hU hW => ⟨rfl, cx_KB C hP hU hW⟩⟩ rfl hn hl.1 hst (lv_room hW) hdg hf) hS (fun q _ h => cx_A C hS q h) (cx_A C hS) (fun r u' t H1 locs1 ht hvm hw9 hB hz hk hS1 => ?_)
  exact kk r u' hw9 H1 locs1 ls (ht ▸ hB.1) hS1 hl
theorem g_callvV (C : CX p s m args meth c D tys A own cc Ts nL wf) (hM : KV l y ws rm D tys wf (.ref b :: As) u postv) (gd : GoodIn Ts (wsV own index Cn y ws)) (hw : ws = Cond.code y bytes maxL ret :: ws') (hd : y.cls = Cn ∧ y.cls ≠ "java/lang/invoke/MethodHandle" ∧ y.cls ≠ "java/lang/invoke/VarHandle" ∧ (parseMethodDescriptor y.desc).map (fun d => d.parameters.length) = some n) (hR : rm.frames + 1 ≤ R.frames ∧ 8 + (maxL + 11) + rm.locals ≤ R.locals)
    (q0 : Nat) {ci N : Nat} {T : u_T} {fs : List Value} (he : (wf u)[q0]? = some (b, .inr (ci, fs))) (hc : vwCl[ci]? = some (Cn, T, N)) (hn : As.length = n) (hst : st0 = As.reverse ++ .ref b :: st) (hW : (st.map fun v => v.category).sum ≤ 8) (hdg : decode cc pc = .ok (.invokevirtual index, 3)) (hp : pc + 3 = pc') (hcl : cells + rm.cells = cells') (hsl : slots + rm.slots = slots') (hf : cells' ≤ R.cells ∧ slots' ≤ R.slots)
    (kk : ∀ (u' : S), postv u' → G p l e R s m args below meth c D A nL wf cells' slots' Q u' pc' L st) : G p l e R s m args below meth c D A nL wf cells slots Q u pc L st0 := by
  subst hp; subst hcl; subst hsl
  intro H locs ls hP hS hl
  refine va_callv (va_runV (As := As) (rest := st) (cx_fix C) (hM H.size) (cwV n C.2.2.2.2.1 gd hw rfl rfl hd hR) ⟨KB.blind, va_recv C.2.2.2.2.2.1 hP hc he, fun U hU hW => ⟨rfl, cx_KB C hP hU hW⟩⟩ rfl hn hl.1 hst (lv_room hW) hdg hf) hS (fun q _ h => cx_A C hS q h) (cx_A C hS) (fun u' t H1 locs1 ht hvm hw9 hB hz hk hS1 => ?_)
  exact kk u' hw9 H1 locs1 ls (ht ▸ hB.1) hS1 hl
theorem g_calliS (C : CX p s m args meth c D tys A own cc Ts nL wf) (hM : KI l y ws rm D tys wf As u posti) (gd : GoodIn Ts (va_wsS own index y ws)) (hw : ws = Cond.code y bytes maxL ret :: ws') (hd : y.cls ≠ "java/lang/invoke/MethodHandle" ∧ y.cls ≠ "java/lang/invoke/VarHandle" ∧ (parseMethodDescriptor y.desc).map (fun d => d.parameters.length) = some n) (hR : rm.frames + 1 ≤ R.frames ∧ 8 + (maxL + 11) + rm.locals ≤ R.locals)
    (hn : As.length = n) (hst : st0 = As.reverse ++ st) (hW : (st.map fun v => v.category).sum ≤ 8) (hdg : decode cc pc = .ok (.invokestatic index, 3)) (hp : pc + 3 = pc') (hcl : cells + rm.cells = cells') (hsl : slots + rm.slots = slots') (hf : cells' ≤ R.cells ∧ slots' ≤ R.slots)
    (kk : ∀ (r : Int32) (u' : S), posti r u' → G p l e R s m args below meth c D A nL wf cells' slots' Q u' pc' L (.int r :: st)) : G p l e R s m args below meth c D A nL wf cells slots Q u pc L st0 := by
  subst hp; subst hcl; subst hsl
  intro H locs ls hP hS hl
  refine va_calli (va_runS (As := As) (rest := st) (cx_fix C) (hM H.size) (va_cwS n C.2.2.2.2.1 gd hw rfl rfl hd hR) ⟨KB.blind, fun U hU hW => ⟨rfl, cx_KB C hP hU hW⟩⟩ rfl hn hl.1 hst (lv_room hW) hdg hf) hS (fun q _ h => cx_A C hS q h) (cx_A C hS) (fun r u' t H1 locs1 ht hvm hw9 hB hz hk hS1 => ?_)
  exact kk r u' hw9 H1 locs1 ls (ht ▸ hB.1) hS1 hl
theorem g_cxvV {Qc : Array Value → State → Outcome → State → Prop} {xp0 : String → Prop} {mc ms : Nat} (C : CX p s m args meth c D tys A own cc Ts nL wf) (hE : EV A s s.heap tx) (ht : ∀ x ∈ c.exceptionTable.toList, False) (hM : XV l y ws rm D tys tx wf (.ref b :: As) u postv xp) (gd : GoodIn Ts (wsV own index Cn y ws)) (hw : ws = Cond.code y bytes maxL ret :: ws') (hd : y.cls = Cn ∧ y.cls ≠ "java/lang/invoke/MethodHandle" ∧ y.cls ≠ "java/lang/invoke/VarHandle" ∧ (parseMethodDescriptor y.desc).map (fun d => d.parameters.length) = some n) (hR : rm.frames + 1 ≤ R.frames ∧ 8 + (maxL + 11) + rm.locals ≤ R.locals)
    (q0 : Nat) {ci N : Nat} {T : u_T} {fs : List Value} (he : (wf u)[q0]? = some (b, .inr (ci, fs))) (hc : vwCl[ci]? = some (Cn, T, N)) (hn : As.length = n) (hst : st0 = As.reverse ++ .ref b :: st) (hW : (st.map fun v => v.category).sum ≤ 8) (hdg : decode cc pc = .ok (.invokevirtual index, 3)) (hp : pc + 3 = pc') (hcl : cells + rm.cells = cells') (hsl : slots + rm.slots = slots') (hf : cells' ≤ R.cells ∧ slots' ≤ R.slots)
    (hxp : ∀ E, xp E → xp0 E) (hmc : cells' ≤ mc) (hms : slots' ≤ ms)
    (kk : ∀ (u' : S), postv u' → G p l e R s m args below meth c D A nL wf cells' slots' (vx_MQ below Qc (KX D tys wf u xp0 A) args s mc ms A) u' pc' L st) : G p l e R s m args below meth c D A nL wf cells slots (vx_MQ below Qc (KX D tys wf u xp0 A) args s mc ms A) u pc L st0 := by
  subst hp; subst hcl; subst hsl
  intro H locs ls hP hS hl
  refine vx_callv (vx_runV (As := As) (rest := st) (cx_fix C) (hM H.size) (cwV n C.2.2.2.2.1 gd hw rfl rfl hd hR) ⟨KB.blindX, va_recv C.2.2.2.2.2.1 hP hc he, fun U hU hW => ⟨rfl, cx_KB C hP hU hW, cx_EV C hE hS hU hW⟩⟩ rfl hn hl.1 hst (lv_room hW) hdg hf) hS (fun q _ h => cx_A C hS q h) (cx_A C hS) (fun q _ h => cx_A C hS q h) (fun E ce q9 u' t H1 locs1 ht9 hvm hpx hBX hz hk hS1 hcell hcv hcl => ?_) (fun u' t H1 locs1 ht9 hvm hw9 hB hz hk hS1 => ?_)
  · refine vx_out (fun x hx => (ht x hx).elim) C.2.2.2.2.2.2.2.2 hcell hcv hcl (fun t2 ht2 hvm2 => ⟨u', hpx, ⟨hxp E hBX.1, by rw [ht2, ← ht9]; exact hBX.2.1, va_K.moved hvm2 C.2.2.2.2.2.1⟩, hS1.F ht2⟩) hS1.2.2 hmc hms
  · exact kk u' hw9 H1 locs1 ls (ht9 ▸ hB.1) hS1 hl
theorem g_cxvS {Qc : Array Value → State → Outcome → State → Prop} {xp0 : String → Prop} {mc ms : Nat} (C : CX p s m args meth c D tys A own cc Ts nL wf) (hE : EV A s s.heap tx) (ht : ∀ x ∈ c.exceptionTable.toList, False) (hM : XV l y ws rm D tys tx wf As u postv xp) (gd : GoodIn Ts (va_wsS own index y ws)) (hw : ws = Cond.code y bytes maxL ret :: ws') (hd : y.cls ≠ "java/lang/invoke/MethodHandle" ∧ y.cls ≠ "java/lang/invoke/VarHandle" ∧ (parseMethodDescriptor y.desc).map (fun d => d.parameters.length) = some n) (hR : rm.frames + 1 ≤ R.frames ∧ 8 + (maxL + 11) + rm.locals ≤ R.locals)
    (hn : As.length = n) (hst : st0 = As.reverse ++ st) (hW : (st.map fun v => v.category).sum ≤ 8) (hdg : decode cc pc = .ok (.invokestatic index, 3)) (hp : pc + 3 = pc') (hcl : cells + rm.cells = cells') (hsl : slots + rm.slots = slots') (hf : cells' ≤ R.cells ∧ slots' ≤ R.slots)
    (hxp : ∀ E, xp E → xp0 E) (hmc : cells' ≤ mc) (hms : slots' ≤ ms)
    (kk : ∀ (u' : S), postv u' → G p l e R s m args below meth c D A nL wf cells' slots' (vx_MQ below Qc (KX D tys wf u xp0 A) args s mc ms A) u' pc' L st) : G p l e R s m args below meth c D A nL wf cells slots (vx_MQ below Qc (KX D tys wf u xp0 A) args s mc ms A) u pc L st0 := by
  subst hp; subst hcl; subst hsl
  intro H locs ls hP hS hl
  refine vx_callv (vx_runS (As := As) (rest := st) (cx_fix C) (hM H.size) (va_cwS n C.2.2.2.2.1 gd hw rfl rfl hd hR) ⟨KB.blindX, fun U hU hW => ⟨rfl, cx_KB C hP hU hW, cx_EV C hE hS hU hW⟩⟩ rfl hn hl.1 hst (lv_room hW) hdg hf) hS (fun q _ h => cx_A C hS q h) (cx_A C hS) (fun q _ h => cx_A C hS q h) (fun E ce q9 u' t H1 locs1 ht9 hvm hpx hBX hz hk hS1 hcell hcv hcl => ?_) (fun u' t H1 locs1 ht9 hvm hw9 hB hz hk hS1 => ?_)
  · refine vx_out (fun x hx => (ht x hx).elim) C.2.2.2.2.2.2.2.2 hcell hcv hcl (fun t2 ht2 hvm2 => ⟨u', hpx, ⟨hxp E hBX.1, by rw [ht2, ← ht9]; exact hBX.2.1, va_K.moved hvm2 C.2.2.2.2.2.1⟩, hS1.F ht2⟩) hS1.2.2 hmc hms
  · exact kk u' hw9 H1 locs1 ls (ht9 ▸ hB.1) hS1 hl
theorem g_throw {Qc : Array Value → State → Outcome → State → Prop} {xp0 : String → Prop} {mc ms : Nat} (C : CX p s m args meth c D tys A RX0 cc Ts nL wf) (hl : l.stackTraces = false) (hE : EV A s s.heap tx) (ht : ∀ x ∈ c.exceptionTable.toList, False) {cls text : String} {names : List String} {ik is ic : Nat} (hcls : Bundle.fit cls = true) (hnames : ∀ n ∈ names, Bundle.fit n = true)
    (hk : Cond.classLink RX0 ik cls ∈ Ts) (hini : Cond.initialized cls ∈ Ts) (htx : (is, text) ∈ tx) (hat : ∀ w ∈ vx_atS RX0 ic cls names, w ∈ Ts) (hgood : ∀ w ∈ Cond.classLink RX0 ik cls :: Cond.initialized cls :: vx_atS RX0 ic cls names, vx_ot w = true)
    (d0 : decode cc pc = .ok (.new ik, 3)) (d3 : decode cc (pc + 3) = .ok (.dup, 1)) (d4 : decode cc (pc + 4) = .ok (.ldc is, 2)) (d6 : decode cc (pc + 6) = .ok (.invokespecial ic, 3)) (d9 : decode cc (pc + 9) = .ok (.athrow, 1))
    (hRf : names.length + 3 < R.frames) (hRl : (st.map fun v => v.category).sum + (13 * (names.length + 1) + 43) ≤ R.locals) (hRc : cells + 1 ≤ R.cells) (hRs : slots + 6 ≤ R.slots) (hxp : xp0 cls) (hmc : cells + 1 ≤ mc) (hms : slots + 6 ≤ ms) :
    G p l e R s m args below meth c D A nL wf cells slots (vx_MQ below Qc (KX D tys wf u xp0 A) args s mc ms A) u pc L st := by
  intro H locs ls hP hS hls
  obtain ⟨sa, hstr⟩ := hE.2.2 _ htx
  exact vx_throwS C.1 C.2.1 hl C.2.2.2.1 hcls hnames (C.2.2.2.2.1 _ hk) (C.2.2.2.2.1 _ hini) hstr (fun w h => C.2.2.2.2.1 _ (hat w h)) hgood hE.1 hE.2.1 hS (hls.1.trans C.2.2.1.symm) d0 d3 d4 d6 d9 (fun x hx => (ht x hx).elim) hRf hRl hRc hRs C.2.2.2.2.2.2.2.2
    (fun t hvm hz hkp => ⟨u, rfl, ⟨hxp, hP.kept (fun k q hq => hkp q.1 ((hP k q hq).lt)), va_K.moved hvm C.2.2.2.2.2.1⟩, ⟨Nat.le_trans hS.1 hz, fun q h1 h2 => (hkp q (Nat.lt_of_lt_of_le h1 hS.1)).trans (hS.2.1 q h1 h2)⟩⟩) hS.2.2 hmc hms
theorem g_iret {ty : FieldType} {r : Int32} (C : CX p s m args meth c D tys A own cc Ts nL wf) (hr : meth.sig.returnType = some ty) (hn : narrow ty (.int r) = .int r) (hpost : posti r u) (hdg : decode cc pc = .ok (.ireturn, 1)) : G p l e R s m args below meth c D A nL wf cells slots (MQ below (va_Qi posti (KE D tys wf) A) args s cells slots A) u pc L [.int r] := by
  intro H locs ls hP hS hl
  exact W.zret C.1 C.2.1 hr hn (fun t ht hW => ⟨⟨r, u, rfl, hpost, by rw [ht]; exact hP, va_K.moved hW.alike C.2.2.2.2.2.1⟩, hS.F ht⟩) hS.2.2 hdg C.2.2.2.2.2.2.2.2
theorem g_vret (C : CX p s m args meth c D tys A own cc Ts nL wf) (hr : meth.sig.returnType = none) (hpost : postv u) (hdg : decode cc pc = .ok (.return_, 1)) : G p l e R s m args below meth c D A nL wf cells slots (MQ below (va_Qv postv (KE D tys wf) A) args s cells slots A) u pc L [] := by
  intro H locs ls hP hS hl
  exact W.vret C.1 C.2.1 hr (fun t ht hW => ⟨⟨u, rfl, hpost, by rw [ht]; exact hP, va_K.moved hW.alike C.2.2.2.2.2.1⟩, hS.F ht⟩) hS.2.2 hdg C.2.2.2.2.2.2.2.2
theorem g_xiret {XC : String → State → State → Prop} {mc ms : Nat} {ty : FieldType} {r : Int32} (C : CX p s m args meth c D tys A own cc Ts nL wf) (hr : meth.sig.returnType = some ty) (hn : narrow ty (.int r) = .int r) (hpost : posti r u) (hdg : decode cc pc = .ok (.ireturn, 1)) (h1 : cells ≤ mc) (h2 : slots ≤ ms) : G p l e R s m args below meth c D A nL wf cells slots (vx_MQ below (va_Qi posti (KE D tys wf) A) XC args s mc ms A) u pc L [.int r] :=
  fun H locs ls hP hS hl => vx_ret (W.widen h1 h2 (g_iret C hr hn hpost hdg H locs ls hP hS hl))
theorem g_xvret {XC : String → State → State → Prop} {mc ms : Nat} (C : CX p s m args meth c D tys A own cc Ts nL wf) (hr : meth.sig.returnType = none) (hpost : postv u) (hdg : decode cc pc = .ok (.return_, 1)) (h1 : cells ≤ mc) (h2 : slots ≤ ms) : G p l e R s m args below meth c D A nL wf cells slots (vx_MQ below (va_Qv postv (KE D tys wf) A) XC args s mc ms A) u pc L [] :=
  fun H locs ls hP hS hl => vx_ret (W.widen h1 h2 (g_vret C hr hpost hdg H locs ls hP hS hl))
end GC
/-! a contract out of its body -/
section GE
variable {S : Type} {l : Launch} {D : va_G} {tys : List (ClassId × FieldType)} {wf : S → va_W} {u : S} {As : List Value} {L0 : List (Nat × Value)} {tx : List (Nat × String)}
variable {y : MethodName} {ws ws' : List Cond} {rm : Room} {maxL : Nat} {cc : ByteArray} {ty : FieldType} {posti : Int32 → S → Prop} {postv : S → Prop} {xp : String → Prop} {own : String}
def WfOk (wf : S → va_W) : Prop := ∀ u u' : S, (wf u).map Prod.fst = (wf u').map Prod.fst
theorem va_D_fst {A : Nat → Prop} {w w' : va_W} (h : w.map Prod.fst = w'.map Prod.fst) (hD : va_D A w) : va_D A w' := by
  have key : ∀ (k : Nat) (q : Nat × va_E), w'[k]? = some q → ∃ q0, w[k]? = some q0 ∧ q0.1 = q.1 := by
    intro k q hk
    have h1 : (w'.map Prod.fst)[k]? = some q.1 := by rw [List.getElem?_map, hk]; rfl
    rw [← h, List.getElem?_map] at h1
    cases hw : w[k]? with
    | none => rw [hw] at h1; cases h1
    | some q0 => rw [hw] at h1; exact ⟨q0, rfl, Option.some.inj h1⟩
  refine ⟨fun i j x y hi hj hxy => ?_, fun k q hk => ?_⟩
  · obtain ⟨x0, h1, h2⟩ := key i x hi
    obtain ⟨y0, h3, h4⟩ := key j y hj
    exact hD.1 i j x0 y0 h1 h3 (h2.trans (hxy.trans h4.symm))
  · obtain ⟨q0, h1, h2⟩ := key k q hk
    rw [← h2]
    exact hD.2 k q0 h1
theorem cx_ent {p : Program} {s s₁ : State} {e : Env} {m : MethodId} {args : Array Value} {below : List Frame} {meth : Method} {c : Code} {ret : Option FieldType} (hwf : WfOk wf) (hown : y.cls = own) (B : BodyLoose p l y (headSpec ws rm) cc maxL ret e s m args below meth c s₁) (hml : c.maxLocals = maxL) (hP : KB D tys wf u s.heap.size s) :
    CX p s m args meth c D tys (va_A (wf u) s.heap.size) own cc ws maxL wf := by
  refine ⟨B.exec, B.bytes, hml, ?_, atoms_spec (ws := ws) B.pre, hP.2.2.1, fun q h => Or.inr h, fun u' => va_D_fst (hwf u u') (hP.2.2.2.self), B.notSynchronized⟩
  rw [← hown]
  exact findClass_of_methodNamed B.named
theorem ent_I (hy : plainName y.cls = true) (hw : ws = Cond.code y cc maxL (some ty) :: ws') (hwf : WfOk wf) (hown : y.cls = own) (hlen : (lg_sl As).length ≤ maxL) (hL0 : lv_args 0 As = L0)
    (body : ∀ (p : Program) (e : Env) (s : State) (m : MethodId) (args : Array Value) (below : List Frame) (meth : Method) (c : Code) (A : Nat → Prop), CX p s m args meth c D tys A own cc ws maxL wf → meth.sig.returnType = some ty → G p l e rm s m args below meth c D A maxL wf 0 0 (MQ below (va_Qi posti (KE D tys wf) A) args s rm.cells rm.slots A) u 0 L0 []) : KI l y ws rm D tys wf As u posti := by
  intro sz
  refine Met.ofW (cc := cc) (maxL := maxL) (ret := some ty) hy hw ?_
  intro p e s m args below meth c s₁ B hml hv
  obtain ⟨rfl, hsz, hP, hK, hD⟩ := hv
  subst hsz; subst hL0
  rw [lg_entry_eq]
  exact body p e s m _ below meth c _ (cx_ent hwf hown B hml ⟨rfl, hP, hK, hD⟩) B.returns s.heap [] _ hP va_S.rf (lv_entry As hlen)
theorem ent_V (hy : plainName y.cls = true) (hw : ws = Cond.code y cc maxL none :: ws') (hwf : WfOk wf) (hown : y.cls = own) (hlen : (lg_sl As).length ≤ maxL) (hL0 : lv_args 0 As = L0)
    (body : ∀ (p : Program) (e : Env) (s : State) (m : MethodId) (args : Array Value) (below : List Frame) (meth : Method) (c : Code) (A : Nat → Prop), CX p s m args meth c D tys A own cc ws maxL wf → meth.sig.returnType = none → G p l e rm s m args below meth c D A maxL wf 0 0 (MQ below (va_Qv postv (KE D tys wf) A) args s rm.cells rm.slots A) u 0 L0 []) : KV l y ws rm D tys wf As u postv := by
  intro sz
  refine Met.ofW (cc := cc) (maxL := maxL) (ret := none) hy hw ?_
  intro p e s m args below meth c s₁ B hml hv
  obtain ⟨rfl, hsz, hP, hK, hD⟩ := hv
  subst hsz; subst hL0
  rw [lg_entry_eq]
  exact body p e s m _ below meth c _ (cx_ent hwf hown B hml ⟨rfl, hP, hK, hD⟩) B.returns s.heap [] _ hP va_S.rf (lv_entry As hlen)
theorem ent_XI (hy : plainName y.cls = true) (hw : ws = Cond.code y cc maxL (some ty) :: ws') (hwf : WfOk wf) (hown : y.cls = own) (hlen : (lg_sl As).length ≤ maxL) (hL0 : lv_args 0 As = L0)
    (body : ∀ (p : Program) (e : Env) (s : State) (m : MethodId) (args : Array Value) (below : List Frame) (meth : Method) (c : Code) (A : Nat → Prop), CX p s m args meth c D tys A own cc ws maxL wf → meth.sig.returnType = some ty → EV A s s.heap tx → (∀ x ∈ c.exceptionTable.toList, False) → G p l e rm s m args below meth c D A maxL wf 0 0 (vx_MQ below (va_Qi posti (KE D tys wf) A) (KX D tys wf u xp A) args s rm.cells rm.slots A) u 0 L0 []) : XI l y ws rm D tys tx wf As u posti xp := by
  intro sz
  refine vx_ofW (cc := cc) (maxL := maxL) (ret := some ty) hy hw ?_
  intro p e s m args below meth c s₁ B hml ht hv
  obtain ⟨rfl, ⟨hsz, hP, hK, hD⟩, hE⟩ := hv
  subst hsz; subst hL0
  rw [lg_entry_eq]
  exact body p e s m _ below meth c _ (cx_ent hwf hown B hml ⟨rfl, hP, hK, hD⟩) B.returns hE ht s.heap [] _ hP va_S.rf (lv_entry As hlen)
theorem ent_XV (hy : plainName y.cls = true) (hw : ws = Cond.code y cc maxL none :: ws') (hwf : WfOk wf) (hown : y.cls = own) (hlen : (lg_sl As).length ≤ maxL) (hL0 : lv_args 0 As = L0)
    (body : ∀ (p : Program) (e : Env) (s : State) (m : MethodId) (args : Array Value) (below : List Frame) (meth : Method) (c : Code) (A : Nat → Prop), CX p s m args meth c D tys A own cc ws maxL wf → meth.sig.returnType = none → EV A s s.heap tx → (∀ x ∈ c.exceptionTable.toList, False) → G p l e rm s m args below meth c D A maxL wf 0 0 (vx_MQ below (va_Qv postv (KE D tys wf) A) (KX D tys wf u xp A) args s rm.cells rm.slots A) u 0 L0 []) : XV l y ws rm D tys tx wf As u postv xp := by
  intro sz
  refine vx_ofW (cc := cc) (maxL := maxL) (ret := none) hy hw ?_
  intro p e s m args below meth c s₁ B hml ht hv
  obtain ⟨rfl, ⟨hsz, hP, hK, hD⟩, hE⟩ := hv
  subst hsz; subst hL0
  rw [lg_entry_eq]
  exact body p e s m _ below meth c _ (cx_ent hwf hown B hml ⟨rfl, hP, hK, hD⟩) B.returns hE ht s.heap [] _ hP va_S.rf (lv_entry As hlen)
end GE
end
section
/-! THE WORLDS: the class's object and rows (wX), the reference's (wM); array k of a state u is u k, the scalars are u 0 -/
def mkA (a : Nat → Nat) (u : LU) (q : Nat × ClassId × Nat) : Nat × va_E := (a q.1, .inl (q.2.1, q.2.2, .inl (u q.1)))
theorem mkA_fst (a : Nat → Nat) (u u' : LU) (l : List (Nat × ClassId × Nat)) : (l.map (mkA a u)).map Prod.fst = (l.map (mkA a u')).map Prod.fst := by
  rw [List.map_map, List.map_map]
  rfl
theorem mkA_set (a : Nat → Nat) (u : LU) {g : Nat → Int32} {j n : Nat} {c : ClassId} : ∀ (l : List (Nat × ClassId × Nat)) (k : Nat), (l.map Prod.fst).Nodup → l[k]? = some (j, c, n) → (l.map (mkA a u)).set k (a j, .inl (c, n, .inl g)) = l.map (mkA a (up u j g))
  | [], k, _, h => by simp at h
  | q :: l, 0, hn, h => by
    simp only [List.getElem?_cons_zero, Option.some.injEq] at h
    subst h
    simp only [List.map_cons, List.nodup_cons] at hn
    simp only [List.map_cons, List.set_cons_zero, mkA, up_s]
    refine congrArg _ (List.map_congr_left fun x hx => ?_)
    simp only [mkA]
    rw [up_n]
    intro e
    exact hn.1 (e ▸ List.mem_map_of_mem hx)
  | q :: l, k + 1, hn, h => by
    simp only [List.getElem?_cons_succ] at h
    simp only [List.map_cons, List.nodup_cons] at hn
    simp only [List.map_cons, List.set_cons_succ]
    rw [mkA_set a u l k hn.2 h]
    refine congrArg (· :: _) ?_
    have hm : j ∈ l.map Prod.fst := List.mem_map.mpr ⟨_, List.mem_of_getElem? h, rfl⟩
    simp only [mkA]
    rw [up_n]
    intro e
    exact hn.1 (e ▸ hm)
theorem mkA_get (a : Nat → Nat) (u : LU) {j n : Nat} {c : ClassId} {l : List (Nat × ClassId × Nat)} {k : Nat} (h : l[k]? = some (j, c, n)) : (l.map (mkA a u))[k]? = some (a j, .inl (c, n, .inl (u j))) := by
  rw [List.getElem?_map, h]
  rfl
theorem mkA_0 (a : Nat → Nat) (u : LU) (f : Nat → Int32) (l : List (Nat × ClassId × Nat)) (h0 : 0 ∉ l.map Prod.fst) : l.map (mkA a (up u 0 f)) = l.map (mkA a u) := by
  refine List.map_congr_left fun x hx => ?_
  simp only [mkA]
  rw [up_n]
  intro e
  exact h0 (e ▸ List.mem_map_of_mem hx)
def tyX (cI cZ cQ : ClassId) : List (ClassId × FieldType) := [(cI, .int), (cZ, .boolean), (cQ, .array .int)]
def flX (a : Nat → Nat) (f : Nat → Int32) : List Value := [.ref (a 1), .ref (a 2), .ref (a 3), .ref (a 4), .int (f 4), .ref (a 6), .ref (a 7), .ref (a 8), .ref (a 9), .ref (a 10), .ref (a 11), .ref (a 12), .int (f 12), .ref (a 14), .ref (a 15), .ref (a 16), .int (f 16), .int (f 17)]
def arX (cI cZ : ClassId) : List (Nat × ClassId × Nat) := [(1, cI, 12), (2, cI, 12), (3, cI, 12), (4, cI, 12), (6, cI, 24), (7, cI, 24), (8, cI, 24), (9, cZ, 24), (10, cI, 24), (11, cI, 24), (12, cI, 24), (14, cI, 60), (16, cI, 60)] ++ (List.range 60).map (fun i => (100 + i, cI, 47))
def rfX (a : Nat → Nat) : Nat → Option Nat := fun i => if i < 60 then some (a (100 + i)) else none
def wX (cI cZ cQ : ClassId) (a : Nat → Nat) (u : LU) : va_W := (a 0, .inr (0, flX a (u 0))) :: (a 15, .inl (cQ, 60, .inr (.inr (.inr (.inr (rfX a)))))) :: (arX cI cZ).map (mkA a u)
theorem arX_nd (cI cZ : ClassId) : ((arX cI cZ).map Prod.fst).Nodup := by
  have h : (arX cI cZ).map Prod.fst = [1, 2, 3, 4, 6, 7, 8, 9, 10, 11, 12, 14, 16] ++ (List.range 60).map (fun i => 100 + i) := by
    simp only [arX, List.map_append, List.map_map]
    rfl
  rw [h]
  decide +kernel
theorem arX_0 (cI cZ : ClassId) : 0 ∉ (arX cI cZ).map Prod.fst := by
  have h : (arX cI cZ).map Prod.fst = [1, 2, 3, 4, 6, 7, 8, 9, 10, 11, 12, 14, 16] ++ (List.range 60).map (fun i => 100 + i) := by
    simp only [arX, List.map_append, List.map_map]
    rfl
  rw [h]
  decide +kernel
theorem arX_row (cI cZ : ClassId) {i : Nat} (h : i < 60) : (arX cI cZ)[13 + i]? = some (100 + i, cI, 47) := by
  unfold arX
  rw [List.getElem?_append_right (by simp)]
  simp [h]
theorem wX_ok (cI cZ cQ : ClassId) (a : Nat → Nat) : WfOk (wX cI cZ cQ a) := fun u u' => by
  simp only [wX, List.map_cons]
  rw [mkA_fst a u u']
theorem wX_get (cI cZ cQ : ClassId) (a : Nat → Nat) (u : LU) {j n k : Nat} {c : ClassId} (h : (arX cI cZ)[k]? = some (j, c, n)) : (wX cI cZ cQ a u)[k + 2]? = some (a j, .inl (c, n, .inl (u j))) := mkA_get a u h
theorem wX_set (cI cZ cQ : ClassId) (a : Nat → Nat) (u : LU) {g : Nat → Int32} {j n k : Nat} {c : ClassId} (h : (arX cI cZ)[k]? = some (j, c, n)) : (wX cI cZ cQ a u).set (k + 2) (a j, .inl (c, n, .inl g)) = wX cI cZ cQ a (up u j g) := by
  have hj : 0 ≠ j := fun e => arX_0 cI cZ (e ▸ List.mem_map.mpr ⟨_, List.mem_of_getElem? h, rfl⟩)
  simp only [wX, List.set_cons_succ]
  rw [mkA_set a u _ k (arX_nd cI cZ) h, up_n u j g hj]
theorem wX_put (cI cZ cQ : ClassId) (a : Nat → Nat) (u : LU) {f : Nat → Int32} {fs : List Value} (h : fs = flX a f) : (wX cI cZ cQ a u).set 0 (a 0, .inr (0, fs)) = wX cI cZ cQ a (up u 0 f) := by
  subst h
  simp only [wX, List.set_cons_zero]
  rw [mkA_0 a u f _ (arX_0 cI cZ), up_s]
def flM (a : Nat → Nat) (f : Nat → Int32) : List Value := [.int (f 0), .int (f 1), .int (f 2), .ref (a 4), .ref (a 5), .ref (a 6), .ref (a 7), .int (f 7), .ref (a 9), .ref (a 10), .ref (a 11), .ref (a 12), .ref (a 13), .ref (a 14), .ref (a 15), .int (f 15), .ref (a 17), .ref (a 18), .ref (a 19), .ref (a 20)]
def arM (cI cZ : ClassId) : List (Nat × ClassId × Nat) := [(4, cI, 12), (5, cI, 12), (6, cI, 12), (7, cI, 12), (9, cI, 24), (10, cI, 24), (11, cI, 24), (12, cI, 24), (13, cZ, 24), (14, cI, 24), (15, cI, 24), (17, cI, 60), (18, cI, 60), (19, cI, 2880), (20, cZ, 24)]
def wM (cI cZ : ClassId) (a : Nat → Nat) (u : LU) : va_W := (a 0, .inr (1, flM a (u 0))) :: (arM cI cZ).map (mkA a u)
theorem arM_nd (cI cZ : ClassId) : ((arM cI cZ).map Prod.fst).Nodup := by
  show [4, 5, 6, 7, 9, 10, 11, 12, 13, 14, 15, 17, 18, 19, 20].Nodup
  decide +kernel
theorem arM_0 (cI cZ : ClassId) : 0 ∉ (arM cI cZ).map Prod.fst := by
  show 0 ∉ [4, 5, 6, 7, 9, 10, 11, 12, 13, 14, 15, 17, 18, 19, 20]
  decide +kernel
theorem wM_ok (cI cZ : ClassId) (a : Nat → Nat) : WfOk (wM cI cZ a) := fun u u' => by
  simp only [wM, List.map_cons]
  rw [mkA_fst a u u']
theorem wM_get (cI cZ : ClassId) (a : Nat → Nat) (u : LU) {j n k : Nat} {c : ClassId} (h : (arM cI cZ)[k]? = some (j, c, n)) : (wM cI cZ a u)[k + 1]? = some (a j, .inl (c, n, .inl (u j))) := mkA_get a u h
theorem wM_set (cI cZ : ClassId) (a : Nat → Nat) (u : LU) {g : Nat → Int32} {j n k : Nat} {c : ClassId} (h : (arM cI cZ)[k]? = some (j, c, n)) : (wM cI cZ a u).set (k + 1) (a j, .inl (c, n, .inl g)) = wM cI cZ a (up u j g) := by
  have hj : 0 ≠ j := fun e => arM_0 cI cZ (e ▸ List.mem_map.mpr ⟨_, List.mem_of_getElem? h, rfl⟩)
  simp only [wM, List.set_cons_succ]
  rw [mkA_set a u _ k (arM_nd cI cZ) h, up_n u j g hj]
theorem wM_put (cI cZ : ClassId) (a : Nat → Nat) (u : LU) {f : Nat → Int32} {fs : List Value} (h : fs = flM a f) : (wM cI cZ a u).set 0 (a 0, .inr (1, fs)) = wM cI cZ a (up u 0 f) := by
  subst h
  simp only [wM, List.set_cons_zero]
  rw [mkA_0 a u f _ (arM_0 cI cZ), up_s]
theorem ti_add {x y : Int32} (h1 : -2147483648 ≤ x.toInt + y.toInt) (h2 : x.toInt + y.toInt < 2147483648) : (x + y).toInt = x.toInt + y.toInt := by
  rw [Int32.toInt_add]
  exact Int.bmod_eq_of_le (by omega) (by omega)
theorem ti_sub {x y : Int32} (h1 : -2147483648 ≤ x.toInt - y.toInt) (h2 : x.toInt - y.toInt < 2147483648) : (x - y).toInt = x.toInt - y.toInt := by
  rw [Int32.toInt_sub]
  exact Int.bmod_eq_of_le (by omega) (by omega)
theorem ti_rng (x : Int32) : -2147483648 ≤ x.toInt ∧ x.toInt < 2147483648 := ⟨Int32.le_toInt x, Int32.toInt_lt x⟩
theorem vp_of {x : Int32} {n : Nat} (h1 : 0 ≤ x.toInt) (h2 : x.toInt < n) : vp_in x n := vp_in_iff.mpr ⟨h1, h2⟩
theorem nI_of_ti {x : Int32} {n : Nat} (h1 : 0 ≤ x.toInt) (h2 : x.toInt < n) (hn : n < 2 ^ 31) : ∃ j : Nat, j < n ∧ x = nI j := vp_in_of (vp_of h1 h2) hn
end
section
theorem tstz : True := trivial
end
