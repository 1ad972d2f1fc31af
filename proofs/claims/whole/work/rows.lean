section
-- ===== PART A: goes FIRST, ahead of the names: the tables' words, and 'selects' of the private methods out of them =====
/-- a private method of a class that the tables say can be made, by its rows of tables_1 -/
def lw_okq (q : MethodName × Nat) : Prop := (q.1.cls ≠ "java/lang/invoke/MethodHandle" ∧ q.1.cls ≠ "java/lang/invoke/VarHandle") ∧ Cond.instantiable q.1.cls q.2 ∈ tables_1 ∧ Cond.privateMethod q.1 ∈ tables_1 ∧ Cond.instanceMethod q.1 ∈ tables_1
theorem lw_p0 : lw_okq (⟨"java/lang/Throwable", "fillInStackTrace", "(I)Ljava/lang/Throwable;"⟩, 6) := ⟨⟨by decide +kernel, by decide +kernel⟩, List.mem_of_getElem? (i := 144) (by decide +kernel), List.mem_of_getElem? (i := 142) (by decide +kernel), List.mem_of_getElem? (i := 143) (by decide +kernel)⟩
theorem lw_p1 : lw_okq (⟨"LotTracker", "makeLot", "(IIZII)I"⟩, 18) := ⟨⟨by decide +kernel, by decide +kernel⟩, List.mem_of_getElem? (i := 11) (by decide +kernel), List.mem_of_getElem? (i := 215) (by decide +kernel), List.mem_of_getElem? (i := 216) (by decide +kernel)⟩
theorem lw_p2 : lw_okq (⟨"LotTracker", "makeWafer", "(I)V"⟩, 18) := ⟨⟨by decide +kernel, by decide +kernel⟩, List.mem_of_getElem? (i := 11) (by decide +kernel), List.mem_of_getElem? (i := 219) (by decide +kernel), List.mem_of_getElem? (i := 220) (by decide +kernel)⟩
theorem lw_p3 : lw_okq (⟨"LotTracker", "putInto", "(II)V"⟩, 18) := ⟨⟨by decide +kernel, by decide +kernel⟩, List.mem_of_getElem? (i := 11) (by decide +kernel), List.mem_of_getElem? (i := 223) (by decide +kernel), List.mem_of_getElem? (i := 224) (by decide +kernel)⟩
theorem lw_p4 : lw_okq (⟨"LotTracker", "checkLot", "(I)V"⟩, 18) := ⟨⟨by decide +kernel, by decide +kernel⟩, List.mem_of_getElem? (i := 11) (by decide +kernel), List.mem_of_getElem? (i := 234) (by decide +kernel), List.mem_of_getElem? (i := 235) (by decide +kernel)⟩
theorem lw_p5 : lw_okq (⟨"LotTracker", "isLot", "(I)Z"⟩, 18) := ⟨⟨by decide +kernel, by decide +kernel⟩, List.mem_of_getElem? (i := 11) (by decide +kernel), List.mem_of_getElem? (i := 238) (by decide +kernel), List.mem_of_getElem? (i := 239) (by decide +kernel)⟩
theorem lw_p6 : lw_okq (⟨"LotTracker", "isReady", "(I)Z"⟩, 18) := ⟨⟨by decide +kernel, by decide +kernel⟩, List.mem_of_getElem? (i := 11) (by decide +kernel), List.mem_of_getElem? (i := 243) (by decide +kernel), List.mem_of_getElem? (i := 244) (by decide +kernel)⟩
theorem lw_p7 : lw_okq (⟨"LotTracker", "isFree", "(I)Z"⟩, 18) := ⟨⟨by decide +kernel, by decide +kernel⟩, List.mem_of_getElem? (i := 11) (by decide +kernel), List.mem_of_getElem? (i := 247) (by decide +kernel), List.mem_of_getElem? (i := 248) (by decide +kernel)⟩
theorem lw_p8 : lw_okq (⟨"LotTracker", "waitingLeft", "(I)I"⟩, 18) := ⟨⟨by decide +kernel, by decide +kernel⟩, List.mem_of_getElem? (i := 11) (by decide +kernel), List.mem_of_getElem? (i := 251) (by decide +kernel), List.mem_of_getElem? (i := 252) (by decide +kernel)⟩
theorem lw_p9 : lw_okq (⟨"LotTracker", "isStep", "(I)Z"⟩, 18) := ⟨⟨by decide +kernel, by decide +kernel⟩, List.mem_of_getElem? (i := 11) (by decide +kernel), List.mem_of_getElem? (i := 255) (by decide +kernel), List.mem_of_getElem? (i := 256) (by decide +kernel)⟩
theorem lw_p10 : lw_okq (⟨"LotTracker", "isBusy", "(I)Z"⟩, 18) := ⟨⟨by decide +kernel, by decide +kernel⟩, List.mem_of_getElem? (i := 11) (by decide +kernel), List.mem_of_getElem? (i := 261) (by decide +kernel), List.mem_of_getElem? (i := 262) (by decide +kernel)⟩
theorem lw_p11 : lw_okq (⟨"LotTracker", "usesTool", "(II)Z"⟩, 18) := ⟨⟨by decide +kernel, by decide +kernel⟩, List.mem_of_getElem? (i := 11) (by decide +kernel), List.mem_of_getElem? (i := 265) (by decide +kernel), List.mem_of_getElem? (i := 266) (by decide +kernel)⟩
theorem lw_p12 : lw_okq (⟨"LotTracker", "moveWafers", "(III)V"⟩, 18) := ⟨⟨by decide +kernel, by decide +kernel⟩, List.mem_of_getElem? (i := 11) (by decide +kernel), List.mem_of_getElem? (i := 286) (by decide +kernel), List.mem_of_getElem? (i := 287) (by decide +kernel)⟩
theorem lw_p13 : lw_okq (⟨"LotTracker", "leaveRoute", "(II)V"⟩, 18) := ⟨⟨by decide +kernel, by decide +kernel⟩, List.mem_of_getElem? (i := 11) (by decide +kernel), List.mem_of_getElem? (i := 305) (by decide +kernel), List.mem_of_getElem? (i := 306) (by decide +kernel)⟩
theorem lw_p14 : lw_okq (⟨"LotTracker", "checkWafer", "(I)V"⟩, 18) := ⟨⟨by decide +kernel, by decide +kernel⟩, List.mem_of_getElem? (i := 11) (by decide +kernel), List.mem_of_getElem? (i := 324) (by decide +kernel), List.mem_of_getElem? (i := 325) (by decide +kernel)⟩
theorem lw_p15 : lw_okq (⟨"LotTracker", "endProcessing", "(I)V"⟩, 18) := ⟨⟨by decide +kernel, by decide +kernel⟩, List.mem_of_getElem? (i := 11) (by decide +kernel), List.mem_of_getElem? (i := 338) (by decide +kernel), List.mem_of_getElem? (i := 339) (by decide +kernel)⟩
def lw_privs_1 : List (MethodName × Nat) := [(⟨"java/lang/Throwable", "fillInStackTrace", "(I)Ljava/lang/Throwable;"⟩, 6), (⟨"LotTracker", "makeLot", "(IIZII)I"⟩, 18), (⟨"LotTracker", "makeWafer", "(I)V"⟩, 18), (⟨"LotTracker", "putInto", "(II)V"⟩, 18), (⟨"LotTracker", "checkLot", "(I)V"⟩, 18), (⟨"LotTracker", "isLot", "(I)Z"⟩, 18), (⟨"LotTracker", "isReady", "(I)Z"⟩, 18), (⟨"LotTracker", "isFree", "(I)Z"⟩, 18), (⟨"LotTracker", "waitingLeft", "(I)I"⟩, 18), (⟨"LotTracker", "isStep", "(I)Z"⟩, 18), (⟨"LotTracker", "isBusy", "(I)Z"⟩, 18), (⟨"LotTracker", "usesTool", "(II)Z"⟩, 18), (⟨"LotTracker", "moveWafers", "(III)V"⟩, 18), (⟨"LotTracker", "leaveRoute", "(II)V"⟩, 18), (⟨"LotTracker", "checkWafer", "(I)V"⟩, 18), (⟨"LotTracker", "endProcessing", "(I)V"⟩, 18)]
theorem lw_r1 : ∀ q ∈ lw_privs_1, lw_okq q := List.forall_mem_cons.mpr ⟨lw_p0, List.forall_mem_cons.mpr ⟨lw_p1, List.forall_mem_cons.mpr ⟨lw_p2, List.forall_mem_cons.mpr ⟨lw_p3, List.forall_mem_cons.mpr ⟨lw_p4, List.forall_mem_cons.mpr ⟨lw_p5, List.forall_mem_cons.mpr ⟨lw_p6, List.forall_mem_cons.mpr ⟨lw_p7, List.forall_mem_cons.mpr ⟨lw_p8, List.forall_mem_cons.mpr ⟨lw_p9, List.forall_mem_cons.mpr ⟨lw_p10, List.forall_mem_cons.mpr ⟨lw_p11, List.forall_mem_cons.mpr ⟨lw_p12, List.forall_mem_cons.mpr ⟨lw_p13, List.forall_mem_cons.mpr ⟨lw_p14, List.forall_mem_cons.mpr ⟨lw_p15, fun _ h => absurd h List.not_mem_nil⟩⟩⟩⟩⟩⟩⟩⟩⟩⟩⟩⟩⟩⟩⟩⟩
theorem lw_p16 : lw_okq (⟨"LotTracker", "checkStep", "(I)V"⟩, 18) := ⟨⟨by decide +kernel, by decide +kernel⟩, List.mem_of_getElem? (i := 11) (by decide +kernel), List.mem_of_getElem? (i := 398) (by decide +kernel), List.mem_of_getElem? (i := 399) (by decide +kernel)⟩
theorem lw_p17 : lw_okq (⟨"LotTracker", "parentOrNone", "(I)I"⟩, 18) := ⟨⟨by decide +kernel, by decide +kernel⟩, List.mem_of_getElem? (i := 11) (by decide +kernel), List.mem_of_getElem? (i := 431) (by decide +kernel), List.mem_of_getElem? (i := 432) (by decide +kernel)⟩
theorem lw_p18 : lw_okq (⟨"LotTrackerModel", "puts", "(II)V"⟩, 20) := ⟨⟨by decide +kernel, by decide +kernel⟩, List.mem_of_getElem? (i := 450) (by decide +kernel), List.mem_of_getElem? (i := 535) (by decide +kernel), List.mem_of_getElem? (i := 536) (by decide +kernel)⟩
theorem lw_p19 : lw_okq (⟨"LotTrackerModel", "isLot", "(I)Z"⟩, 20) := ⟨⟨by decide +kernel, by decide +kernel⟩, List.mem_of_getElem? (i := 450) (by decide +kernel), List.mem_of_getElem? (i := 543) (by decide +kernel), List.mem_of_getElem? (i := 544) (by decide +kernel)⟩
theorem lw_p20 : lw_okq (⟨"LotTrackerModel", "tooLate", "(I)Z"⟩, 20) := ⟨⟨by decide +kernel, by decide +kernel⟩, List.mem_of_getElem? (i := 450) (by decide +kernel), List.mem_of_getElem? (i := 547) (by decide +kernel), List.mem_of_getElem? (i := 548) (by decide +kernel)⟩
theorem lw_p21 : lw_okq (⟨"LotTrackerModel", "waited", "(I)I"⟩, 20) := ⟨⟨by decide +kernel, by decide +kernel⟩, List.mem_of_getElem? (i := 450) (by decide +kernel), List.mem_of_getElem? (i := 551) (by decide +kernel), List.mem_of_getElem? (i := 552) (by decide +kernel)⟩
theorem lw_p22 : lw_okq (⟨"LotTrackerModel", "isBusy", "(I)Z"⟩, 20) := ⟨⟨by decide +kernel, by decide +kernel⟩, List.mem_of_getElem? (i := 450) (by decide +kernel), List.mem_of_getElem? (i := 555) (by decide +kernel), List.mem_of_getElem? (i := 556) (by decide +kernel)⟩
theorem lw_p23 : lw_okq (⟨"LotTrackerModel", "count", "(I)I"⟩, 20) := ⟨⟨by decide +kernel, by decide +kernel⟩, List.mem_of_getElem? (i := 450) (by decide +kernel), List.mem_of_getElem? (i := 567) (by decide +kernel), List.mem_of_getElem? (i := 568) (by decide +kernel)⟩
theorem lw_p24 : lw_okq (⟨"LotTrackerModel", "canMerge", "(I)Z"⟩, 20) := ⟨⟨by decide +kernel, by decide +kernel⟩, List.mem_of_getElem? (i := 450) (by decide +kernel), List.mem_of_getElem? (i := 575) (by decide +kernel), List.mem_of_getElem? (i := 576) (by decide +kernel)⟩
theorem lw_p25 : lw_okq (⟨"LotTrackerModel", "isWafer", "(I)Z"⟩, 20) := ⟨⟨by decide +kernel, by decide +kernel⟩, List.mem_of_getElem? (i := 450) (by decide +kernel), List.mem_of_getElem? (i := 587) (by decide +kernel), List.mem_of_getElem? (i := 588) (by decide +kernel)⟩
theorem lw_p26 : lw_okq (⟨"LotTrackerModel", "told", "([II)I"⟩, 20) := ⟨⟨by decide +kernel, by decide +kernel⟩, List.mem_of_getElem? (i := 450) (by decide +kernel), List.mem_of_getElem? (i := 611) (by decide +kernel), List.mem_of_getElem? (i := 612) (by decide +kernel)⟩
theorem lw_p27 : lw_okq (⟨"LotTrackerModel", "fails", "(I)I"⟩, 20) := ⟨⟨by decide +kernel, by decide +kernel⟩, List.mem_of_getElem? (i := 450) (by decide +kernel), List.mem_of_getElem? (i := 615) (by decide +kernel), List.mem_of_getElem? (i := 616) (by decide +kernel)⟩
theorem lw_p28 : lw_okq (⟨"LotTrackerModel", "left", "(I)I"⟩, 20) := ⟨⟨by decide +kernel, by decide +kernel⟩, List.mem_of_getElem? (i := 450) (by decide +kernel), List.mem_of_getElem? (i := 631) (by decide +kernel), List.mem_of_getElem? (i := 632) (by decide +kernel)⟩
theorem lw_p29 : lw_okq (⟨"LotTrackerModel", "at", "(I)I"⟩, 20) := ⟨⟨by decide +kernel, by decide +kernel⟩, List.mem_of_getElem? (i := 450) (by decide +kernel), List.mem_of_getElem? (i := 653) (by decide +kernel), List.mem_of_getElem? (i := 654) (by decide +kernel)⟩
def lw_privs_2 : List (MethodName × Nat) := [(⟨"LotTracker", "checkStep", "(I)V"⟩, 18), (⟨"LotTracker", "parentOrNone", "(I)I"⟩, 18), (⟨"LotTrackerModel", "puts", "(II)V"⟩, 20), (⟨"LotTrackerModel", "isLot", "(I)Z"⟩, 20), (⟨"LotTrackerModel", "tooLate", "(I)Z"⟩, 20), (⟨"LotTrackerModel", "waited", "(I)I"⟩, 20), (⟨"LotTrackerModel", "isBusy", "(I)Z"⟩, 20), (⟨"LotTrackerModel", "count", "(I)I"⟩, 20), (⟨"LotTrackerModel", "canMerge", "(I)Z"⟩, 20), (⟨"LotTrackerModel", "isWafer", "(I)Z"⟩, 20), (⟨"LotTrackerModel", "told", "([II)I"⟩, 20), (⟨"LotTrackerModel", "fails", "(I)I"⟩, 20), (⟨"LotTrackerModel", "left", "(I)I"⟩, 20), (⟨"LotTrackerModel", "at", "(I)I"⟩, 20)]
theorem lw_r2 : ∀ q ∈ lw_privs_2, lw_okq q := List.forall_mem_cons.mpr ⟨lw_p16, List.forall_mem_cons.mpr ⟨lw_p17, List.forall_mem_cons.mpr ⟨lw_p18, List.forall_mem_cons.mpr ⟨lw_p19, List.forall_mem_cons.mpr ⟨lw_p20, List.forall_mem_cons.mpr ⟨lw_p21, List.forall_mem_cons.mpr ⟨lw_p22, List.forall_mem_cons.mpr ⟨lw_p23, List.forall_mem_cons.mpr ⟨lw_p24, List.forall_mem_cons.mpr ⟨lw_p25, List.forall_mem_cons.mpr ⟨lw_p26, List.forall_mem_cons.mpr ⟨lw_p27, List.forall_mem_cons.mpr ⟨lw_p28, List.forall_mem_cons.mpr ⟨lw_p29, fun _ h => absurd h List.not_mem_nil⟩⟩⟩⟩⟩⟩⟩⟩⟩⟩⟩⟩⟩⟩
def lw_privs : List (MethodName × Nat) := lw_privs_1 ++ (lw_privs_2)
def lw_tbl : List Cond := k2_sels lw_privs ++ tables_1
theorem lw_privs_ok : ∀ q ∈ lw_privs, lw_okq q := by
  show ∀ q ∈ lw_privs_1 ++ (lw_privs_2), lw_okq q
  exact List.forall_mem_append.mpr ⟨lw_r1, lw_r2⟩
-- ===== end of PART A; then your names; then what follows =====
/-- wanting in this claim's worlds: the word that an array class over an array type is known -/
def va_AOA (ty : FieldType) (U : State) : Prop := (Cond.arrayOver (.array ty)).before #[] U = true
theorem va_AOA.of {ty : FieldType} {A : Array Value} {U : State} (h : (Cond.arrayOver (.array ty)).before A U = true) : va_AOA ty U := h
theorem va_AOA.use {ty : FieldType} {A : Array Value} {U : State} (h : va_AOA ty U) : (Cond.arrayOver (.array ty)).before A U = true := h
theorem mem_r {big ws : List Cond} (ps : List Nat) (hp : ws = ps.filterMap (fun i => big[i]?)) : ∀ w ∈ ws, w ∈ big := by
  intro w hw
  rw [hp] at hw
  obtain ⟨i, -, hi⟩ := List.mem_filterMap.mp hw
  exact List.mem_of_getElem? hi

/-! ===== BEGIN words of one list among another's, by their places ===== -/
theorem goodIn_r {big : List Cond} (ws : List Cond) (ps : List Nat) (hp : ws = ps.filterMap (fun i => big[i]?)) (h : ws.all goodWord = true) : GoodIn big ws := by
  intro w hw
  have h1 := List.all_eq_true.mp h w hw
  rw [hp] at hw
  obtain ⟨i, -, hi⟩ := List.mem_filterMap.mp hw
  have hm : w ∈ big := by first | exact List.mem_of_getElem? hi | exact List.getElem?_mem hi
  exact ⟨hm, good_of_word h1⟩
theorem goodIn_app {big a b : List Cond} (ha : GoodIn big a) (hb : GoodIn big b) : GoodIn big (a ++ b) := fun w h => (List.mem_append.mp h).elim (ha w) (hb w)
theorem goodIn_ca {big a b : List Cond} {c : Cond} (ha : GoodIn big (c :: a)) (hb : GoodIn big b) : GoodIn big (c :: (a ++ b)) := fun w h => (List.mem_cons.mp h).elim (fun e => ha w (List.mem_cons.mpr (Or.inl e))) (fun h => (List.mem_append.mp h).elim (fun h => ha w (List.mem_cons.mpr (Or.inr h))) (hb w))
theorem goodIn_sub {big ws : List Cond} (hm : ∀ w ∈ ws, w ∈ big) (h : ws.all goodWord = true) : GoodIn big ws := fun w hw => ⟨hm w hw, good_of_word (List.all_eq_true.mp h w hw)⟩
/-! ===== END ===== -/

/-! ===== BEGIN new T[n][m]: the outer array a place, the inner ones among the pooled ===== -/
/-- f, but v at every address of l -/
def vr_up {α : Type} (f : Nat → α) (l : List Nat) (v : α) : Nat → α := fun a => if a ∈ l then v else f a
theorem vr_up_in {α : Type} {f : Nat → α} {l : List Nat} {v : α} {a : Nat} (h : a ∈ l) : vr_up f l v a = v := if_pos h
theorem vr_up_ne {α : Type} {f : Nat → α} {l : List Nat} {v : α} {a : Nat} (h : a ∉ l) : vr_up f l v a = f a := if_neg h
theorem vr_rows {L l : List Nat} {f : Nat → va_E} {e : va_E} (h : ∀ a, a ∈ l → a ∉ L) : va_pl L f ++ l.map (fun a => (a, e)) = va_pl (L ++ l) (vr_up f l e) := by
  unfold va_pl
  rw [List.map_append]
  congr 1
  · apply List.map_congr_left
    intro a ha
    rw [vr_up_ne (fun q => h a q ha)]
  · apply List.map_congr_left
    intro a ha
    rw [vr_up_in ha]
theorem vr_lay {X rows : va_W} {x : Nat × va_E} {pl : va_W} {D : va_G} {cl : List vw_C} {H : Heap} (hP : va_P D cl (((X ++ pl) ++ [x]) ++ rows) H) : va_P D cl ((X ++ [x]) ++ (pl ++ rows)) H := by
  rw [List.append_assoc (X ++ pl)] at hP
  have h := va_P.swap hP
  rw [← List.append_assoc X] at h
  have h2 := va_P.swap h
  rw [List.append_assoc (X ++ [x])] at h2
  exact h2
theorem vr_layD {X rows : va_W} {x : Nat × va_E} {pl : va_W} {A : Nat → Prop} (hD : va_D A (((X ++ pl) ++ [x]) ++ rows)) : va_D A ((X ++ [x]) ++ (pl ++ rows)) := by
  rw [List.append_assoc (X ++ pl)] at hD
  have h := va_D.swap hD
  rw [← List.append_assoc X] at h
  have h2 := va_D.swap h
  rw [List.append_assoc (X ++ [x])] at h2
  exact h2
theorem vr_outer (c : ClassId) (N h0 : Nat) : ∀ i : Nat, Jvm.Free.Multi.outerC c N h0 i = arrV c N (fun j => va_rf (if j < i then some (h0 + 1 + j) else none))
  | 0 => by
    show ({ cls := c, slots := Array.replicate N .null, vm := .none } : Cell) = _
    rw [arrV_new]
    refine congrArg (arrV c N) (funext fun j => ?_)
    simp [va_rf]
  | i + 1 => by
    show (Jvm.Free.Multi.outerC c N h0 i).setSlot i (.ref (h0 + 1 + i)) = _
    rw [vr_outer c N h0 i, arrV_store]
    refine congrArg (arrV c N) (funext fun j => ?_)
    by_cases e : j = i
    · subst e
      simp [updV, va_rf]
    · by_cases h : j < i
      · simp [updV, e, h, Nat.lt_succ_of_lt h]
      · simp [updV, e, h, show ¬ j < i + 1 by omega]
section VGM
variable {p : Program} {l : Launch} {e : Env} {R : Room} {s : State} {m : MethodId} {args : Array Value} {below : List Frame} {meth : Method} {c : Code} {H : Heap} {locs : List Loc} {cells slots : Nat} {Q : State → Prop}
variable {cc : ByteArray} {pc : Nat} {ls : Array Slot} {rest : List Value} {D : va_G} {cl : List vw_C} {A : Nat → Prop} {a : Nat} {tys : List (ClassId × FieldType)} {ws : va_W} {H0 : Heap}
theorem va_mna {X : va_W} {L : List Nat} {f : Nat → va_E} {cc : ByteArray} (hexec : p.tables.exec = Jvm.exec) (hb : c.code = cc) {own : String} {index : Nat} {ty : FieldType} {cy : ClassId} (hown : s.vm.findClass own = some m.cls) (hclink : (Cond.classLink own index ("[" ++ (FieldType.array ty).toString)).before args s = true) (hover : va_AOA ty s) (harr : (Cond.arrayClass ty).before args s = true) (hcy : s.vm.findClass (FieldType.array ty).toString = some cy)
    (hK : va_K D cl tys s) (hP : va_P D cl (X ++ va_pl L f) H) (hD : va_D A (X ++ va_pl L f)) (hS : va_S A H0 H locs) (hA : ∀ q, H0.size ≤ q → A q) {n k : Int32} {N' K' : Nat} {z : vp_A} (hn : ¬ n < 0) (hk : ¬ k < 0) (hN : n.toNatClampNeg = N') (hM : k.toNatClampNeg = K')
    (hb1 : N' * 4 ≤ 536870912) (hb2 : K' * componentBytes ty ≤ 536870912) (hb3 : K' ≤ 536870912) (hdf : fits ty (defaultValue ty) = true) (hdd : (defaultValue ty).isDefault = true) (hcells : cells + (1 + N') ≤ R.cells) (hslots : slots + (N' + N' * K') ≤ R.slots) (hz : ∀ c : ClassId, Jvm.Free.Multi.innerC c K' (defaultValue ty) = vp_cell c z) (hdg : decode cc pc = .ok (.multianewarray index 2, 4))
    (kk : ∀ (q : Nat) (r : Nat → Nat) (cA : ClassId) (H1 : Heap), (∀ i j : Nat, i < N' → j < N' → r i = r j → i = j) → (∀ i : Nat, i < N' → r i ∉ L) → va_K D cl (tys ++ [(cA, .array ty)]) s →
      va_P D cl ((X ++ [(q, .inl (cA, N', .inr (.inr (.inr (.inr (fun i => if i < N' then some (r i) else none))))))]) ++ va_pl (L ++ (List.range N').map r) (vr_up f ((List.range N').map r) (.inl (cy, z)))) H1 → va_D A ((X ++ [(q, .inl (cA, N', .inr (.inr (.inr (.inr (fun i => if i < N' then some (r i) else none))))))]) ++ va_pl (L ++ (List.range N').map r) (vr_up f ((List.range N').map r) (.inl (cy, z)))) → va_S A H0 H1 locs →
      W p l e R s m args below meth c H1 locs (cells + 1 + N') (slots + N' + N' * K') Q (F0 m (pc + 4) ls (.ref q :: rest))) : W p l e R s m args below meth c H locs cells slots Q (F0 m pc ls (.int k :: .int n :: rest)) := by
  subst hN
  subst hM
  intro T hT Xs
  obtain ⟨vm₁, cA, comp, -, fA, fC, hO, -, X', step⟩ := Xs.multianewarray2F hexec hown hclink (va_AOA.use hover) harr (g := F0 m pc ls (.int k :: .int n :: rest)) rfl (by rw [hb]; exact hdg) rfl hn hk hb1 hb2 hb3 hdf hdd hcells hslots
  have ec : some cy = some comp := hcy.symm.trans fC
  cases ec
  generalize hF : Jvm.Free.Multi.fill (T.setVm vm₁) cA cy n.toNatClampNeg k.toNatClampNeg (defaultValue ty) n.toNatClampNeg = F at X' step
  have hTh : (T.setVm vm₁).heap = H := hT
  obtain ⟨f1, f2, -, -⟩ := Jvm.Free.Multi.fill_facts (T.setVm vm₁) cA cy n.toNatClampNeg k.toNatClampNeg (defaultValue ty) n.toNatClampNeg
  rw [hF, hTh] at f1 f2
  have hold : ∀ x : Nat, x < H.size → F.heap[x]? = H[x]? := fun x hx => by
    have := Jvm.Free.Multi.fill_old (T.setVm vm₁) cA cy n.toNatClampNeg k.toNatClampNeg (defaultValue ty) (a := x) (by rw [hTh]; exact hx) n.toNatClampNeg
    rw [hF, hTh] at this
    exact this
  have hrow : ∀ j : Nat, j < n.toNatClampNeg → F.heap[H.size + 1 + j]? = some (vp_cell cy z) := fun j hj => by
    have := Jvm.Free.Multi.fill_inner (T.setVm vm₁) cA cy n.toNatClampNeg k.toNatClampNeg (defaultValue ty) n.toNatClampNeg j hj
    rw [hF, hTh, hz] at this
    exact this
  have hout : Jvm.Free.Multi.outerC cA n.toNatClampNeg H.size n.toNatClampNeg = vp_cell cA (n.toNatClampNeg, .inr (.inr (.inr (.inr (fun i => if i < n.toNatClampNeg then some (H.size + 1 + i) else none))))) := by
    rw [vp_cell_q]
    exact vr_outer cA n.toNatClampNeg H.size n.toNatClampNeg
  rw [hout] at f2
  have hlt : ∀ a, a ∈ L → a < H.size := fun a ha => by
    obtain ⟨k9, hk9⟩ := va_pl_get (X := X) (f := f) ha
    exact (hP k9 _ hk9).lt
  have hnl : ∀ i : Nat, i < n.toNatClampNeg → H.size + 1 + i ∉ L := fun i _ h => by
    have := hlt _ h
    omega
  have hnm : ∀ a, a ∈ (List.range n.toNatClampNeg).map (fun i => H.size + 1 + i) → a ∉ L := fun a ha h => by
    obtain ⟨i, -, rfl⟩ := List.mem_map.mp ha
    have := hlt _ h
    omega
  have hP0 : va_P D cl (X ++ va_pl L f) F.heap := hP.kept (fun k9 x hx => hold x.1 ((hP k9 x hx).lt))
  have hP1 : va_P D cl ((X ++ va_pl L f) ++ [(H.size, .inl (cA, n.toNatClampNeg, .inr (.inr (.inr (.inr (fun i => if i < n.toNatClampNeg then some (H.size + 1 + i) else none))))))]) F.heap := hP0.app (fun k9 x hx => by
    have h0 : k9 < 1 := (List.getElem?_eq_some_iff.mp hx).1
    rw [show k9 = 0 by omega] at hx
    cases hx
    exact f2)
  have hP2 : va_P D cl (((X ++ va_pl L f) ++ [(H.size, .inl (cA, n.toNatClampNeg, .inr (.inr (.inr (.inr (fun i => if i < n.toNatClampNeg then some (H.size + 1 + i) else none))))))]) ++ ((List.range n.toNatClampNeg).map (fun i => H.size + 1 + i)).map (fun a => (a, .inl (cy, z)))) F.heap := hP1.app (fun k9 x hx => by
    obtain ⟨a, ha, rfl⟩ := List.mem_map.mp (List.mem_of_getElem? hx)
    obtain ⟨i, hi, rfl⟩ := List.mem_map.mp ha
    exact hrow i (List.mem_range.mp hi))
  have hD2 : va_D A (((X ++ va_pl L f) ++ [(H.size, .inl (cA, n.toNatClampNeg, .inr (.inr (.inr (.inr (fun i => if i < n.toNatClampNeg then some (H.size + 1 + i) else none))))))]) ++ ((List.range n.toNatClampNeg).map (fun i => H.size + 1 + i)).map (fun a => (a, .inl (cy, z)))) := by
    have hD1 := hD.push (e := .inl (cA, n.toNatClampNeg, .inr (.inr (.inr (.inr (fun i => if i < n.toNatClampNeg then some (H.size + 1 + i) else none)))))) hP rfl (hA _ hS.1)
    generalize hW1 : (X ++ va_pl L f) ++ [(H.size, .inl (cA, n.toNatClampNeg, .inr (.inr (.inr (.inr (fun i => if i < n.toNatClampNeg then some (H.size + 1 + i) else none))))))] = W1 at hD1 hP1 ⊢
    have hle : ∀ (k9 : Nat) (x : Nat × va_E), W1[k9]? = some x → x.1 ≤ H.size := fun k9 x hx => by
      rw [← hW1] at hx
      by_cases hl : k9 < (X ++ va_pl L f).length
      · rw [List.getElem?_append_left hl] at hx
        exact Nat.le_of_lt ((hP k9 x hx).lt)
      · rw [List.getElem?_append_right (by omega)] at hx
        have h0 : k9 - (X ++ va_pl L f).length < 1 := (List.getElem?_eq_some_iff.mp hx).1
        rw [show k9 - (X ++ va_pl L f).length = 0 by omega] at hx
        cases hx
        exact Nat.le_refl _
    have hr : ∀ (k9 : Nat) (x : Nat × va_E), (((List.range n.toNatClampNeg).map (fun i => H.size + 1 + i)).map (fun a => ((a, .inl (cy, z)) : Nat × va_E)))[k9]? = some x → x.1 = H.size + 1 + k9 := fun k9 x hx => by
      rw [List.getElem?_map, List.getElem?_map] at hx
      by_cases h9 : k9 < n.toNatClampNeg
      · rw [List.getElem?_range h9] at hx
        cases hx
        rfl
      · have hn0 : (List.range n.toNatClampNeg)[k9]? = none := List.getElem?_eq_none (by rw [List.length_range]; omega)
        rw [hn0] at hx
        cases hx
    refine ⟨fun i j x y hi hj hxy => ?_, fun k9 x hx => ?_⟩
    · by_cases h1 : i < W1.length <;> by_cases h2 : j < W1.length
      · rw [List.getElem?_append_left h1] at hi
        rw [List.getElem?_append_left h2] at hj
        exact hD1.1 i j x y hi hj hxy
      · rw [List.getElem?_append_left h1] at hi
        rw [List.getElem?_append_right (by omega)] at hj
        have := hle _ _ hi
        have := hr _ _ hj
        omega
      · rw [List.getElem?_append_right (by omega)] at hi
        rw [List.getElem?_append_left h2] at hj
        have := hle _ _ hj
        have := hr _ _ hi
        omega
      · rw [List.getElem?_append_right (by omega)] at hi hj
        have := hr _ _ hi
        have := hr _ _ hj
        omega
    · by_cases h1 : k9 < W1.length
      · rw [List.getElem?_append_left h1] at hx
        exact hD1.2 k9 x hx
      · rw [List.getElem?_append_right (by omega)] at hx
        have := hr _ _ hx
        exact hA _ (by have := hS.1; omega)
  have hAr : ArrOfT s cA (.array ty) := fun N9 z9 => by
    obtain ⟨-, k9, hk9, cm9, hkk9⟩ := (hO 0 0 0).1
    exact ⟨(fun q hq => by cases hq), k9, hk9, cm9, hkk9⟩
  have hK2 : va_K D cl (tys ++ [(cA, .array ty)]) s := ⟨hK.1, fun k9 x hx => by
    by_cases hl : k9 < tys.length
    · rw [List.getElem?_append_left hl] at hx
      exact hK.2 k9 x hx
    · rw [List.getElem?_append_right (by omega)] at hx
      have h0 : k9 - tys.length < 1 := (List.getElem?_eq_some_iff.mp hx).1
      rw [show k9 - tys.length = 0 by omega] at hx
      cases hx
      exact ⟨hAr, fA⟩⟩
  obtain ⟨t, a1, b1⟩ := kk H.size (fun i => H.size + 1 + i) cA F.heap (fun i j _ _ h => by have h9 : H.size + 1 + i = H.size + 1 + j := h; omega) hnl hK2 (by rw [← vr_rows hnm]; exact vr_lay hP2) (by rw [← vr_rows hnm]; exact vr_layD hD2) ⟨by rw [f1]; have := hS.1; omega, fun x h1 h2 => (hold x (Nat.lt_of_lt_of_le h1 hS.1)).trans (hS.2.1 x h1 h2), hS.2.2⟩ F rfl X'
  refine ⟨t, step t ?_, b1⟩
  have e : T.heap.size = H.size := by rw [hT]
  rw [e]
  exact a1
end VGM
/-! ===== END ===== -/

/-! ===== BEGIN exceptions that leave a method, and their catching by the caller (launches without stack traces) ===== -/
section VXA
/-! The laws vx_back, vx_callV, vx_callS, vx_callSW, vx_throw0, vx_throwS follow proofs of the library, with one case more: JvmDerived/Free/Laws.lean (Back.of_free), Shelf42/LK1.lean (callV, callS), Shelf/KitTraced.lean (throwNew0V, throwNewS). -/
/-- where a method has thrown q: the class by its name, the cell, what was written, the world -/
def vx_T (XC : String → State → State → Prop) (st : State) (q : Addr) (t : State) (mc ms : Nat) (free : Addr → Prop) : Prop :=
  ∃ (E : String) (ce : Cell) (L : List Loc), XC E st t ∧ t.heap[q]? = some ce ∧ ce.vm = .none ∧ st.vm.findClass E = some ce.cls ∧ st.WarmedH t.vm ∧ st.sameButNew ({ t with vm := st.vm } : State) L mc ms ∧ ∀ z ∈ L, free z.base
def vx_Q (Qc : Array Value → State → Outcome → State → Prop) (XC : String → State → State → Prop) (mc ms : Nat) (free : Addr → Prop) : Array Value → State → Outcome → State → Prop := fun a st o t =>
  (Qc a st o t ∧ ∃ L, FrameEnd st o t L mc ms ∧ ∀ q ∈ L, free q.base) ∨ ∃ q, o = .threw q ∧ vx_T XC st q t mc ms free
/-- a callee that returns or throws -/
def vx_Met (l : Launch) (y : MethodName) (ws : List Cond) (rm : Room) (Pc : Array Value → State → Prop) (Qc : Array Value → State → Outcome → State → Prop) (XC : String → State → State → Prop) (mc ms : Nat) (free : Addr → Prop) : Prop :=
  MetFree l y (headSpec ws rm) Pc (fun _ _ _ _ _ => True) (vx_Q Qc XC mc ms free)
def vx_Post (XC : String → State → State → Prop) (mc ms : Nat) (free : Addr → Prop) : Pt → Array Value → Addr → Pt → Prop := fun A a q B =>
  ∃ (g : JFrame) (mk : MethodId) (t : State) (L : List Loc) (E : String) (ce : Cell), B.U.heap = t.heap ∧ B.U.vm = t.vm ∧ XC E (A.U.calling g mk a) t ∧ t.heap[q]? = some ce ∧ ce.vm = .none ∧ A.U.vm.findClass E = some ce.cls ∧ B.locs = A.locs ++ L ∧ (∀ z ∈ L, free z.base) ∧ B.cells = A.cells + mc ∧ B.slots = A.slots + ms
def vx_Back (l : Launch) (R : Room) (p : Program) (e : Env) (below : List Frame) (s : State) (sargs : Array Value) (y : MethodName) (len W9 : Nat)
    (Pre : Pt → Array Value → Prop) (Post : Pt → Array Value → Option Value → Pt → Prop) (PostX : Pt → Array Value → Addr → Pt → Prop) : Prop :=
  ∀ (m : MethodId) (meth : Method) (c : Code) (A : Pt) (g : JFrame) (ig : Instr) (mk : MethodId) (a : Array Value),
    Stand p l e R s m sargs below meth c A.U A.locs A.cells A.slots → g.method = m → g.locals.size = c.maxLocals → decode c.code g.pc = .ok (ig, len) →
    2 * g.monitorRoom + (g.stack.map fun v => v.category).sum ≤ W9 → A.U.methodNamed? y = some mk → Pre A a →
    (∃ (v : Option Value) (B : Pt), Stand p l e R s m sargs below meth c B.U B.locs B.cells B.slots ∧ Post A a v B ∧
      Steps p.tables e below (doInvoke e (A.U.setTop g) [] mk a).1 (B.U.setTop { g with pc := g.pc + len, stack := v.toList ++ g.stack })) ∨
    (∃ (q : Addr) (B : Pt), Stand p l e R s m sargs below meth c B.U B.locs B.cells B.slots ∧ PostX A a q B ∧
      Steps p.tables e below (doInvoke e (A.U.setTop g) [] mk a).1 ((B.U.setTop g).pushFrame (.throwing q)))
section Payer
variable {l : Launch} {R : Room} {p : Program} {e : Env} {below : List Frame} {s : State} {sargs : Array Value} {y : MethodName} {len W9 : Nat}
theorem vx_back {ws : List Cond} {rm : Room} {Pc : Array Value → State → Prop} {Qc : Array Value → State → Outcome → State → Prop} {XC : String → State → State → Prop} {mc ms : Nat} {free : Addr → Prop} {bytes : ByteArray} {maxL : Nat} {ret : Option FieldType}
    (hM : vx_Met l y ws rm Pc Qc XC mc ms free) (hblind : FrameBlind Pc) (hrc : rm.cells = mc) (hrs : rm.slots = ms)
    (hframes : rm.frames + 1 ≤ R.frames) (hlocals : W9 + (maxL + 11) + rm.locals ≤ R.locals)
    (hws : ∀ w ∈ ws, ∀ a' U, s.WarmedH U.vm → w.before a' U = true) (hcode : Cond.code y bytes maxL ret ∈ ws) (hinit : ∀ a' U, s.WarmedH U.vm → (Cond.initialized y.cls).before a' U = true) :
    vx_Back l R p e below s sargs y len W9 (PreOf R mc ms Pc) (PostOf Qc mc ms free) (vx_Post XC mc ms free) := by
  intro m meth c A g ig mk a X hg hsize hdg hW hn hp
  have h1 : (headSpec ws rm).pre.before a A.U = true := atoms_intro fun w hw => hws w hw _ _ X.warmed
  have h2 : (Cond.code y bytes maxL ret).before a A.U = true := hws _ hcode _ _ X.warmed
  have h3 : (Cond.initialized y.cls).before a A.U = true := hinit _ _ X.warmed
  have h4 : A.cells + (headSpec ws rm).room.cells ≤ R.cells := by rw [show (headSpec ws rm).room.cells = mc from hrc]; exact hp.1
  have h5 : A.slots + (headSpec ws rm).room.slots ≤ R.slots := by rw [show (headSpec ws rm).room.slots = ms from hrs]; exact hp.2.1
  have hPc : Pc a (A.U.calling g mk a) := hblind _ _ _ _ hp.2.2
  obtain ⟨U, Ls, c0, s0⟩ := A
  dsimp only [Pt.U, Pt.locs, Pt.cells, Pt.slots] at h1 h2 h3 h4 h5 X hn hPc ⊢
  obtain ⟨methY, cY, hmY, hcY, -, hlY, -, -, -, -⟩ := Cond.code_spec hn h2
  obtain ⟨kY, hkY, -⟩ := className_of_methodNamed hn
  have hinitY : kY.init = .initialized := Cond.initialized_spec (findClass_of_methodNamed hn) hkY h3
  have h : At U g.method c below := by rw [hg]; exact X.here
  have hlocals9 : W9 + (maxL + 11) + (headSpec ws rm).room.locals ≤ R.locals := hlocals
  have happ : (headSpec ws rm).appliesLoose y e.platform (U.calling g mk a) = true :=
    Spec.appliesLoose_calling (g := g) h hdg hn hkY hinitY
      (X.room_calling (g := g) (R' := (headSpec ws rm).room) hsize hmY hcY hframes (by rw [hlY]; omega) h4 h5) h1
  obtain ⟨mid, hmid⟩ := h.above
  have hfr : (U.setTop g).frames = (.java g :: mid) ++ below := by rw [State.frames_setTop' g h.top, hmid]; rfl
  obtain ⟨o, s₂, hsteps, -, hend, hq⟩ := Steps.callFree hM p X.admits X.cas X.clock (acts := []) hfr happ hPc trivial
  have hq' : vx_Q Qc XC mc ms free a (U.calling g mk a) o s₂ := hq
  rw [State.frames_setTop' g h.top] at hend
  obtain ⟨g₀, hg0⟩ := Option.isSome_iff_exists.mp h.top
  obtain ⟨r, hr⟩ := State.topJava?_eq_some.mp hg0
  have hr' : (({ U with heap := s₂.heap, slotsUsed := s₂.slotsUsed } : State).setVm s₂.vm).frames = .java g₀ :: r := hr
  rcases hq' with ⟨hqc, L, hfe, hL⟩ | ⟨q, rfl, E, ce, L, hx, hce, hcv, hcl, hW₂, hsm, hL⟩
  · obtain ⟨⟨v, rfl⟩, hW₂, e2, q2, q3, q4, q5, q6⟩ := id hfe
    have e3 : s₂ = ({ (U.calling g mk a).setFrames s₂.frames with heap := s₂.heap, slotsUsed := s₂.slotsUsed } : State).setVm s₂.vm := by
      have : s₂ = ({ s₂ with vm := (U.calling g mk a).vm } : State).setVm s₂.vm := rfl
      rw [e2] at this
      exact this
    obtain ⟨c₂, i₂, len₂, hc₂, hd₂, hf₂⟩ := hend
    have hW' : U.WarmedH s₂.vm := hW₂
    have hcc : c₂ = c := by
      have h1 : s₂.code? g.method = U.code? g.method := by
        rw [State.code?_eq, State.code?_eq, hW'.alike.method?]
      exact Option.some.inj (hc₂.symm.trans (h1.trans h.code))
    subst hcc
    have hlen : len₂ = len := by rw [hdg] at hd₂; cases hd₂; rfl
    subst hlen
    have hs₂ : s₂ = (({ U with heap := s₂.heap, slotsUsed := s₂.slotsUsed } : State).setVm s₂.vm).setTop { g with pc := g.pc + len₂, stack := v.toList ++ g.stack } := by
      refine e3.trans ?_
      rw [hf₂, State.calling_eq h.top, State.setFrames_setFrames, State.setTop_of_frames _ hr', hr]
      rfl
    have hsame : U.sameButNew ({ U with heap := s₂.heap, slotsUsed := s₂.slotsUsed } : State) L mc ms := by
      refine ⟨?_, q2, q3, q4, q5, q6⟩
      obtain ⟨t, ht, -⟩ := State.frames_cons hr
      show ({ U with heap := s₂.heap, slotsUsed := s₂.slotsUsed } : State) = { U.setFrames U.frames with heap := s₂.heap, slotsUsed := s₂.slotsUsed }
      rw [State.setFrames_self ht]
    subst hg
    refine Or.inl ⟨v, ⟨(({ U with heap := s₂.heap, slotsUsed := s₂.slotsUsed } : State).setVm s₂.vm), Ls ++ L, c0 + mc, s0 + ms⟩,
      ⟨X.admits, X.cas, X.clock, X.frames, X.room, X.hears, X.method, X.code, (X.here.setHeapUsed s₂.heap s₂.slotsUsed).setVm hW'.alike, X.tail, State.WarmedH.trans X.warmed hW', X.limits, X.bytes, X.same.trans (hsame.setVm s.vm)⟩,
      ⟨g, mk, s₂, L, rfl, rfl, hqc, rfl, hL, rfl, rfl⟩, ?_⟩
    show Steps p.tables e below _ ((({ U with heap := s₂.heap, slotsUsed := s₂.slotsUsed } : State).setVm s₂.vm).setTop { g with pc := g.pc + len₂, stack := v.toList ++ g.stack })
    rw [← hs₂]
    exact hsteps
  · obtain ⟨e2, q2, q3, q4, q5, q6⟩ := id hsm
    have e3 : s₂ = ({ (U.calling g mk a).setFrames s₂.frames with heap := s₂.heap, slotsUsed := s₂.slotsUsed } : State).setVm s₂.vm := by
      have : s₂ = ({ s₂ with vm := (U.calling g mk a).vm } : State).setVm s₂.vm := rfl
      rw [e2] at this
      exact this
    have hf₂ : s₂.frames = .throwing q :: .java g :: U.frames.tail := hend
    have hW' : U.WarmedH s₂.vm := hW₂
    have hs₂ : s₂ = ((({ U with heap := s₂.heap, slotsUsed := s₂.slotsUsed } : State).setVm s₂.vm).setTop g).pushFrame (.throwing q) := by
      refine e3.trans ?_
      rw [hf₂, State.calling_eq h.top, State.setFrames_setFrames, State.pushFrame, State.frames_setTop _ hr', State.setTop_of_frames _ hr', State.setFrames_setFrames, hr]
      rfl
    have hsame : U.sameButNew ({ U with heap := s₂.heap, slotsUsed := s₂.slotsUsed } : State) L mc ms := by
      refine ⟨?_, q2, q3, q4, q5, q6⟩
      obtain ⟨t, ht, -⟩ := State.frames_cons hr
      show ({ U with heap := s₂.heap, slotsUsed := s₂.slotsUsed } : State) = { U.setFrames U.frames with heap := s₂.heap, slotsUsed := s₂.slotsUsed }
      rw [State.setFrames_self ht]
    subst hg
    refine Or.inr ⟨q, ⟨(({ U with heap := s₂.heap, slotsUsed := s₂.slotsUsed } : State).setVm s₂.vm), Ls ++ L, c0 + mc, s0 + ms⟩,
      ⟨X.admits, X.cas, X.clock, X.frames, X.room, X.hears, X.method, X.code, (X.here.setHeapUsed s₂.heap s₂.slotsUsed).setVm hW'.alike, X.tail, State.WarmedH.trans X.warmed hW', X.limits, X.bytes, X.same.trans (hsame.setVm s.vm)⟩,
      ⟨g, mk, s₂, L, E, ce, rfl, rfl, hx, hce, hcv, hcl, rfl, hL, rfl, rfl⟩, ?_⟩
    show Steps p.tables e below _ (((({ U with heap := s₂.heap, slotsUsed := s₂.slotsUsed } : State).setVm s₂.vm).setTop g).pushFrame (.throwing q))
    rw [← hs₂]
    exact hsteps
end Payer
section Calls
variable {p : Program} {l : Launch} {e : Env} {R : Room} {s : State} {m : MethodId} {args : Array Value} {below : List Frame} {meth : Method} {c : Code} {T : State} {locs : List Loc} {cells slots : Nat}
theorem vx_callV (X : Stand p l e R s m args below meth c T locs cells slots) (hexec : p.tables.exec = Jvm.exec) {own C : String} {index : Nat} {y : MethodName} {bytes : ByteArray} {maxL : Nat} {ret : Option FieldType}
    (hown : s.vm.findClass own = some m.cls) (hlink : (Cond.methodLink own index y).before args s = true) (hinst : (Cond.instanceMethod y).before args s = true) (hsel : (Cond.selects C y y).before args s = true)
    (hcode : (Cond.code y bytes maxL ret).before args s = true) (hy : y.cls ≠ "java/lang/invoke/MethodHandle" ∧ y.cls ≠ "java/lang/invoke/VarHandle")
    {W9 : Nat} {Pre : Pt → Array Value → Prop} {Post : Pt → Array Value → Option Value → Pt → Prop} {PostX : Pt → Array Value → Addr → Pt → Prop} (hK : vx_Back l R p e below s args y 3 W9 Pre Post PostX)
    {b : Addr} {cellB : Cell} (hcell : T.heap[b]? = some cellB) (hobj : cellB.vm.isStatics = false) (hcls : s.vm.findClass C = some cellB.cls)
    {g : JFrame} (hg : g.method = m) (hsize : g.locals.size = c.maxLocals) {argsL rest : List Value} (hlen : ∀ sig, parseMethodDescriptor y.desc = some sig → argsL.length = sig.parameters.length)
    (hstack : g.stack = argsL.reverse ++ .ref b :: rest) (hW : 2 * g.monitorRoom + (rest.map fun v => v.category).sum ≤ W9) (hdg : decode c.code g.pc = .ok (.invokevirtual index, 3))
    (hpre : ∀ vm₁, s.WarmedH vm₁ → Pre ⟨T.setVm vm₁, locs, cells, slots⟩ (Value.ref b :: argsL).toArray) :
    (∃ (v : Option Value) (vm₁ : Vm) (B : Pt), s.WarmedH vm₁ ∧ Stand p l e R s m args below meth c B.U B.locs B.cells B.slots ∧ Post ⟨T.setVm vm₁, locs, cells, slots⟩ (Value.ref b :: argsL).toArray v B ∧
      ∀ target, Steps p.tables e below (B.U.setTop { g with pc := g.pc + 3, stack := v.toList ++ rest }) target → Steps p.tables e below (T.setTop g) target) ∨
    (∃ (q : Addr) (vm₁ : Vm) (B : Pt), s.WarmedH vm₁ ∧ Stand p l e R s m args below meth c B.U B.locs B.cells B.slots ∧ PostX ⟨T.setVm vm₁, locs, cells, slots⟩ (Value.ref b :: argsL).toArray q B ∧
      Steps p.tables e below (T.setTop g) ((B.U.setTop { g with stack := rest }).pushFrame (.throwing q))) := by
  obtain ⟨mk, methM, hnamed, hmethM, hstM, habM⟩ := Cond.instanceMethod_spec hinst
  obtain ⟨methM', cM, hmethM', -, -, -, -, -, -, hsigM⟩ := Cond.code_spec hnamed hcode
  cases hmethM.symm.trans hmethM'
  obtain ⟨c2, r2, m2, q1, q2, q3, q4, kP, hkP, hkPi⟩ := Cond.selects_spec hsel
  cases hcls.symm.trans q1
  cases (State.methodFound?_of_named hnamed hy).symm.trans q2
  cases hnamed.symm.trans q3
  have hselP : selectMethod e.platform s.vm cellB.cls mk = .method mk := by rw [Launch.admits_selectMethod X.admits]; exact q4
  obtain ⟨vm₁, X₁, hstep₁⟩ := X.invokevirtual hexec hown hlink hnamed hmethM hstM hkP hkPi hy (a := b) (cell := cellB) hcell
    (fun z h => by rw [h] at hobj; cases hobj) hselP hmethM habM hkP hkPi (g := g) hg (argsL := argsL) (rest := rest) (hlen _ hsigM) hstack hdg
  rcases hK m meth c ⟨T.setVm vm₁, locs, cells, slots⟩ { g with stack := rest } (.invokevirtual index) mk (Value.ref b :: argsL).toArray X₁ hg hsize hdg hW (X₁.named hnamed) (hpre vm₁ X₁.warmed) with ⟨v, B, X', hpost, hsteps⟩ | ⟨q, B, X', hpost, hsteps⟩
  · exact Or.inl ⟨v, vm₁, B, X₁.warmed, X', hpost, fun target h => hstep₁ _ fun acts => by rw [doInvoke_state]; exact hsteps.trans h⟩
  · exact Or.inr ⟨q, vm₁, B, X₁.warmed, X', hpost, hstep₁ _ fun acts => by rw [doInvoke_state]; exact hsteps⟩
theorem vx_callS (X : Stand p l e R s m args below meth c T locs cells slots) (hexec : p.tables.exec = Jvm.exec) {own : String} {index : Nat} {y : MethodName} {bytes : ByteArray} {maxL : Nat} {ret : Option FieldType}
    (hown : s.vm.findClass own = some m.cls) (hlink : (Cond.methodLink own index y).before args s = true) (hstat : (Cond.static y).before args s = true) (hinit : (Cond.initialized y.cls).before args s = true)
    (hcode : (Cond.code y bytes maxL ret).before args s = true) (hy : y.cls ≠ "java/lang/invoke/MethodHandle" ∧ y.cls ≠ "java/lang/invoke/VarHandle")
    {W9 : Nat} {Pre : Pt → Array Value → Prop} {Post : Pt → Array Value → Option Value → Pt → Prop} {PostX : Pt → Array Value → Addr → Pt → Prop} (hK : vx_Back l R p e below s args y 3 W9 Pre Post PostX)
    {g : JFrame} (hg : g.method = m) (hsize : g.locals.size = c.maxLocals) {argsL rest : List Value} (hlen : ∀ sig, parseMethodDescriptor y.desc = some sig → argsL.length = sig.parameters.length)
    (hstack : g.stack = argsL.reverse ++ rest) (hW : 2 * g.monitorRoom + (rest.map fun v => v.category).sum ≤ W9) (hdg : decode c.code g.pc = .ok (.invokestatic index, 3))
    (hpre : ∀ vm₁, s.WarmedH vm₁ → Pre ⟨T.setVm vm₁, locs, cells, slots⟩ argsL.toArray) :
    (∃ (v : Option Value) (vm₁ : Vm) (B : Pt), s.WarmedH vm₁ ∧ Stand p l e R s m args below meth c B.U B.locs B.cells B.slots ∧ Post ⟨T.setVm vm₁, locs, cells, slots⟩ argsL.toArray v B ∧
      ∀ target, Steps p.tables e below (B.U.setTop { g with pc := g.pc + 3, stack := v.toList ++ rest }) target → Steps p.tables e below (T.setTop g) target) ∨
    (∃ (q : Addr) (vm₁ : Vm) (B : Pt), s.WarmedH vm₁ ∧ Stand p l e R s m args below meth c B.U B.locs B.cells B.slots ∧ PostX ⟨T.setVm vm₁, locs, cells, slots⟩ argsL.toArray q B ∧
      Steps p.tables e below (T.setTop g) ((B.U.setTop { g with stack := rest }).pushFrame (.throwing q))) := by
  obtain ⟨mk, hnamed⟩ := Cond.code_named hcode
  obtain ⟨methM, cM, hmethM, -, -, -, -, -, -, hsigM⟩ := Cond.code_spec hnamed hcode
  have hstatic : methM.isStatic = true := Cond.static_spec hnamed hmethM hstat
  obtain ⟨kP, hkP, -⟩ := className_of_methodNamed hnamed
  have hinitP : kP.init = .initialized := Cond.initialized_spec (findClass_of_methodNamed hnamed) hkP hinit
  obtain ⟨vm₁, X₁, hstep₁⟩ := X.invokestatic hexec hown hlink hnamed hmethM hstatic hkP hinitP hy (g := g) hg (argsL := argsL) (rest := rest) (hlen _ hsigM) hstack hdg
  rcases hK m meth c ⟨T.setVm vm₁, locs, cells, slots⟩ { g with stack := rest } (.invokestatic index) mk argsL.toArray X₁ hg hsize hdg hW (X₁.named hnamed) (hpre vm₁ X₁.warmed) with ⟨v, B, X', hpost, hsteps⟩ | ⟨q, B, X', hpost, hsteps⟩
  · exact Or.inl ⟨v, vm₁, B, X₁.warmed, X', hpost, fun target h => hstep₁ _ fun acts => by rw [doInvoke_state]; exact hsteps.trans h⟩
  · exact Or.inr ⟨q, vm₁, B, X₁.warmed, X', hpost, hstep₁ _ fun acts => by rw [doInvoke_state]; exact hsteps⟩
end Calls
theorem vx_cls {s : State} {T : State} {vm₁ : Vm} {E : String} {k : ClassId} (hW : s.WarmedH vm₁) (h : (T.setVm vm₁).vm.findClass E = some k) : s.vm.findClass E = some k := by
  have h1 : vm₁.findClass E = some k := h
  rw [hW.alike.findClass] at h1
  exact h1
/-- the method's frame g, with q thrown over it -/
def vx_W (p : Program) (l : Launch) (e : Env) (R : Room) (s : State) (m : MethodId) (args : Array Value) (below : List Frame) (meth : Method) (c : Code) (H : Heap) (locs : List Loc) (cells slots : Nat) (Q : State → Prop) (g : JFrame) (q : Addr) : Prop :=
  ∀ T : State, T.heap = H → Stand p l e R s m args below meth c T locs cells slots → ∃ t, Steps p.tables e below ((T.setTop g).pushFrame (.throwing q)) t ∧ Q t
def vx_Run (p : Program) (l : Launch) (e : Env) (R : Room) (s : State) (m : MethodId) (args : Array Value) (below : List Frame) (meth : Method) (c : Code) (H : Heap) (locs : List Loc) (cells slots mc ms : Nat) (g : JFrame) (rest : List Value) (Qa : State → Outcome → State → Prop) (XC : String → State → State → Prop) (free : Addr → Prop) : Prop :=
  ∀ T : State, T.heap = H → Stand p l e R s m args below meth c T locs cells slots →
    (∃ (v : Option Value) (st₀ t T' : State) (L : List Loc), st₀.heap = H ∧ Stand p l e R s m args below meth c T' (locs ++ L) (cells + mc) (slots + ms) ∧ (∀ q ∈ L, free q.base) ∧ T'.heap = t.heap ∧ T'.vm = t.vm ∧ Qa st₀ (.returned v) t ∧
      Goes p e below T g T' { g with pc := g.pc + 3, stack := v.toList ++ rest }) ∨
    (∃ (q : Addr) (st₀ t T' : State) (L : List Loc) (E : String) (ce : Cell), st₀.heap = H ∧ Stand p l e R s m args below meth c T' (locs ++ L) (cells + mc) (slots + ms) ∧ (∀ z ∈ L, free z.base) ∧ T'.heap = t.heap ∧ T'.vm = t.vm ∧ XC E st₀ t ∧ t.heap[q]? = some ce ∧ ce.vm = .none ∧ s.vm.findClass E = some ce.cls ∧
      Steps p.tables e below (T.setTop g) ((T'.setTop { g with stack := rest }).pushFrame (.throwing q)))
def vx_X {S : Type} (px : S → Prop) (B : String → S → State → Prop) (A : Nat → Prop) : String → State → State → Prop := fun E st t => ∃ u : S, px u ∧ B E u t ∧ va_F A st t
section Runs
variable {p : Program} {l : Launch} {e : Env} {R : Room} {s : State} {m : MethodId} {args : Array Value} {below : List Frame} {meth : Method} {c : Code} {H : Heap} {locs : List Loc} {cells slots : Nat}
variable {y : MethodName} {bytes cc : ByteArray} {maxL nL mc ms n index : Nat} {ret : Option FieldType} {ws : List Cond} {rm : Room} {Pc : Array Value → State → Prop} {Qc : Array Value → State → Outcome → State → Prop} {XC : String → State → State → Prop} {free : Addr → Prop} {Ts : List Cond} {own C : String} {b : Addr} {As rest : List Value} {g : JFrame}
theorem vx_callBack (cb : CallB R s args own index y bytes maxL ret ws rm mc ms n) (hM : vx_Met l y ws rm Pc Qc XC mc ms free) (hbl : FrameBlind Pc) : vx_Back l R p e below s args y 3 8 (PreOf R mc ms Pc) (PostOf Qc mc ms free) (vx_Post XC mc ms free) := by
  obtain ⟨hrc, hrs, hfr, hlo, hws, hcw, -, hini, -⟩ := cb
  exact vx_back (bytes := bytes) (maxL := maxL) (ret := ret) hM hbl hrc hrs hfr hlo hws hcw (fun a' U hW => word_at hW (Or.inl (by first | rfl | simp [Cond.onTables, Cond.keeps, Cond.steady])) hini)
theorem vx_runV (S : CallFix p m c cc nL s args Ts own) (hM : vx_Met l y ws rm Pc Qc XC mc ms free) (cw : CallW R s args own C index y bytes maxL ret ws rm mc ms n) (hp : PreV s H C b Pc As)
    (hg : g.method = m) (hn : As.length = n) (hsize : g.locals.size = nL) (hstack : g.stack = As.reverse ++ .ref b :: rest) (hW : 2 * g.monitorRoom + (rest.map fun v => v.category).sum ≤ 8) (hdg : decode cc g.pc = .ok (.invokevirtual index, 3)) (hf : cells + mc ≤ R.cells ∧ slots + ms ≤ R.slots) :
    vx_Run p l e R s m args below meth c H locs cells slots mc ms g rest (Qc (Value.ref b :: As).toArray) XC free := by
  have hK : vx_Back l R p e below s args y 3 8 (PreOf R mc ms Pc) (PostOf Qc mc ms free) (vx_Post XC mc ms free) := vx_callBack cw.1 hM hp.1
  obtain ⟨⟨-, -, -, -, -, -, hcode, -, hy, hlen, hl⟩, hin, hse⟩ := cw
  obtain ⟨hx, hb, hml, ho, -⟩ := S
  obtain ⟨-, ⟨cellB, hcB, hoB, hclB⟩, hPc⟩ := hp
  intro T hT X
  rcases vx_callV X hx (C := C) (bytes := bytes) (maxL := maxL) (ret := ret) ho hl hin hse hcode hy hK (by rw [hT]; exact hcB) hoB hclB hg (hsize.trans hml.symm) (argsL := As) (rest := rest) (fun sig h => hn.trans (hlen sig h)) hstack hW (by rw [hb]; exact hdg)
    (fun vm₁ hW₁ => ⟨hf.1, hf.2, hPc (T.setVm vm₁) hT hW₁⟩) with ⟨v, vm₁, ⟨U', l2, c2, s2⟩, hW₁, X', ⟨g', mk, t, L, e1, e2, hq, h1, hL, h2, h3⟩, st⟩ | ⟨q, vm₁, ⟨U', l2, c2, s2⟩, hW₁, X', ⟨g', mk, t, L, E, ce, e1, e2, hq, hce, hcv, hcl, h1, hL, h2, h3⟩, st⟩
  · dsimp only [Pt.U, Pt.locs, Pt.cells, Pt.slots] at X' e1 e2 h1 h2 h3 st
    subst h1; subst h2; subst h3
    exact Or.inl ⟨v, (T.setVm vm₁).calling g' mk (Value.ref b :: As).toArray, t, U', L, hT, X', hL, e1, e2, hq, st⟩
  · dsimp only [Pt.U, Pt.locs, Pt.cells, Pt.slots] at X' e1 e2 h1 h2 h3 st hcl
    subst h1; subst h2; subst h3
    exact Or.inr ⟨q, (T.setVm vm₁).calling g' mk (Value.ref b :: As).toArray, t, U', L, E, ce, hT, X', hL, e1, e2, hq, hce, hcv, vx_cls hW₁ hcl, st⟩
theorem vx_runS (S : CallFix p m c cc nL s args Ts own) (hM : vx_Met l y ws rm Pc Qc XC mc ms free) (cw : CallB R s args own index y bytes maxL ret ws rm mc ms n ∧ (Cond.static y).before args s = true) (hp : PreS s H Pc As)
    (hg : g.method = m) (hn : As.length = n) (hsize : g.locals.size = nL) (hstack : g.stack = As.reverse ++ rest) (hW : 2 * g.monitorRoom + (rest.map fun v => v.category).sum ≤ 8) (hdg : decode cc g.pc = .ok (.invokestatic index, 3)) (hf : cells + mc ≤ R.cells ∧ slots + ms ≤ R.slots) :
    vx_Run p l e R s m args below meth c H locs cells slots mc ms g rest (Qc As.toArray) XC free := by
  have hK : vx_Back l R p e below s args y 3 8 (PreOf R mc ms Pc) (PostOf Qc mc ms free) (vx_Post XC mc ms free) := vx_callBack cw.1 hM hp.1
  obtain ⟨⟨-, -, -, -, -, -, hcode, hini, hy, hlen, hl⟩, hstt⟩ := cw
  obtain ⟨hx, hb, hml, ho, -⟩ := S
  intro T hT X
  rcases vx_callS X hx (bytes := bytes) (maxL := maxL) (ret := ret) ho hl hstt hini hcode hy hK hg (hsize.trans hml.symm) (argsL := As) (rest := rest) (fun sig h => hn.trans (hlen sig h)) hstack hW (by rw [hb]; exact hdg)
    (fun vm₁ hW₁ => ⟨hf.1, hf.2, hp.2 (T.setVm vm₁) hT hW₁⟩) with ⟨v, vm₁, ⟨U', l2, c2, s2⟩, hW₁, X', ⟨g', mk, t, L, e1, e2, hq, h1, hL, h2, h3⟩, st⟩ | ⟨q, vm₁, ⟨U', l2, c2, s2⟩, hW₁, X', ⟨g', mk, t, L, E, ce, e1, e2, hq, hce, hcv, hcl, h1, hL, h2, h3⟩, st⟩
  · dsimp only [Pt.U, Pt.locs, Pt.cells, Pt.slots] at X' e1 e2 h1 h2 h3 st
    subst h1; subst h2; subst h3
    exact Or.inl ⟨v, (T.setVm vm₁).calling g' mk As.toArray, t, U', L, hT, X', hL, e1, e2, hq, st⟩
  · dsimp only [Pt.U, Pt.locs, Pt.cells, Pt.slots] at X' e1 e2 h1 h2 h3 st hcl
    subst h1; subst h2; subst h3
    exact Or.inr ⟨q, (T.setVm vm₁).calling g' mk As.toArray, t, U', L, E, ce, hT, X', hL, e1, e2, hq, hce, hcv, vx_cls hW₁ hcl, st⟩
end Runs
section Rows
variable {p : Program} {l : Launch} {e : Env} {R : Room} {s : State} {m : MethodId} {args : Array Value} {below : List Frame} {meth : Method} {c : Code} {H : Heap} {locs : List Loc} {cells slots : Nat} {Q : State → Prop}
variable {mc ms : Nat} {free : Addr → Prop} {A0 A1 : Nat → Prop} {H0 : Heap} {a : Array Value} {pc : Nat} {ls : Array Slot} {st0 rest : List Value}
theorem vx_keep {st₀ t T' : State} {L : List Loc} (h0 : st₀.heap = H) (e1 : T'.heap = t.heap) (hS : va_S A0 H0 H locs) (hA : ∀ q, q < H.size → A1 q → A0 q) (hf : ∀ q, free q → A0 q) (hL : ∀ q ∈ L, free q.base) (hF : va_F A1 st₀ t) :
    H.size ≤ T'.heap.size ∧ (∀ q : Nat, q < H.size → ¬ A1 q → T'.heap[q]? = H[q]?) ∧ va_S A0 H0 T'.heap (locs ++ L) := by
  obtain ⟨hz, hk⟩ := hF
  rw [h0] at hz hk
  exact ⟨by rw [e1]; exact hz, fun q h1 h2 => by rw [e1]; exact hk q h1 h2,
    ⟨Nat.le_trans hS.1 (by rw [e1]; exact hz), fun q h1 h2 => by rw [e1, hk q (Nat.lt_of_lt_of_le h1 hS.1) (fun z => h2 (hA q (Nat.lt_of_lt_of_le h1 hS.1) z))]; exact hS.2.1 q h1 h2, fun q hq => by
      rcases List.mem_append.mp hq with h | h
      · exact hS.2.2 q h
      · exact hf _ (hL q h)⟩⟩
theorem vx_calli {S SX : Type} {post : Int32 → S → Prop} {px : SX → Prop} {B : S → State → Prop} {BX : String → SX → State → Prop} {AX : Nat → Prop} (hr : vx_Run p l e R s m args below meth c H locs cells slots mc ms (F0 m pc ls st0) rest (va_Qi post B A1 a) (vx_X px BX AX) free) (hS : va_S A0 H0 H locs) (hA : ∀ q, q < H.size → A1 q → A0 q) (hf : ∀ q, free q → A0 q) (hAX : ∀ q, q < H.size → AX q → A0 q)
    (kx : ∀ (E : String) (ce : Cell) (q9 : Addr) (u : SX) (t : State) (H1 : Heap) (locs1 : List Loc), t.heap = H1 → s.vm.Alike t.vm → px u → BX E u t → H.size ≤ H1.size → (∀ q : Nat, q < H.size → ¬ AX q → H1[q]? = H[q]?) → va_S A0 H0 H1 locs1 → H1[q9]? = some ce → ce.vm = .none → s.vm.findClass E = some ce.cls → vx_W p l e R s m args below meth c H1 locs1 (cells + mc) (slots + ms) Q (F0 m pc ls rest) q9)
    (kk : ∀ (r : Int32) (u : S) (t : State) (H1 : Heap) (locs1 : List Loc), t.heap = H1 → s.vm.Alike t.vm → post r u → B u t → H.size ≤ H1.size → (∀ q : Nat, q < H.size → ¬ A1 q → H1[q]? = H[q]?) → va_S A0 H0 H1 locs1 → W p l e R s m args below meth c H1 locs1 (cells + mc) (slots + ms) Q (F0 m (pc + 3) ls (.int r :: rest))) : W p l e R s m args below meth c H locs cells slots Q (F0 m pc ls st0) := by
  intro T hT X
  rcases hr T hT X with ⟨v, st₀, t, T', L, h0, X', hL, e1, e2, ⟨⟨r, u, hv, hp, hb⟩, hF⟩, st⟩ | ⟨q, st₀, t, T', L, E, ce, h0, X', hL, e1, e2, ⟨u, hp, hb, hF⟩, hce, hcv, hcl, st⟩
  · cases hv
    obtain ⟨k1, k2, k3⟩ := vx_keep h0 e1 hS hA hf hL hF
    obtain ⟨t2, a1, b1⟩ := kk r u t T'.heap (locs ++ L) e1.symm (by rw [← e2]; exact X'.warmed.alike) hp hb k1 k2 k3 T' rfl X'
    exact ⟨t2, st t2 a1, b1⟩
  · obtain ⟨k1, k2, k3⟩ := vx_keep h0 e1 hS hAX hf hL hF
    obtain ⟨t2, a1, b1⟩ := kx E ce q u t T'.heap (locs ++ L) e1.symm (by rw [← e2]; exact X'.warmed.alike) hp hb k1 k2 k3 (by rw [e1]; exact hce) hcv hcl T' rfl X'
    exact ⟨t2, st.trans a1, b1⟩
theorem vx_calll {S SX : Type} {post : Int64 → S → Prop} {px : SX → Prop} {B : S → State → Prop} {BX : String → SX → State → Prop} {AX : Nat → Prop} (hr : vx_Run p l e R s m args below meth c H locs cells slots mc ms (F0 m pc ls st0) rest (va_Ql post B A1 a) (vx_X px BX AX) free) (hS : va_S A0 H0 H locs) (hA : ∀ q, q < H.size → A1 q → A0 q) (hf : ∀ q, free q → A0 q) (hAX : ∀ q, q < H.size → AX q → A0 q)
    (kx : ∀ (E : String) (ce : Cell) (q9 : Addr) (u : SX) (t : State) (H1 : Heap) (locs1 : List Loc), t.heap = H1 → s.vm.Alike t.vm → px u → BX E u t → H.size ≤ H1.size → (∀ q : Nat, q < H.size → ¬ AX q → H1[q]? = H[q]?) → va_S A0 H0 H1 locs1 → H1[q9]? = some ce → ce.vm = .none → s.vm.findClass E = some ce.cls → vx_W p l e R s m args below meth c H1 locs1 (cells + mc) (slots + ms) Q (F0 m pc ls rest) q9)
    (kk : ∀ (r : Int64) (u : S) (t : State) (H1 : Heap) (locs1 : List Loc), t.heap = H1 → s.vm.Alike t.vm → post r u → B u t → H.size ≤ H1.size → (∀ q : Nat, q < H.size → ¬ A1 q → H1[q]? = H[q]?) → va_S A0 H0 H1 locs1 → W p l e R s m args below meth c H1 locs1 (cells + mc) (slots + ms) Q (F0 m (pc + 3) ls (.long r :: rest))) : W p l e R s m args below meth c H locs cells slots Q (F0 m pc ls st0) := by
  intro T hT X
  rcases hr T hT X with ⟨v, st₀, t, T', L, h0, X', hL, e1, e2, ⟨⟨r, u, hv, hp, hb⟩, hF⟩, st⟩ | ⟨q, st₀, t, T', L, E, ce, h0, X', hL, e1, e2, ⟨u, hp, hb, hF⟩, hce, hcv, hcl, st⟩
  · cases hv
    obtain ⟨k1, k2, k3⟩ := vx_keep h0 e1 hS hA hf hL hF
    obtain ⟨t2, a1, b1⟩ := kk r u t T'.heap (locs ++ L) e1.symm (by rw [← e2]; exact X'.warmed.alike) hp hb k1 k2 k3 T' rfl X'
    exact ⟨t2, st t2 a1, b1⟩
  · obtain ⟨k1, k2, k3⟩ := vx_keep h0 e1 hS hAX hf hL hF
    obtain ⟨t2, a1, b1⟩ := kx E ce q u t T'.heap (locs ++ L) e1.symm (by rw [← e2]; exact X'.warmed.alike) hp hb k1 k2 k3 (by rw [e1]; exact hce) hcv hcl T' rfl X'
    exact ⟨t2, st.trans a1, b1⟩
theorem vx_callf {S SX : Type} {post : UInt32 → S → Prop} {px : SX → Prop} {B : S → State → Prop} {BX : String → SX → State → Prop} {AX : Nat → Prop} (hr : vx_Run p l e R s m args below meth c H locs cells slots mc ms (F0 m pc ls st0) rest (va_Qf post B A1 a) (vx_X px BX AX) free) (hS : va_S A0 H0 H locs) (hA : ∀ q, q < H.size → A1 q → A0 q) (hf : ∀ q, free q → A0 q) (hAX : ∀ q, q < H.size → AX q → A0 q)
    (kx : ∀ (E : String) (ce : Cell) (q9 : Addr) (u : SX) (t : State) (H1 : Heap) (locs1 : List Loc), t.heap = H1 → s.vm.Alike t.vm → px u → BX E u t → H.size ≤ H1.size → (∀ q : Nat, q < H.size → ¬ AX q → H1[q]? = H[q]?) → va_S A0 H0 H1 locs1 → H1[q9]? = some ce → ce.vm = .none → s.vm.findClass E = some ce.cls → vx_W p l e R s m args below meth c H1 locs1 (cells + mc) (slots + ms) Q (F0 m pc ls rest) q9)
    (kk : ∀ (r : UInt32) (u : S) (t : State) (H1 : Heap) (locs1 : List Loc), t.heap = H1 → s.vm.Alike t.vm → post r u → B u t → H.size ≤ H1.size → (∀ q : Nat, q < H.size → ¬ A1 q → H1[q]? = H[q]?) → va_S A0 H0 H1 locs1 → W p l e R s m args below meth c H1 locs1 (cells + mc) (slots + ms) Q (F0 m (pc + 3) ls (.float r :: rest))) : W p l e R s m args below meth c H locs cells slots Q (F0 m pc ls st0) := by
  intro T hT X
  rcases hr T hT X with ⟨v, st₀, t, T', L, h0, X', hL, e1, e2, ⟨⟨r, u, hv, hp, hb⟩, hF⟩, st⟩ | ⟨q, st₀, t, T', L, E, ce, h0, X', hL, e1, e2, ⟨u, hp, hb, hF⟩, hce, hcv, hcl, st⟩
  · cases hv
    obtain ⟨k1, k2, k3⟩ := vx_keep h0 e1 hS hA hf hL hF
    obtain ⟨t2, a1, b1⟩ := kk r u t T'.heap (locs ++ L) e1.symm (by rw [← e2]; exact X'.warmed.alike) hp hb k1 k2 k3 T' rfl X'
    exact ⟨t2, st t2 a1, b1⟩
  · obtain ⟨k1, k2, k3⟩ := vx_keep h0 e1 hS hAX hf hL hF
    obtain ⟨t2, a1, b1⟩ := kx E ce q u t T'.heap (locs ++ L) e1.symm (by rw [← e2]; exact X'.warmed.alike) hp hb k1 k2 k3 (by rw [e1]; exact hce) hcv hcl T' rfl X'
    exact ⟨t2, st.trans a1, b1⟩
theorem vx_calld {S SX : Type} {post : UInt64 → S → Prop} {px : SX → Prop} {B : S → State → Prop} {BX : String → SX → State → Prop} {AX : Nat → Prop} (hr : vx_Run p l e R s m args below meth c H locs cells slots mc ms (F0 m pc ls st0) rest (va_Qd post B A1 a) (vx_X px BX AX) free) (hS : va_S A0 H0 H locs) (hA : ∀ q, q < H.size → A1 q → A0 q) (hf : ∀ q, free q → A0 q) (hAX : ∀ q, q < H.size → AX q → A0 q)
    (kx : ∀ (E : String) (ce : Cell) (q9 : Addr) (u : SX) (t : State) (H1 : Heap) (locs1 : List Loc), t.heap = H1 → s.vm.Alike t.vm → px u → BX E u t → H.size ≤ H1.size → (∀ q : Nat, q < H.size → ¬ AX q → H1[q]? = H[q]?) → va_S A0 H0 H1 locs1 → H1[q9]? = some ce → ce.vm = .none → s.vm.findClass E = some ce.cls → vx_W p l e R s m args below meth c H1 locs1 (cells + mc) (slots + ms) Q (F0 m pc ls rest) q9)
    (kk : ∀ (r : UInt64) (u : S) (t : State) (H1 : Heap) (locs1 : List Loc), t.heap = H1 → s.vm.Alike t.vm → post r u → B u t → H.size ≤ H1.size → (∀ q : Nat, q < H.size → ¬ A1 q → H1[q]? = H[q]?) → va_S A0 H0 H1 locs1 → W p l e R s m args below meth c H1 locs1 (cells + mc) (slots + ms) Q (F0 m (pc + 3) ls (.double r :: rest))) : W p l e R s m args below meth c H locs cells slots Q (F0 m pc ls st0) := by
  intro T hT X
  rcases hr T hT X with ⟨v, st₀, t, T', L, h0, X', hL, e1, e2, ⟨⟨r, u, hv, hp, hb⟩, hF⟩, st⟩ | ⟨q, st₀, t, T', L, E, ce, h0, X', hL, e1, e2, ⟨u, hp, hb, hF⟩, hce, hcv, hcl, st⟩
  · cases hv
    obtain ⟨k1, k2, k3⟩ := vx_keep h0 e1 hS hA hf hL hF
    obtain ⟨t2, a1, b1⟩ := kk r u t T'.heap (locs ++ L) e1.symm (by rw [← e2]; exact X'.warmed.alike) hp hb k1 k2 k3 T' rfl X'
    exact ⟨t2, st t2 a1, b1⟩
  · obtain ⟨k1, k2, k3⟩ := vx_keep h0 e1 hS hAX hf hL hF
    obtain ⟨t2, a1, b1⟩ := kx E ce q u t T'.heap (locs ++ L) e1.symm (by rw [← e2]; exact X'.warmed.alike) hp hb k1 k2 k3 (by rw [e1]; exact hce) hcv hcl T' rfl X'
    exact ⟨t2, st.trans a1, b1⟩
theorem vx_callv {S SX : Type} {post : S → Prop} {px : SX → Prop} {B : S → State → Prop} {BX : String → SX → State → Prop} {AX : Nat → Prop} (hr : vx_Run p l e R s m args below meth c H locs cells slots mc ms (F0 m pc ls st0) rest (va_Qv post B A1 a) (vx_X px BX AX) free) (hS : va_S A0 H0 H locs) (hA : ∀ q, q < H.size → A1 q → A0 q) (hf : ∀ q, free q → A0 q) (hAX : ∀ q, q < H.size → AX q → A0 q)
    (kx : ∀ (E : String) (ce : Cell) (q9 : Addr) (u : SX) (t : State) (H1 : Heap) (locs1 : List Loc), t.heap = H1 → s.vm.Alike t.vm → px u → BX E u t → H.size ≤ H1.size → (∀ q : Nat, q < H.size → ¬ AX q → H1[q]? = H[q]?) → va_S A0 H0 H1 locs1 → H1[q9]? = some ce → ce.vm = .none → s.vm.findClass E = some ce.cls → vx_W p l e R s m args below meth c H1 locs1 (cells + mc) (slots + ms) Q (F0 m pc ls rest) q9)
    (kk : ∀ (u : S) (t : State) (H1 : Heap) (locs1 : List Loc), t.heap = H1 → s.vm.Alike t.vm → post u → B u t → H.size ≤ H1.size → (∀ q : Nat, q < H.size → ¬ A1 q → H1[q]? = H[q]?) → va_S A0 H0 H1 locs1 → W p l e R s m args below meth c H1 locs1 (cells + mc) (slots + ms) Q (F0 m (pc + 3) ls (rest))) : W p l e R s m args below meth c H locs cells slots Q (F0 m pc ls st0) := by
  intro T hT X
  rcases hr T hT X with ⟨v, st₀, t, T', L, h0, X', hL, e1, e2, ⟨⟨u, hv, hp, hb⟩, hF⟩, st⟩ | ⟨q, st₀, t, T', L, E, ce, h0, X', hL, e1, e2, ⟨u, hp, hb, hF⟩, hce, hcv, hcl, st⟩
  · cases hv
    obtain ⟨k1, k2, k3⟩ := vx_keep h0 e1 hS hA hf hL hF
    obtain ⟨t2, a1, b1⟩ := kk u t T'.heap (locs ++ L) e1.symm (by rw [← e2]; exact X'.warmed.alike) hp hb k1 k2 k3 T' rfl X'
    exact ⟨t2, st t2 a1, b1⟩
  · obtain ⟨k1, k2, k3⟩ := vx_keep h0 e1 hS hAX hf hL hF
    obtain ⟨t2, a1, b1⟩ := kx E ce q u t T'.heap (locs ++ L) e1.symm (by rw [← e2]; exact X'.warmed.alike) hp hb k1 k2 k3 (by rw [e1]; exact hce) hcv hcl T' rfl X'
    exact ⟨t2, st.trans a1, b1⟩
/-- caught by the row x of this method's table; the rows ahead don't take it -/
theorem vx_catch {own name : String} {E : String} {ce : Cell} {q : Addr} (hown : s.vm.findClass own = some m.cls) (pre : List ExceptionTableEntry) (x : ExceptionTableEntry) (suf : List ExceptionTableEntry) (hsplit : c.exceptionTable.toList = pre ++ x :: suf)
    (hpass : ∀ z ∈ pre, covers z pc = false ∨ (z.catchType ≠ 0 ∧ ∃ nm : String, (Cond.classLink own z.catchType nm).before args s = true ∧ va_Nc E nm s)) (hx : covers x pc = true) (h0 : x.catchType ≠ 0)
    (hlink : (Cond.classLink own x.catchType name).before args s = true) (hcast : (Cond.castable E name).before args s = true) (hcell : H[q]? = some ce) (hv : ce.vm = .none) (hcl : s.vm.findClass E = some ce.cls)
    (kk : W p l e R s m args below meth c H locs cells slots Q (F0 m x.handlerPc ls [.ref q])) : vx_W p l e R s m args below meth c H locs cells slots Q (F0 m pc ls rest) q := by
  intro T hT X
  have hpl : e.platform.magicAccessors = ({} : Platform).magicAccessors := by rw [X.admits.platform]
  obtain ⟨c3, c4, hc3, hc4, hasg⟩ := Cond.castable_spec hcast
  cases Option.some.inj (hc3.symm.trans hcl)
  obtain ⟨c5, hc5, hcl5⟩ := Cond.classLink_spec hown hlink e.platform hpl
  cases Option.some.inj (hc4.symm.trans hc5)
  obtain ⟨vm', X', st⟩ := X.thenCaughtThrough q (g := F0 m pc ls rest) rfl (Steps.refl _) (by rw [hT]; exact hcell) (by rw [hv]; rfl) (by obtain ⟨k9, h9, -⟩ := Vm.findClass_spec hcl; exact ⟨k9, h9⟩) pre x suf hsplit
    (fun z hz => by
      rcases hpass z hz with h | ⟨hz0, nm, hl1, hn1⟩
      · exact Or.inl h
      · obtain ⟨c6, hc6, hcl6⟩ := Cond.classLink_spec hown hl1 e.platform hpl
        obtain ⟨a8, b8, h1, h2, h3⟩ := hn1
        cases Option.some.inj (h1.symm.trans hcl)
        cases Option.some.inj (h2.symm.trans hc6)
        exact Or.inr ⟨hz0, _, hcl6, h3⟩) hx (Or.inr ⟨h0, c4, hcl5, hasg⟩)
  obtain ⟨t, a1, b1⟩ := kk (T.setVm vm') hT X'
  exact ⟨t, st.trans a1, b1⟩
end Rows
section Ends
variable {p : Program} {l : Launch} {e : Env} {R : Room} {s : State} {m : MethodId} {args : Array Value} {below : List Frame} {meth : Method} {c : Code} {H : Heap} {locs : List Loc} {cells slots : Nat} {Q : State → Prop}
variable {mc ms : Nat} {free : Addr → Prop} {A0 A1 : Nat → Prop} {H0 : Heap} {a : Array Value} {ls : Array Slot} {st0 rest : List Value}
variable {Qc : Array Value → State → Outcome → State → Prop} {XC : String → State → State → Prop}
/-- what a body that may throw owes at its end -/
def vx_MQ (below : List Frame) (Qc : Array Value → State → Outcome → State → Prop) (XC : String → State → State → Prop) (a : Array Value) (s : State) (mc ms : Nat) (free : Addr → Prop) : State → Prop := fun t =>
  ∃ o, t.status = .running ∧ Ended t below o ∧ vx_Q Qc XC mc ms free a s o t
theorem vx_ret {g : JFrame} {mc ms : Nat} (k : W p l e R s m args below meth c H locs cells slots (MQ below Qc args s mc ms free) g) : W p l e R s m args below meth c H locs cells slots (vx_MQ below Qc XC args s mc ms free) g := by
  intro T hT X
  obtain ⟨t, a1, o, b1, b2, b3, b4⟩ := k T hT X
  exact ⟨t, a1, o, b1, b2, Or.inl ⟨b3, b4⟩⟩
/-- not caught here: it goes on to the caller -/
theorem vx_widen {g : JFrame} {q : Addr} {k n : Nat} (h1 : cells ≤ k) (h2 : slots ≤ n) (kk : vx_W p l e R s m args below meth c H locs k n Q g q) : vx_W p l e R s m args below meth c H locs cells slots Q g q := fun T hT X => kk T hT (stand_widen X h1 h2)
theorem vx_out {pc : Nat} {E : String} {ce : Cell} {q : Addr} {mc ms : Nat} (hout : ∀ x ∈ c.exceptionTable.toList, covers x pc = false) (hlocks : meth.locks = false) (hcell : H[q]? = some ce) (hv : ce.vm = .none) (hcl : s.vm.findClass E = some ce.cls)
    (hx : ∀ t : State, t.heap = H → s.vm.Alike t.vm → XC E s t) (hf : ∀ z ∈ locs, free z.base) (hc : cells ≤ mc) (hs : slots ≤ ms) :
    vx_W p l e R s m args below meth c H locs cells slots (vx_MQ below Qc XC args s mc ms free) (F0 m pc ls rest) q := by
  intro T hT X
  obtain ⟨st1, hrun, hend, hW, hsm⟩ := X.leaveThrown q (g := F0 m pc ls rest) rfl rfl rfl hout hlocks
  have hcell9 : (T.setFrames (.throwing q :: below)).heap[q]? = some ce := by
    show T.heap[q]? = some ce
    rw [hT]; exact hcell
  exact ⟨_, st1, .threw q, hrun, hend, Or.inr ⟨q, rfl, E, ce, locs, hx _ hT hW.alike, hcell9, hv, hcl, hW, hsm.mono hc hs, hf⟩⟩
theorem vx_frame {U : State} {k n : Nat} (h : s.sameButNew ({ U with vm := s.vm } : State) locs k n) : s.heap.size ≤ U.heap.size ∧ ∀ q : Nat, q < s.heap.size → (∀ z ∈ locs, z.base ≠ q) → U.heap[q]? = s.heap[q]? := by
  obtain ⟨-, h2, -, -, -, h6⟩ := h
  refine ⟨h2, fun q hq hz => ?_⟩
  obtain ⟨c9, e1, e2, e3, e4⟩ := h6 q _ (Array.getElem?_eq_getElem hq)
  have hs : c9.slots = (s.heap[q]).slots := Array.ext_getElem? fun i => e4 i fun hm => hz _ hm rfl
  have h9 : c9 = s.heap[q] := by
    rw [hs] at e2
    exact e2
  have e5 : U.heap[q]? = some c9 := e1
  rw [e5, h9, Array.getElem?_eq_getElem hq]
/-- the words of a throw but the four that speak of the heap -/
def vx_no (w : Cond) : Bool := decide (w ≠ .isRef (.static Bundle.tN "UNASSIGNED_STACK" Bundle.steD)) && decide (w ≠ .isRef (.static Bundle.tN "SUPPRESSED_SENTINEL" Bundle.listD)) && decide (w ≠ .laysStatic Bundle.tN "UNASSIGNED_STACK" Bundle.steD) && decide (w ≠ .laysStatic Bundle.tN "SUPPRESSED_SENTINEL" Bundle.listD)
def vx_at0 (own : String) (ic : Nat) (X : String) (names : List String) : List Cond := (Bundle.ownAtoms0 own ic X names).filter vx_no
def vx_atS (own : String) (ic : Nat) (X : String) (names : List String) : List Cond := (Bundle.ownAtoms own ic X names).filter vx_no
/-- a word that the tables alone decide, or a good one -/
def vx_ot (w : Cond) : Bool := w.onTables || goodWord w
theorem vx_ot_at {args a' : Array Value} {s U : State} {w : Cond} (hW : s.WarmedH U.vm) (hvm : s.vm = U.vm) (hg : vx_ot w = true) (h : w.before args s = true) : w.before a' U = true := by
  simp only [vx_ot, Bool.or_eq_true] at hg
  rcases hg with hg | hg
  · exact va_tabs hg hvm h
  · exact word_at hW (good_of_word hg) h
/-- a list's words: the good ones out of the method's own list, the others by premises of their own -/
theorem vx_hat {args : Array Value} {s : State} {L B : List Cond} (h1 : ∀ w ∈ L.filter goodWord, w.before args s = true) (h2 : ∀ w ∈ L.filter (fun w => !goodWord w), w ∈ B) (h3 : ∀ w ∈ B, w.before args s = true) : ∀ w ∈ L, w.before args s = true := by
  intro w hw
  by_cases g : goodWord w = true
  · exact h1 w (List.mem_filter.mpr ⟨hw, g⟩)
  · refine h3 w (h2 w (List.mem_filter.mpr ⟨hw, ?_⟩))
    show (!goodWord w) = true
    cases hgw : goodWord w
    · rfl
    · exact absurd hgw g
theorem vx_c {args : Array Value} {s : State} {w : Cond} {B : List Cond} (h : w.before args s = true) (t : ∀ w ∈ B, w.before args s = true) : ∀ w' ∈ w :: B, w'.before args s = true := fun w' h' => (List.mem_cons.mp h').elim (fun e => by rw [e]; exact h) (t w')
theorem vx_n {args : Array Value} {s : State} : ∀ w ∈ ([] : List Cond), w.before args s = true := fun _ h => nomatch h
theorem vx_own {args : Array Value} {s : State} {L : List Cond} (h1 : ∀ w ∈ L.filter vx_no, w.before args s = true)
    (hU : (Cond.isRef (.static Bundle.tN "UNASSIGNED_STACK" Bundle.steD)).before args s = true) (hN : (Cond.isRef (.static Bundle.tN "SUPPRESSED_SENTINEL" Bundle.listD)).before args s = true)
    (lU : (Cond.laysStatic Bundle.tN "UNASSIGNED_STACK" Bundle.steD).before args s = true) (lN : (Cond.laysStatic Bundle.tN "SUPPRESSED_SENTINEL" Bundle.listD).before args s = true) : ∀ w ∈ L, w.before args s = true := by
  intro w hw
  by_cases e1 : w = .isRef (.static Bundle.tN "UNASSIGNED_STACK" Bundle.steD)
  · rw [e1]; exact hU
  · by_cases e2 : w = .isRef (.static Bundle.tN "SUPPRESSED_SENTINEL" Bundle.listD)
    · rw [e2]; exact hN
    · by_cases e3 : w = .laysStatic Bundle.tN "UNASSIGNED_STACK" Bundle.steD
      · rw [e3]; exact lU
      · by_cases e4 : w = .laysStatic Bundle.tN "SUPPRESSED_SENTINEL" Bundle.listD
        · rw [e4]; exact lN
        · exact h1 w (List.mem_filter.mpr ⟨hw, by unfold vx_no; rw [decide_eq_true e1, decide_eq_true e2, decide_eq_true e3, decide_eq_true e4]; rfl⟩)
/-- where a static field lies, its class's statics cell in H -/
def vx_L (C n d : String) (A : Nat → Prop) (U : State) (H : Heap) : Prop := ∃ (c : ClassId) (k : Class) (i : Nat) (f : Field) (a : Nat) (cell : Cell), U.vm.findClass C = some c ∧ U.fieldFound? C n d = some (c, k, i, f) ∧ f.isStatic = true ∧ k.statics = some a ∧ H[a]? = some cell ∧ cell.vm.isStatics = true ∧ cell.cls = c ∧ f.slot < cell.slots.size ∧ k.staticTypes[f.slot]? = some f.type ∧ ¬ A a
theorem vx_L.moved {C n d : String} {A : Nat → Prop} {u U : State} {H : Heap} (hvm : u.vm.Alike U.vm) (h : vx_L C n d A u H) : vx_L C n d A U H := by
  obtain ⟨c, k, i, f, a, cell, h1, h2, h3, h4, h5, h6, h7, h8, h9, h10⟩ := h
  obtain ⟨k', hi', he⟩ := State.fieldFound?_setVm hvm h2
  exact ⟨c, k', i, f, a, cell, by rw [hvm.findClass]; exact h1, hi', h3, by rw [he]; exact h4, h5, h6, h7, h8, by rw [he]; exact h9, h10⟩
theorem vx_L.kept {C n d : String} {A : Nat → Prop} {U : State} {H H1 : Heap} (h : vx_L C n d A U H) (hq : ∀ a : Nat, a < H.size → ¬ A a → H1[a]? = H[a]?) : vx_L C n d A U H1 := by
  obtain ⟨c, k, i, f, a, cell, h1, h2, h3, h4, h5, h6, h7, h8, h9, h10⟩ := h
  exact ⟨c, k, i, f, a, cell, h1, h2, h3, h4, by rw [hq a (Array.getElem?_eq_some_iff.mp h5).1 h10]; exact h5, h6, h7, h8, h9, h10⟩
theorem vx_L.narrow {C n d : String} {A B : Nat → Prop} {U : State} {H : Heap} (h : vx_L C n d A U H) (hAB : ∀ q, B q → A q) : vx_L C n d B U H := by
  obtain ⟨c, k, i, f, a, cell, h1, h2, h3, h4, h5, h6, h7, h8, h9, h10⟩ := h
  exact ⟨c, k, i, f, a, cell, h1, h2, h3, h4, h5, h6, h7, h8, h9, fun z => h10 (hAB _ z)⟩
theorem vx_L.word {C n d : String} {A : Nat → Prop} {s : State} {args : Array Value} (h : vx_L C n d A s s.heap) : (Cond.laysStatic C n d).before args s = true := by
  obtain ⟨c, k, i, f, a, cell, h1, h2, h3, h4, h5, h6, h7, h8, h9, -⟩ := h
  show (Cond.laysStatic C n d).holds args s none s [] = true
  exact Cond.laysStatic_of h1 h2 h3 h4 h5 h6 h7 h8 h9
/-- .. and what it holds: null or some reference -/
def vx_Zq (C n d : String) (A : Nat → Prop) (U : State) (H : Heap) : Prop := va_Zq C n d A U H ∧ vx_L C n d A U H
theorem vx_Zq.moved {C n d : String} {A : Nat → Prop} {u U : State} {H : Heap} (hvm : u.vm.Alike U.vm) (h : vx_Zq C n d A u H) : vx_Zq C n d A U H := ⟨va_Zq.moved hvm h.1, vx_L.moved hvm h.2⟩
theorem vx_Zq.kept {C n d : String} {A : Nat → Prop} {U : State} {H H1 : Heap} (h : vx_Zq C n d A U H) (hq : ∀ a : Nat, a < H.size → ¬ A a → H1[a]? = H[a]?) : vx_Zq C n d A U H1 := ⟨va_Zq.kept h.1 hq, vx_L.kept h.2 hq⟩
theorem vx_Zq.narrow {C n d : String} {A B : Nat → Prop} {U : State} {H : Heap} (h : vx_Zq C n d A U H) (hAB : ∀ q, B q → A q) : vx_Zq C n d B U H := ⟨va_Zq.narrow h.1 hAB, vx_L.narrow h.2 hAB⟩
theorem vx_Zqof {args : Array Value} {s : State} {C n d : String} {A : Nat → Prop} (hl : (Cond.laysStatic C n d).before args s = true) (hini : (Cond.initialized C).before args s = true) (h : (Cond.isRef (.static C n d)).before args s = true) (hA : ∀ a : Nat, a < s.heap.size → ¬ A a) : vx_Zq C n d A s s.heap := by
  refine ⟨va_Zqof hl hini h hA, ?_⟩
  obtain ⟨c, k, i, f, a, cell, h1, h2, h3, h4, h5, h6, h7, h8, h9⟩ := Cond.laysStatic_spec hl
  exact ⟨c, k, i, f, a, cell, h1, h2, h3, h4, h5, h6, h7, h8, h9, hA a (Array.getElem?_eq_some_iff.mp h5).1⟩
theorem vx_isRef {C n d : String} {v : Value} {A : Nat → Prop} {s : State} {args : Array Value} (h : va_Z C n d v A s s.heap) (hv : v.isRef = true) : (Cond.isRef (.static C n d)).before args s = true := by
  obtain ⟨cf, kf, fi, f, a, cell, h1, h2, h3, h4, h5, h6, h7, -⟩ := h
  have he : (Term.static C n d).eval args s none [] s = some v := by
    simp [Term.eval, State.fieldNamed?, h1, h2, h4, h5, h6, h7]
  simp only [Cond.before, Cond.holds, Cond.value, he]
  cases v <;> simp_all [Value.isRef]
theorem vx_isRefq {C n d : String} {A : Nat → Prop} {s : State} {args : Array Value} (h : va_Zq C n d A s s.heap) : (Cond.isRef (.static C n d)).before args s = true := by
  rcases h with h | ⟨t, h⟩
  · exact vx_isRef h rfl
  · exact vx_isRef h rfl
/-- the same frame, seen from here: as if the method were called anew in this heap -/
theorem vx_rebase {T : State} (X : Stand p l e R s m args below meth c T locs cells slots) {R' : Room} (hf : R'.frames ≤ R.frames) (hl : R'.locals ≤ R.locals) (hc : cells + R'.cells ≤ R.cells) (hs : slots + R'.slots ≤ R.slots) :
    Stand p l e R' ((T.setVm s.vm).setFrames (.invoking m args :: below)) m args below meth c T [] 0 0 := by
  have htop : (T.setVm s.vm).topJava?.isSome := X.here.top
  have hF : ((T.setVm s.vm).setFrames (.invoking m args :: below)).frames = .invoking m args :: below := State.frames_setFrames _ (State.cur_lt_of_top htop)
  obtain ⟨g₀, hg0⟩ := Option.isSome_iff_exists.mp htop
  obtain ⟨r, hr⟩ := State.topJava?_eq_some.mp hg0
  have hl9 : e.platform.stackLimits (T.setVm s.vm).me = e.platform.stackLimits s.me := X.limits
  have hb9 : (T.setVm s.vm).me.stackBytes = s.me.stackBytes := X.bytes
  refine ⟨X.admits, X.cas, X.clock, hF, ?_, X.hears, X.method, X.code, X.here, X.tail, X.warmed, ?_, ?_, ?_⟩
  · have h := X.room
    have hU : ((T.setVm s.vm).setFrames (.invoking m args :: below)).localsInUse = s.localsInUse := by
      rw [State.localsInUse_invoking hF (meth := meth) (c := c) X.method X.code, State.localsInUse_invoking X.frames X.method X.code]
    simp only [State.hasRoom, Bool.and_eq_true, decide_eq_true_eq] at h ⊢
    obtain ⟨⟨⟨⟨h1, h2, h3, h4, h5, h6⟩, h7⟩, h8⟩, h9⟩ := h
    rw [X.frames, List.length_cons] at h2 h3
    have q1 := X.heapSize
    have q2 := X.used
    simp only [hF, hU, List.length_cons, State.stackLimits_setFrames, State.stackBytes_setFrames, hl9, hb9]
    refine ⟨⟨⟨⟨by omega, by omega, by omega, by omega, by omega, h6⟩, ?_⟩, ?_⟩, X.book⟩
    · show T.heap.size + R'.cells ≤ e.platform.maxCells
      omega
    · show T.slotsUsed + R'.slots ≤ e.platform.maxSlots
      omega
  · rw [State.stackLimits_setFrames]; rfl
  · rw [State.stackBytes_setFrames]; rfl
  · refine ⟨?_, Nat.le_refl _, Nat.le_refl _, ?_, ?_, fun a c9 h9 => ⟨c9, h9, rfl, rfl, fun _ _ => rfl⟩⟩
    · obtain ⟨t, ht, -⟩ := State.frames_cons hr
      show T.setVm s.vm = { ((T.setVm s.vm).setFrames (.invoking m args :: below)).setFrames (T.setVm s.vm).frames with heap := T.heap, slotsUsed := T.slotsUsed }
      rw [State.setFrames_setFrames, State.setFrames_self ht]
      rfl
    · show T.slotsUsed = T.slotsUsed + ((T.heap.toList.drop T.heap.size).map (·.slots.size)).sum
      rw [List.drop_eq_nil_of_le (Nat.le_of_eq Array.length_toList)]
      rfl
    · show ((T.heap.toList.drop T.heap.size).map (·.slots.size)).sum ≤ 0
      rw [List.drop_eq_nil_of_le (Nat.le_of_eq Array.length_toList)]
      exact Nat.le_refl _
/-- 'throw new E()': new; dup; invokespecial; athrow -/
theorem vx_throw0 {cc : ByteArray} {pc : Nat} (hexec : p.tables.exec = Jvm.exec) (hb : c.code = cc) (hl : l.stackTraces = false) {own cls : String} {names : List String} {ik ic mc ms : Nat} {A : Nat → Prop}
    (hown : s.vm.findClass own = some m.cls) (hcls : Bundle.fit cls = true) (hnames : ∀ n ∈ names, Bundle.fit n = true)
    (hk : (Cond.classLink own ik cls).before args s = true) (hini : (Cond.initialized cls).before args s = true) (hat : ∀ w ∈ vx_at0 own ic cls names, w.before args s = true)
    (hgood : ∀ w ∈ Cond.classLink own ik cls :: Cond.initialized cls :: vx_at0 own ic cls names, vx_ot w = true)
    (hU : vx_Zq Bundle.tN "UNASSIGNED_STACK" Bundle.steD A s s.heap) (hN : vx_Zq Bundle.tN "SUPPRESSED_SENTINEL" Bundle.listD A s s.heap) (hS : va_S A s.heap H locs) (hsize : ls.size = c.maxLocals)
    (d0 : decode cc pc = .ok (.new ik, 3)) (d3 : decode cc (pc + 3) = .ok (.dup, 1)) (d4 : decode cc (pc + 4) = .ok (.invokespecial ic, 3)) (d7 : decode cc (pc + 7) = .ok (.athrow, 1))
    (hout : ∀ x ∈ c.exceptionTable.toList, covers x (pc + 7) = false)
    (hRframes : names.length + 3 < R.frames) (hRlocals : (rest.map fun v => v.category).sum + (13 * (names.length + 1) + 42) ≤ R.locals) (hRcells : cells + 1 ≤ R.cells) (hRslots : slots + 6 ≤ R.slots) (hlocks : meth.locks = false)
    (hx : ∀ t : State, s.vm.Alike t.vm → H.size ≤ t.heap.size → (∀ q : Nat, q < H.size → t.heap[q]? = H[q]?) → XC cls s t)
    (hf : ∀ z ∈ locs, free z.base) (hc : cells + 1 ≤ mc) (hs : slots + 6 ≤ ms) :
    W p l e R s m args below meth c H locs cells slots (vx_MQ below Qc XC args s mc ms free) (F0 m pc ls rest) := by
  intro T hT X
  have htr : e.platform.stackTraces = false := (show e.platform.stackTraces = l.stackTraces by rw [X.admits.platform]).trans hl
  have Y := vx_rebase X (R' := { frames := R.frames, locals := R.locals, cells := 1, slots := 6 }) (Nat.le_refl _) (Nat.le_refl _) hRcells hRslots
  obtain ⟨s', hA⟩ : ∃ z, z = (T.setVm s.vm).setFrames (.invoking m args :: below) := ⟨_, rfl⟩
  rw [← hA] at Y
  have hvm : s'.vm = s.vm := by rw [hA]; rfl
  have hhp : s'.heap = H := by rw [hA]; exact hT
  have hW0 : s.WarmedH s'.vm := by rw [hvm]; exact State.WarmedH.refl s
  have hat' : ∀ w ∈ vx_at0 own ic cls names, w.before args s' = true := fun w hw => vx_ot_at hW0 hvm.symm (hgood w (List.mem_cons_of_mem _ (List.mem_cons_of_mem _ hw))) (hat w hw)
  have hk' : (Cond.classLink own ik cls).before args s' = true := vx_ot_at hW0 hvm.symm (hgood _ List.mem_cons_self) hk
  have hini' : (Cond.initialized cls).before args s' = true := vx_ot_at hW0 hvm.symm (hgood _ (List.mem_cons_of_mem _ List.mem_cons_self)) hini
  have hU' : vx_Zq Bundle.tN "UNASSIGNED_STACK" Bundle.steD A s' s'.heap := by rw [hhp]; exact vx_Zq.moved hW0.alike (hU.kept hS.2.1)
  have hN' : vx_Zq Bundle.tN "SUPPRESSED_SENTINEL" Bundle.listD A s' s'.heap := by rw [hhp]; exact vx_Zq.moved hW0.alike (hN.kept hS.2.1)
  have h : ∀ w ∈ Bundle.ownAtoms0 own ic cls names, w.before args s' = true := vx_own hat' (vx_isRefq hU'.1) (vx_isRefq hN'.1) hU'.2.word hN'.2.word
  have hown' : s'.vm.findClass own = some m.cls := by rw [hvm]; exact hown
  have hins : (Cond.instantiable cls 6).before args s' = true := h _ (by simp [Bundle.ownAtoms0])
  obtain ⟨vm₁, cX, kX, hfX, hkX, -, -, X₁, st1⟩ := Y.newCold hexec (own := own) (C := cls) (index := ik) (n := 6) hown' hk' hins hini'
    (g := F0 m pc ls rest) rfl (by rw [hb]; exact d0) (Nat.le_refl _) (Nat.le_refl _)
  generalize hT1 : (T.setVm vm₁).pushCell { cls := cX, slots := kX.instanceTypes.map defaultValue, vm := .none } = T1 at X₁ st1
  have hcat : (Value.ref T.heap.size).category = 1 := rfl
  have hcellA : T1.heap[T.heap.size]? = some (freshCell cX kX) := by rw [← hT1]; exact State.heap_pushCell_size _ _
  have d3' : decode c.code (pc + 3) = .ok (.dup, 1) := by rw [hb]; exact d3
  obtain ⟨U, hsteps, hrun, hend, hW, hsame, ce, hce, hO⟩ := X₁.ctorThrow0 hexec htr (own := own) (cls := cls) (names := names) (ic := ic) hown' hcls hnames h (fun x hx => nomatch hx) hfX hkX hcellA (by rw [hhp, hT]; exact Nat.le_refl _)
    (g := { method := m, pc := pc + 4, locals := ls, stack := .ref T.heap.size :: .ref T.heap.size :: rest, locked := none }) rfl hsize rfl rfl (rest := rest) rfl
    (by rw [hb]; exact d4) (by rw [hb]; exact d7) hout hRframes (by simp only [List.map_cons, List.sum_cons, hcat]; omega) hlocks
  obtain ⟨f1, f2⟩ := vx_frame hsame
  rw [hhp] at f1 f2
  have hWs : s.WarmedH U.vm := State.WarmedH.trans hW0 hW
  have hcl : s.vm.findClass cls = some ce.cls := by
    have h9 := hO.cls
    rw [hvm] at h9
    exact h9
  have hall : s.sameButNew ({ U with vm := s.vm } : State) locs mc ms := by
    subst hA
    obtain ⟨e1, e2⟩ := hsame
    rw [State.setFrames_setFrames] at e1
    have h2 : (T.setVm s.vm).sameButNew ({ U with vm := s.vm } : State) [] (0 + 1) (0 + 6) := ⟨e1, e2⟩
    have h3 := X.same.trans h2
    rw [List.append_nil] at h3
    exact h3.mono hc hs
  refine ⟨U, ?_, .threw T.heap.size, hrun, hend, Or.inr ⟨T.heap.size, rfl, cls, ce, locs, hx U hWs.alike f1 (fun q hq => f2 q hq (fun z hz => nomatch hz)), hce, hO.vm, hcl, hWs, hall, hf⟩⟩
  refine st1 _ ?_
  show Steps p.tables e below (T1.setTop { method := m, pc := pc + 3, locals := ls, stack := .ref T.heap.size :: rest, locked := none }) _
  jvm_step X₁.here [X₁.here.top, hexec, d3', Value.category]
  exact hsteps
/-- 'throw new E("text")': new; dup; ldc; invokespecial; athrow -/
theorem vx_throwS {cc : ByteArray} {pc : Nat} (hexec : p.tables.exec = Jvm.exec) (hb : c.code = cc) (hl : l.stackTraces = false) {own cls text : String} {names : List String} {ik is ic mc ms sa : Nat} {A : Nat → Prop}
    (hown : s.vm.findClass own = some m.cls) (hcls : Bundle.fit cls = true) (hnames : ∀ n ∈ names, Bundle.fit n = true)
    (hk : (Cond.classLink own ik cls).before args s = true) (hini : (Cond.initialized cls).before args s = true) (hstr : vk_R own is text sa s) (hat : ∀ w ∈ vx_atS own ic cls names, w.before args s = true)
    (hgood : ∀ w ∈ Cond.classLink own ik cls :: Cond.initialized cls :: vx_atS own ic cls names, vx_ot w = true)
    (hU : vx_Zq Bundle.tN "UNASSIGNED_STACK" Bundle.steD A s s.heap) (hN : vx_Zq Bundle.tN "SUPPRESSED_SENTINEL" Bundle.listD A s s.heap) (hS : va_S A s.heap H locs) (hsize : ls.size = c.maxLocals)
    (d0 : decode cc pc = .ok (.new ik, 3)) (d3 : decode cc (pc + 3) = .ok (.dup, 1)) (d4 : decode cc (pc + 4) = .ok (.ldc is, 2)) (d6 : decode cc (pc + 6) = .ok (.invokespecial ic, 3)) (d9 : decode cc (pc + 9) = .ok (.athrow, 1))
    (hout : ∀ x ∈ c.exceptionTable.toList, covers x (pc + 9) = false)
    (hRframes : names.length + 3 < R.frames) (hRlocals : (rest.map fun v => v.category).sum + (13 * (names.length + 1) + 43) ≤ R.locals) (hRcells : cells + 1 ≤ R.cells) (hRslots : slots + 6 ≤ R.slots) (hlocks : meth.locks = false)
    (hx : ∀ t : State, s.vm.Alike t.vm → H.size ≤ t.heap.size → (∀ q : Nat, q < H.size → t.heap[q]? = H[q]?) → XC cls s t)
    (hf : ∀ z ∈ locs, free z.base) (hc : cells + 1 ≤ mc) (hs : slots + 6 ≤ ms) :
    W p l e R s m args below meth c H locs cells slots (vx_MQ below Qc XC args s mc ms free) (F0 m pc ls rest) := by
  intro T hT X
  have htr : e.platform.stackTraces = false := (show e.platform.stackTraces = l.stackTraces by rw [X.admits.platform]).trans hl
  have Y := vx_rebase X (R' := { frames := R.frames, locals := R.locals, cells := 1, slots := 6 }) (Nat.le_refl _) (Nat.le_refl _) hRcells hRslots
  obtain ⟨s', hA⟩ : ∃ z, z = (T.setVm s.vm).setFrames (.invoking m args :: below) := ⟨_, rfl⟩
  rw [← hA] at Y
  have hvm : s'.vm = s.vm := by rw [hA]; rfl
  have hhp : s'.heap = H := by rw [hA]; exact hT
  have hW0 : s.WarmedH s'.vm := by rw [hvm]; exact State.WarmedH.refl s
  have hat' : ∀ w ∈ vx_atS own ic cls names, w.before args s' = true := fun w hw => vx_ot_at hW0 hvm.symm (hgood w (List.mem_cons_of_mem _ (List.mem_cons_of_mem _ hw))) (hat w hw)
  have hk' : (Cond.classLink own ik cls).before args s' = true := vx_ot_at hW0 hvm.symm (hgood _ List.mem_cons_self) hk
  have hini' : (Cond.initialized cls).before args s' = true := vx_ot_at hW0 hvm.symm (hgood _ (List.mem_cons_of_mem _ List.mem_cons_self)) hini
  have hU' : vx_Zq Bundle.tN "UNASSIGNED_STACK" Bundle.steD A s' s'.heap := by rw [hhp]; exact vx_Zq.moved hW0.alike (hU.kept hS.2.1)
  have hN' : vx_Zq Bundle.tN "SUPPRESSED_SENTINEL" Bundle.listD A s' s'.heap := by rw [hhp]; exact vx_Zq.moved hW0.alike (hN.kept hS.2.1)
  have h : ∀ w ∈ Bundle.ownAtoms own ic cls names, w.before args s' = true := vx_own hat' (vx_isRefq hU'.1) (vx_isRefq hN'.1) hU'.2.word hN'.2.word
  have hown' : s'.vm.findClass own = some m.cls := by rw [hvm]; exact hown
  have hins : (Cond.instantiable cls 6).before args s' = true := h _ (by simp [Bundle.ownAtoms])
  obtain ⟨vm₁, cX, kX, hfX, hkX, -, -, X₁, st1⟩ := Y.newCold hexec (own := own) (C := cls) (index := ik) (n := 6) hown' hk' hins hini'
    (g := F0 m pc ls rest) rfl (by rw [hb]; exact d0) (Nat.le_refl _) (Nat.le_refl _)
  generalize hT1 : (T.setVm vm₁).pushCell { cls := cX, slots := kX.instanceTypes.map defaultValue, vm := .none } = T1 at X₁ st1
  have hcat : (Value.ref T.heap.size).category = 1 := rfl
  have hcellA : T1.heap[T.heap.size]? = some (freshCell cX kX) := by rw [← hT1]; exact State.heap_pushCell_size _ _
  have d3' : decode c.code (pc + 3) = .ok (.dup, 1) := by rw [hb]; exact d3
  have d4' : decode c.code (pc + 4) = .ok (.ldc is, 2) := by rw [hb]; exact d4
  have hstr' : vk_R own is text sa s' := vk_R.warm hW0 hstr
  obtain ⟨U, hsteps, hrun, hend, hW, hsame, ce, hce, hO⟩ := X₁.ctorThrowS hexec htr (own := own) (cls := cls) (names := names) (ic := ic) hown' hcls hnames h (fun x hx => nomatch hx) hfX hkX hcellA (by rw [hhp, hT]; exact Nat.le_refl _) (msg := .ref sa) rfl
    (g := { method := m, pc := pc + 6, locals := ls, stack := .ref sa :: .ref T.heap.size :: .ref T.heap.size :: rest, locked := none }) rfl hsize rfl rfl (rest := rest) rfl
    (by rw [hb]; exact d6) (by rw [hb]; exact d9) hout hRframes (by simp only [List.map_cons, List.sum_cons, hcat]; omega) hlocks
  obtain ⟨f1, f2⟩ := vx_frame hsame
  rw [hhp] at f1 f2
  have hWs : s.WarmedH U.vm := State.WarmedH.trans hW0 hW
  have hcl : s.vm.findClass cls = some ce.cls := by
    have h9 := hO.cls
    rw [hvm] at h9
    exact h9
  have hall : s.sameButNew ({ U with vm := s.vm } : State) locs mc ms := by
    subst hA
    obtain ⟨e1, e2⟩ := hsame
    rw [State.setFrames_setFrames] at e1
    have h2 : (T.setVm s.vm).sameButNew ({ U with vm := s.vm } : State) [] (0 + 1) (0 + 6) := ⟨e1, e2⟩
    have h3 := X.same.trans h2
    rw [List.append_nil] at h3
    exact h3.mono hc hs
  refine ⟨U, ?_, .threw T.heap.size, hrun, hend, Or.inr ⟨T.heap.size, rfl, cls, ce, locs, hx U hWs.alike f1 (fun q hq => f2 q hq (fun z hz => nomatch hz)), hce, hO.vm, hcl, hWs, hall, hf⟩⟩
  refine st1 _ ?_
  show Steps p.tables e below (T1.setTop { method := m, pc := pc + 3, locals := ls, stack := .ref T.heap.size :: rest, locked := none }) _
  jvm_step X₁.here [X₁.here.top, hexec, d3', Value.category]
  exact X₁.ldcString hexec (own := own) (text := text) (index := is) (a := sa) hown' hstr'.1 hstr'.2
    (g := { method := m, pc := pc + 4, locals := ls, stack := .ref T.heap.size :: .ref T.heap.size :: rest, locked := none }) rfl d4' _ hsteps
/-- 'throw new E("text")', the text by a wide index -/
theorem vx_throwSW {cc : ByteArray} {pc : Nat} (hexec : p.tables.exec = Jvm.exec) (hb : c.code = cc) (hl : l.stackTraces = false) {own cls text : String} {names : List String} {ik is ic mc ms sa : Nat} {A : Nat → Prop}
    (hown : s.vm.findClass own = some m.cls) (hcls : Bundle.fit cls = true) (hnames : ∀ n ∈ names, Bundle.fit n = true)
    (hk : (Cond.classLink own ik cls).before args s = true) (hini : (Cond.initialized cls).before args s = true) (hstr : vk_R own is text sa s) (hat : ∀ w ∈ vx_atS own ic cls names, w.before args s = true)
    (hgood : ∀ w ∈ Cond.classLink own ik cls :: Cond.initialized cls :: vx_atS own ic cls names, vx_ot w = true)
    (hU : vx_Zq Bundle.tN "UNASSIGNED_STACK" Bundle.steD A s s.heap) (hN : vx_Zq Bundle.tN "SUPPRESSED_SENTINEL" Bundle.listD A s s.heap) (hS : va_S A s.heap H locs) (hsize : ls.size = c.maxLocals)
    (d0 : decode cc pc = .ok (.new ik, 3)) (d3 : decode cc (pc + 3) = .ok (.dup, 1)) (d4 : decode cc (pc + 4) = .ok (.ldc_w is, 3)) (d7 : decode cc (pc + 7) = .ok (.invokespecial ic, 3)) (d10 : decode cc (pc + 10) = .ok (.athrow, 1))
    (hout : ∀ x ∈ c.exceptionTable.toList, covers x (pc + 10) = false)
    (hRframes : names.length + 3 < R.frames) (hRlocals : (rest.map fun v => v.category).sum + (13 * (names.length + 1) + 43) ≤ R.locals) (hRcells : cells + 1 ≤ R.cells) (hRslots : slots + 6 ≤ R.slots) (hlocks : meth.locks = false)
    (hx : ∀ t : State, s.vm.Alike t.vm → H.size ≤ t.heap.size → (∀ q : Nat, q < H.size → t.heap[q]? = H[q]?) → XC cls s t)
    (hf : ∀ z ∈ locs, free z.base) (hc : cells + 1 ≤ mc) (hs : slots + 6 ≤ ms) :
    W p l e R s m args below meth c H locs cells slots (vx_MQ below Qc XC args s mc ms free) (F0 m pc ls rest) := by
  intro T hT X
  have htr : e.platform.stackTraces = false := (show e.platform.stackTraces = l.stackTraces by rw [X.admits.platform]).trans hl
  have Y := vx_rebase X (R' := { frames := R.frames, locals := R.locals, cells := 1, slots := 6 }) (Nat.le_refl _) (Nat.le_refl _) hRcells hRslots
  obtain ⟨s', hA⟩ : ∃ z, z = (T.setVm s.vm).setFrames (.invoking m args :: below) := ⟨_, rfl⟩
  rw [← hA] at Y
  have hvm : s'.vm = s.vm := by rw [hA]; rfl
  have hhp : s'.heap = H := by rw [hA]; exact hT
  have hW0 : s.WarmedH s'.vm := by rw [hvm]; exact State.WarmedH.refl s
  have hat' : ∀ w ∈ vx_atS own ic cls names, w.before args s' = true := fun w hw => vx_ot_at hW0 hvm.symm (hgood w (List.mem_cons_of_mem _ (List.mem_cons_of_mem _ hw))) (hat w hw)
  have hk' : (Cond.classLink own ik cls).before args s' = true := vx_ot_at hW0 hvm.symm (hgood _ List.mem_cons_self) hk
  have hini' : (Cond.initialized cls).before args s' = true := vx_ot_at hW0 hvm.symm (hgood _ (List.mem_cons_of_mem _ List.mem_cons_self)) hini
  have hU' : vx_Zq Bundle.tN "UNASSIGNED_STACK" Bundle.steD A s' s'.heap := by rw [hhp]; exact vx_Zq.moved hW0.alike (hU.kept hS.2.1)
  have hN' : vx_Zq Bundle.tN "SUPPRESSED_SENTINEL" Bundle.listD A s' s'.heap := by rw [hhp]; exact vx_Zq.moved hW0.alike (hN.kept hS.2.1)
  have h : ∀ w ∈ Bundle.ownAtoms own ic cls names, w.before args s' = true := vx_own hat' (vx_isRefq hU'.1) (vx_isRefq hN'.1) hU'.2.word hN'.2.word
  have hown' : s'.vm.findClass own = some m.cls := by rw [hvm]; exact hown
  have hins : (Cond.instantiable cls 6).before args s' = true := h _ (by simp [Bundle.ownAtoms])
  obtain ⟨vm₁, cX, kX, hfX, hkX, -, -, X₁, st1⟩ := Y.newCold hexec (own := own) (C := cls) (index := ik) (n := 6) hown' hk' hins hini'
    (g := F0 m pc ls rest) rfl (by rw [hb]; exact d0) (Nat.le_refl _) (Nat.le_refl _)
  generalize hT1 : (T.setVm vm₁).pushCell { cls := cX, slots := kX.instanceTypes.map defaultValue, vm := .none } = T1 at X₁ st1
  have hcat : (Value.ref T.heap.size).category = 1 := rfl
  have hcellA : T1.heap[T.heap.size]? = some (freshCell cX kX) := by rw [← hT1]; exact State.heap_pushCell_size _ _
  have d3' : decode c.code (pc + 3) = .ok (.dup, 1) := by rw [hb]; exact d3
  have d4' : decode c.code (pc + 4) = .ok (.ldc_w is, 3) := by rw [hb]; exact d4
  have hstr' : vk_R own is text sa s' := vk_R.warm hW0 hstr
  obtain ⟨U, hsteps, hrun, hend, hW, hsame, ce, hce, hO⟩ := X₁.ctorThrowS hexec htr (own := own) (cls := cls) (names := names) (ic := ic) hown' hcls hnames h (fun x hx => nomatch hx) hfX hkX hcellA (by rw [hhp, hT]; exact Nat.le_refl _) (msg := .ref sa) rfl
    (g := { method := m, pc := pc + 7, locals := ls, stack := .ref sa :: .ref T.heap.size :: .ref T.heap.size :: rest, locked := none }) rfl hsize rfl rfl (rest := rest) rfl
    (by rw [hb]; exact d7) (by rw [hb]; exact d10) hout hRframes (by simp only [List.map_cons, List.sum_cons, hcat]; omega) hlocks
  obtain ⟨f1, f2⟩ := vx_frame hsame
  rw [hhp] at f1 f2
  have hWs : s.WarmedH U.vm := State.WarmedH.trans hW0 hW
  have hcl : s.vm.findClass cls = some ce.cls := by
    have h9 := hO.cls
    rw [hvm] at h9
    exact h9
  have hall : s.sameButNew ({ U with vm := s.vm } : State) locs mc ms := by
    subst hA
    obtain ⟨e1, e2⟩ := hsame
    rw [State.setFrames_setFrames] at e1
    have h2 : (T.setVm s.vm).sameButNew ({ U with vm := s.vm } : State) [] (0 + 1) (0 + 6) := ⟨e1, e2⟩
    have h3 := X.same.trans h2
    rw [List.append_nil] at h3
    exact h3.mono hc hs
  refine ⟨U, ?_, .threw T.heap.size, hrun, hend, Or.inr ⟨T.heap.size, rfl, cls, ce, locs, hx U hWs.alike f1 (fun q hq => f2 q hq (fun z hz => nomatch hz)), hce, hO.vm, hcl, hWs, hall, hf⟩⟩
  refine st1 _ ?_
  show Steps p.tables e below (T1.setTop { method := m, pc := pc + 3, locals := ls, stack := .ref T.heap.size :: rest, locked := none }) _
  jvm_step X₁.here [X₁.here.top, hexec, d3', Value.category]
  exact X₁.ldcStringW hexec (own := own) (text := text) (index := is) (a := sa) hown' hstr'.1 hstr'.2
    (g := { method := m, pc := pc + 4, locals := ls, stack := .ref T.heap.size :: .ref T.heap.size :: rest, locked := none }) rfl d4' _ hsteps
end Ends
section Bodies
variable {l : Launch}
theorem vx_ofW {y : MethodName} {ws ws' : List Cond} {rm : Room} {Pc : Array Value → State → Prop} {Qc : Array Value → State → Outcome → State → Prop} {XC : String → State → State → Prop} {mc ms : Nat} {free : Addr → Prop} {cc : ByteArray} {maxL : Nat} {ret : Option FieldType}
    (hy : plainName y.cls = true) (hw : ws = Cond.code y cc maxL ret :: ws')
    (body : ∀ p e s m args below meth c s₁, BodyLoose p l y (headSpec ws rm) cc maxL ret e s m args below meth c s₁ → c.maxLocals = maxL → (∀ x ∈ c.exceptionTable.toList, False) → Pc args s →
      W p l e (headSpec ws rm).room s m args below meth c s.heap [] 0 0 (vx_MQ below Qc XC args s mc ms free) (entryFrame m args maxL)) : vx_Met l y ws rm Pc Qc XC mc ms free := by
  refine MetFree.of_bodyS (code := cc) (maxLocals := maxL) (ret := ret) hy ?_ ?_
  · intro args s m h hn
    obtain ⟨meth, c, h1, h2, h3, h4, h5, h6, -, -⟩ := Cond.code_spec hn (atoms_spec (ws := ws) h _ (by rw [hw]; exact List.mem_cons_self))
    exact ⟨meth, c, h1, h2, h3, h4, h5, h6⟩
  · intro p e s m args below meth c s₁ B hml hP _
    have hh0 : s₁.heap = s.heap := by rw [B.state]; rfl
    have ht : ∀ x ∈ c.exceptionTable.toList, False := by
      obtain ⟨meth9, c9, h1, h2, -, -, -, -, h7, -⟩ := Cond.code_spec B.named (atoms_spec (ws := ws) B.pre _ (by rw [hw]; exact List.mem_cons_self))
      cases Option.some.inj (h1.symm.trans B.method)
      cases Option.some.inj (h2.symm.trans (Stand.of_body B).code)
      intro x hx
      rw [Array.isEmpty_iff.mp h7] at hx
      cases hx
    obtain ⟨t, a1, o, b1, b2, b3⟩ := body p e s m args below meth c s₁ B hml ht hP s₁ hh0 (Stand.of_body B)
    exact ⟨t, o, a1, b1, b2, b3⟩
/-- the table of a body with handlers -/
theorem vx_table {p : Program} {x y : MethodName} {S : Spec} {cc bytes : ByteArray} {maxL maxL' : Nat} {ret ret' : Option FieldType} {e : Env} {s s₁ : State} {m : MethodId} {args : Array Value} {below : List Frame} {meth : Method} {c : Code} {hh : List (Nat × Nat × Nat × Nat)}
    (B : BodyLoose p l y S cc maxL ret e s m args below meth c s₁) (h : (Cond.codeWith y bytes maxL' ret' hh).before args s = true) : c.exceptionTable.toList = tableOf hh := by
  obtain ⟨m9, meth9, c9, hn9, h1, h2, -, -, h6, -⟩ := Cond.codeWith_spec h
  cases Option.some.inj (hn9.symm.trans B.named)
  cases Option.some.inj (h1.symm.trans B.method)
  cases Option.some.inj (h2.symm.trans (Stand.of_body B).code)
  rw [← h6, table_eq]
end Bodies
end VXA
/-! ===== END ===== -/
/-! ===== BEGIN a static call of a method with an exception table ===== -/
section VXS
variable {p : Program} {l : Launch} {e : Env} {R : Room} {s : State} {m : MethodId} {args : Array Value} {below : List Frame} {meth : Method} {c : Code} {T : State} {H : Heap} {locs : List Loc} {cells slots : Nat}
abbrev vx_CSW (R : Room) (s : State) (args : Array Value) (own : String) (index : Nat) (y : MethodName) (bytes : ByteArray) (maxL : Nat) (ret : Option FieldType) (hh : List (Nat × Nat × Nat × Nat)) (ws : List Cond) (rm : Room) (mc ms n : Nat) : Prop :=
  (rm.cells = mc ∧ rm.slots = ms ∧ rm.frames + 1 ≤ R.frames ∧ 8 + (maxL + 11) + rm.locals ≤ R.locals ∧ (∀ w ∈ ws, ∀ (a' : Array Value) (U : State), s.WarmedH U.vm → w.before a' U = true) ∧ Cond.codeWith y bytes maxL ret hh ∈ ws) ∧
  (Cond.codeWith y bytes maxL ret hh).before args s = true ∧ (Cond.initialized y.cls).before args s = true ∧ (y.cls ≠ "java/lang/invoke/MethodHandle" ∧ y.cls ≠ "java/lang/invoke/VarHandle") ∧
  (∀ sig, parseMethodDescriptor y.desc = some sig → n = sig.parameters.length) ∧ (Cond.methodLink own index y).before args s = true ∧ (Cond.static y).before args s = true
theorem vx_cwSW {own : String} {index maxL mc ms : Nat} {y : MethodName} {bytes : ByteArray} {ret : Option FieldType} {hh : List (Nat × Nat × Nat × Nat)} {Ts ws ws' : List Cond} {rm : Room} (n : Nat) (ht : ∀ w ∈ Ts, w.before args s = true) (hT : GoodIn Ts (va_wsS own index y ws)) (hw : ws = Cond.codeWith y bytes maxL ret hh :: ws') (hrc : rm.cells = mc) (hrs : rm.slots = ms)
    (hd : y.cls ≠ "java/lang/invoke/MethodHandle" ∧ y.cls ≠ "java/lang/invoke/VarHandle" ∧ (parseMethodDescriptor y.desc).map (fun d => d.parameters.length) = some n) (hR : rm.frames + 1 ≤ R.frames ∧ 8 + (maxL + 11) + rm.locals ≤ R.locals) :
    vx_CSW R s args own index y bytes maxL ret hh ws rm mc ms n := by
  have ok : ∀ w ∈ va_wsS own index y ws, w.before args s = true := fun w h => ht w (hT w h).1
  have hG : GoodIn Ts ws := fun w h => hT w (by unfold va_wsS; exact List.mem_append_right _ h)
  have hc : Cond.codeWith y bytes maxL ret hh ∈ ws := by rw [hw]; exact List.mem_cons_self
  refine ⟨⟨hrc, hrs, hR.1, hR.2, pay_in ht hG, hc⟩, ht _ (hG _ hc).1, ok _ (by simp [va_wsS]), ⟨hd.1, hd.2.1⟩, fun sig h => ?_, ok _ (by simp [va_wsS]), ok _ (by simp [va_wsS])⟩
  have h2 := hd.2.2
  rw [h] at h2
  exact (Option.some.inj h2).symm
theorem vx_callSW (X : Stand p l e R s m args below meth c T locs cells slots) (hexec : p.tables.exec = Jvm.exec) {own : String} {index : Nat} {y : MethodName} {bytes : ByteArray} {maxL : Nat} {ret : Option FieldType} {hh : List (Nat × Nat × Nat × Nat)}
    (hown : s.vm.findClass own = some m.cls) (hlink : (Cond.methodLink own index y).before args s = true) (hstat : (Cond.static y).before args s = true) (hinit : (Cond.initialized y.cls).before args s = true)
    (hcode : (Cond.codeWith y bytes maxL ret hh).before args s = true) (hy : y.cls ≠ "java/lang/invoke/MethodHandle" ∧ y.cls ≠ "java/lang/invoke/VarHandle")
    {W9 : Nat} {Pre : Pt → Array Value → Prop} {Post : Pt → Array Value → Option Value → Pt → Prop} (hK : Back l R p e below s args y 3 W9 Pre Post)
    {g : JFrame} (hg : g.method = m) (hsize : g.locals.size = c.maxLocals) {argsL rest : List Value} (hlen : ∀ sig, parseMethodDescriptor y.desc = some sig → argsL.length = sig.parameters.length)
    (hstack : g.stack = argsL.reverse ++ rest) (hW : 2 * g.monitorRoom + (rest.map fun v => v.category).sum ≤ W9) (hdg : decode c.code g.pc = .ok (.invokestatic index, 3))
    (hpre : ∀ vm₁, s.WarmedH vm₁ → Pre ⟨T.setVm vm₁, locs, cells, slots⟩ argsL.toArray) :
    ∃ (v : Option Value) (vm₁ : Vm) (B : Pt), s.WarmedH vm₁ ∧ Stand p l e R s m args below meth c B.U B.locs B.cells B.slots ∧ Post ⟨T.setVm vm₁, locs, cells, slots⟩ argsL.toArray v B ∧
      ∀ target, Steps p.tables e below (B.U.setTop { g with pc := g.pc + 3, stack := v.toList ++ rest }) target → Steps p.tables e below (T.setTop g) target := by
  obtain ⟨mk, methM, cM, hnamed, hmethM, -, -, -, -, -, -, hsigM⟩ := Cond.codeWith_spec hcode
  have hstatic : methM.isStatic = true := Cond.static_spec hnamed hmethM hstat
  obtain ⟨kP, hkP, -⟩ := className_of_methodNamed hnamed
  have hinitP : kP.init = .initialized := Cond.initialized_spec (findClass_of_methodNamed hnamed) hkP hinit
  obtain ⟨vm₁, X₁, hstep₁⟩ := X.invokestatic hexec hown hlink hnamed hmethM hstatic hkP hinitP hy (g := g) hg (argsL := argsL) (rest := rest) (hlen _ hsigM) hstack hdg
  obtain ⟨v, B, X', hpost, hsteps⟩ := hK m meth c ⟨T.setVm vm₁, locs, cells, slots⟩ { g with stack := rest } (.invokestatic index) mk argsL.toArray X₁ hg hsize hdg hW (X₁.named hnamed) (hpre vm₁ X₁.warmed)
  exact ⟨v, vm₁, B, X₁.warmed, X', hpost, fun target h => hstep₁ _ fun acts => by rw [doInvoke_state]; exact hsteps.trans h⟩
theorem vx_runSW {y : MethodName} {bytes cc : ByteArray} {maxL nL mc ms n index : Nat} {ret : Option FieldType} {hh : List (Nat × Nat × Nat × Nat)} {ws : List Cond} {rm : Room} {Pc : Array Value → State → Prop} {Qc : Array Value → State → Outcome → State → Prop} {free : Addr → Prop} {Ts : List Cond} {own : String} {As rest : List Value} {g : JFrame}
    (S : CallFix p m c cc nL s args Ts own) (hM : Met l y ws rm Pc Qc mc ms free) (cw : vx_CSW R s args own index y bytes maxL ret hh ws rm mc ms n) (hp : PreS s H Pc As)
    (hg : g.method = m) (hn : As.length = n) (hsize : g.locals.size = nL) (hstack : g.stack = As.reverse ++ rest) (hW : 2 * g.monitorRoom + (rest.map fun v => v.category).sum ≤ 8) (hdg : decode cc g.pc = .ok (.invokestatic index, 3)) (hf : cells + mc ≤ R.cells ∧ slots + ms ≤ R.slots) :
    va_Run p l e R s m args below meth c H locs cells slots mc ms g rest (Qc As.toArray) (free) := by
  obtain ⟨⟨hrc, hrs, hfr, hlo, hws, hcw⟩, hcode, hini, hy, hlen, hl, hstt⟩ := cw
  have hK : Back l R p e below s args y 3 8 (PreOf R mc ms Pc) (PostOf Qc mc ms free) := va_backW (hh := hh) (bytes := bytes) (maxL := maxL) (ret := ret) hM hp.1 hrc hrs hfr hlo hws hcw (fun a' U hW => word_at hW (Or.inl (by first | rfl | simp [Cond.onTables, Cond.keeps, Cond.steady])) hini)
  obtain ⟨hx, hb, hml, ho, -⟩ := S
  intro T hT X
  obtain ⟨v, vm₁, ⟨U', l2, c2, s2⟩, hW₁, X', ⟨g', mk, t, L, e1, e2, hq, h1, hL, h2, h3⟩, st⟩ := vx_callSW X hx (hh := hh) (bytes := bytes) (maxL := maxL) (ret := ret) ho hl hstt hini hcode hy hK hg (hsize.trans hml.symm) (argsL := As) (rest := rest) (fun sig h => hn.trans (hlen sig h)) hstack hW (by rw [hb]; exact hdg)
    (fun vm₁ hW₁ => ⟨hf.1, hf.2, hp.2 (T.setVm vm₁) hT hW₁⟩)
  dsimp only [Pt.U, Pt.locs, Pt.cells, Pt.slots] at X' e1 e2 h1 h2 h3 st
  subst h1; subst h2; subst h3
  exact ⟨v, (T.setVm vm₁).calling g' mk As.toArray, t, U', L, hT, X', hL, e1, e2, hq, st⟩
/-- not caught here, past rows that name other classes: it goes on to the caller -/
theorem vx_outP {p : Program} {l : Launch} {e : Env} {R : Room} {s : State} {m : MethodId} {args : Array Value} {below : List Frame} {meth : Method} {c : Code} {H : Heap} {locs : List Loc} {cells slots : Nat} {free : Addr → Prop} {ls : Array Slot} {rest : List Value} {Qc : Array Value → State → Outcome → State → Prop} {XC : String → State → State → Prop}
    {pc : Nat} {own E : String} {ce : Cell} {q : Addr} {mc ms : Nat} (hown : s.vm.findClass own = some m.cls) (hlocks : meth.locks = false)
    (hpass : ∀ z ∈ c.exceptionTable.toList, covers z pc = false ∨ (z.catchType ≠ 0 ∧ ∃ nm : String, (Cond.classLink own z.catchType nm).before args s = true ∧ va_Nc E nm s)) (hcell : H[q]? = some ce) (hv : ce.vm = .none) (hcl : s.vm.findClass E = some ce.cls)
    (hx : ∀ t : State, t.heap = H → s.vm.Alike t.vm → XC E s t) (hf : ∀ z ∈ locs, free z.base) (hc : cells ≤ mc) (hs : slots ≤ ms) :
    vx_W p l e R s m args below meth c H locs cells slots (vx_MQ below Qc XC args s mc ms free) (F0 m pc ls rest) q := by
  intro T hT X
  have hpl : e.platform.magicAccessors = ({} : Platform).magicAccessors := by rw [X.admits.platform]
  obtain ⟨vm', hW', X', st⟩ := X.outThrough hlocks q (g := F0 m pc ls rest) rfl rfl rfl (cell := ce) (by rw [hT]; exact hcell) (by rw [hv]; rfl)
    (by obtain ⟨k9, h9, -⟩ := Vm.findClass_spec hcl; exact ⟨k9, h9⟩) (fun z hz => by
      rcases hpass z hz with h | ⟨hz0, nm, hl1, hn1⟩
      · exact Or.inl h
      · obtain ⟨c6, hc6, hcl6⟩ := Cond.classLink_spec hown hl1 e.platform hpl
        obtain ⟨a8, b8, h1, h2, h3⟩ := hn1
        cases Option.some.inj (h1.symm.trans hcl)
        cases Option.some.inj (h2.symm.trans hc6)
        exact Or.inr ⟨hz0, _, hcl6, h3⟩)
  obtain ⟨g₀, hfr⟩ := X'.frames_eq
  have hcell9 : ((T.setVm vm').setFrames (.throwing q :: below)).heap[q]? = some ce := by
    show T.heap[q]? = some ce
    rw [hT]; exact hcell
  have hend : Ended ((T.setVm vm').setFrames (.throwing q :: below)) below (.threw q) := State.frames_setFrames _ (State.cur_lt_of_frames hfr)
  refine ⟨(T.setVm vm').setFrames (.throwing q :: below), ?_, .threw q, X'.here.running, hend, Or.inr ⟨q, rfl, E, ce, locs, hx _ hT (X'.ends _).1.alike, hcell9, hv, hcl, (X'.ends _).1, (X'.ends _).2.mono hc hs, hf⟩⟩
  rw [X.pushThrowing_eq]
  exact st
/-- a thing of a world lies in the heap -/
theorem vx_lt {D : va_G} {cl : List vw_C} {ws : va_W} {H1 : Heap} (h : va_P D cl ws H1) {k : Nat} {q : Nat × va_E} (hk : ws[k]? = some q) : q.1 < H1.size := (h k q hk).lt
end VXS
/-! ===== END ===== -/
/-! ===== BEGIN methods with a table of their own: called by a name, returning or throwing ===== -/
section VXH
/-! vx_backW, vx_callVX, vx_callSX, vx_callVW, vx_runVW, vx_runVX, vx_runSX, vx_ofWH follow the same proofs as their sisters above (Free/Laws.lean, Shelf42/LK1.lean); vx_outP calls Shelf42/NT130.lean (outThrough). -/
section
variable {l : Launch} {R : Room} {p : Program} {e : Env} {below : List Frame} {s : State} {sargs : Array Value} {y : MethodName} {len W9 : Nat}
theorem vx_backW {ws : List Cond} {rm : Room} {Pc : Array Value → State → Prop} {Qc : Array Value → State → Outcome → State → Prop} {XC : String → State → State → Prop} {mc ms : Nat} {free : Addr → Prop} {bytes : ByteArray} {maxL : Nat} {ret : Option FieldType} {hh : List (Nat × Nat × Nat × Nat)}
    (hM : vx_Met l y ws rm Pc Qc XC mc ms free) (hblind : FrameBlind Pc) (hrc : rm.cells = mc) (hrs : rm.slots = ms)
    (hframes : rm.frames + 1 ≤ R.frames) (hlocals : W9 + (maxL + 11) + rm.locals ≤ R.locals)
    (hws : ∀ w ∈ ws, ∀ a' U, s.WarmedH U.vm → w.before a' U = true) (hcode : Cond.codeWith y bytes maxL ret hh ∈ ws) (hinit : ∀ a' U, s.WarmedH U.vm → (Cond.initialized y.cls).before a' U = true) :
    vx_Back l R p e below s sargs y len W9 (PreOf R mc ms Pc) (PostOf Qc mc ms free) (vx_Post XC mc ms free) := by
  intro m meth c A g ig mk a X hg hsize hdg hW hn hp
  have h1 : (headSpec ws rm).pre.before a A.U = true := atoms_intro fun w hw => hws w hw _ _ X.warmed
  have h2 : (Cond.codeWith y bytes maxL ret hh).before a A.U = true := hws _ hcode _ _ X.warmed
  have h3 : (Cond.initialized y.cls).before a A.U = true := hinit _ _ X.warmed
  have h4 : A.cells + (headSpec ws rm).room.cells ≤ R.cells := by rw [show (headSpec ws rm).room.cells = mc from hrc]; exact hp.1
  have h5 : A.slots + (headSpec ws rm).room.slots ≤ R.slots := by rw [show (headSpec ws rm).room.slots = ms from hrs]; exact hp.2.1
  have hPc : Pc a (A.U.calling g mk a) := hblind _ _ _ _ hp.2.2
  obtain ⟨U, Ls, c0, s0⟩ := A
  dsimp only [Pt.U, Pt.locs, Pt.cells, Pt.slots] at h1 h2 h3 h4 h5 X hn hPc ⊢
  obtain ⟨m9, methY, cY, hn9, hmY, hcY, -, hlY, -⟩ := Cond.codeWith_spec h2
  cases Option.some.inj (hn9.symm.trans hn)
  obtain ⟨kY, hkY, -⟩ := className_of_methodNamed hn
  have hinitY : kY.init = .initialized := Cond.initialized_spec (findClass_of_methodNamed hn) hkY h3
  have h : At U g.method c below := by rw [hg]; exact X.here
  have hlocals9 : W9 + (maxL + 11) + (headSpec ws rm).room.locals ≤ R.locals := hlocals
  have happ : (headSpec ws rm).appliesLoose y e.platform (U.calling g mk a) = true :=
    Spec.appliesLoose_calling (g := g) h hdg hn hkY hinitY
      (X.room_calling (g := g) (R' := (headSpec ws rm).room) hsize hmY hcY hframes (by rw [hlY]; omega) h4 h5) h1
  obtain ⟨mid, hmid⟩ := h.above
  have hfr : (U.setTop g).frames = (.java g :: mid) ++ below := by rw [State.frames_setTop' g h.top, hmid]; rfl
  obtain ⟨o, s₂, hsteps, -, hend, hq⟩ := Steps.callFree hM p X.admits X.cas X.clock (acts := []) hfr happ hPc trivial
  have hq' : vx_Q Qc XC mc ms free a (U.calling g mk a) o s₂ := hq
  rw [State.frames_setTop' g h.top] at hend
  obtain ⟨g₀, hg0⟩ := Option.isSome_iff_exists.mp h.top
  obtain ⟨r, hr⟩ := State.topJava?_eq_some.mp hg0
  have hr' : (({ U with heap := s₂.heap, slotsUsed := s₂.slotsUsed } : State).setVm s₂.vm).frames = .java g₀ :: r := hr
  rcases hq' with ⟨hqc, L, hfe, hL⟩ | ⟨q, rfl, E, ce, L, hx, hce, hcv, hcl, hW₂, hsm, hL⟩
  · obtain ⟨⟨v, rfl⟩, hW₂, e2, q2, q3, q4, q5, q6⟩ := id hfe
    have e3 : s₂ = ({ (U.calling g mk a).setFrames s₂.frames with heap := s₂.heap, slotsUsed := s₂.slotsUsed } : State).setVm s₂.vm := by
      have : s₂ = ({ s₂ with vm := (U.calling g mk a).vm } : State).setVm s₂.vm := rfl
      rw [e2] at this
      exact this
    obtain ⟨c₂, i₂, len₂, hc₂, hd₂, hf₂⟩ := hend
    have hW' : U.WarmedH s₂.vm := hW₂
    have hcc : c₂ = c := by
      have h1 : s₂.code? g.method = U.code? g.method := by
        rw [State.code?_eq, State.code?_eq, hW'.alike.method?]
      exact Option.some.inj (hc₂.symm.trans (h1.trans h.code))
    subst hcc
    have hlen : len₂ = len := by rw [hdg] at hd₂; cases hd₂; rfl
    subst hlen
    have hs₂ : s₂ = (({ U with heap := s₂.heap, slotsUsed := s₂.slotsUsed } : State).setVm s₂.vm).setTop { g with pc := g.pc + len₂, stack := v.toList ++ g.stack } := by
      refine e3.trans ?_
      rw [hf₂, State.calling_eq h.top, State.setFrames_setFrames, State.setTop_of_frames _ hr', hr]
      rfl
    have hsame : U.sameButNew ({ U with heap := s₂.heap, slotsUsed := s₂.slotsUsed } : State) L mc ms := by
      refine ⟨?_, q2, q3, q4, q5, q6⟩
      obtain ⟨t, ht, -⟩ := State.frames_cons hr
      show ({ U with heap := s₂.heap, slotsUsed := s₂.slotsUsed } : State) = { U.setFrames U.frames with heap := s₂.heap, slotsUsed := s₂.slotsUsed }
      rw [State.setFrames_self ht]
    subst hg
    refine Or.inl ⟨v, ⟨(({ U with heap := s₂.heap, slotsUsed := s₂.slotsUsed } : State).setVm s₂.vm), Ls ++ L, c0 + mc, s0 + ms⟩,
      ⟨X.admits, X.cas, X.clock, X.frames, X.room, X.hears, X.method, X.code, (X.here.setHeapUsed s₂.heap s₂.slotsUsed).setVm hW'.alike, X.tail, State.WarmedH.trans X.warmed hW', X.limits, X.bytes, X.same.trans (hsame.setVm s.vm)⟩,
      ⟨g, mk, s₂, L, rfl, rfl, hqc, rfl, hL, rfl, rfl⟩, ?_⟩
    show Steps p.tables e below _ ((({ U with heap := s₂.heap, slotsUsed := s₂.slotsUsed } : State).setVm s₂.vm).setTop { g with pc := g.pc + len₂, stack := v.toList ++ g.stack })
    rw [← hs₂]
    exact hsteps
  · obtain ⟨e2, q2, q3, q4, q5, q6⟩ := id hsm
    have e3 : s₂ = ({ (U.calling g mk a).setFrames s₂.frames with heap := s₂.heap, slotsUsed := s₂.slotsUsed } : State).setVm s₂.vm := by
      have : s₂ = ({ s₂ with vm := (U.calling g mk a).vm } : State).setVm s₂.vm := rfl
      rw [e2] at this
      exact this
    have hf₂ : s₂.frames = .throwing q :: .java g :: U.frames.tail := hend
    have hW' : U.WarmedH s₂.vm := hW₂
    have hs₂ : s₂ = ((({ U with heap := s₂.heap, slotsUsed := s₂.slotsUsed } : State).setVm s₂.vm).setTop g).pushFrame (.throwing q) := by
      refine e3.trans ?_
      rw [hf₂, State.calling_eq h.top, State.setFrames_setFrames, State.pushFrame, State.frames_setTop _ hr', State.setTop_of_frames _ hr', State.setFrames_setFrames, hr]
      rfl
    have hsame : U.sameButNew ({ U with heap := s₂.heap, slotsUsed := s₂.slotsUsed } : State) L mc ms := by
      refine ⟨?_, q2, q3, q4, q5, q6⟩
      obtain ⟨t, ht, -⟩ := State.frames_cons hr
      show ({ U with heap := s₂.heap, slotsUsed := s₂.slotsUsed } : State) = { U.setFrames U.frames with heap := s₂.heap, slotsUsed := s₂.slotsUsed }
      rw [State.setFrames_self ht]
    subst hg
    refine Or.inr ⟨q, ⟨(({ U with heap := s₂.heap, slotsUsed := s₂.slotsUsed } : State).setVm s₂.vm), Ls ++ L, c0 + mc, s0 + ms⟩,
      ⟨X.admits, X.cas, X.clock, X.frames, X.room, X.hears, X.method, X.code, (X.here.setHeapUsed s₂.heap s₂.slotsUsed).setVm hW'.alike, X.tail, State.WarmedH.trans X.warmed hW', X.limits, X.bytes, X.same.trans (hsame.setVm s.vm)⟩,
      ⟨g, mk, s₂, L, E, ce, rfl, rfl, hx, hce, hcv, hcl, rfl, hL, rfl, rfl⟩, ?_⟩
    show Steps p.tables e below _ (((({ U with heap := s₂.heap, slotsUsed := s₂.slotsUsed } : State).setVm s₂.vm).setTop g).pushFrame (.throwing q))
    rw [← hs₂]
    exact hsteps
end
variable {p : Program} {l : Launch} {e : Env} {R : Room} {s : State} {m : MethodId} {args : Array Value} {below : List Frame} {meth : Method} {c : Code} {T : State} {H : Heap} {locs : List Loc} {cells slots : Nat}
theorem vx_callVX (X : Stand p l e R s m args below meth c T locs cells slots) (hexec : p.tables.exec = Jvm.exec) {own C : String} {index : Nat} {y : MethodName} {bytes : ByteArray} {maxL : Nat} {ret : Option FieldType} {hh : List (Nat × Nat × Nat × Nat)}
    (hown : s.vm.findClass own = some m.cls) (hlink : (Cond.methodLink own index y).before args s = true) (hinst : (Cond.instanceMethod y).before args s = true) (hsel : (Cond.selects C y y).before args s = true)
    (hcode : (Cond.codeWith y bytes maxL ret hh).before args s = true) (hy : y.cls ≠ "java/lang/invoke/MethodHandle" ∧ y.cls ≠ "java/lang/invoke/VarHandle")
    {W9 : Nat} {Pre : Pt → Array Value → Prop} {Post : Pt → Array Value → Option Value → Pt → Prop} {PostX : Pt → Array Value → Addr → Pt → Prop} (hK : vx_Back l R p e below s args y 3 W9 Pre Post PostX)
    {b : Addr} {cellB : Cell} (hcell : T.heap[b]? = some cellB) (hobj : cellB.vm.isStatics = false) (hcls : s.vm.findClass C = some cellB.cls)
    {g : JFrame} (hg : g.method = m) (hsize : g.locals.size = c.maxLocals) {argsL rest : List Value} (hlen : ∀ sig, parseMethodDescriptor y.desc = some sig → argsL.length = sig.parameters.length)
    (hstack : g.stack = argsL.reverse ++ .ref b :: rest) (hW : 2 * g.monitorRoom + (rest.map fun v => v.category).sum ≤ W9) (hdg : decode c.code g.pc = .ok (.invokevirtual index, 3))
    (hpre : ∀ vm₁, s.WarmedH vm₁ → Pre ⟨T.setVm vm₁, locs, cells, slots⟩ (Value.ref b :: argsL).toArray) :
    (∃ (v : Option Value) (vm₁ : Vm) (B : Pt), s.WarmedH vm₁ ∧ Stand p l e R s m args below meth c B.U B.locs B.cells B.slots ∧ Post ⟨T.setVm vm₁, locs, cells, slots⟩ (Value.ref b :: argsL).toArray v B ∧
      ∀ target, Steps p.tables e below (B.U.setTop { g with pc := g.pc + 3, stack := v.toList ++ rest }) target → Steps p.tables e below (T.setTop g) target) ∨
    (∃ (q : Addr) (vm₁ : Vm) (B : Pt), s.WarmedH vm₁ ∧ Stand p l e R s m args below meth c B.U B.locs B.cells B.slots ∧ PostX ⟨T.setVm vm₁, locs, cells, slots⟩ (Value.ref b :: argsL).toArray q B ∧
      Steps p.tables e below (T.setTop g) ((B.U.setTop { g with stack := rest }).pushFrame (.throwing q))) := by
  obtain ⟨mk, methM, hnamed, hmethM, hstM, habM⟩ := Cond.instanceMethod_spec hinst
  obtain ⟨m8, methM', cM, hn8, hmethM', -, -, -, -, -, -, hsigM⟩ := Cond.codeWith_spec hcode
  cases Option.some.inj (hn8.symm.trans hnamed)
  cases hmethM.symm.trans hmethM'
  obtain ⟨c2, r2, m2, q1, q2, q3, q4, kP, hkP, hkPi⟩ := Cond.selects_spec hsel
  cases hcls.symm.trans q1
  cases (State.methodFound?_of_named hnamed hy).symm.trans q2
  cases hnamed.symm.trans q3
  have hselP : selectMethod e.platform s.vm cellB.cls mk = .method mk := by rw [Launch.admits_selectMethod X.admits]; exact q4
  obtain ⟨vm₁, X₁, hstep₁⟩ := X.invokevirtual hexec hown hlink hnamed hmethM hstM hkP hkPi hy (a := b) (cell := cellB) hcell
    (fun z h => by rw [h] at hobj; cases hobj) hselP hmethM habM hkP hkPi (g := g) hg (argsL := argsL) (rest := rest) (hlen _ hsigM) hstack hdg
  rcases hK m meth c ⟨T.setVm vm₁, locs, cells, slots⟩ { g with stack := rest } (.invokevirtual index) mk (Value.ref b :: argsL).toArray X₁ hg hsize hdg hW (X₁.named hnamed) (hpre vm₁ X₁.warmed) with ⟨v, B, X', hpost, hsteps⟩ | ⟨q, B, X', hpost, hsteps⟩
  · exact Or.inl ⟨v, vm₁, B, X₁.warmed, X', hpost, fun target h => hstep₁ _ fun acts => by rw [doInvoke_state]; exact hsteps.trans h⟩
  · exact Or.inr ⟨q, vm₁, B, X₁.warmed, X', hpost, hstep₁ _ fun acts => by rw [doInvoke_state]; exact hsteps⟩
theorem vx_callSX (X : Stand p l e R s m args below meth c T locs cells slots) (hexec : p.tables.exec = Jvm.exec) {own : String} {index : Nat} {y : MethodName} {bytes : ByteArray} {maxL : Nat} {ret : Option FieldType} {hh : List (Nat × Nat × Nat × Nat)}
    (hown : s.vm.findClass own = some m.cls) (hlink : (Cond.methodLink own index y).before args s = true) (hstat : (Cond.static y).before args s = true) (hinit : (Cond.initialized y.cls).before args s = true)
    (hcode : (Cond.codeWith y bytes maxL ret hh).before args s = true) (hy : y.cls ≠ "java/lang/invoke/MethodHandle" ∧ y.cls ≠ "java/lang/invoke/VarHandle")
    {W9 : Nat} {Pre : Pt → Array Value → Prop} {Post : Pt → Array Value → Option Value → Pt → Prop} {PostX : Pt → Array Value → Addr → Pt → Prop} (hK : vx_Back l R p e below s args y 3 W9 Pre Post PostX)
    {g : JFrame} (hg : g.method = m) (hsize : g.locals.size = c.maxLocals) {argsL rest : List Value} (hlen : ∀ sig, parseMethodDescriptor y.desc = some sig → argsL.length = sig.parameters.length)
    (hstack : g.stack = argsL.reverse ++ rest) (hW : 2 * g.monitorRoom + (rest.map fun v => v.category).sum ≤ W9) (hdg : decode c.code g.pc = .ok (.invokestatic index, 3))
    (hpre : ∀ vm₁, s.WarmedH vm₁ → Pre ⟨T.setVm vm₁, locs, cells, slots⟩ argsL.toArray) :
    (∃ (v : Option Value) (vm₁ : Vm) (B : Pt), s.WarmedH vm₁ ∧ Stand p l e R s m args below meth c B.U B.locs B.cells B.slots ∧ Post ⟨T.setVm vm₁, locs, cells, slots⟩ argsL.toArray v B ∧
      ∀ target, Steps p.tables e below (B.U.setTop { g with pc := g.pc + 3, stack := v.toList ++ rest }) target → Steps p.tables e below (T.setTop g) target) ∨
    (∃ (q : Addr) (vm₁ : Vm) (B : Pt), s.WarmedH vm₁ ∧ Stand p l e R s m args below meth c B.U B.locs B.cells B.slots ∧ PostX ⟨T.setVm vm₁, locs, cells, slots⟩ argsL.toArray q B ∧
      Steps p.tables e below (T.setTop g) ((B.U.setTop { g with stack := rest }).pushFrame (.throwing q))) := by
  obtain ⟨mk, methM, cM, hnamed, hmethM, -, -, -, -, -, -, hsigM⟩ := Cond.codeWith_spec hcode
  have hstatic : methM.isStatic = true := Cond.static_spec hnamed hmethM hstat
  obtain ⟨kP, hkP, -⟩ := className_of_methodNamed hnamed
  have hinitP : kP.init = .initialized := Cond.initialized_spec (findClass_of_methodNamed hnamed) hkP hinit
  obtain ⟨vm₁, X₁, hstep₁⟩ := X.invokestatic hexec hown hlink hnamed hmethM hstatic hkP hinitP hy (g := g) hg (argsL := argsL) (rest := rest) (hlen _ hsigM) hstack hdg
  rcases hK m meth c ⟨T.setVm vm₁, locs, cells, slots⟩ { g with stack := rest } (.invokestatic index) mk argsL.toArray X₁ hg hsize hdg hW (X₁.named hnamed) (hpre vm₁ X₁.warmed) with ⟨v, B, X', hpost, hsteps⟩ | ⟨q, B, X', hpost, hsteps⟩
  · exact Or.inl ⟨v, vm₁, B, X₁.warmed, X', hpost, fun target h => hstep₁ _ fun acts => by rw [doInvoke_state]; exact hsteps.trans h⟩
  · exact Or.inr ⟨q, vm₁, B, X₁.warmed, X', hpost, hstep₁ _ fun acts => by rw [doInvoke_state]; exact hsteps⟩
theorem vx_callVW (X : Stand p l e R s m args below meth c T locs cells slots) (hexec : p.tables.exec = Jvm.exec) {own C : String} {index : Nat} {y : MethodName} {bytes : ByteArray} {maxL : Nat} {ret : Option FieldType} {hh : List (Nat × Nat × Nat × Nat)}
    (hown : s.vm.findClass own = some m.cls) (hlink : (Cond.methodLink own index y).before args s = true) (hinst : (Cond.instanceMethod y).before args s = true) (hsel : (Cond.selects C y y).before args s = true)
    (hcode : (Cond.codeWith y bytes maxL ret hh).before args s = true) (hy : y.cls ≠ "java/lang/invoke/MethodHandle" ∧ y.cls ≠ "java/lang/invoke/VarHandle")
    {W9 : Nat} {Pre : Pt → Array Value → Prop} {Post : Pt → Array Value → Option Value → Pt → Prop} (hK : Back l R p e below s args y 3 W9 Pre Post)
    {b : Addr} {cellB : Cell} (hcell : T.heap[b]? = some cellB) (hobj : cellB.vm.isStatics = false) (hcls : s.vm.findClass C = some cellB.cls)
    {g : JFrame} (hg : g.method = m) (hsize : g.locals.size = c.maxLocals) {argsL rest : List Value} (hlen : ∀ sig, parseMethodDescriptor y.desc = some sig → argsL.length = sig.parameters.length)
    (hstack : g.stack = argsL.reverse ++ .ref b :: rest) (hW : 2 * g.monitorRoom + (rest.map fun v => v.category).sum ≤ W9) (hdg : decode c.code g.pc = .ok (.invokevirtual index, 3))
    (hpre : ∀ vm₁, s.WarmedH vm₁ → Pre ⟨T.setVm vm₁, locs, cells, slots⟩ (Value.ref b :: argsL).toArray) :
    ∃ (v : Option Value) (vm₁ : Vm) (B : Pt), s.WarmedH vm₁ ∧ Stand p l e R s m args below meth c B.U B.locs B.cells B.slots ∧ Post ⟨T.setVm vm₁, locs, cells, slots⟩ (Value.ref b :: argsL).toArray v B ∧
      ∀ target, Steps p.tables e below (B.U.setTop { g with pc := g.pc + 3, stack := v.toList ++ rest }) target → Steps p.tables e below (T.setTop g) target := by
  obtain ⟨mk, methM, hnamed, hmethM, hstM, habM⟩ := Cond.instanceMethod_spec hinst
  obtain ⟨m8, methM', cM, hn8, hmethM', -, -, -, -, -, -, hsigM⟩ := Cond.codeWith_spec hcode
  cases Option.some.inj (hn8.symm.trans hnamed)
  cases hmethM.symm.trans hmethM'
  obtain ⟨c2, r2, m2, q1, q2, q3, q4, kP, hkP, hkPi⟩ := Cond.selects_spec hsel
  cases hcls.symm.trans q1
  cases (State.methodFound?_of_named hnamed hy).symm.trans q2
  cases hnamed.symm.trans q3
  have hselP : selectMethod e.platform s.vm cellB.cls mk = .method mk := by rw [Launch.admits_selectMethod X.admits]; exact q4
  obtain ⟨vm₁, X₁, hstep₁⟩ := X.invokevirtual hexec hown hlink hnamed hmethM hstM hkP hkPi hy (a := b) (cell := cellB) hcell
    (fun z h => by rw [h] at hobj; cases hobj) hselP hmethM habM hkP hkPi (g := g) hg (argsL := argsL) (rest := rest) (hlen _ hsigM) hstack hdg
  obtain ⟨v, B, X', hpost, hsteps⟩ := hK m meth c ⟨T.setVm vm₁, locs, cells, slots⟩ { g with stack := rest } (.invokevirtual index) mk (Value.ref b :: argsL).toArray X₁ hg hsize hdg hW (X₁.named hnamed) (hpre vm₁ X₁.warmed)
  exact ⟨v, vm₁, B, X₁.warmed, X', hpost, fun target h => hstep₁ _ fun acts => by rw [doInvoke_state]; exact hsteps.trans h⟩
abbrev vx_CVW (R : Room) (s : State) (args : Array Value) (own C : String) (index : Nat) (y : MethodName) (bytes : ByteArray) (maxL : Nat) (ret : Option FieldType) (hh : List (Nat × Nat × Nat × Nat)) (ws : List Cond) (rm : Room) (mc ms n : Nat) : Prop :=
  (rm.cells = mc ∧ rm.slots = ms ∧ rm.frames + 1 ≤ R.frames ∧ 8 + (maxL + 11) + rm.locals ≤ R.locals ∧ (∀ w ∈ ws, ∀ (a' : Array Value) (U : State), s.WarmedH U.vm → w.before a' U = true) ∧ Cond.codeWith y bytes maxL ret hh ∈ ws) ∧
  (Cond.codeWith y bytes maxL ret hh).before args s = true ∧ (Cond.initialized y.cls).before args s = true ∧ (y.cls ≠ "java/lang/invoke/MethodHandle" ∧ y.cls ≠ "java/lang/invoke/VarHandle") ∧
  (∀ sig, parseMethodDescriptor y.desc = some sig → n = sig.parameters.length) ∧ (Cond.methodLink own index y).before args s = true ∧ (Cond.instanceMethod y).before args s = true ∧ (Cond.selects C y y).before args s = true
theorem vx_cwVW {own C : String} {index maxL mc ms : Nat} {y : MethodName} {bytes : ByteArray} {ret : Option FieldType} {hh : List (Nat × Nat × Nat × Nat)} {Ts ws ws' : List Cond} {rm : Room} (n : Nat) (ht : ∀ w ∈ Ts, w.before args s = true) (hT : GoodIn Ts (wsV own index C y ws)) (hw : ws = Cond.codeWith y bytes maxL ret hh :: ws') (hrc : rm.cells = mc) (hrs : rm.slots = ms)
    (hd : y.cls = C ∧ y.cls ≠ "java/lang/invoke/MethodHandle" ∧ y.cls ≠ "java/lang/invoke/VarHandle" ∧ (parseMethodDescriptor y.desc).map (fun d => d.parameters.length) = some n) (hR : rm.frames + 1 ≤ R.frames ∧ 8 + (maxL + 11) + rm.locals ≤ R.locals) :
    vx_CVW R s args own C index y bytes maxL ret hh ws rm mc ms n := by
  obtain ⟨hC, hd⟩ := hd
  subst hC
  have ok : ∀ w ∈ wsV own index y.cls y ws, w.before args s = true := fun w h => ht w (hT w h).1
  have hG : GoodIn Ts ws := fun w h => hT w (by unfold wsV; exact List.mem_append_right _ h)
  have hc : Cond.codeWith y bytes maxL ret hh ∈ ws := by rw [hw]; exact List.mem_cons_self
  refine ⟨⟨hrc, hrs, hR.1, hR.2, pay_in ht hG, hc⟩, ht _ (hG _ hc).1, ok _ (by simp [wsV]), ⟨hd.1, hd.2.1⟩, fun sig h => ?_, ok _ (by simp [wsV]), ok _ (by simp [wsV]), ok _ (by simp [wsV])⟩
  have h2 := hd.2.2
  rw [h] at h2
  exact (Option.some.inj h2).symm
theorem vx_runVW {y : MethodName} {bytes cc : ByteArray} {maxL nL mc ms n index : Nat} {ret : Option FieldType} {hh : List (Nat × Nat × Nat × Nat)} {ws : List Cond} {rm : Room} {Pc : Array Value → State → Prop} {Qc : Array Value → State → Outcome → State → Prop} {free : Addr → Prop} {Ts : List Cond} {own C : String} {b : Addr} {As rest : List Value} {g : JFrame}
    (S : CallFix p m c cc nL s args Ts own) (hM : Met l y ws rm Pc Qc mc ms free) (cw : vx_CVW R s args own C index y bytes maxL ret hh ws rm mc ms n) (hp : PreV s H C b Pc As)
    (hg : g.method = m) (hn : As.length = n) (hsize : g.locals.size = nL) (hstack : g.stack = As.reverse ++ .ref b :: rest) (hW : 2 * g.monitorRoom + (rest.map fun v => v.category).sum ≤ 8) (hdg : decode cc g.pc = .ok (.invokevirtual index, 3)) (hf : cells + mc ≤ R.cells ∧ slots + ms ≤ R.slots) :
    va_Run p l e R s m args below meth c H locs cells slots mc ms g rest (Qc (Value.ref b :: As).toArray) free := by
  obtain ⟨⟨hrc, hrs, hfr, hlo, hws, hcw⟩, hcode, hini, hy, hlen, hl, hin, hse⟩ := cw
  have hK : Back l R p e below s args y 3 8 (PreOf R mc ms Pc) (PostOf Qc mc ms free) := va_backW (hh := hh) (bytes := bytes) (maxL := maxL) (ret := ret) hM hp.1 hrc hrs hfr hlo hws hcw (fun a' U hW => word_at hW (Or.inl (by first | rfl | simp [Cond.onTables, Cond.keeps, Cond.steady])) hini)
  obtain ⟨hx, hb, hml, ho, -⟩ := S
  obtain ⟨-, ⟨cellB, hcB, hoB, hclB⟩, hPc⟩ := hp
  intro T hT X
  obtain ⟨v, vm₁, ⟨U', l2, c2, s2⟩, hW₁, X', ⟨g', mk, t, L, e1, e2, hq, h1, hL, h2, h3⟩, st⟩ := vx_callVW X hx (C := C) (hh := hh) (bytes := bytes) (maxL := maxL) (ret := ret) ho hl hin hse hcode hy hK (by rw [hT]; exact hcB) hoB hclB hg (hsize.trans hml.symm) (argsL := As) (rest := rest) (fun sig h => hn.trans (hlen sig h)) hstack hW (by rw [hb]; exact hdg)
    (fun vm₁ hW₁ => ⟨hf.1, hf.2, hPc (T.setVm vm₁) hT hW₁⟩)
  dsimp only [Pt.U, Pt.locs, Pt.cells, Pt.slots] at X' e1 e2 h1 h2 h3 st
  subst h1; subst h2; subst h3
  exact ⟨v, (T.setVm vm₁).calling g' mk (Value.ref b :: As).toArray, t, U', L, hT, X', hL, e1, e2, hq, st⟩
section
variable {y : MethodName} {bytes cc : ByteArray} {maxL nL mc ms n index : Nat} {ret : Option FieldType} {ws : List Cond} {rm : Room} {Pc : Array Value → State → Prop} {Qc : Array Value → State → Outcome → State → Prop} {XC : String → State → State → Prop} {free : Addr → Prop} {Ts : List Cond} {own C : String} {b : Addr} {As rest : List Value} {g : JFrame}
theorem vx_runVX {hh : List (Nat × Nat × Nat × Nat)} (S : CallFix p m c cc nL s args Ts own) (hM : vx_Met l y ws rm Pc Qc XC mc ms free) (cw : vx_CVW R s args own C index y bytes maxL ret hh ws rm mc ms n) (hp : PreV s H C b Pc As)
    (hg : g.method = m) (hn : As.length = n) (hsize : g.locals.size = nL) (hstack : g.stack = As.reverse ++ .ref b :: rest) (hW : 2 * g.monitorRoom + (rest.map fun v => v.category).sum ≤ 8) (hdg : decode cc g.pc = .ok (.invokevirtual index, 3)) (hf : cells + mc ≤ R.cells ∧ slots + ms ≤ R.slots) :
    vx_Run p l e R s m args below meth c H locs cells slots mc ms g rest (Qc (Value.ref b :: As).toArray) XC free := by
  obtain ⟨⟨hrc, hrs, hfr, hlo, hws, hcw⟩, hcode, hini, hy, hlen, hl, hin, hse⟩ := cw
  have hK : vx_Back l R p e below s args y 3 8 (PreOf R mc ms Pc) (PostOf Qc mc ms free) (vx_Post XC mc ms free) := vx_backW (hh := hh) (bytes := bytes) (maxL := maxL) (ret := ret) hM hp.1 hrc hrs hfr hlo hws hcw (fun a' U hW => word_at hW (Or.inl (by first | rfl | simp [Cond.onTables, Cond.keeps, Cond.steady])) hini)
  obtain ⟨hx, hb, hml, ho, -⟩ := S
  obtain ⟨-, ⟨cellB, hcB, hoB, hclB⟩, hPc⟩ := hp
  intro T hT X
  rcases vx_callVX X hx (C := C) (hh := hh) (bytes := bytes) (maxL := maxL) (ret := ret) ho hl hin hse hcode hy hK (by rw [hT]; exact hcB) hoB hclB hg (hsize.trans hml.symm) (argsL := As) (rest := rest) (fun sig h => hn.trans (hlen sig h)) hstack hW (by rw [hb]; exact hdg)
    (fun vm₁ hW₁ => ⟨hf.1, hf.2, hPc (T.setVm vm₁) hT hW₁⟩) with ⟨v, vm₁, ⟨U', l2, c2, s2⟩, hW₁, X', ⟨g', mk, t, L, e1, e2, hq, h1, hL, h2, h3⟩, st⟩ | ⟨q, vm₁, ⟨U', l2, c2, s2⟩, hW₁, X', ⟨g', mk, t, L, E, ce, e1, e2, hq, hce, hcv, hcl, h1, hL, h2, h3⟩, st⟩
  · dsimp only [Pt.U, Pt.locs, Pt.cells, Pt.slots] at X' e1 e2 h1 h2 h3 st
    subst h1; subst h2; subst h3
    exact Or.inl ⟨v, (T.setVm vm₁).calling g' mk (Value.ref b :: As).toArray, t, U', L, hT, X', hL, e1, e2, hq, st⟩
  · dsimp only [Pt.U, Pt.locs, Pt.cells, Pt.slots] at X' e1 e2 h1 h2 h3 st hcl
    subst h1; subst h2; subst h3
    exact Or.inr ⟨q, (T.setVm vm₁).calling g' mk (Value.ref b :: As).toArray, t, U', L, E, ce, hT, X', hL, e1, e2, hq, hce, hcv, vx_cls hW₁ hcl, st⟩
theorem vx_runSX {hh : List (Nat × Nat × Nat × Nat)} (S : CallFix p m c cc nL s args Ts own) (hM : vx_Met l y ws rm Pc Qc XC mc ms free) (cw : vx_CSW R s args own index y bytes maxL ret hh ws rm mc ms n) (hp : PreS s H Pc As)
    (hg : g.method = m) (hn : As.length = n) (hsize : g.locals.size = nL) (hstack : g.stack = As.reverse ++ rest) (hW : 2 * g.monitorRoom + (rest.map fun v => v.category).sum ≤ 8) (hdg : decode cc g.pc = .ok (.invokestatic index, 3)) (hf : cells + mc ≤ R.cells ∧ slots + ms ≤ R.slots) :
    vx_Run p l e R s m args below meth c H locs cells slots mc ms g rest (Qc As.toArray) XC free := by
  obtain ⟨⟨hrc, hrs, hfr, hlo, hws, hcw⟩, hcode, hini, hy, hlen, hl, hstt⟩ := cw
  have hK : vx_Back l R p e below s args y 3 8 (PreOf R mc ms Pc) (PostOf Qc mc ms free) (vx_Post XC mc ms free) := vx_backW (hh := hh) (bytes := bytes) (maxL := maxL) (ret := ret) hM hp.1 hrc hrs hfr hlo hws hcw (fun a' U hW => word_at hW (Or.inl (by first | rfl | simp [Cond.onTables, Cond.keeps, Cond.steady])) hini)
  obtain ⟨hx, hb, hml, ho, -⟩ := S
  intro T hT X
  rcases vx_callSX X hx (hh := hh) (bytes := bytes) (maxL := maxL) (ret := ret) ho hl hstt hini hcode hy hK hg (hsize.trans hml.symm) (argsL := As) (rest := rest) (fun sig h => hn.trans (hlen sig h)) hstack hW (by rw [hb]; exact hdg)
    (fun vm₁ hW₁ => ⟨hf.1, hf.2, hp.2 (T.setVm vm₁) hT hW₁⟩) with ⟨v, vm₁, ⟨U', l2, c2, s2⟩, hW₁, X', ⟨g', mk, t, L, e1, e2, hq, h1, hL, h2, h3⟩, st⟩ | ⟨q, vm₁, ⟨U', l2, c2, s2⟩, hW₁, X', ⟨g', mk, t, L, E, ce, e1, e2, hq, hce, hcv, hcl, h1, hL, h2, h3⟩, st⟩
  · dsimp only [Pt.U, Pt.locs, Pt.cells, Pt.slots] at X' e1 e2 h1 h2 h3 st
    subst h1; subst h2; subst h3
    exact Or.inl ⟨v, (T.setVm vm₁).calling g' mk As.toArray, t, U', L, hT, X', hL, e1, e2, hq, st⟩
  · dsimp only [Pt.U, Pt.locs, Pt.cells, Pt.slots] at X' e1 e2 h1 h2 h3 st hcl
    subst h1; subst h2; subst h3
    exact Or.inr ⟨q, (T.setVm vm₁).calling g' mk As.toArray, t, U', L, E, ce, hT, X', hL, e1, e2, hq, hce, hcv, vx_cls hW₁ hcl, st⟩
end
end VXH
theorem vx_ofWH {l : Launch} {y : MethodName} {ws ws' : List Cond} {rm : Room} {Pc : Array Value → State → Prop} {Qc : Array Value → State → Outcome → State → Prop} {XC : String → State → State → Prop} {mc ms : Nat} {free : Addr → Prop} {cc : ByteArray} {maxL : Nat} {ret : Option FieldType} {hh : List (Nat × Nat × Nat × Nat)}
    (hy : plainName y.cls = true) (hw : ws = Cond.codeWith y cc maxL ret hh :: ws')
    (body : ∀ p e s m args below meth c s₁, BodyLoose p l y (headSpec ws rm) cc maxL ret e s m args below meth c s₁ → c.maxLocals = maxL → Pc args s →
      W p l e (headSpec ws rm).room s m args below meth c s.heap [] 0 0 (vx_MQ below Qc XC args s mc ms free) (entryFrame m args maxL)) : vx_Met l y ws rm Pc Qc XC mc ms free := by
  refine MetFree.of_bodyS (code := cc) (maxLocals := maxL) (ret := ret) hy ?_ ?_
  · intro args s m h hn
    obtain ⟨m9, meth, c, hn9, h1, h2, h3, h4, -, h5, h6, -⟩ := Cond.codeWith_spec (atoms_spec (ws := ws) h _ (by rw [hw]; exact List.mem_cons_self))
    cases hn.symm.trans hn9
    exact ⟨meth, c, h1, h2, h3, h4, h5, h6⟩
  · intro p e s m args below meth c s₁ B hml hP _
    have hh0 : s₁.heap = s.heap := by rw [B.state]; rfl
    obtain ⟨t, a1, o, b1, b2, b3⟩ := body p e s m args below meth c s₁ B hml hP s₁ hh0 (Stand.of_body B)
    exact ⟨t, o, a1, b1, b2, b3⟩
/-! ===== END ===== -/
end
section
/-! ===== BEGIN printed: names, fields, word lists, decode rows ===== -/
def RX0 : String := "LotTracker"
def TX0 : u_T := fun k => match k with
  | 0 => ("LotTracker", "stepTool", "[I", true)
  | 1 => ("LotTracker", "stepMinutes", "[I", true)
  | 2 => ("LotTracker", "stepLimit", "[I", true)
  | 3 => ("LotTracker", "stepBack", "[I", true)
  | 4 => ("LotTracker", "stepCount", "I", false)
  | 5 => ("LotTracker", "lotState", "[I", true)
  | 6 => ("LotTracker", "lotStep", "[I", true)
  | 7 => ("LotTracker", "lotMoment", "[I", true)
  | 8 => ("LotTracker", "lotHeld", "[Z", true)
  | 9 => ("LotTracker", "lotReworks", "[I", true)
  | 10 => ("LotTracker", "lotParent", "[I", true)
  | 11 => ("LotTracker", "lotSize", "[I", true)
  | 12 => ("LotTracker", "lotCount", "I", false)
  | 13 => ("LotTracker", "waferLot", "[I", true)
  | 14 => ("LotTracker", "waferPath", "[[I", true)
  | 15 => ("LotTracker", "waferPathLength", "[I", true)
  | 16 => ("LotTracker", "waferCount", "I", false)
  | _ => ("LotTracker", "now", "I", false)
def tyX0 : Nat → FieldType := fun k => match k with
  | 0 => .array .int
  | 1 => .array .int
  | 2 => .array .int
  | 3 => .array .int
  | 4 => .int
  | 5 => .array .int
  | 6 => .array .int
  | 7 => .array .int
  | 8 => .array .boolean
  | 9 => .array .int
  | 10 => .array .int
  | 11 => .array .int
  | 12 => .int
  | 13 => .array .int
  | 14 => .array (.array .int)
  | 15 => .array .int
  | 16 => .int
  | _ => .int
abbrev wsX00 : List Cond := u_ws RX0 TX0 18
theorem nmX0 : ∀ a, a < 18 → ∀ b, b < 18 → a ≠ b → (TX0 a).2.1 ≠ (TX0 b).2.1 := by decide +kernel
theorem tyX0_ok : ∀ k, k < 18 → parseFieldDescriptor (TX0 k).2.2.1 = some (tyX0 k) := by decide +kernel
abbrev cX0_init : ByteArray := prog_1_method_1_code
def yX0_init : MethodName := ⟨RX0, "<init>", "()V"⟩
abbrev cX0_addStep : ByteArray := prog_1_method_2_code
def yX0_addStep : MethodName := ⟨RX0, "addStep", "(IIII)I"⟩
abbrev cX0_enter : ByteArray := prog_1_method_3_code
def yX0_enter : MethodName := ⟨RX0, "enter", "(I)I"⟩
abbrev cX0_start : ByteArray := prog_1_method_4_code
def yX0_start : MethodName := ⟨RX0, "start", "(I)I"⟩
abbrev cX0_rework : ByteArray := prog_1_method_5_code
def yX0_rework : MethodName := ⟨RX0, "rework", "(I)I"⟩
abbrev cX0_split : ByteArray := prog_1_method_6_code
def yX0_split : MethodName := ⟨RX0, "split", "(II)I"⟩
abbrev cX0_merge : ByteArray := prog_1_method_7_code
def yX0_merge : MethodName := ⟨RX0, "merge", "(II)I"⟩
abbrev cX0_hold : ByteArray := prog_1_method_8_code
def yX0_hold : MethodName := ⟨RX0, "hold", "(IZ)Z"⟩
abbrev cX0_scrap : ByteArray := prog_1_method_9_code
def yX0_scrap : MethodName := ⟨RX0, "scrap", "(I)I"⟩
abbrev cX0_advance : ByteArray := prog_1_method_10_code
def yX0_advance : MethodName := ⟨RX0, "advance", "(I)I"⟩
abbrev cX0_time : ByteArray := prog_1_method_11_code
def yX0_time : MethodName := ⟨RX0, "time", "()I"⟩
abbrev cX0_lots : ByteArray := prog_1_method_12_code
def yX0_lots : MethodName := ⟨RX0, "lots", "()I"⟩
abbrev cX0_wafers : ByteArray := prog_1_method_13_code
def yX0_wafers : MethodName := ⟨RX0, "wafers", "()I"⟩
abbrev cX0_state : ByteArray := prog_1_method_14_code
def yX0_state : MethodName := ⟨RX0, "state", "(I)I"⟩
abbrev cX0_stepOf : ByteArray := prog_1_method_15_code
def yX0_stepOf : MethodName := ⟨RX0, "stepOf", "(I)I"⟩
abbrev cX0_size : ByteArray := prog_1_method_16_code
def yX0_size : MethodName := ⟨RX0, "size", "(I)I"⟩
abbrev cX0_slack : ByteArray := prog_1_method_17_code
def yX0_slack : MethodName := ⟨RX0, "slack", "(I)I"⟩
abbrev cX0_isLate : ByteArray := prog_1_method_18_code
def yX0_isLate : MethodName := ⟨RX0, "isLate", "(I)Z"⟩
abbrev cX0_reworks : ByteArray := prog_1_method_19_code
def yX0_reworks : MethodName := ⟨RX0, "reworks", "(I)I"⟩
abbrev cX0_nextFor : ByteArray := prog_1_method_20_code
def yX0_nextFor : MethodName := ⟨RX0, "nextFor", "(I)I"⟩
abbrev cX0_wafersAt : ByteArray := prog_1_method_21_code
def yX0_wafersAt : MethodName := ⟨RX0, "wafersAt", "(I)I"⟩
abbrev cX0_wafersAtByWafers : ByteArray := prog_1_method_22_code
def yX0_wafersAtByWafers : MethodName := ⟨RX0, "wafersAtByWafers", "(I)I"⟩
abbrev cX0_lotOf : ByteArray := prog_1_method_23_code
def yX0_lotOf : MethodName := ⟨RX0, "lotOf", "(I)I"⟩
abbrev cX0_parentOf : ByteArray := prog_1_method_24_code
def yX0_parentOf : MethodName := ⟨RX0, "parentOf", "(I)I"⟩
abbrev cX0_common : ByteArray := prog_1_method_25_code
def yX0_common : MethodName := ⟨RX0, "common", "(II)I"⟩
abbrev cX0_path : ByteArray := prog_1_method_26_code
def yX0_path : MethodName := ⟨RX0, "path", "(I)I"⟩
abbrev cX0_pathAt : ByteArray := prog_1_method_27_code
def yX0_pathAt : MethodName := ⟨RX0, "pathAt", "(II)I"⟩
abbrev cX0_isWithin : ByteArray := prog_1_method_28_code
def yX0_isWithin : MethodName := ⟨RX0, "isWithin", "(III)Z"⟩
abbrev cX0_isStep : ByteArray := prog_1_method_29_code
def yX0_isStep : MethodName := ⟨RX0, "isStep", "(I)Z"⟩
abbrev cX0_isLot : ByteArray := prog_1_method_30_code
def yX0_isLot : MethodName := ⟨RX0, "isLot", "(I)Z"⟩
abbrev cX0_checkTool : ByteArray := prog_1_method_31_code
def yX0_checkTool : MethodName := ⟨RX0, "checkTool", "(I)V"⟩
abbrev cX0_checkStep : ByteArray := prog_1_method_32_code
def yX0_checkStep : MethodName := ⟨RX0, "checkStep", "(I)V"⟩
abbrev cX0_checkLot : ByteArray := prog_1_method_33_code
def yX0_checkLot : MethodName := ⟨RX0, "checkLot", "(I)V"⟩
abbrev cX0_checkWafer : ByteArray := prog_1_method_34_code
def yX0_checkWafer : MethodName := ⟨RX0, "checkWafer", "(I)V"⟩
abbrev cX0_isFree : ByteArray := prog_1_method_35_code
def yX0_isFree : MethodName := ⟨RX0, "isFree", "(I)Z"⟩
abbrev cX0_isReady : ByteArray := prog_1_method_36_code
def yX0_isReady : MethodName := ⟨RX0, "isReady", "(I)Z"⟩
abbrev cX0_usesTool : ByteArray := prog_1_method_37_code
def yX0_usesTool : MethodName := ⟨RX0, "usesTool", "(II)Z"⟩
abbrev cX0_isBusy : ByteArray := prog_1_method_38_code
def yX0_isBusy : MethodName := ⟨RX0, "isBusy", "(I)Z"⟩
abbrev cX0_waitingLeft : ByteArray := prog_1_method_39_code
def yX0_waitingLeft : MethodName := ⟨RX0, "waitingLeft", "(I)I"⟩
abbrev cX0_parentOrNone : ByteArray := prog_1_method_40_code
def yX0_parentOrNone : MethodName := ⟨RX0, "parentOrNone", "(I)I"⟩
abbrev cX0_makeLot : ByteArray := prog_1_method_41_code
def yX0_makeLot : MethodName := ⟨RX0, "makeLot", "(IIZII)I"⟩
abbrev cX0_makeWafer : ByteArray := prog_1_method_42_code
def yX0_makeWafer : MethodName := ⟨RX0, "makeWafer", "(I)V"⟩
abbrev cX0_putInto : ByteArray := prog_1_method_43_code
def yX0_putInto : MethodName := ⟨RX0, "putInto", "(II)V"⟩
abbrev cX0_moveWafers : ByteArray := prog_1_method_44_code
def yX0_moveWafers : MethodName := ⟨RX0, "moveWafers", "(III)V"⟩
abbrev cX0_leaveRoute : ByteArray := prog_1_method_45_code
def yX0_leaveRoute : MethodName := ⟨RX0, "leaveRoute", "(II)V"⟩
abbrev cX0_endProcessing : ByteArray := prog_1_method_46_code
def yX0_endProcessing : MethodName := ⟨RX0, "endProcessing", "(I)V"⟩
def RX1 : String := "LotTrackerModel"
def TX1 : u_T := fun k => match k with
  | 0 => ("LotTrackerModel", "thrown", "I", false)
  | 1 => ("LotTrackerModel", "now", "I", false)
  | 2 => ("LotTrackerModel", "stepMany", "I", false)
  | 3 => ("LotTrackerModel", "tools", "[I", true)
  | 4 => ("LotTrackerModel", "minutes", "[I", true)
  | 5 => ("LotTrackerModel", "limits", "[I", true)
  | 6 => ("LotTrackerModel", "backs", "[I", true)
  | 7 => ("LotTrackerModel", "lotMany", "I", false)
  | 8 => ("LotTrackerModel", "states", "[I", true)
  | 9 => ("LotTrackerModel", "steps", "[I", true)
  | 10 => ("LotTrackerModel", "since", "[I", true)
  | 11 => ("LotTrackerModel", "ends", "[I", true)
  | 12 => ("LotTrackerModel", "areHeld", "[Z", true)
  | 13 => ("LotTrackerModel", "again", "[I", true)
  | 14 => ("LotTrackerModel", "parents", "[I", true)
  | 15 => ("LotTrackerModel", "waferMany", "I", false)
  | 16 => ("LotTrackerModel", "lotOfWafer", "[I", true)
  | 17 => ("LotTrackerModel", "pathMany", "[I", true)
  | 18 => ("LotTrackerModel", "paths", "[I", true)
  | _ => ("LotTrackerModel", "isAncestor", "[Z", true)
def tyX1 : Nat → FieldType := fun k => match k with
  | 0 => .int
  | 1 => .int
  | 2 => .int
  | 3 => .array .int
  | 4 => .array .int
  | 5 => .array .int
  | 6 => .array .int
  | 7 => .int
  | 8 => .array .int
  | 9 => .array .int
  | 10 => .array .int
  | 11 => .array .int
  | 12 => .array .boolean
  | 13 => .array .int
  | 14 => .array .int
  | 15 => .int
  | 16 => .array .int
  | 17 => .array .int
  | 18 => .array .int
  | _ => .array .boolean
abbrev wsX10 : List Cond := u_ws RX1 TX1 20
theorem nmX1 : ∀ a, a < 20 → ∀ b, b < 20 → a ≠ b → (TX1 a).2.1 ≠ (TX1 b).2.1 := by decide +kernel
theorem tyX1_ok : ∀ k, k < 20 → parseFieldDescriptor (TX1 k).2.2.1 = some (tyX1 k) := by decide +kernel
abbrev cX1_init : ByteArray := prog_3_method_1_code
def yX1_init : MethodName := ⟨RX1, "<init>", "()V"⟩
abbrev cX1_thrown : ByteArray := prog_3_method_2_code
def yX1_thrown : MethodName := ⟨RX1, "thrown", "()I"⟩
abbrev cX1_fails : ByteArray := prog_3_method_3_code
def yX1_fails : MethodName := ⟨RX1, "fails", "(I)I"⟩
abbrev cX1_in : ByteArray := prog_3_method_4_code
def yX1_in : MethodName := ⟨RX1, "in", "(III)Z"⟩
abbrev cX1_isTool : ByteArray := prog_3_method_5_code
def yX1_isTool : MethodName := ⟨RX1, "isTool", "(I)Z"⟩
abbrev cX1_isLot : ByteArray := prog_3_method_6_code
def yX1_isLot : MethodName := ⟨RX1, "isLot", "(I)Z"⟩
abbrev cX1_isWafer : ByteArray := prog_3_method_7_code
def yX1_isWafer : MethodName := ⟨RX1, "isWafer", "(I)Z"⟩
abbrev cX1_addStep : ByteArray := prog_3_method_8_code
def yX1_addStep : MethodName := ⟨RX1, "addStep", "(IIII)I"⟩
abbrev cX1_puts : ByteArray := prog_3_method_9_code
def yX1_puts : MethodName := ⟨RX1, "puts", "(II)V"⟩
abbrev cX1_count : ByteArray := prog_3_method_10_code
def yX1_count : MethodName := ⟨RX1, "count", "(I)I"⟩
abbrev cX1_enter : ByteArray := prog_3_method_11_code
def yX1_enter : MethodName := ⟨RX1, "enter", "(I)I"⟩
abbrev cX1_waited : ByteArray := prog_3_method_12_code
def yX1_waited : MethodName := ⟨RX1, "waited", "(I)I"⟩
abbrev cX1_tooLate : ByteArray := prog_3_method_13_code
def yX1_tooLate : MethodName := ⟨RX1, "tooLate", "(I)Z"⟩
abbrev cX1_isBusy : ByteArray := prog_3_method_14_code
def yX1_isBusy : MethodName := ⟨RX1, "isBusy", "(I)Z"⟩
abbrev cX1_start : ByteArray := prog_3_method_15_code
def yX1_start : MethodName := ⟨RX1, "start", "(I)I"⟩
abbrev cX1_rework : ByteArray := prog_3_method_16_code
def yX1_rework : MethodName := ⟨RX1, "rework", "(I)I"⟩
abbrev cX1_split : ByteArray := prog_3_method_17_code
def yX1_split : MethodName := ⟨RX1, "split", "(II)I"⟩
abbrev cX1_canMerge : ByteArray := prog_3_method_18_code
def yX1_canMerge : MethodName := ⟨RX1, "canMerge", "(I)Z"⟩
abbrev cX1_merge : ByteArray := prog_3_method_19_code
def yX1_merge : MethodName := ⟨RX1, "merge", "(II)I"⟩
abbrev cX1_hold : ByteArray := prog_3_method_20_code
def yX1_hold : MethodName := ⟨RX1, "hold", "(IZ)Z"⟩
abbrev cX1_scrap : ByteArray := prog_3_method_21_code
def yX1_scrap : MethodName := ⟨RX1, "scrap", "(I)I"⟩
abbrev cX1_advance : ByteArray := prog_3_method_22_code
def yX1_advance : MethodName := ⟨RX1, "advance", "(I)I"⟩
abbrev cX1_time : ByteArray := prog_3_method_23_code
def yX1_time : MethodName := ⟨RX1, "time", "()I"⟩
abbrev cX1_lots : ByteArray := prog_3_method_24_code
def yX1_lots : MethodName := ⟨RX1, "lots", "()I"⟩
abbrev cX1_wafers : ByteArray := prog_3_method_25_code
def yX1_wafers : MethodName := ⟨RX1, "wafers", "()I"⟩
abbrev cX1_told : ByteArray := prog_3_method_26_code
def yX1_told : MethodName := ⟨RX1, "told", "([II)I"⟩
abbrev cX1_state : ByteArray := prog_3_method_27_code
def yX1_state : MethodName := ⟨RX1, "state", "(I)I"⟩
abbrev cX1_stepOf : ByteArray := prog_3_method_28_code
def yX1_stepOf : MethodName := ⟨RX1, "stepOf", "(I)I"⟩
abbrev cX1_size : ByteArray := prog_3_method_29_code
def yX1_size : MethodName := ⟨RX1, "size", "(I)I"⟩
abbrev cX1_left : ByteArray := prog_3_method_30_code
def yX1_left : MethodName := ⟨RX1, "left", "(I)I"⟩
abbrev cX1_slack : ByteArray := prog_3_method_31_code
def yX1_slack : MethodName := ⟨RX1, "slack", "(I)I"⟩
abbrev cX1_isLate : ByteArray := prog_3_method_32_code
def yX1_isLate : MethodName := ⟨RX1, "isLate", "(I)Z"⟩
abbrev cX1_reworks : ByteArray := prog_3_method_33_code
def yX1_reworks : MethodName := ⟨RX1, "reworks", "(I)I"⟩
abbrev cX1_nextFor : ByteArray := prog_3_method_34_code
def yX1_nextFor : MethodName := ⟨RX1, "nextFor", "(I)I"⟩
abbrev cX1_at : ByteArray := prog_3_method_35_code
def yX1_at : MethodName := ⟨RX1, "at", "(I)I"⟩
abbrev cX1_wafersAt : ByteArray := prog_3_method_36_code
def yX1_wafersAt : MethodName := ⟨RX1, "wafersAt", "(I)I"⟩
abbrev cX1_wafersAtByWafers : ByteArray := prog_3_method_37_code
def yX1_wafersAtByWafers : MethodName := ⟨RX1, "wafersAtByWafers", "(I)I"⟩
abbrev cX1_lotOf : ByteArray := prog_3_method_38_code
def yX1_lotOf : MethodName := ⟨RX1, "lotOf", "(I)I"⟩
abbrev cX1_parentOf : ByteArray := prog_3_method_39_code
def yX1_parentOf : MethodName := ⟨RX1, "parentOf", "(I)I"⟩
abbrev cX1_common : ByteArray := prog_3_method_40_code
def yX1_common : MethodName := ⟨RX1, "common", "(II)I"⟩
abbrev cX1_path : ByteArray := prog_3_method_41_code
def yX1_path : MethodName := ⟨RX1, "path", "(I)I"⟩
abbrev cX1_pathAt : ByteArray := prog_3_method_42_code
def yX1_pathAt : MethodName := ⟨RX1, "pathAt", "(II)I"⟩
def RJ9 : String := "java/lang/Math"
def TJ9 : u_T := fun k => match k with
  | _ => ("", "", "", false)
def tyJ9 : Nat → FieldType := fun k => match k with
  | _ => .int
abbrev wsJ90 : List Cond := u_ws RJ9 TJ9 0
theorem nmJ9 : ∀ a, a < 0 → ∀ b, b < 0 → a ≠ b → (TJ9 a).2.1 ≠ (TJ9 b).2.1 := by decide +kernel
theorem tyJ9_ok : ∀ k, k < 0 → parseFieldDescriptor (TJ9 k).2.2.1 = some (tyJ9 k) := by decide +kernel
abbrev cJ9_max_7cf53 : ByteArray := prog_8_method_65_code
def yJ9_max_7cf53 : MethodName := ⟨RJ9, "max", "(II)I"⟩
abbrev cJ9_min_7cf53 : ByteArray := prog_8_method_69_code
def yJ9_min_7cf53 : MethodName := ⟨RJ9, "min", "(II)I"⟩
def RJ0 : String := "java/lang/String"
def TJ0 : u_T := fun k => match k with
  | _ => ("", "", "", false)
def tyJ0 : Nat → FieldType := fun k => match k with
  | _ => .int
abbrev wsJ00 : List Cond := u_ws RJ0 TJ0 0
theorem nmJ0 : ∀ a, a < 0 → ∀ b, b < 0 → a ≠ b → (TJ0 a).2.1 ≠ (TJ0 b).2.1 := by decide +kernel
theorem tyJ0_ok : ∀ k, k < 0 → parseFieldDescriptor (TJ0 k).2.2.1 = some (tyJ0 k) := by decide +kernel
def RL : String := "LotTrackerLaw"
abbrev cL_addStep : ByteArray := method_3_code
def yL_addStep : MethodName := ⟨RL, "addStep", "(LLotTracker;IIII[J)I"⟩
abbrev cL_enter : ByteArray := method_4_code
def yL_enter : MethodName := ⟨RL, "enter", "(LLotTracker;I[J)I"⟩
abbrev cL_start : ByteArray := method_5_code
def yL_start : MethodName := ⟨RL, "start", "(LLotTracker;I[J)I"⟩
abbrev cL_rework : ByteArray := method_6_code
def yL_rework : MethodName := ⟨RL, "rework", "(LLotTracker;I[J)I"⟩
abbrev cL_split : ByteArray := method_7_code
def yL_split : MethodName := ⟨RL, "split", "(LLotTracker;II[J)I"⟩
abbrev cL_merge : ByteArray := method_8_code
def yL_merge : MethodName := ⟨RL, "merge", "(LLotTracker;II[J)I"⟩
abbrev cL_hold : ByteArray := method_9_code
def yL_hold : MethodName := ⟨RL, "hold", "(LLotTracker;IZ[J)I"⟩
abbrev cL_scrap : ByteArray := method_10_code
def yL_scrap : MethodName := ⟨RL, "scrap", "(LLotTracker;I[J)I"⟩
abbrev cL_advance : ByteArray := method_11_code
def yL_advance : MethodName := ⟨RL, "advance", "(LLotTracker;I[J)I"⟩
abbrev cL_state : ByteArray := method_12_code
def yL_state : MethodName := ⟨RL, "state", "(LLotTracker;I[J)I"⟩
abbrev cL_stepOf : ByteArray := method_13_code
def yL_stepOf : MethodName := ⟨RL, "stepOf", "(LLotTracker;I[J)I"⟩
abbrev cL_size : ByteArray := method_14_code
def yL_size : MethodName := ⟨RL, "size", "(LLotTracker;I[J)I"⟩
abbrev cL_slack : ByteArray := method_15_code
def yL_slack : MethodName := ⟨RL, "slack", "(LLotTracker;I[J)I"⟩
abbrev cL_isLate : ByteArray := method_16_code
def yL_isLate : MethodName := ⟨RL, "isLate", "(LLotTracker;I[J)I"⟩
abbrev cL_reworks : ByteArray := method_17_code
def yL_reworks : MethodName := ⟨RL, "reworks", "(LLotTracker;I[J)I"⟩
abbrev cL_nextFor : ByteArray := method_18_code
def yL_nextFor : MethodName := ⟨RL, "nextFor", "(LLotTracker;I[J)I"⟩
abbrev cL_wafersAt : ByteArray := method_19_code
def yL_wafersAt : MethodName := ⟨RL, "wafersAt", "(LLotTracker;I[J)I"⟩
abbrev cL_wafersAtByWafers : ByteArray := method_20_code
def yL_wafersAtByWafers : MethodName := ⟨RL, "wafersAtByWafers", "(LLotTracker;I[J)I"⟩
abbrev cL_lotOf : ByteArray := method_21_code
def yL_lotOf : MethodName := ⟨RL, "lotOf", "(LLotTracker;I[J)I"⟩
abbrev cL_parentOf : ByteArray := method_22_code
def yL_parentOf : MethodName := ⟨RL, "parentOf", "(LLotTracker;I[J)I"⟩
abbrev cL_common : ByteArray := method_23_code
def yL_common : MethodName := ⟨RL, "common", "(LLotTracker;II[J)I"⟩
abbrev cL_path : ByteArray := method_24_code
def yL_path : MethodName := ⟨RL, "path", "(LLotTracker;I[J)I"⟩
abbrev cL_pathAt : ByteArray := method_25_code
def yL_pathAt : MethodName := ⟨RL, "pathAt", "(LLotTracker;II[J)I"⟩
abbrev cL_law : ByteArray := code
def yL_law : MethodName := ⟨RL, "law", "([I)Z"⟩
def wsX0_init : List Cond := .code yX0_init cX0_init 1 none :: ([.methodLink RX0 3 objectInit, .instanceMethod objectInit, .code objectInit ⟨#[0xb1]⟩ 1 none, .arrayClass .int, .fieldLink RX0 9 "LotTracker" "stepTool" "[I", .fieldLink RX0 13 "LotTracker" "stepMinutes" "[I", .fieldLink RX0 16 "LotTracker" "stepLimit" "[I", .fieldLink RX0 19 "LotTracker" "stepBack" "[I", .fieldLink RX0 22 "LotTracker" "stepCount" "I", .fieldLink RX0 26 "LotTracker" "lotState" "[I", .fieldLink RX0 29 "LotTracker" "lotStep" "[I", .fieldLink RX0 32 "LotTracker" "lotMoment" "[I", .arrayClass .boolean, .fieldLink RX0 35 "LotTracker" "lotHeld" "[Z", .fieldLink RX0 39 "LotTracker" "lotReworks" "[I", .fieldLink RX0 42 "LotTracker" "lotParent" "[I", .fieldLink RX0 45 "LotTracker" "lotSize" "[I", .fieldLink RX0 48 "LotTracker" "lotCount" "I", .fieldLink RX0 51 "LotTracker" "waferLot" "[I", .classLink RX0 54 "[[I", .fieldLink RX0 56 "LotTracker" "waferPath" "[[I", .fieldLink RX0 59 "LotTracker" "waferPathLength" "[I", .fieldLink RX0 62 "LotTracker" "waferCount" "I", .fieldLink RX0 65 "LotTracker" "now" "I"] ++ wsX00)
def wsX0_isWithin : List Cond := .code yX0_isWithin cX0_isWithin 3 (some .boolean) :: ([])
def wsX0_checkTool : List Cond := .code yX0_checkTool cX0_checkTool 1 none :: ([.classLink RX0 172 "java/lang/IndexOutOfBoundsException", .initialized "java/lang/IndexOutOfBoundsException", .methodLink RX0 72 yX0_isWithin, .static yX0_isWithin, .initialized RX0, .code yX0_isWithin cX0_isWithin 3 (some .boolean)] ++ (vx_atS RX0 176 "java/lang/IndexOutOfBoundsException" ["java/lang/RuntimeException", "java/lang/Exception"]).filter goodWord)
def wsX0_addStep : List Cond := .code yX0_addStep cX0_addStep 6 (some .int) :: ([.classLink RX0 76 "java/lang/IllegalArgumentException", .initialized "java/lang/IllegalArgumentException", .classLink RX0 83 "java/lang/IllegalStateException", .initialized "java/lang/IllegalStateException", .fieldLink RX0 22 "LotTracker" "stepCount" "I", .fieldLink RX0 48 "LotTracker" "lotCount" "I", .fieldLink RX0 9 "LotTracker" "stepTool" "[I", .fieldLink RX0 13 "LotTracker" "stepMinutes" "[I", .fieldLink RX0 16 "LotTracker" "stepLimit" "[I", .fieldLink RX0 19 "LotTracker" "stepBack" "[I", .methodLink RX0 68 yX0_checkTool, .static yX0_checkTool, .initialized RX0, .code yX0_checkTool cX0_checkTool 1 none, .classLink RX0 172 "java/lang/IndexOutOfBoundsException", .initialized "java/lang/IndexOutOfBoundsException", .methodLink RX0 72 yX0_isWithin, .static yX0_isWithin, .code yX0_isWithin cX0_isWithin 3 (some .boolean)] ++ wsX00 ++ (vx_atS RX0 80 "java/lang/IllegalArgumentException" ["java/lang/RuntimeException", "java/lang/Exception"]).filter goodWord ++ (vx_atS RX0 87 "java/lang/IllegalStateException" ["java/lang/RuntimeException", "java/lang/Exception"]).filter goodWord ++ (vx_atS RX0 176 "java/lang/IndexOutOfBoundsException" ["java/lang/RuntimeException", "java/lang/Exception"]).filter goodWord)
def wsX0_makeLot : List Cond := .code yX0_makeLot cX0_makeLot 7 (some .int) :: ([.fieldLink RX0 48 "LotTracker" "lotCount" "I", .fieldLink RX0 26 "LotTracker" "lotState" "[I", .fieldLink RX0 29 "LotTracker" "lotStep" "[I", .fieldLink RX0 32 "LotTracker" "lotMoment" "[I", .fieldLink RX0 35 "LotTracker" "lotHeld" "[Z", .fieldLink RX0 39 "LotTracker" "lotReworks" "[I", .fieldLink RX0 42 "LotTracker" "lotParent" "[I", .fieldLink RX0 45 "LotTracker" "lotSize" "[I"] ++ wsX00)
def wsX0_putInto : List Cond := .code yX0_putInto cX0_putInto 4 none :: ([.fieldLink RX0 51 "LotTracker" "waferLot" "[I", .fieldLink RX0 45 "LotTracker" "lotSize" "[I", .fieldLink RX0 59 "LotTracker" "waferPathLength" "[I", .fieldLink RX0 56 "LotTracker" "waferPath" "[[I"] ++ wsX00)
def wsX0_makeWafer : List Cond := .code yX0_makeWafer cX0_makeWafer 3 none :: ([.fieldLink RX0 62 "LotTracker" "waferCount" "I", .fieldLink RX0 59 "LotTracker" "waferPathLength" "[I", .methodLink RX0 186 yX0_putInto, .instanceMethod yX0_putInto, .selects RX0 yX0_putInto yX0_putInto, .initialized RX0, .code yX0_putInto cX0_putInto 4 none, .fieldLink RX0 51 "LotTracker" "waferLot" "[I", .fieldLink RX0 45 "LotTracker" "lotSize" "[I", .fieldLink RX0 56 "LotTracker" "waferPath" "[[I"] ++ wsX00)
def wsX0_enter_r1 : List Cond := [Cond.classLink RX0 76 "java/lang/IllegalArgumentException", Cond.initialized "java/lang/IllegalArgumentException", Cond.classLink RX0 83 "java/lang/IllegalStateException", Cond.initialized "java/lang/IllegalStateException", Cond.fieldLink RX0 22 "LotTracker" "stepCount" "I", Cond.fieldLink RX0 48 "LotTracker" "lotCount" "I", Cond.fieldLink RX0 62 "LotTracker" "waferCount" "I", Cond.fieldLink RX0 65 "LotTracker" "now" "I", Cond.methodLink RX0 72 yX0_isWithin, Cond.static yX0_isWithin, Cond.initialized RX0, Cond.code yX0_isWithin cX0_isWithin 3 (some .boolean), Cond.methodLink RX0 92 yX0_makeLot, Cond.instanceMethod yX0_makeLot, Cond.selects RX0 yX0_makeLot yX0_makeLot, Cond.code yX0_makeLot cX0_makeLot 7 (some .int), Cond.fieldLink RX0 26 "LotTracker" "lotState" "[I", Cond.fieldLink RX0 29 "LotTracker" "lotStep" "[I", Cond.fieldLink RX0 32 "LotTracker" "lotMoment" "[I", Cond.fieldLink RX0 35 "LotTracker" "lotHeld" "[Z", Cond.fieldLink RX0 39 "LotTracker" "lotReworks" "[I", Cond.fieldLink RX0 42 "LotTracker" "lotParent" "[I", Cond.fieldLink RX0 45 "LotTracker" "lotSize" "[I", Cond.methodLink RX0 96 yX0_makeWafer]
def wsX0_enter_r2 : List Cond := [Cond.instanceMethod yX0_makeWafer, Cond.selects RX0 yX0_makeWafer yX0_makeWafer, Cond.code yX0_makeWafer cX0_makeWafer 3 none, Cond.fieldLink RX0 59 "LotTracker" "waferPathLength" "[I", Cond.methodLink RX0 186 yX0_putInto, Cond.instanceMethod yX0_putInto, Cond.selects RX0 yX0_putInto yX0_putInto, Cond.code yX0_putInto cX0_putInto 4 none, Cond.fieldLink RX0 51 "LotTracker" "waferLot" "[I", Cond.fieldLink RX0 56 "LotTracker" "waferPath" "[[I"]
def wsX0_enter : List Cond := .code yX0_enter cX0_enter 4 (some .int) :: ((wsX0_enter_r1 ++ wsX0_enter_r2) ++ wsX00 ++ (vx_atS RX0 80 "java/lang/IllegalArgumentException" ["java/lang/RuntimeException", "java/lang/Exception"]).filter goodWord ++ (vx_atS RX0 87 "java/lang/IllegalStateException" ["java/lang/RuntimeException", "java/lang/Exception"]).filter goodWord)
def wsX0_isLot : List Cond := .code yX0_isLot cX0_isLot 2 (some .boolean) :: ([.fieldLink RX0 48 "LotTracker" "lotCount" "I"] ++ wsX00)
def wsX0_checkLot : List Cond := .code yX0_checkLot cX0_checkLot 2 none :: ([.classLink RX0 172 "java/lang/IndexOutOfBoundsException", .initialized "java/lang/IndexOutOfBoundsException", .methodLink RX0 147 yX0_isLot, .instanceMethod yX0_isLot, .selects RX0 yX0_isLot yX0_isLot, .initialized RX0, .code yX0_isLot cX0_isLot 2 (some .boolean), .fieldLink RX0 48 "LotTracker" "lotCount" "I"] ++ wsX00 ++ (vx_atS RX0 176 "java/lang/IndexOutOfBoundsException" ["java/lang/RuntimeException", "java/lang/Exception"]).filter goodWord)
def wsX0_isFree : List Cond := .code yX0_isFree cX0_isFree 2 (some .boolean) :: ([.fieldLink RX0 26 "LotTracker" "lotState" "[I", .fieldLink RX0 35 "LotTracker" "lotHeld" "[Z"] ++ wsX00)
def wsX0_isStep : List Cond := .code yX0_isStep cX0_isStep 2 (some .boolean) :: ([.fieldLink RX0 22 "LotTracker" "stepCount" "I"] ++ wsX00)
def wsX0_waitingLeft : List Cond := .code yX0_waitingLeft cX0_waitingLeft 3 (some .int) :: ([.fieldLink RX0 29 "LotTracker" "lotStep" "[I", .fieldLink RX0 26 "LotTracker" "lotState" "[I", .constant RX0 161 (2000000), .fieldLink RX0 16 "LotTracker" "stepLimit" "[I", .constant RX0 185 (1000000), .fieldLink RX0 65 "LotTracker" "now" "I", .fieldLink RX0 32 "LotTracker" "lotMoment" "[I", .methodLink RX0 106 yX0_isStep, .instanceMethod yX0_isStep, .selects RX0 yX0_isStep yX0_isStep, .initialized RX0, .code yX0_isStep cX0_isStep 2 (some .boolean), .fieldLink RX0 22 "LotTracker" "stepCount" "I"] ++ wsX00)
def wsX0_isReady : List Cond := .code yX0_isReady cX0_isReady 2 (some .boolean) :: ([.methodLink RX0 114 yX0_isFree, .instanceMethod yX0_isFree, .selects RX0 yX0_isFree yX0_isFree, .initialized RX0, .code yX0_isFree cX0_isFree 2 (some .boolean), .fieldLink RX0 26 "LotTracker" "lotState" "[I", .fieldLink RX0 35 "LotTracker" "lotHeld" "[Z", .methodLink RX0 157 yX0_waitingLeft, .instanceMethod yX0_waitingLeft, .selects RX0 yX0_waitingLeft yX0_waitingLeft, .code yX0_waitingLeft cX0_waitingLeft 3 (some .int), .fieldLink RX0 29 "LotTracker" "lotStep" "[I", .constant RX0 161 (2000000), .fieldLink RX0 16 "LotTracker" "stepLimit" "[I", .constant RX0 185 (1000000), .fieldLink RX0 65 "LotTracker" "now" "I", .fieldLink RX0 32 "LotTracker" "lotMoment" "[I", .methodLink RX0 106 yX0_isStep, .instanceMethod yX0_isStep, .selects RX0 yX0_isStep yX0_isStep, .code yX0_isStep cX0_isStep 2 (some .boolean), .fieldLink RX0 22 "LotTracker" "stepCount" "I"] ++ wsX00)
def wsX0_usesTool : List Cond := .code yX0_usesTool cX0_usesTool 4 (some .boolean) :: ([.fieldLink RX0 29 "LotTracker" "lotStep" "[I", .fieldLink RX0 9 "LotTracker" "stepTool" "[I", .methodLink RX0 106 yX0_isStep, .instanceMethod yX0_isStep, .selects RX0 yX0_isStep yX0_isStep, .initialized RX0, .code yX0_isStep cX0_isStep 2 (some .boolean), .fieldLink RX0 22 "LotTracker" "stepCount" "I"] ++ wsX00)
def wsX0_isBusy : List Cond := .code yX0_isBusy cX0_isBusy 3 (some .boolean) :: ([.fieldLink RX0 48 "LotTracker" "lotCount" "I", .fieldLink RX0 26 "LotTracker" "lotState" "[I", .methodLink RX0 162 yX0_usesTool, .instanceMethod yX0_usesTool, .selects RX0 yX0_usesTool yX0_usesTool, .initialized RX0, .code yX0_usesTool cX0_usesTool 4 (some .boolean), .fieldLink RX0 29 "LotTracker" "lotStep" "[I", .fieldLink RX0 9 "LotTracker" "stepTool" "[I", .methodLink RX0 106 yX0_isStep, .instanceMethod yX0_isStep, .selects RX0 yX0_isStep yX0_isStep, .code yX0_isStep cX0_isStep 2 (some .boolean), .fieldLink RX0 22 "LotTracker" "stepCount" "I"] ++ wsX00)
def wsX0_start_r1 : List Cond := [Cond.classLink RX0 83 "java/lang/IllegalStateException", Cond.initialized "java/lang/IllegalStateException", Cond.fieldLink RX0 29 "LotTracker" "lotStep" "[I", Cond.fieldLink RX0 9 "LotTracker" "stepTool" "[I", Cond.fieldLink RX0 26 "LotTracker" "lotState" "[I", Cond.fieldLink RX0 32 "LotTracker" "lotMoment" "[I", Cond.fieldLink RX0 65 "LotTracker" "now" "I", Cond.fieldLink RX0 13 "LotTracker" "stepMinutes" "[I", Cond.methodLink RX0 99 yX0_checkLot, Cond.instanceMethod yX0_checkLot, Cond.selects RX0 yX0_checkLot yX0_checkLot, Cond.initialized RX0, Cond.code yX0_checkLot cX0_checkLot 2 none, Cond.classLink RX0 172 "java/lang/IndexOutOfBoundsException", Cond.initialized "java/lang/IndexOutOfBoundsException", Cond.methodLink RX0 147 yX0_isLot, Cond.instanceMethod yX0_isLot, Cond.selects RX0 yX0_isLot yX0_isLot, Cond.code yX0_isLot cX0_isLot 2 (some .boolean), Cond.fieldLink RX0 48 "LotTracker" "lotCount" "I", Cond.methodLink RX0 102 yX0_isReady, Cond.instanceMethod yX0_isReady, Cond.selects RX0 yX0_isReady yX0_isReady, Cond.code yX0_isReady cX0_isReady 2 (some .boolean)]
def wsX0_start_r2 : List Cond := [Cond.methodLink RX0 114 yX0_isFree, Cond.instanceMethod yX0_isFree, Cond.selects RX0 yX0_isFree yX0_isFree, Cond.code yX0_isFree cX0_isFree 2 (some .boolean), Cond.fieldLink RX0 35 "LotTracker" "lotHeld" "[Z", Cond.methodLink RX0 157 yX0_waitingLeft, Cond.instanceMethod yX0_waitingLeft, Cond.selects RX0 yX0_waitingLeft yX0_waitingLeft, Cond.code yX0_waitingLeft cX0_waitingLeft 3 (some .int), Cond.constant RX0 161 (2000000), Cond.fieldLink RX0 16 "LotTracker" "stepLimit" "[I", Cond.constant RX0 185 (1000000), Cond.methodLink RX0 106 yX0_isStep, Cond.instanceMethod yX0_isStep, Cond.selects RX0 yX0_isStep yX0_isStep, Cond.code yX0_isStep cX0_isStep 2 (some .boolean), Cond.fieldLink RX0 22 "LotTracker" "stepCount" "I", Cond.methodLink RX0 109 yX0_isBusy, Cond.instanceMethod yX0_isBusy, Cond.selects RX0 yX0_isBusy yX0_isBusy, Cond.code yX0_isBusy cX0_isBusy 3 (some .boolean), Cond.methodLink RX0 162 yX0_usesTool, Cond.instanceMethod yX0_usesTool, Cond.selects RX0 yX0_usesTool yX0_usesTool]
def wsX0_start_r3 : List Cond := [Cond.code yX0_usesTool cX0_usesTool 4 (some .boolean)]
def wsX0_start : List Cond := .code yX0_start cX0_start 3 (some .int) :: ((wsX0_start_r1 ++ (wsX0_start_r2 ++ wsX0_start_r3)) ++ wsX00 ++ (vx_atS RX0 87 "java/lang/IllegalStateException" ["java/lang/RuntimeException", "java/lang/Exception"]).filter goodWord ++ (vx_atS RX0 176 "java/lang/IndexOutOfBoundsException" ["java/lang/RuntimeException", "java/lang/Exception"]).filter goodWord)
def wsX0_rework_r1 : List Cond := [Cond.classLink RX0 83 "java/lang/IllegalStateException", Cond.initialized "java/lang/IllegalStateException", Cond.fieldLink RX0 29 "LotTracker" "lotStep" "[I", Cond.fieldLink RX0 39 "LotTracker" "lotReworks" "[I", Cond.fieldLink RX0 19 "LotTracker" "stepBack" "[I", Cond.fieldLink RX0 32 "LotTracker" "lotMoment" "[I", Cond.fieldLink RX0 65 "LotTracker" "now" "I", Cond.methodLink RX0 99 yX0_checkLot, Cond.instanceMethod yX0_checkLot, Cond.selects RX0 yX0_checkLot yX0_checkLot, Cond.initialized RX0, Cond.code yX0_checkLot cX0_checkLot 2 none, Cond.classLink RX0 172 "java/lang/IndexOutOfBoundsException", Cond.initialized "java/lang/IndexOutOfBoundsException", Cond.methodLink RX0 147 yX0_isLot, Cond.instanceMethod yX0_isLot, Cond.selects RX0 yX0_isLot yX0_isLot, Cond.code yX0_isLot cX0_isLot 2 (some .boolean), Cond.fieldLink RX0 48 "LotTracker" "lotCount" "I", Cond.methodLink RX0 114 yX0_isFree, Cond.instanceMethod yX0_isFree, Cond.selects RX0 yX0_isFree yX0_isFree, Cond.code yX0_isFree cX0_isFree 2 (some .boolean), Cond.fieldLink RX0 26 "LotTracker" "lotState" "[I"]
def wsX0_rework_r2 : List Cond := [Cond.fieldLink RX0 35 "LotTracker" "lotHeld" "[Z", Cond.methodLink RX0 106 yX0_isStep, Cond.instanceMethod yX0_isStep, Cond.selects RX0 yX0_isStep yX0_isStep, Cond.code yX0_isStep cX0_isStep 2 (some .boolean), Cond.fieldLink RX0 22 "LotTracker" "stepCount" "I"]
def wsX0_rework : List Cond := .code yX0_rework cX0_rework 3 (some .int) :: ((wsX0_rework_r1 ++ wsX0_rework_r2) ++ wsX00 ++ (vx_atS RX0 87 "java/lang/IllegalStateException" ["java/lang/RuntimeException", "java/lang/Exception"]).filter goodWord ++ (vx_atS RX0 176 "java/lang/IndexOutOfBoundsException" ["java/lang/RuntimeException", "java/lang/Exception"]).filter goodWord)
def wsX0_moveWafers : List Cond := .code yX0_moveWafers cX0_moveWafers 6 none :: ([.fieldLink RX0 62 "LotTracker" "waferCount" "I", .fieldLink RX0 51 "LotTracker" "waferLot" "[I", .fieldLink RX0 45 "LotTracker" "lotSize" "[I", .methodLink RX0 186 yX0_putInto, .instanceMethod yX0_putInto, .selects RX0 yX0_putInto yX0_putInto, .initialized RX0, .code yX0_putInto cX0_putInto 4 none, .fieldLink RX0 59 "LotTracker" "waferPathLength" "[I", .fieldLink RX0 56 "LotTracker" "waferPath" "[[I"] ++ wsX00)
def wsX0_split_r1 : List Cond := [Cond.classLink RX0 76 "java/lang/IllegalArgumentException", Cond.initialized "java/lang/IllegalArgumentException", Cond.classLink RX0 83 "java/lang/IllegalStateException", Cond.initialized "java/lang/IllegalStateException", Cond.fieldLink RX0 45 "LotTracker" "lotSize" "[I", Cond.fieldLink RX0 26 "LotTracker" "lotState" "[I", Cond.fieldLink RX0 48 "LotTracker" "lotCount" "I", Cond.fieldLink RX0 29 "LotTracker" "lotStep" "[I", Cond.fieldLink RX0 32 "LotTracker" "lotMoment" "[I", Cond.fieldLink RX0 35 "LotTracker" "lotHeld" "[Z", Cond.fieldLink RX0 39 "LotTracker" "lotReworks" "[I", Cond.methodLink RX0 99 yX0_checkLot, Cond.instanceMethod yX0_checkLot, Cond.selects RX0 yX0_checkLot yX0_checkLot, Cond.initialized RX0, Cond.code yX0_checkLot cX0_checkLot 2 none, Cond.classLink RX0 172 "java/lang/IndexOutOfBoundsException", Cond.initialized "java/lang/IndexOutOfBoundsException", Cond.methodLink RX0 147 yX0_isLot, Cond.instanceMethod yX0_isLot, Cond.selects RX0 yX0_isLot yX0_isLot, Cond.code yX0_isLot cX0_isLot 2 (some .boolean), Cond.methodLink RX0 72 yX0_isWithin, Cond.static yX0_isWithin]
def wsX0_split_r2 : List Cond := [Cond.code yX0_isWithin cX0_isWithin 3 (some .boolean), Cond.methodLink RX0 92 yX0_makeLot, Cond.instanceMethod yX0_makeLot, Cond.selects RX0 yX0_makeLot yX0_makeLot, Cond.code yX0_makeLot cX0_makeLot 7 (some .int), Cond.fieldLink RX0 42 "LotTracker" "lotParent" "[I", Cond.methodLink RX0 121 yX0_moveWafers, Cond.instanceMethod yX0_moveWafers, Cond.selects RX0 yX0_moveWafers yX0_moveWafers, Cond.code yX0_moveWafers cX0_moveWafers 6 none, Cond.fieldLink RX0 62 "LotTracker" "waferCount" "I", Cond.fieldLink RX0 51 "LotTracker" "waferLot" "[I", Cond.methodLink RX0 186 yX0_putInto, Cond.instanceMethod yX0_putInto, Cond.selects RX0 yX0_putInto yX0_putInto, Cond.code yX0_putInto cX0_putInto 4 none, Cond.fieldLink RX0 59 "LotTracker" "waferPathLength" "[I", Cond.fieldLink RX0 56 "LotTracker" "waferPath" "[[I"]
def wsX0_split : List Cond := .code yX0_split cX0_split 4 (some .int) :: ((wsX0_split_r1 ++ wsX0_split_r2) ++ wsX00 ++ (vx_atS RX0 80 "java/lang/IllegalArgumentException" ["java/lang/RuntimeException", "java/lang/Exception"]).filter goodWord ++ (vx_atS RX0 87 "java/lang/IllegalStateException" ["java/lang/RuntimeException", "java/lang/Exception"]).filter goodWord ++ (vx_atS RX0 176 "java/lang/IndexOutOfBoundsException" ["java/lang/RuntimeException", "java/lang/Exception"]).filter goodWord)
def wsX0_leaveRoute : List Cond := .code yX0_leaveRoute cX0_leaveRoute 3 none :: ([.fieldLink RX0 26 "LotTracker" "lotState" "[I", .fieldLink RX0 29 "LotTracker" "lotStep" "[I"] ++ wsX00)
def wsX0_merge_r1 : List Cond := [Cond.classLink RX0 76 "java/lang/IllegalArgumentException", Cond.initialized "java/lang/IllegalArgumentException", Cond.classLink RX0 83 "java/lang/IllegalStateException", Cond.initialized "java/lang/IllegalStateException", Cond.fieldLink RX0 29 "LotTracker" "lotStep" "[I", Cond.fieldLink RX0 32 "LotTracker" "lotMoment" "[I", Cond.methodLink RX0 129 Lib.Math.min.name, Cond.static Lib.Math.min.name, Cond.initialized "java/lang/Math", Cond.code Lib.Math.min.name Lib.Math.min.code 2 (some .int), Cond.fieldLink RX0 39 "LotTracker" "lotReworks" "[I", Cond.methodLink RX0 135 Lib.Math.max.name, Cond.static Lib.Math.max.name, Cond.code Lib.Math.max.name Lib.Math.max.code 2 (some .int), Cond.fieldLink RX0 45 "LotTracker" "lotSize" "[I", Cond.methodLink RX0 99 yX0_checkLot, Cond.instanceMethod yX0_checkLot, Cond.selects RX0 yX0_checkLot yX0_checkLot, Cond.initialized RX0, Cond.code yX0_checkLot cX0_checkLot 2 none, Cond.classLink RX0 172 "java/lang/IndexOutOfBoundsException", Cond.initialized "java/lang/IndexOutOfBoundsException", Cond.methodLink RX0 147 yX0_isLot, Cond.instanceMethod yX0_isLot]
def wsX0_merge_r2 : List Cond := [Cond.selects RX0 yX0_isLot yX0_isLot, Cond.code yX0_isLot cX0_isLot 2 (some .boolean), Cond.fieldLink RX0 48 "LotTracker" "lotCount" "I", Cond.methodLink RX0 114 yX0_isFree, Cond.instanceMethod yX0_isFree, Cond.selects RX0 yX0_isFree yX0_isFree, Cond.code yX0_isFree cX0_isFree 2 (some .boolean), Cond.fieldLink RX0 26 "LotTracker" "lotState" "[I", Cond.fieldLink RX0 35 "LotTracker" "lotHeld" "[Z", Cond.methodLink RX0 121 yX0_moveWafers, Cond.instanceMethod yX0_moveWafers, Cond.selects RX0 yX0_moveWafers yX0_moveWafers, Cond.code yX0_moveWafers cX0_moveWafers 6 none, Cond.fieldLink RX0 62 "LotTracker" "waferCount" "I", Cond.fieldLink RX0 51 "LotTracker" "waferLot" "[I", Cond.methodLink RX0 186 yX0_putInto, Cond.instanceMethod yX0_putInto, Cond.selects RX0 yX0_putInto yX0_putInto, Cond.code yX0_putInto cX0_putInto 4 none, Cond.fieldLink RX0 59 "LotTracker" "waferPathLength" "[I", Cond.fieldLink RX0 56 "LotTracker" "waferPath" "[[I", Cond.methodLink RX0 138 yX0_leaveRoute, Cond.instanceMethod yX0_leaveRoute, Cond.selects RX0 yX0_leaveRoute yX0_leaveRoute]
def wsX0_merge_r3 : List Cond := [Cond.code yX0_leaveRoute cX0_leaveRoute 3 none]
def wsX0_merge : List Cond := .code yX0_merge cX0_merge 3 (some .int) :: ((wsX0_merge_r1 ++ (wsX0_merge_r2 ++ wsX0_merge_r3)) ++ wsX00 ++ (vx_atS RX0 80 "java/lang/IllegalArgumentException" ["java/lang/RuntimeException", "java/lang/Exception"]).filter goodWord ++ (vx_atS RX0 87 "java/lang/IllegalStateException" ["java/lang/RuntimeException", "java/lang/Exception"]).filter goodWord ++ (vx_atS RX0 176 "java/lang/IndexOutOfBoundsException" ["java/lang/RuntimeException", "java/lang/Exception"]).filter goodWord)
def wsX0_hold : List Cond := .code yX0_hold cX0_hold 4 (some .boolean) :: ([.classLink RX0 83 "java/lang/IllegalStateException", .initialized "java/lang/IllegalStateException", .fieldLink RX0 26 "LotTracker" "lotState" "[I", .fieldLink RX0 35 "LotTracker" "lotHeld" "[Z", .methodLink RX0 99 yX0_checkLot, .instanceMethod yX0_checkLot, .selects RX0 yX0_checkLot yX0_checkLot, .initialized RX0, .code yX0_checkLot cX0_checkLot 2 none, .classLink RX0 172 "java/lang/IndexOutOfBoundsException", .initialized "java/lang/IndexOutOfBoundsException", .methodLink RX0 147 yX0_isLot, .instanceMethod yX0_isLot, .selects RX0 yX0_isLot yX0_isLot, .code yX0_isLot cX0_isLot 2 (some .boolean), .fieldLink RX0 48 "LotTracker" "lotCount" "I"] ++ wsX00 ++ (vx_atS RX0 87 "java/lang/IllegalStateException" ["java/lang/RuntimeException", "java/lang/Exception"]).filter goodWord ++ (vx_atS RX0 176 "java/lang/IndexOutOfBoundsException" ["java/lang/RuntimeException", "java/lang/Exception"]).filter goodWord)
def wsX0_checkWafer : List Cond := .code yX0_checkWafer cX0_checkWafer 2 none :: ([.classLink RX0 172 "java/lang/IndexOutOfBoundsException", .initialized "java/lang/IndexOutOfBoundsException", .fieldLink RX0 62 "LotTracker" "waferCount" "I"] ++ wsX00 ++ (vx_atS RX0 176 "java/lang/IndexOutOfBoundsException" ["java/lang/RuntimeException", "java/lang/Exception"]).filter goodWord)
def wsX0_scrap : List Cond := .code yX0_scrap cX0_scrap 3 (some .int) :: ([.classLink RX0 83 "java/lang/IllegalStateException", .initialized "java/lang/IllegalStateException", .fieldLink RX0 51 "LotTracker" "waferLot" "[I", .fieldLink RX0 26 "LotTracker" "lotState" "[I", .fieldLink RX0 45 "LotTracker" "lotSize" "[I", .methodLink RX0 144 yX0_checkWafer, .instanceMethod yX0_checkWafer, .selects RX0 yX0_checkWafer yX0_checkWafer, .initialized RX0, .code yX0_checkWafer cX0_checkWafer 2 none, .classLink RX0 172 "java/lang/IndexOutOfBoundsException", .initialized "java/lang/IndexOutOfBoundsException", .fieldLink RX0 62 "LotTracker" "waferCount" "I", .methodLink RX0 147 yX0_isLot, .instanceMethod yX0_isLot, .selects RX0 yX0_isLot yX0_isLot, .code yX0_isLot cX0_isLot 2 (some .boolean), .fieldLink RX0 48 "LotTracker" "lotCount" "I", .methodLink RX0 138 yX0_leaveRoute, .instanceMethod yX0_leaveRoute, .selects RX0 yX0_leaveRoute yX0_leaveRoute, .code yX0_leaveRoute cX0_leaveRoute 3 none, .fieldLink RX0 29 "LotTracker" "lotStep" "[I"] ++ wsX00 ++ (vx_atS RX0 87 "java/lang/IllegalStateException" ["java/lang/RuntimeException", "java/lang/Exception"]).filter goodWord ++ (vx_atS RX0 176 "java/lang/IndexOutOfBoundsException" ["java/lang/RuntimeException", "java/lang/Exception"]).filter goodWord)
def wsX0_endProcessing : List Cond := .code yX0_endProcessing cX0_endProcessing 3 none :: ([.fieldLink RX0 29 "LotTracker" "lotStep" "[I", .fieldLink RX0 26 "LotTracker" "lotState" "[I", .methodLink RX0 106 yX0_isStep, .instanceMethod yX0_isStep, .selects RX0 yX0_isStep yX0_isStep, .initialized RX0, .code yX0_isStep cX0_isStep 2 (some .boolean), .fieldLink RX0 22 "LotTracker" "stepCount" "I", .methodLink RX0 138 yX0_leaveRoute, .instanceMethod yX0_leaveRoute, .selects RX0 yX0_leaveRoute yX0_leaveRoute, .code yX0_leaveRoute cX0_leaveRoute 3 none] ++ wsX00)
def wsX0_advance : List Cond := .code yX0_advance cX0_advance 4 (some .int) :: ([.classLink RX0 76 "java/lang/IllegalArgumentException", .initialized "java/lang/IllegalArgumentException", .fieldLink RX0 65 "LotTracker" "now" "I", .fieldLink RX0 48 "LotTracker" "lotCount" "I", .fieldLink RX0 26 "LotTracker" "lotState" "[I", .fieldLink RX0 32 "LotTracker" "lotMoment" "[I", .methodLink RX0 72 yX0_isWithin, .static yX0_isWithin, .initialized RX0, .code yX0_isWithin cX0_isWithin 3 (some .boolean), .methodLink RX0 154 yX0_endProcessing, .instanceMethod yX0_endProcessing, .selects RX0 yX0_endProcessing yX0_endProcessing, .code yX0_endProcessing cX0_endProcessing 3 none, .fieldLink RX0 29 "LotTracker" "lotStep" "[I", .methodLink RX0 106 yX0_isStep, .instanceMethod yX0_isStep, .selects RX0 yX0_isStep yX0_isStep, .code yX0_isStep cX0_isStep 2 (some .boolean), .fieldLink RX0 22 "LotTracker" "stepCount" "I", .methodLink RX0 138 yX0_leaveRoute, .instanceMethod yX0_leaveRoute, .selects RX0 yX0_leaveRoute yX0_leaveRoute, .code yX0_leaveRoute cX0_leaveRoute 3 none] ++ wsX00 ++ (vx_atS RX0 80 "java/lang/IllegalArgumentException" ["java/lang/RuntimeException", "java/lang/Exception"]).filter goodWord)
def wsX0_time : List Cond := .code yX0_time cX0_time 1 (some .int) :: ([.fieldLink RX0 65 "LotTracker" "now" "I"] ++ wsX00)
def wsX0_lots : List Cond := .code yX0_lots cX0_lots 1 (some .int) :: ([.fieldLink RX0 48 "LotTracker" "lotCount" "I"] ++ wsX00)
def wsX0_wafers : List Cond := .code yX0_wafers cX0_wafers 1 (some .int) :: ([.fieldLink RX0 62 "LotTracker" "waferCount" "I"] ++ wsX00)
def wsX0_state : List Cond := .code yX0_state cX0_state 2 (some .int) :: ([.fieldLink RX0 26 "LotTracker" "lotState" "[I", .methodLink RX0 99 yX0_checkLot, .instanceMethod yX0_checkLot, .selects RX0 yX0_checkLot yX0_checkLot, .initialized RX0, .code yX0_checkLot cX0_checkLot 2 none, .classLink RX0 172 "java/lang/IndexOutOfBoundsException", .initialized "java/lang/IndexOutOfBoundsException", .methodLink RX0 147 yX0_isLot, .instanceMethod yX0_isLot, .selects RX0 yX0_isLot yX0_isLot, .code yX0_isLot cX0_isLot 2 (some .boolean), .fieldLink RX0 48 "LotTracker" "lotCount" "I"] ++ wsX00 ++ (vx_atS RX0 176 "java/lang/IndexOutOfBoundsException" ["java/lang/RuntimeException", "java/lang/Exception"]).filter goodWord)
def wsX0_stepOf : List Cond := .code yX0_stepOf cX0_stepOf 2 (some .int) :: ([.fieldLink RX0 29 "LotTracker" "lotStep" "[I", .methodLink RX0 99 yX0_checkLot, .instanceMethod yX0_checkLot, .selects RX0 yX0_checkLot yX0_checkLot, .initialized RX0, .code yX0_checkLot cX0_checkLot 2 none, .classLink RX0 172 "java/lang/IndexOutOfBoundsException", .initialized "java/lang/IndexOutOfBoundsException", .methodLink RX0 147 yX0_isLot, .instanceMethod yX0_isLot, .selects RX0 yX0_isLot yX0_isLot, .code yX0_isLot cX0_isLot 2 (some .boolean), .fieldLink RX0 48 "LotTracker" "lotCount" "I"] ++ wsX00 ++ (vx_atS RX0 176 "java/lang/IndexOutOfBoundsException" ["java/lang/RuntimeException", "java/lang/Exception"]).filter goodWord)
def wsX0_size : List Cond := .code yX0_size cX0_size 2 (some .int) :: ([.fieldLink RX0 45 "LotTracker" "lotSize" "[I", .methodLink RX0 99 yX0_checkLot, .instanceMethod yX0_checkLot, .selects RX0 yX0_checkLot yX0_checkLot, .initialized RX0, .code yX0_checkLot cX0_checkLot 2 none, .classLink RX0 172 "java/lang/IndexOutOfBoundsException", .initialized "java/lang/IndexOutOfBoundsException", .methodLink RX0 147 yX0_isLot, .instanceMethod yX0_isLot, .selects RX0 yX0_isLot yX0_isLot, .code yX0_isLot cX0_isLot 2 (some .boolean), .fieldLink RX0 48 "LotTracker" "lotCount" "I"] ++ wsX00 ++ (vx_atS RX0 176 "java/lang/IndexOutOfBoundsException" ["java/lang/RuntimeException", "java/lang/Exception"]).filter goodWord)
def wsX0_slack_r1 : List Cond := [Cond.methodLink RX0 99 yX0_checkLot, Cond.instanceMethod yX0_checkLot, Cond.selects RX0 yX0_checkLot yX0_checkLot, Cond.initialized RX0, Cond.code yX0_checkLot cX0_checkLot 2 none, Cond.classLink RX0 172 "java/lang/IndexOutOfBoundsException", Cond.initialized "java/lang/IndexOutOfBoundsException", Cond.methodLink RX0 147 yX0_isLot, Cond.instanceMethod yX0_isLot, Cond.selects RX0 yX0_isLot yX0_isLot, Cond.code yX0_isLot cX0_isLot 2 (some .boolean), Cond.fieldLink RX0 48 "LotTracker" "lotCount" "I", Cond.methodLink RX0 157 yX0_waitingLeft, Cond.instanceMethod yX0_waitingLeft, Cond.selects RX0 yX0_waitingLeft yX0_waitingLeft, Cond.code yX0_waitingLeft cX0_waitingLeft 3 (some .int), Cond.fieldLink RX0 29 "LotTracker" "lotStep" "[I", Cond.fieldLink RX0 26 "LotTracker" "lotState" "[I", Cond.constant RX0 161 (2000000), Cond.fieldLink RX0 16 "LotTracker" "stepLimit" "[I", Cond.constant RX0 185 (1000000), Cond.fieldLink RX0 65 "LotTracker" "now" "I", Cond.fieldLink RX0 32 "LotTracker" "lotMoment" "[I", Cond.methodLink RX0 106 yX0_isStep]
def wsX0_slack_r2 : List Cond := [Cond.instanceMethod yX0_isStep, Cond.selects RX0 yX0_isStep yX0_isStep, Cond.code yX0_isStep cX0_isStep 2 (some .boolean), Cond.fieldLink RX0 22 "LotTracker" "stepCount" "I"]
def wsX0_slack : List Cond := .code yX0_slack cX0_slack 2 (some .int) :: ((wsX0_slack_r1 ++ wsX0_slack_r2) ++ wsX00 ++ (vx_atS RX0 176 "java/lang/IndexOutOfBoundsException" ["java/lang/RuntimeException", "java/lang/Exception"]).filter goodWord)
def wsX0_isLate_r1 : List Cond := [Cond.methodLink RX0 99 yX0_checkLot, Cond.instanceMethod yX0_checkLot, Cond.selects RX0 yX0_checkLot yX0_checkLot, Cond.initialized RX0, Cond.code yX0_checkLot cX0_checkLot 2 none, Cond.classLink RX0 172 "java/lang/IndexOutOfBoundsException", Cond.initialized "java/lang/IndexOutOfBoundsException", Cond.methodLink RX0 147 yX0_isLot, Cond.instanceMethod yX0_isLot, Cond.selects RX0 yX0_isLot yX0_isLot, Cond.code yX0_isLot cX0_isLot 2 (some .boolean), Cond.fieldLink RX0 48 "LotTracker" "lotCount" "I", Cond.methodLink RX0 157 yX0_waitingLeft, Cond.instanceMethod yX0_waitingLeft, Cond.selects RX0 yX0_waitingLeft yX0_waitingLeft, Cond.code yX0_waitingLeft cX0_waitingLeft 3 (some .int), Cond.fieldLink RX0 29 "LotTracker" "lotStep" "[I", Cond.fieldLink RX0 26 "LotTracker" "lotState" "[I", Cond.constant RX0 161 (2000000), Cond.fieldLink RX0 16 "LotTracker" "stepLimit" "[I", Cond.constant RX0 185 (1000000), Cond.fieldLink RX0 65 "LotTracker" "now" "I", Cond.fieldLink RX0 32 "LotTracker" "lotMoment" "[I", Cond.methodLink RX0 106 yX0_isStep]
def wsX0_isLate_r2 : List Cond := [Cond.instanceMethod yX0_isStep, Cond.selects RX0 yX0_isStep yX0_isStep, Cond.code yX0_isStep cX0_isStep 2 (some .boolean), Cond.fieldLink RX0 22 "LotTracker" "stepCount" "I"]
def wsX0_isLate : List Cond := .code yX0_isLate cX0_isLate 2 (some .boolean) :: ((wsX0_isLate_r1 ++ wsX0_isLate_r2) ++ wsX00 ++ (vx_atS RX0 176 "java/lang/IndexOutOfBoundsException" ["java/lang/RuntimeException", "java/lang/Exception"]).filter goodWord)
def wsX0_reworks : List Cond := .code yX0_reworks cX0_reworks 2 (some .int) :: ([.fieldLink RX0 39 "LotTracker" "lotReworks" "[I", .methodLink RX0 99 yX0_checkLot, .instanceMethod yX0_checkLot, .selects RX0 yX0_checkLot yX0_checkLot, .initialized RX0, .code yX0_checkLot cX0_checkLot 2 none, .classLink RX0 172 "java/lang/IndexOutOfBoundsException", .initialized "java/lang/IndexOutOfBoundsException", .methodLink RX0 147 yX0_isLot, .instanceMethod yX0_isLot, .selects RX0 yX0_isLot yX0_isLot, .code yX0_isLot cX0_isLot 2 (some .boolean), .fieldLink RX0 48 "LotTracker" "lotCount" "I"] ++ wsX00 ++ (vx_atS RX0 176 "java/lang/IndexOutOfBoundsException" ["java/lang/RuntimeException", "java/lang/Exception"]).filter goodWord)
def wsX0_nextFor_r1 : List Cond := [Cond.constant RX0 161 (2000000), Cond.fieldLink RX0 48 "LotTracker" "lotCount" "I", Cond.methodLink RX0 68 yX0_checkTool, Cond.static yX0_checkTool, Cond.initialized RX0, Cond.code yX0_checkTool cX0_checkTool 1 none, Cond.classLink RX0 172 "java/lang/IndexOutOfBoundsException", Cond.initialized "java/lang/IndexOutOfBoundsException", Cond.methodLink RX0 72 yX0_isWithin, Cond.static yX0_isWithin, Cond.code yX0_isWithin cX0_isWithin 3 (some .boolean), Cond.methodLink RX0 109 yX0_isBusy, Cond.instanceMethod yX0_isBusy, Cond.selects RX0 yX0_isBusy yX0_isBusy, Cond.code yX0_isBusy cX0_isBusy 3 (some .boolean), Cond.fieldLink RX0 26 "LotTracker" "lotState" "[I", Cond.methodLink RX0 162 yX0_usesTool, Cond.instanceMethod yX0_usesTool, Cond.selects RX0 yX0_usesTool yX0_usesTool, Cond.code yX0_usesTool cX0_usesTool 4 (some .boolean), Cond.fieldLink RX0 29 "LotTracker" "lotStep" "[I", Cond.fieldLink RX0 9 "LotTracker" "stepTool" "[I", Cond.methodLink RX0 106 yX0_isStep, Cond.instanceMethod yX0_isStep]
def wsX0_nextFor_r2 : List Cond := [Cond.selects RX0 yX0_isStep yX0_isStep, Cond.code yX0_isStep cX0_isStep 2 (some .boolean), Cond.fieldLink RX0 22 "LotTracker" "stepCount" "I", Cond.methodLink RX0 102 yX0_isReady, Cond.instanceMethod yX0_isReady, Cond.selects RX0 yX0_isReady yX0_isReady, Cond.code yX0_isReady cX0_isReady 2 (some .boolean), Cond.methodLink RX0 114 yX0_isFree, Cond.instanceMethod yX0_isFree, Cond.selects RX0 yX0_isFree yX0_isFree, Cond.code yX0_isFree cX0_isFree 2 (some .boolean), Cond.fieldLink RX0 35 "LotTracker" "lotHeld" "[Z", Cond.methodLink RX0 157 yX0_waitingLeft, Cond.instanceMethod yX0_waitingLeft, Cond.selects RX0 yX0_waitingLeft yX0_waitingLeft, Cond.code yX0_waitingLeft cX0_waitingLeft 3 (some .int), Cond.fieldLink RX0 16 "LotTracker" "stepLimit" "[I", Cond.constant RX0 185 (1000000), Cond.fieldLink RX0 65 "LotTracker" "now" "I", Cond.fieldLink RX0 32 "LotTracker" "lotMoment" "[I"]
def wsX0_nextFor : List Cond := .code yX0_nextFor cX0_nextFor 5 (some .int) :: ((wsX0_nextFor_r1 ++ wsX0_nextFor_r2) ++ wsX00 ++ (vx_atS RX0 176 "java/lang/IndexOutOfBoundsException" ["java/lang/RuntimeException", "java/lang/Exception"]).filter goodWord)
def wsX0_checkStep : List Cond := .code yX0_checkStep cX0_checkStep 2 none :: ([.classLink RX0 172 "java/lang/IndexOutOfBoundsException", .initialized "java/lang/IndexOutOfBoundsException", .methodLink RX0 106 yX0_isStep, .instanceMethod yX0_isStep, .selects RX0 yX0_isStep yX0_isStep, .initialized RX0, .code yX0_isStep cX0_isStep 2 (some .boolean), .fieldLink RX0 22 "LotTracker" "stepCount" "I"] ++ wsX00 ++ (vx_atS RX0 176 "java/lang/IndexOutOfBoundsException" ["java/lang/RuntimeException", "java/lang/Exception"]).filter goodWord)
def wsX0_wafersAt : List Cond := .code yX0_wafersAt cX0_wafersAt 4 (some .int) :: ([.fieldLink RX0 48 "LotTracker" "lotCount" "I", .fieldLink RX0 29 "LotTracker" "lotStep" "[I", .fieldLink RX0 45 "LotTracker" "lotSize" "[I", .methodLink RX0 166 yX0_checkStep, .instanceMethod yX0_checkStep, .selects RX0 yX0_checkStep yX0_checkStep, .initialized RX0, .code yX0_checkStep cX0_checkStep 2 none, .classLink RX0 172 "java/lang/IndexOutOfBoundsException", .initialized "java/lang/IndexOutOfBoundsException", .methodLink RX0 106 yX0_isStep, .instanceMethod yX0_isStep, .selects RX0 yX0_isStep yX0_isStep, .code yX0_isStep cX0_isStep 2 (some .boolean), .fieldLink RX0 22 "LotTracker" "stepCount" "I"] ++ wsX00 ++ (vx_atS RX0 176 "java/lang/IndexOutOfBoundsException" ["java/lang/RuntimeException", "java/lang/Exception"]).filter goodWord)
def wsX0_wafersAtByWafers : List Cond := .code yX0_wafersAtByWafers cX0_wafersAtByWafers 5 (some .int) :: ([.fieldLink RX0 62 "LotTracker" "waferCount" "I", .fieldLink RX0 51 "LotTracker" "waferLot" "[I", .fieldLink RX0 29 "LotTracker" "lotStep" "[I", .methodLink RX0 166 yX0_checkStep, .instanceMethod yX0_checkStep, .selects RX0 yX0_checkStep yX0_checkStep, .initialized RX0, .code yX0_checkStep cX0_checkStep 2 none, .classLink RX0 172 "java/lang/IndexOutOfBoundsException", .initialized "java/lang/IndexOutOfBoundsException", .methodLink RX0 106 yX0_isStep, .instanceMethod yX0_isStep, .selects RX0 yX0_isStep yX0_isStep, .code yX0_isStep cX0_isStep 2 (some .boolean), .fieldLink RX0 22 "LotTracker" "stepCount" "I", .methodLink RX0 147 yX0_isLot, .instanceMethod yX0_isLot, .selects RX0 yX0_isLot yX0_isLot, .code yX0_isLot cX0_isLot 2 (some .boolean), .fieldLink RX0 48 "LotTracker" "lotCount" "I"] ++ wsX00 ++ (vx_atS RX0 176 "java/lang/IndexOutOfBoundsException" ["java/lang/RuntimeException", "java/lang/Exception"]).filter goodWord)
def wsX0_lotOf : List Cond := .code yX0_lotOf cX0_lotOf 2 (some .int) :: ([.fieldLink RX0 51 "LotTracker" "waferLot" "[I", .methodLink RX0 144 yX0_checkWafer, .instanceMethod yX0_checkWafer, .selects RX0 yX0_checkWafer yX0_checkWafer, .initialized RX0, .code yX0_checkWafer cX0_checkWafer 2 none, .classLink RX0 172 "java/lang/IndexOutOfBoundsException", .initialized "java/lang/IndexOutOfBoundsException", .fieldLink RX0 62 "LotTracker" "waferCount" "I"] ++ wsX00 ++ (vx_atS RX0 176 "java/lang/IndexOutOfBoundsException" ["java/lang/RuntimeException", "java/lang/Exception"]).filter goodWord)
def wsX0_parentOf : List Cond := .code yX0_parentOf cX0_parentOf 2 (some .int) :: ([.fieldLink RX0 42 "LotTracker" "lotParent" "[I", .methodLink RX0 99 yX0_checkLot, .instanceMethod yX0_checkLot, .selects RX0 yX0_checkLot yX0_checkLot, .initialized RX0, .code yX0_checkLot cX0_checkLot 2 none, .classLink RX0 172 "java/lang/IndexOutOfBoundsException", .initialized "java/lang/IndexOutOfBoundsException", .methodLink RX0 147 yX0_isLot, .instanceMethod yX0_isLot, .selects RX0 yX0_isLot yX0_isLot, .code yX0_isLot cX0_isLot 2 (some .boolean), .fieldLink RX0 48 "LotTracker" "lotCount" "I"] ++ wsX00 ++ (vx_atS RX0 176 "java/lang/IndexOutOfBoundsException" ["java/lang/RuntimeException", "java/lang/Exception"]).filter goodWord)
def wsX0_parentOrNone : List Cond := .code yX0_parentOrNone cX0_parentOrNone 2 (some .int) :: ([.fieldLink RX0 42 "LotTracker" "lotParent" "[I", .methodLink RX0 147 yX0_isLot, .instanceMethod yX0_isLot, .selects RX0 yX0_isLot yX0_isLot, .initialized RX0, .code yX0_isLot cX0_isLot 2 (some .boolean), .fieldLink RX0 48 "LotTracker" "lotCount" "I"] ++ wsX00)
def wsX0_common : List Cond := .code yX0_common cX0_common 6 (some .int) :: ([.methodLink RX0 99 yX0_checkLot, .instanceMethod yX0_checkLot, .selects RX0 yX0_checkLot yX0_checkLot, .initialized RX0, .code yX0_checkLot cX0_checkLot 2 none, .classLink RX0 172 "java/lang/IndexOutOfBoundsException", .initialized "java/lang/IndexOutOfBoundsException", .methodLink RX0 147 yX0_isLot, .instanceMethod yX0_isLot, .selects RX0 yX0_isLot yX0_isLot, .code yX0_isLot cX0_isLot 2 (some .boolean), .fieldLink RX0 48 "LotTracker" "lotCount" "I", .methodLink RX0 169 yX0_parentOrNone, .instanceMethod yX0_parentOrNone, .selects RX0 yX0_parentOrNone yX0_parentOrNone, .code yX0_parentOrNone cX0_parentOrNone 2 (some .int), .fieldLink RX0 42 "LotTracker" "lotParent" "[I"] ++ wsX00 ++ (vx_atS RX0 176 "java/lang/IndexOutOfBoundsException" ["java/lang/RuntimeException", "java/lang/Exception"]).filter goodWord)
def wsX0_path : List Cond := .code yX0_path cX0_path 2 (some .int) :: ([.fieldLink RX0 59 "LotTracker" "waferPathLength" "[I", .methodLink RX0 144 yX0_checkWafer, .instanceMethod yX0_checkWafer, .selects RX0 yX0_checkWafer yX0_checkWafer, .initialized RX0, .code yX0_checkWafer cX0_checkWafer 2 none, .classLink RX0 172 "java/lang/IndexOutOfBoundsException", .initialized "java/lang/IndexOutOfBoundsException", .fieldLink RX0 62 "LotTracker" "waferCount" "I"] ++ wsX00 ++ (vx_atS RX0 176 "java/lang/IndexOutOfBoundsException" ["java/lang/RuntimeException", "java/lang/Exception"]).filter goodWord)
def wsX0_pathAt : List Cond := .code yX0_pathAt cX0_pathAt 3 (some .int) :: ([.classLink RX0 172 "java/lang/IndexOutOfBoundsException", .initialized "java/lang/IndexOutOfBoundsException", .fieldLink RX0 59 "LotTracker" "waferPathLength" "[I", .fieldLink RX0 56 "LotTracker" "waferPath" "[[I", .methodLink RX0 144 yX0_checkWafer, .instanceMethod yX0_checkWafer, .selects RX0 yX0_checkWafer yX0_checkWafer, .initialized RX0, .code yX0_checkWafer cX0_checkWafer 2 none, .fieldLink RX0 62 "LotTracker" "waferCount" "I", .methodLink RX0 72 yX0_isWithin, .static yX0_isWithin, .code yX0_isWithin cX0_isWithin 3 (some .boolean)] ++ wsX00 ++ (vx_atS RX0 176 "java/lang/IndexOutOfBoundsException" ["java/lang/RuntimeException", "java/lang/Exception"]).filter goodWord)
def wsX1_init : List Cond := .code yX1_init cX1_init 1 none :: ([.methodLink RX1 1 objectInit, .instanceMethod objectInit, .code objectInit ⟨#[0xb1]⟩ 1 none, .arrayClass .int, .fieldLink RX1 7 "LotTrackerModel" "tools" "[I", .fieldLink RX1 13 "LotTrackerModel" "minutes" "[I", .fieldLink RX1 16 "LotTrackerModel" "limits" "[I", .fieldLink RX1 19 "LotTrackerModel" "backs" "[I", .fieldLink RX1 22 "LotTrackerModel" "states" "[I", .fieldLink RX1 25 "LotTrackerModel" "steps" "[I", .fieldLink RX1 28 "LotTrackerModel" "since" "[I", .fieldLink RX1 31 "LotTrackerModel" "ends" "[I", .arrayClass .boolean, .fieldLink RX1 34 "LotTrackerModel" "areHeld" "[Z", .fieldLink RX1 38 "LotTrackerModel" "again" "[I", .fieldLink RX1 41 "LotTrackerModel" "parents" "[I", .fieldLink RX1 44 "LotTrackerModel" "lotOfWafer" "[I", .fieldLink RX1 47 "LotTrackerModel" "pathMany" "[I", .fieldLink RX1 50 "LotTrackerModel" "paths" "[I", .fieldLink RX1 53 "LotTrackerModel" "isAncestor" "[Z", .fieldLink RX1 56 "LotTrackerModel" "thrown" "I"] ++ wsX10)
def wsX1_thrown : List Cond := .code yX1_thrown cX1_thrown 1 (some .int) :: ([.fieldLink RX1 56 "LotTrackerModel" "thrown" "I"] ++ wsX10)
def wsX1_fails : List Cond := .code yX1_fails cX1_fails 2 (some .int) :: ([.fieldLink RX1 56 "LotTrackerModel" "thrown" "I"] ++ wsX10)
def wsX1_in : List Cond := .code yX1_in cX1_in 3 (some .boolean) :: ([])
def wsX1_isTool : List Cond := .code yX1_isTool cX1_isTool 1 (some .boolean) :: ([.methodLink RX1 60 yX1_in, .static yX1_in, .initialized RX1, .code yX1_in cX1_in 3 (some .boolean)])
def wsX1_isLot : List Cond := .code yX1_isLot cX1_isLot 2 (some .boolean) :: ([.fieldLink RX1 64 "LotTrackerModel" "lotMany" "I", .methodLink RX1 60 yX1_in, .static yX1_in, .initialized RX1, .code yX1_in cX1_in 3 (some .boolean)] ++ wsX10)
def wsX1_isWafer : List Cond := .code yX1_isWafer cX1_isWafer 2 (some .boolean) :: ([.fieldLink RX1 67 "LotTrackerModel" "waferMany" "I", .methodLink RX1 60 yX1_in, .static yX1_in, .initialized RX1, .code yX1_in cX1_in 3 (some .boolean)] ++ wsX10)
def wsX1_addStep : List Cond := .code yX1_addStep cX1_addStep 6 (some .int) :: ([.fieldLink RX1 70 "LotTrackerModel" "stepMany" "I", .fieldLink RX1 64 "LotTrackerModel" "lotMany" "I", .fieldLink RX1 56 "LotTrackerModel" "thrown" "I", .fieldLink RX1 7 "LotTrackerModel" "tools" "[I", .fieldLink RX1 13 "LotTrackerModel" "minutes" "[I", .fieldLink RX1 16 "LotTrackerModel" "limits" "[I", .fieldLink RX1 19 "LotTrackerModel" "backs" "[I", .methodLink RX1 60 yX1_in, .static yX1_in, .initialized RX1, .code yX1_in cX1_in 3 (some .boolean), .methodLink RX1 73 yX1_isTool, .static yX1_isTool, .code yX1_isTool cX1_isTool 1 (some .boolean)] ++ wsX10)
def wsX1_puts : List Cond := .code yX1_puts cX1_puts 3 none :: ([.fieldLink RX1 44 "LotTrackerModel" "lotOfWafer" "[I", .fieldLink RX1 50 "LotTrackerModel" "paths" "[I", .fieldLink RX1 47 "LotTrackerModel" "pathMany" "[I"] ++ wsX10)
def wsX1_count : List Cond := .code yX1_count cX1_count 4 (some .int) :: ([.fieldLink RX1 67 "LotTrackerModel" "waferMany" "I", .fieldLink RX1 44 "LotTrackerModel" "lotOfWafer" "[I"] ++ wsX10)
def wsX1_enter : List Cond := .code yX1_enter cX1_enter 3 (some .int) :: ([.fieldLink RX1 70 "LotTrackerModel" "stepMany" "I", .fieldLink RX1 64 "LotTrackerModel" "lotMany" "I", .fieldLink RX1 67 "LotTrackerModel" "waferMany" "I", .fieldLink RX1 56 "LotTrackerModel" "thrown" "I", .fieldLink RX1 41 "LotTrackerModel" "parents" "[I", .fieldLink RX1 28 "LotTrackerModel" "since" "[I", .fieldLink RX1 77 "LotTrackerModel" "now" "I", .methodLink RX1 60 yX1_in, .static yX1_in, .initialized RX1, .code yX1_in cX1_in 3 (some .boolean), .methodLink RX1 80 yX1_puts, .instanceMethod yX1_puts, .selects RX1 yX1_puts yX1_puts, .code yX1_puts cX1_puts 3 none, .fieldLink RX1 44 "LotTrackerModel" "lotOfWafer" "[I", .fieldLink RX1 50 "LotTrackerModel" "paths" "[I", .fieldLink RX1 47 "LotTrackerModel" "pathMany" "[I"] ++ wsX10)
def wsX1_waited : List Cond := .code yX1_waited cX1_waited 2 (some .int) :: ([.fieldLink RX1 77 "LotTrackerModel" "now" "I", .fieldLink RX1 28 "LotTrackerModel" "since" "[I"] ++ wsX10)
def wsX1_tooLate : List Cond := .code yX1_tooLate cX1_tooLate 2 (some .boolean) :: ([.fieldLink RX1 22 "LotTrackerModel" "states" "[I", .fieldLink RX1 16 "LotTrackerModel" "limits" "[I", .fieldLink RX1 25 "LotTrackerModel" "steps" "[I", .methodLink RX1 84 yX1_waited, .instanceMethod yX1_waited, .selects RX1 yX1_waited yX1_waited, .initialized RX1, .code yX1_waited cX1_waited 2 (some .int), .fieldLink RX1 77 "LotTrackerModel" "now" "I", .fieldLink RX1 28 "LotTrackerModel" "since" "[I"] ++ wsX10)
def wsX1_isBusy : List Cond := .code yX1_isBusy cX1_isBusy 4 (some .boolean) :: ([.fieldLink RX1 64 "LotTrackerModel" "lotMany" "I", .fieldLink RX1 22 "LotTrackerModel" "states" "[I", .fieldLink RX1 7 "LotTrackerModel" "tools" "[I", .fieldLink RX1 25 "LotTrackerModel" "steps" "[I"] ++ wsX10)
def wsX1_start_r1 : List Cond := [Cond.fieldLink RX1 56 "LotTrackerModel" "thrown" "I", Cond.fieldLink RX1 22 "LotTrackerModel" "states" "[I", Cond.fieldLink RX1 34 "LotTrackerModel" "areHeld" "[Z", Cond.fieldLink RX1 7 "LotTrackerModel" "tools" "[I", Cond.fieldLink RX1 25 "LotTrackerModel" "steps" "[I", Cond.fieldLink RX1 31 "LotTrackerModel" "ends" "[I", Cond.fieldLink RX1 77 "LotTrackerModel" "now" "I", Cond.fieldLink RX1 13 "LotTrackerModel" "minutes" "[I", Cond.methodLink RX1 88 yX1_isLot, Cond.instanceMethod yX1_isLot, Cond.selects RX1 yX1_isLot yX1_isLot, Cond.initialized RX1, Cond.code yX1_isLot cX1_isLot 2 (some .boolean), Cond.fieldLink RX1 64 "LotTrackerModel" "lotMany" "I", Cond.methodLink RX1 60 yX1_in, Cond.static yX1_in, Cond.code yX1_in cX1_in 3 (some .boolean), Cond.methodLink RX1 91 yX1_tooLate, Cond.instanceMethod yX1_tooLate, Cond.selects RX1 yX1_tooLate yX1_tooLate, Cond.code yX1_tooLate cX1_tooLate 2 (some .boolean), Cond.fieldLink RX1 16 "LotTrackerModel" "limits" "[I", Cond.methodLink RX1 84 yX1_waited, Cond.instanceMethod yX1_waited]
def wsX1_start_r2 : List Cond := [Cond.selects RX1 yX1_waited yX1_waited, Cond.code yX1_waited cX1_waited 2 (some .int), Cond.fieldLink RX1 28 "LotTrackerModel" "since" "[I", Cond.methodLink RX1 94 yX1_isBusy, Cond.instanceMethod yX1_isBusy, Cond.selects RX1 yX1_isBusy yX1_isBusy, Cond.code yX1_isBusy cX1_isBusy 4 (some .boolean)]
def wsX1_start : List Cond := .code yX1_start cX1_start 2 (some .int) :: ((wsX1_start_r1 ++ wsX1_start_r2) ++ wsX10)
def wsX1_rework : List Cond := .code yX1_rework cX1_rework 2 (some .int) :: ([.fieldLink RX1 22 "LotTrackerModel" "states" "[I", .fieldLink RX1 34 "LotTrackerModel" "areHeld" "[Z", .fieldLink RX1 38 "LotTrackerModel" "again" "[I", .fieldLink RX1 56 "LotTrackerModel" "thrown" "I", .fieldLink RX1 25 "LotTrackerModel" "steps" "[I", .fieldLink RX1 19 "LotTrackerModel" "backs" "[I", .fieldLink RX1 28 "LotTrackerModel" "since" "[I", .fieldLink RX1 77 "LotTrackerModel" "now" "I", .methodLink RX1 88 yX1_isLot, .instanceMethod yX1_isLot, .selects RX1 yX1_isLot yX1_isLot, .initialized RX1, .code yX1_isLot cX1_isLot 2 (some .boolean), .fieldLink RX1 64 "LotTrackerModel" "lotMany" "I", .methodLink RX1 60 yX1_in, .static yX1_in, .code yX1_in cX1_in 3 (some .boolean)] ++ wsX10)
def wsX1_split_r1 : List Cond := [Cond.fieldLink RX1 22 "LotTrackerModel" "states" "[I", Cond.fieldLink RX1 64 "LotTrackerModel" "lotMany" "I", Cond.fieldLink RX1 56 "LotTrackerModel" "thrown" "I", Cond.fieldLink RX1 25 "LotTrackerModel" "steps" "[I", Cond.fieldLink RX1 28 "LotTrackerModel" "since" "[I", Cond.fieldLink RX1 34 "LotTrackerModel" "areHeld" "[Z", Cond.fieldLink RX1 38 "LotTrackerModel" "again" "[I", Cond.fieldLink RX1 41 "LotTrackerModel" "parents" "[I", Cond.fieldLink RX1 67 "LotTrackerModel" "waferMany" "I", Cond.fieldLink RX1 44 "LotTrackerModel" "lotOfWafer" "[I", Cond.methodLink RX1 88 yX1_isLot, Cond.instanceMethod yX1_isLot, Cond.selects RX1 yX1_isLot yX1_isLot, Cond.initialized RX1, Cond.code yX1_isLot cX1_isLot 2 (some .boolean), Cond.methodLink RX1 60 yX1_in, Cond.static yX1_in, Cond.code yX1_in cX1_in 3 (some .boolean), Cond.methodLink RX1 97 yX1_count, Cond.instanceMethod yX1_count, Cond.selects RX1 yX1_count yX1_count, Cond.code yX1_count cX1_count 4 (some .int), Cond.methodLink RX1 80 yX1_puts, Cond.instanceMethod yX1_puts]
def wsX1_split_r2 : List Cond := [Cond.selects RX1 yX1_puts yX1_puts, Cond.code yX1_puts cX1_puts 3 none, Cond.fieldLink RX1 50 "LotTrackerModel" "paths" "[I", Cond.fieldLink RX1 47 "LotTrackerModel" "pathMany" "[I"]
def wsX1_split : List Cond := .code yX1_split cX1_split 6 (some .int) :: ((wsX1_split_r1 ++ wsX1_split_r2) ++ wsX10)
def wsX1_canMerge : List Cond := .code yX1_canMerge cX1_canMerge 2 (some .boolean) :: ([.fieldLink RX1 22 "LotTrackerModel" "states" "[I", .fieldLink RX1 34 "LotTrackerModel" "areHeld" "[Z"] ++ wsX10)
def wsX1_merge_r1 : List Cond := [Cond.fieldLink RX1 25 "LotTrackerModel" "steps" "[I", Cond.fieldLink RX1 56 "LotTrackerModel" "thrown" "I", Cond.fieldLink RX1 67 "LotTrackerModel" "waferMany" "I", Cond.fieldLink RX1 44 "LotTrackerModel" "lotOfWafer" "[I", Cond.fieldLink RX1 28 "LotTrackerModel" "since" "[I", Cond.fieldLink RX1 38 "LotTrackerModel" "again" "[I", Cond.fieldLink RX1 22 "LotTrackerModel" "states" "[I", Cond.methodLink RX1 88 yX1_isLot, Cond.instanceMethod yX1_isLot, Cond.selects RX1 yX1_isLot yX1_isLot, Cond.initialized RX1, Cond.code yX1_isLot cX1_isLot 2 (some .boolean), Cond.fieldLink RX1 64 "LotTrackerModel" "lotMany" "I", Cond.methodLink RX1 60 yX1_in, Cond.static yX1_in, Cond.code yX1_in cX1_in 3 (some .boolean), Cond.methodLink RX1 100 yX1_canMerge, Cond.instanceMethod yX1_canMerge, Cond.selects RX1 yX1_canMerge yX1_canMerge, Cond.code yX1_canMerge cX1_canMerge 2 (some .boolean), Cond.fieldLink RX1 34 "LotTrackerModel" "areHeld" "[Z", Cond.methodLink RX1 80 yX1_puts, Cond.instanceMethod yX1_puts, Cond.selects RX1 yX1_puts yX1_puts]
def wsX1_merge_r2 : List Cond := [Cond.code yX1_puts cX1_puts 3 none, Cond.fieldLink RX1 50 "LotTrackerModel" "paths" "[I", Cond.fieldLink RX1 47 "LotTrackerModel" "pathMany" "[I", Cond.methodLink RX1 97 yX1_count, Cond.instanceMethod yX1_count, Cond.selects RX1 yX1_count yX1_count, Cond.code yX1_count cX1_count 4 (some .int)]
def wsX1_merge : List Cond := .code yX1_merge cX1_merge 4 (some .int) :: ((wsX1_merge_r1 ++ wsX1_merge_r2) ++ wsX10)
def wsX1_hold : List Cond := .code yX1_hold cX1_hold 4 (some .boolean) :: ([.fieldLink RX1 22 "LotTrackerModel" "states" "[I", .fieldLink RX1 56 "LotTrackerModel" "thrown" "I", .fieldLink RX1 34 "LotTrackerModel" "areHeld" "[Z", .methodLink RX1 88 yX1_isLot, .instanceMethod yX1_isLot, .selects RX1 yX1_isLot yX1_isLot, .initialized RX1, .code yX1_isLot cX1_isLot 2 (some .boolean), .fieldLink RX1 64 "LotTrackerModel" "lotMany" "I", .methodLink RX1 60 yX1_in, .static yX1_in, .code yX1_in cX1_in 3 (some .boolean)] ++ wsX10)
def wsX1_scrap : List Cond := .code yX1_scrap cX1_scrap 3 (some .int) :: ([.fieldLink RX1 44 "LotTrackerModel" "lotOfWafer" "[I", .fieldLink RX1 22 "LotTrackerModel" "states" "[I", .fieldLink RX1 56 "LotTrackerModel" "thrown" "I", .methodLink RX1 103 yX1_isWafer, .instanceMethod yX1_isWafer, .selects RX1 yX1_isWafer yX1_isWafer, .initialized RX1, .code yX1_isWafer cX1_isWafer 2 (some .boolean), .fieldLink RX1 67 "LotTrackerModel" "waferMany" "I", .methodLink RX1 60 yX1_in, .static yX1_in, .code yX1_in cX1_in 3 (some .boolean), .methodLink RX1 97 yX1_count, .instanceMethod yX1_count, .selects RX1 yX1_count yX1_count, .code yX1_count cX1_count 4 (some .int)] ++ wsX10)
def wsX1_advance : List Cond := .code yX1_advance cX1_advance 4 (some .int) :: ([.fieldLink RX1 56 "LotTrackerModel" "thrown" "I", .fieldLink RX1 77 "LotTrackerModel" "now" "I", .fieldLink RX1 64 "LotTrackerModel" "lotMany" "I", .fieldLink RX1 22 "LotTrackerModel" "states" "[I", .fieldLink RX1 31 "LotTrackerModel" "ends" "[I", .fieldLink RX1 25 "LotTrackerModel" "steps" "[I", .fieldLink RX1 28 "LotTrackerModel" "since" "[I", .fieldLink RX1 70 "LotTrackerModel" "stepMany" "I", .methodLink RX1 60 yX1_in, .static yX1_in, .initialized RX1, .code yX1_in cX1_in 3 (some .boolean)] ++ wsX10)
def wsX1_time : List Cond := .code yX1_time cX1_time 1 (some .int) :: ([.fieldLink RX1 56 "LotTrackerModel" "thrown" "I", .fieldLink RX1 77 "LotTrackerModel" "now" "I"] ++ wsX10)
def wsX1_lots : List Cond := .code yX1_lots cX1_lots 1 (some .int) :: ([.fieldLink RX1 56 "LotTrackerModel" "thrown" "I", .fieldLink RX1 64 "LotTrackerModel" "lotMany" "I"] ++ wsX10)
def wsX1_wafers : List Cond := .code yX1_wafers cX1_wafers 1 (some .int) :: ([.fieldLink RX1 56 "LotTrackerModel" "thrown" "I", .fieldLink RX1 67 "LotTrackerModel" "waferMany" "I"] ++ wsX10)
def wsX1_told : List Cond := .code yX1_told cX1_told 3 (some .int) :: ([.fieldLink RX1 56 "LotTrackerModel" "thrown" "I", .methodLink RX1 88 yX1_isLot, .instanceMethod yX1_isLot, .selects RX1 yX1_isLot yX1_isLot, .initialized RX1, .code yX1_isLot cX1_isLot 2 (some .boolean), .fieldLink RX1 64 "LotTrackerModel" "lotMany" "I", .methodLink RX1 60 yX1_in, .static yX1_in, .code yX1_in cX1_in 3 (some .boolean), .methodLink RX1 106 yX1_fails, .instanceMethod yX1_fails, .selects RX1 yX1_fails yX1_fails, .code yX1_fails cX1_fails 2 (some .int)] ++ wsX10)
def wsX1_state : List Cond := .code yX1_state cX1_state 2 (some .int) :: ([.fieldLink RX1 22 "LotTrackerModel" "states" "[I", .methodLink RX1 109 yX1_told, .instanceMethod yX1_told, .selects RX1 yX1_told yX1_told, .initialized RX1, .code yX1_told cX1_told 3 (some .int), .fieldLink RX1 56 "LotTrackerModel" "thrown" "I", .methodLink RX1 88 yX1_isLot, .instanceMethod yX1_isLot, .selects RX1 yX1_isLot yX1_isLot, .code yX1_isLot cX1_isLot 2 (some .boolean), .fieldLink RX1 64 "LotTrackerModel" "lotMany" "I", .methodLink RX1 60 yX1_in, .static yX1_in, .code yX1_in cX1_in 3 (some .boolean), .methodLink RX1 106 yX1_fails, .instanceMethod yX1_fails, .selects RX1 yX1_fails yX1_fails, .code yX1_fails cX1_fails 2 (some .int)] ++ wsX10)
def wsX1_stepOf : List Cond := .code yX1_stepOf cX1_stepOf 3 (some .int) :: ([.fieldLink RX1 25 "LotTrackerModel" "steps" "[I", .fieldLink RX1 56 "LotTrackerModel" "thrown" "I", .fieldLink RX1 22 "LotTrackerModel" "states" "[I", .methodLink RX1 109 yX1_told, .instanceMethod yX1_told, .selects RX1 yX1_told yX1_told, .initialized RX1, .code yX1_told cX1_told 3 (some .int), .methodLink RX1 88 yX1_isLot, .instanceMethod yX1_isLot, .selects RX1 yX1_isLot yX1_isLot, .code yX1_isLot cX1_isLot 2 (some .boolean), .fieldLink RX1 64 "LotTrackerModel" "lotMany" "I", .methodLink RX1 60 yX1_in, .static yX1_in, .code yX1_in cX1_in 3 (some .boolean), .methodLink RX1 106 yX1_fails, .instanceMethod yX1_fails, .selects RX1 yX1_fails yX1_fails, .code yX1_fails cX1_fails 2 (some .int)] ++ wsX10)
def wsX1_size : List Cond := .code yX1_size cX1_size 2 (some .int) :: ([.fieldLink RX1 56 "LotTrackerModel" "thrown" "I", .methodLink RX1 88 yX1_isLot, .instanceMethod yX1_isLot, .selects RX1 yX1_isLot yX1_isLot, .initialized RX1, .code yX1_isLot cX1_isLot 2 (some .boolean), .fieldLink RX1 64 "LotTrackerModel" "lotMany" "I", .methodLink RX1 60 yX1_in, .static yX1_in, .code yX1_in cX1_in 3 (some .boolean), .methodLink RX1 97 yX1_count, .instanceMethod yX1_count, .selects RX1 yX1_count yX1_count, .code yX1_count cX1_count 4 (some .int), .fieldLink RX1 67 "LotTrackerModel" "waferMany" "I", .fieldLink RX1 44 "LotTrackerModel" "lotOfWafer" "[I", .methodLink RX1 106 yX1_fails, .instanceMethod yX1_fails, .selects RX1 yX1_fails yX1_fails, .code yX1_fails cX1_fails 2 (some .int)] ++ wsX10)
def wsX1_left : List Cond := .code yX1_left cX1_left 3 (some .int) :: ([.fieldLink RX1 16 "LotTrackerModel" "limits" "[I", .fieldLink RX1 25 "LotTrackerModel" "steps" "[I", .constant RX1 113 (1000000), .methodLink RX1 84 yX1_waited, .instanceMethod yX1_waited, .selects RX1 yX1_waited yX1_waited, .initialized RX1, .code yX1_waited cX1_waited 2 (some .int), .fieldLink RX1 77 "LotTrackerModel" "now" "I", .fieldLink RX1 28 "LotTrackerModel" "since" "[I"] ++ wsX10)
def wsX1_slack_r1 : List Cond := [Cond.fieldLink RX1 56 "LotTrackerModel" "thrown" "I", Cond.fieldLink RX1 22 "LotTrackerModel" "states" "[I", Cond.constant RX1 117 (2000000), Cond.methodLink RX1 88 yX1_isLot, Cond.instanceMethod yX1_isLot, Cond.selects RX1 yX1_isLot yX1_isLot, Cond.initialized RX1, Cond.code yX1_isLot cX1_isLot 2 (some .boolean), Cond.fieldLink RX1 64 "LotTrackerModel" "lotMany" "I", Cond.methodLink RX1 60 yX1_in, Cond.static yX1_in, Cond.code yX1_in cX1_in 3 (some .boolean), Cond.methodLink RX1 114 yX1_left, Cond.instanceMethod yX1_left, Cond.selects RX1 yX1_left yX1_left, Cond.code yX1_left cX1_left 3 (some .int), Cond.fieldLink RX1 16 "LotTrackerModel" "limits" "[I", Cond.fieldLink RX1 25 "LotTrackerModel" "steps" "[I", Cond.constant RX1 113 (1000000), Cond.methodLink RX1 84 yX1_waited, Cond.instanceMethod yX1_waited, Cond.selects RX1 yX1_waited yX1_waited, Cond.code yX1_waited cX1_waited 2 (some .int), Cond.fieldLink RX1 77 "LotTrackerModel" "now" "I"]
def wsX1_slack_r2 : List Cond := [Cond.fieldLink RX1 28 "LotTrackerModel" "since" "[I"]
def wsX1_slack : List Cond := .code yX1_slack cX1_slack 2 (some .int) :: ((wsX1_slack_r1 ++ wsX1_slack_r2) ++ wsX10)
def wsX1_isLate : List Cond := .code yX1_isLate cX1_isLate 2 (some .boolean) :: ([.fieldLink RX1 56 "LotTrackerModel" "thrown" "I", .methodLink RX1 88 yX1_isLot, .instanceMethod yX1_isLot, .selects RX1 yX1_isLot yX1_isLot, .initialized RX1, .code yX1_isLot cX1_isLot 2 (some .boolean), .fieldLink RX1 64 "LotTrackerModel" "lotMany" "I", .methodLink RX1 60 yX1_in, .static yX1_in, .code yX1_in cX1_in 3 (some .boolean), .methodLink RX1 91 yX1_tooLate, .instanceMethod yX1_tooLate, .selects RX1 yX1_tooLate yX1_tooLate, .code yX1_tooLate cX1_tooLate 2 (some .boolean), .fieldLink RX1 22 "LotTrackerModel" "states" "[I", .fieldLink RX1 16 "LotTrackerModel" "limits" "[I", .fieldLink RX1 25 "LotTrackerModel" "steps" "[I", .methodLink RX1 84 yX1_waited, .instanceMethod yX1_waited, .selects RX1 yX1_waited yX1_waited, .code yX1_waited cX1_waited 2 (some .int), .fieldLink RX1 77 "LotTrackerModel" "now" "I", .fieldLink RX1 28 "LotTrackerModel" "since" "[I"] ++ wsX10)
def wsX1_reworks : List Cond := .code yX1_reworks cX1_reworks 2 (some .int) :: ([.fieldLink RX1 38 "LotTrackerModel" "again" "[I", .methodLink RX1 109 yX1_told, .instanceMethod yX1_told, .selects RX1 yX1_told yX1_told, .initialized RX1, .code yX1_told cX1_told 3 (some .int), .fieldLink RX1 56 "LotTrackerModel" "thrown" "I", .methodLink RX1 88 yX1_isLot, .instanceMethod yX1_isLot, .selects RX1 yX1_isLot yX1_isLot, .code yX1_isLot cX1_isLot 2 (some .boolean), .fieldLink RX1 64 "LotTrackerModel" "lotMany" "I", .methodLink RX1 60 yX1_in, .static yX1_in, .code yX1_in cX1_in 3 (some .boolean), .methodLink RX1 106 yX1_fails, .instanceMethod yX1_fails, .selects RX1 yX1_fails yX1_fails, .code yX1_fails cX1_fails 2 (some .int)] ++ wsX10)
def wsX1_nextFor_r1 : List Cond := [Cond.fieldLink RX1 56 "LotTrackerModel" "thrown" "I", Cond.fieldLink RX1 64 "LotTrackerModel" "lotMany" "I", Cond.fieldLink RX1 22 "LotTrackerModel" "states" "[I", Cond.fieldLink RX1 34 "LotTrackerModel" "areHeld" "[Z", Cond.fieldLink RX1 7 "LotTrackerModel" "tools" "[I", Cond.fieldLink RX1 25 "LotTrackerModel" "steps" "[I", Cond.methodLink RX1 73 yX1_isTool, Cond.static yX1_isTool, Cond.initialized RX1, Cond.code yX1_isTool cX1_isTool 1 (some .boolean), Cond.methodLink RX1 60 yX1_in, Cond.static yX1_in, Cond.code yX1_in cX1_in 3 (some .boolean), Cond.methodLink RX1 94 yX1_isBusy, Cond.instanceMethod yX1_isBusy, Cond.selects RX1 yX1_isBusy yX1_isBusy, Cond.code yX1_isBusy cX1_isBusy 4 (some .boolean), Cond.methodLink RX1 91 yX1_tooLate, Cond.instanceMethod yX1_tooLate, Cond.selects RX1 yX1_tooLate yX1_tooLate, Cond.code yX1_tooLate cX1_tooLate 2 (some .boolean), Cond.fieldLink RX1 16 "LotTrackerModel" "limits" "[I", Cond.methodLink RX1 84 yX1_waited, Cond.instanceMethod yX1_waited]
def wsX1_nextFor_r2 : List Cond := [Cond.selects RX1 yX1_waited yX1_waited, Cond.code yX1_waited cX1_waited 2 (some .int), Cond.fieldLink RX1 77 "LotTrackerModel" "now" "I", Cond.fieldLink RX1 28 "LotTrackerModel" "since" "[I", Cond.methodLink RX1 114 yX1_left, Cond.instanceMethod yX1_left, Cond.selects RX1 yX1_left yX1_left, Cond.code yX1_left cX1_left 3 (some .int), Cond.constant RX1 113 (1000000)]
def wsX1_nextFor : List Cond := .code yX1_nextFor cX1_nextFor 5 (some .int) :: ((wsX1_nextFor_r1 ++ wsX1_nextFor_r2) ++ wsX10)
def wsX1_at : List Cond := .code yX1_at cX1_at 4 (some .int) :: ([.fieldLink RX1 70 "LotTrackerModel" "stepMany" "I", .fieldLink RX1 56 "LotTrackerModel" "thrown" "I", .fieldLink RX1 64 "LotTrackerModel" "lotMany" "I", .fieldLink RX1 22 "LotTrackerModel" "states" "[I", .fieldLink RX1 25 "LotTrackerModel" "steps" "[I", .methodLink RX1 60 yX1_in, .static yX1_in, .initialized RX1, .code yX1_in cX1_in 3 (some .boolean), .methodLink RX1 97 yX1_count, .instanceMethod yX1_count, .selects RX1 yX1_count yX1_count, .code yX1_count cX1_count 4 (some .int), .fieldLink RX1 67 "LotTrackerModel" "waferMany" "I", .fieldLink RX1 44 "LotTrackerModel" "lotOfWafer" "[I"] ++ wsX10)
def wsX1_wafersAt : List Cond := .code yX1_wafersAt cX1_wafersAt 2 (some .int) :: ([.methodLink RX1 118 yX1_at, .instanceMethod yX1_at, .selects RX1 yX1_at yX1_at, .initialized RX1, .code yX1_at cX1_at 4 (some .int), .fieldLink RX1 70 "LotTrackerModel" "stepMany" "I", .fieldLink RX1 56 "LotTrackerModel" "thrown" "I", .fieldLink RX1 64 "LotTrackerModel" "lotMany" "I", .fieldLink RX1 22 "LotTrackerModel" "states" "[I", .fieldLink RX1 25 "LotTrackerModel" "steps" "[I", .methodLink RX1 60 yX1_in, .static yX1_in, .code yX1_in cX1_in 3 (some .boolean), .methodLink RX1 97 yX1_count, .instanceMethod yX1_count, .selects RX1 yX1_count yX1_count, .code yX1_count cX1_count 4 (some .int), .fieldLink RX1 67 "LotTrackerModel" "waferMany" "I", .fieldLink RX1 44 "LotTrackerModel" "lotOfWafer" "[I"] ++ wsX10)
def wsX1_wafersAtByWafers : List Cond := .code yX1_wafersAtByWafers cX1_wafersAtByWafers 2 (some .int) :: ([.methodLink RX1 118 yX1_at, .instanceMethod yX1_at, .selects RX1 yX1_at yX1_at, .initialized RX1, .code yX1_at cX1_at 4 (some .int), .fieldLink RX1 70 "LotTrackerModel" "stepMany" "I", .fieldLink RX1 56 "LotTrackerModel" "thrown" "I", .fieldLink RX1 64 "LotTrackerModel" "lotMany" "I", .fieldLink RX1 22 "LotTrackerModel" "states" "[I", .fieldLink RX1 25 "LotTrackerModel" "steps" "[I", .methodLink RX1 60 yX1_in, .static yX1_in, .code yX1_in cX1_in 3 (some .boolean), .methodLink RX1 97 yX1_count, .instanceMethod yX1_count, .selects RX1 yX1_count yX1_count, .code yX1_count cX1_count 4 (some .int), .fieldLink RX1 67 "LotTrackerModel" "waferMany" "I", .fieldLink RX1 44 "LotTrackerModel" "lotOfWafer" "[I"] ++ wsX10)
def wsX1_lotOf : List Cond := .code yX1_lotOf cX1_lotOf 2 (some .int) :: ([.fieldLink RX1 56 "LotTrackerModel" "thrown" "I", .fieldLink RX1 44 "LotTrackerModel" "lotOfWafer" "[I", .methodLink RX1 103 yX1_isWafer, .instanceMethod yX1_isWafer, .selects RX1 yX1_isWafer yX1_isWafer, .initialized RX1, .code yX1_isWafer cX1_isWafer 2 (some .boolean), .fieldLink RX1 67 "LotTrackerModel" "waferMany" "I", .methodLink RX1 60 yX1_in, .static yX1_in, .code yX1_in cX1_in 3 (some .boolean), .methodLink RX1 106 yX1_fails, .instanceMethod yX1_fails, .selects RX1 yX1_fails yX1_fails, .code yX1_fails cX1_fails 2 (some .int)] ++ wsX10)
def wsX1_parentOf : List Cond := .code yX1_parentOf cX1_parentOf 2 (some .int) :: ([.fieldLink RX1 41 "LotTrackerModel" "parents" "[I", .methodLink RX1 109 yX1_told, .instanceMethod yX1_told, .selects RX1 yX1_told yX1_told, .initialized RX1, .code yX1_told cX1_told 3 (some .int), .fieldLink RX1 56 "LotTrackerModel" "thrown" "I", .methodLink RX1 88 yX1_isLot, .instanceMethod yX1_isLot, .selects RX1 yX1_isLot yX1_isLot, .code yX1_isLot cX1_isLot 2 (some .boolean), .fieldLink RX1 64 "LotTrackerModel" "lotMany" "I", .methodLink RX1 60 yX1_in, .static yX1_in, .code yX1_in cX1_in 3 (some .boolean), .methodLink RX1 106 yX1_fails, .instanceMethod yX1_fails, .selects RX1 yX1_fails yX1_fails, .code yX1_fails cX1_fails 2 (some .int)] ++ wsX10)
def wsX1_common : List Cond := .code yX1_common cX1_common 4 (some .int) :: ([.fieldLink RX1 56 "LotTrackerModel" "thrown" "I", .fieldLink RX1 53 "LotTrackerModel" "isAncestor" "[Z", .fieldLink RX1 41 "LotTrackerModel" "parents" "[I", .methodLink RX1 88 yX1_isLot, .instanceMethod yX1_isLot, .selects RX1 yX1_isLot yX1_isLot, .initialized RX1, .code yX1_isLot cX1_isLot 2 (some .boolean), .fieldLink RX1 64 "LotTrackerModel" "lotMany" "I", .methodLink RX1 60 yX1_in, .static yX1_in, .code yX1_in cX1_in 3 (some .boolean)] ++ wsX10)
def wsX1_path : List Cond := .code yX1_path cX1_path 2 (some .int) :: ([.fieldLink RX1 56 "LotTrackerModel" "thrown" "I", .fieldLink RX1 47 "LotTrackerModel" "pathMany" "[I", .methodLink RX1 103 yX1_isWafer, .instanceMethod yX1_isWafer, .selects RX1 yX1_isWafer yX1_isWafer, .initialized RX1, .code yX1_isWafer cX1_isWafer 2 (some .boolean), .fieldLink RX1 67 "LotTrackerModel" "waferMany" "I", .methodLink RX1 60 yX1_in, .static yX1_in, .code yX1_in cX1_in 3 (some .boolean), .methodLink RX1 106 yX1_fails, .instanceMethod yX1_fails, .selects RX1 yX1_fails yX1_fails, .code yX1_fails cX1_fails 2 (some .int)] ++ wsX10)
def wsX1_pathAt : List Cond := .code yX1_pathAt cX1_pathAt 3 (some .int) :: ([.fieldLink RX1 47 "LotTrackerModel" "pathMany" "[I", .fieldLink RX1 56 "LotTrackerModel" "thrown" "I", .fieldLink RX1 50 "LotTrackerModel" "paths" "[I", .methodLink RX1 103 yX1_isWafer, .instanceMethod yX1_isWafer, .selects RX1 yX1_isWafer yX1_isWafer, .initialized RX1, .code yX1_isWafer cX1_isWafer 2 (some .boolean), .fieldLink RX1 67 "LotTrackerModel" "waferMany" "I", .methodLink RX1 60 yX1_in, .static yX1_in, .code yX1_in cX1_in 3 (some .boolean)] ++ wsX10)
def wsJ9_max_7cf53 : List Cond := .code yJ9_max_7cf53 cJ9_max_7cf53 2 (some .int) :: ([])
def wsJ9_min_7cf53 : List Cond := .code yJ9_min_7cf53 cJ9_min_7cf53 2 (some .int) :: ([])
def wsL_addStep_r1 : List Cond := [Cond.classLink RL 13 "java/lang/IndexOutOfBoundsException", Cond.classLink RL 15 "java/lang/IllegalArgumentException", Cond.classLink RL 17 "java/lang/IllegalStateException", Cond.methodLink RL 7 yX0_addStep, Cond.instanceMethod yX0_addStep, Cond.selects RX0 yX0_addStep yX0_addStep, Cond.initialized RX0, Cond.code yX0_addStep cX0_addStep 6 (some .int), Cond.classLink RX0 76 "java/lang/IllegalArgumentException", Cond.initialized "java/lang/IllegalArgumentException", Cond.classLink RX0 83 "java/lang/IllegalStateException", Cond.initialized "java/lang/IllegalStateException", Cond.fieldLink RX0 22 "LotTracker" "stepCount" "I", Cond.fieldLink RX0 48 "LotTracker" "lotCount" "I", Cond.fieldLink RX0 9 "LotTracker" "stepTool" "[I", Cond.fieldLink RX0 13 "LotTracker" "stepMinutes" "[I", Cond.fieldLink RX0 16 "LotTracker" "stepLimit" "[I", Cond.fieldLink RX0 19 "LotTracker" "stepBack" "[I", Cond.methodLink RX0 68 yX0_checkTool, Cond.static yX0_checkTool, Cond.code yX0_checkTool cX0_checkTool 1 none, Cond.classLink RX0 172 "java/lang/IndexOutOfBoundsException", Cond.initialized "java/lang/IndexOutOfBoundsException", Cond.methodLink RX0 72 yX0_isWithin]
def wsL_addStep_r2 : List Cond := [Cond.static yX0_isWithin, Cond.code yX0_isWithin cX0_isWithin 3 (some .boolean)]
def wsL_addStep : List Cond := .codeWith yL_addStep cL_addStep 7 (some .int) [(0, 14, 17, 13), (0, 14, 21, 15), (0, 14, 25, 17)] :: ((wsL_addStep_r1 ++ wsL_addStep_r2) ++ wsX00 ++ (vx_atS RX0 80 "java/lang/IllegalArgumentException" ["java/lang/RuntimeException", "java/lang/Exception"]).filter goodWord ++ (vx_atS RX0 87 "java/lang/IllegalStateException" ["java/lang/RuntimeException", "java/lang/Exception"]).filter goodWord ++ (vx_atS RX0 176 "java/lang/IndexOutOfBoundsException" ["java/lang/RuntimeException", "java/lang/Exception"]).filter goodWord)
def wsL_enter_r1 : List Cond := [Cond.classLink RL 15 "java/lang/IllegalArgumentException", Cond.classLink RL 17 "java/lang/IllegalStateException", Cond.methodLink RL 19 yX0_enter, Cond.instanceMethod yX0_enter, Cond.selects RX0 yX0_enter yX0_enter, Cond.initialized RX0, Cond.code yX0_enter cX0_enter 4 (some .int), Cond.classLink RX0 76 "java/lang/IllegalArgumentException", Cond.initialized "java/lang/IllegalArgumentException", Cond.classLink RX0 83 "java/lang/IllegalStateException", Cond.initialized "java/lang/IllegalStateException", Cond.fieldLink RX0 22 "LotTracker" "stepCount" "I", Cond.fieldLink RX0 48 "LotTracker" "lotCount" "I", Cond.fieldLink RX0 62 "LotTracker" "waferCount" "I", Cond.fieldLink RX0 65 "LotTracker" "now" "I", Cond.methodLink RX0 72 yX0_isWithin, Cond.static yX0_isWithin, Cond.code yX0_isWithin cX0_isWithin 3 (some .boolean), Cond.methodLink RX0 92 yX0_makeLot, Cond.instanceMethod yX0_makeLot, Cond.selects RX0 yX0_makeLot yX0_makeLot, Cond.code yX0_makeLot cX0_makeLot 7 (some .int), Cond.fieldLink RX0 26 "LotTracker" "lotState" "[I", Cond.fieldLink RX0 29 "LotTracker" "lotStep" "[I"]
def wsL_enter_r2 : List Cond := [Cond.fieldLink RX0 32 "LotTracker" "lotMoment" "[I", Cond.fieldLink RX0 35 "LotTracker" "lotHeld" "[Z", Cond.fieldLink RX0 39 "LotTracker" "lotReworks" "[I", Cond.fieldLink RX0 42 "LotTracker" "lotParent" "[I", Cond.fieldLink RX0 45 "LotTracker" "lotSize" "[I", Cond.methodLink RX0 96 yX0_makeWafer, Cond.instanceMethod yX0_makeWafer, Cond.selects RX0 yX0_makeWafer yX0_makeWafer, Cond.code yX0_makeWafer cX0_makeWafer 3 none, Cond.fieldLink RX0 59 "LotTracker" "waferPathLength" "[I", Cond.methodLink RX0 186 yX0_putInto, Cond.instanceMethod yX0_putInto, Cond.selects RX0 yX0_putInto yX0_putInto, Cond.code yX0_putInto cX0_putInto 4 none, Cond.fieldLink RX0 51 "LotTracker" "waferLot" "[I", Cond.fieldLink RX0 56 "LotTracker" "waferPath" "[[I"]
def wsL_enter : List Cond := .codeWith yL_enter cL_enter 4 (some .int) [(0, 9, 12, 15), (0, 9, 15, 17)] :: ((wsL_enter_r1 ++ wsL_enter_r2) ++ wsX00 ++ (vx_atS RX0 80 "java/lang/IllegalArgumentException" ["java/lang/RuntimeException", "java/lang/Exception"]).filter goodWord ++ (vx_atS RX0 87 "java/lang/IllegalStateException" ["java/lang/RuntimeException", "java/lang/Exception"]).filter goodWord)
def wsL_start_r1 : List Cond := [Cond.classLink RL 13 "java/lang/IndexOutOfBoundsException", Cond.classLink RL 17 "java/lang/IllegalStateException", Cond.methodLink RL 23 yX0_start, Cond.instanceMethod yX0_start, Cond.selects RX0 yX0_start yX0_start, Cond.initialized RX0, Cond.code yX0_start cX0_start 3 (some .int), Cond.classLink RX0 83 "java/lang/IllegalStateException", Cond.initialized "java/lang/IllegalStateException", Cond.fieldLink RX0 29 "LotTracker" "lotStep" "[I", Cond.fieldLink RX0 9 "LotTracker" "stepTool" "[I", Cond.fieldLink RX0 26 "LotTracker" "lotState" "[I", Cond.fieldLink RX0 32 "LotTracker" "lotMoment" "[I", Cond.fieldLink RX0 65 "LotTracker" "now" "I", Cond.fieldLink RX0 13 "LotTracker" "stepMinutes" "[I", Cond.methodLink RX0 99 yX0_checkLot, Cond.instanceMethod yX0_checkLot, Cond.selects RX0 yX0_checkLot yX0_checkLot, Cond.code yX0_checkLot cX0_checkLot 2 none, Cond.classLink RX0 172 "java/lang/IndexOutOfBoundsException", Cond.initialized "java/lang/IndexOutOfBoundsException", Cond.methodLink RX0 147 yX0_isLot, Cond.instanceMethod yX0_isLot, Cond.selects RX0 yX0_isLot yX0_isLot]
def wsL_start_r2 : List Cond := [Cond.code yX0_isLot cX0_isLot 2 (some .boolean), Cond.fieldLink RX0 48 "LotTracker" "lotCount" "I", Cond.methodLink RX0 102 yX0_isReady, Cond.instanceMethod yX0_isReady, Cond.selects RX0 yX0_isReady yX0_isReady, Cond.code yX0_isReady cX0_isReady 2 (some .boolean), Cond.methodLink RX0 114 yX0_isFree, Cond.instanceMethod yX0_isFree, Cond.selects RX0 yX0_isFree yX0_isFree, Cond.code yX0_isFree cX0_isFree 2 (some .boolean), Cond.fieldLink RX0 35 "LotTracker" "lotHeld" "[Z", Cond.methodLink RX0 157 yX0_waitingLeft, Cond.instanceMethod yX0_waitingLeft, Cond.selects RX0 yX0_waitingLeft yX0_waitingLeft, Cond.code yX0_waitingLeft cX0_waitingLeft 3 (some .int), Cond.constant RX0 161 (2000000), Cond.fieldLink RX0 16 "LotTracker" "stepLimit" "[I", Cond.constant RX0 185 (1000000), Cond.methodLink RX0 106 yX0_isStep, Cond.instanceMethod yX0_isStep, Cond.selects RX0 yX0_isStep yX0_isStep, Cond.code yX0_isStep cX0_isStep 2 (some .boolean), Cond.fieldLink RX0 22 "LotTracker" "stepCount" "I", Cond.methodLink RX0 109 yX0_isBusy]
def wsL_start_r3 : List Cond := [Cond.instanceMethod yX0_isBusy, Cond.selects RX0 yX0_isBusy yX0_isBusy, Cond.code yX0_isBusy cX0_isBusy 3 (some .boolean), Cond.methodLink RX0 162 yX0_usesTool, Cond.instanceMethod yX0_usesTool, Cond.selects RX0 yX0_usesTool yX0_usesTool, Cond.code yX0_usesTool cX0_usesTool 4 (some .boolean)]
def wsL_start : List Cond := .codeWith yL_start cL_start 4 (some .int) [(0, 9, 12, 13), (0, 9, 15, 17)] :: ((wsL_start_r1 ++ (wsL_start_r2 ++ wsL_start_r3)) ++ wsX00 ++ (vx_atS RX0 87 "java/lang/IllegalStateException" ["java/lang/RuntimeException", "java/lang/Exception"]).filter goodWord ++ (vx_atS RX0 176 "java/lang/IndexOutOfBoundsException" ["java/lang/RuntimeException", "java/lang/Exception"]).filter goodWord)
def wsL_rework_r1 : List Cond := [Cond.classLink RL 13 "java/lang/IndexOutOfBoundsException", Cond.classLink RL 17 "java/lang/IllegalStateException", Cond.methodLink RL 26 yX0_rework, Cond.instanceMethod yX0_rework, Cond.selects RX0 yX0_rework yX0_rework, Cond.initialized RX0, Cond.code yX0_rework cX0_rework 3 (some .int), Cond.classLink RX0 83 "java/lang/IllegalStateException", Cond.initialized "java/lang/IllegalStateException", Cond.fieldLink RX0 29 "LotTracker" "lotStep" "[I", Cond.fieldLink RX0 39 "LotTracker" "lotReworks" "[I", Cond.fieldLink RX0 19 "LotTracker" "stepBack" "[I", Cond.fieldLink RX0 32 "LotTracker" "lotMoment" "[I", Cond.fieldLink RX0 65 "LotTracker" "now" "I", Cond.methodLink RX0 99 yX0_checkLot, Cond.instanceMethod yX0_checkLot, Cond.selects RX0 yX0_checkLot yX0_checkLot, Cond.code yX0_checkLot cX0_checkLot 2 none, Cond.classLink RX0 172 "java/lang/IndexOutOfBoundsException", Cond.initialized "java/lang/IndexOutOfBoundsException", Cond.methodLink RX0 147 yX0_isLot, Cond.instanceMethod yX0_isLot, Cond.selects RX0 yX0_isLot yX0_isLot, Cond.code yX0_isLot cX0_isLot 2 (some .boolean)]
def wsL_rework_r2 : List Cond := [Cond.fieldLink RX0 48 "LotTracker" "lotCount" "I", Cond.methodLink RX0 114 yX0_isFree, Cond.instanceMethod yX0_isFree, Cond.selects RX0 yX0_isFree yX0_isFree, Cond.code yX0_isFree cX0_isFree 2 (some .boolean), Cond.fieldLink RX0 26 "LotTracker" "lotState" "[I", Cond.fieldLink RX0 35 "LotTracker" "lotHeld" "[Z", Cond.methodLink RX0 106 yX0_isStep, Cond.instanceMethod yX0_isStep, Cond.selects RX0 yX0_isStep yX0_isStep, Cond.code yX0_isStep cX0_isStep 2 (some .boolean), Cond.fieldLink RX0 22 "LotTracker" "stepCount" "I"]
def wsL_rework : List Cond := .codeWith yL_rework cL_rework 4 (some .int) [(0, 9, 12, 13), (0, 9, 15, 17)] :: ((wsL_rework_r1 ++ wsL_rework_r2) ++ wsX00 ++ (vx_atS RX0 87 "java/lang/IllegalStateException" ["java/lang/RuntimeException", "java/lang/Exception"]).filter goodWord ++ (vx_atS RX0 176 "java/lang/IndexOutOfBoundsException" ["java/lang/RuntimeException", "java/lang/Exception"]).filter goodWord)
def wsL_split_r1 : List Cond := [Cond.classLink RL 13 "java/lang/IndexOutOfBoundsException", Cond.classLink RL 15 "java/lang/IllegalArgumentException", Cond.classLink RL 17 "java/lang/IllegalStateException", Cond.methodLink RL 29 yX0_split, Cond.instanceMethod yX0_split, Cond.selects RX0 yX0_split yX0_split, Cond.initialized RX0, Cond.code yX0_split cX0_split 4 (some .int), Cond.classLink RX0 76 "java/lang/IllegalArgumentException", Cond.initialized "java/lang/IllegalArgumentException", Cond.classLink RX0 83 "java/lang/IllegalStateException", Cond.initialized "java/lang/IllegalStateException", Cond.fieldLink RX0 45 "LotTracker" "lotSize" "[I", Cond.fieldLink RX0 26 "LotTracker" "lotState" "[I", Cond.fieldLink RX0 48 "LotTracker" "lotCount" "I", Cond.fieldLink RX0 29 "LotTracker" "lotStep" "[I", Cond.fieldLink RX0 32 "LotTracker" "lotMoment" "[I", Cond.fieldLink RX0 35 "LotTracker" "lotHeld" "[Z", Cond.fieldLink RX0 39 "LotTracker" "lotReworks" "[I", Cond.methodLink RX0 99 yX0_checkLot, Cond.instanceMethod yX0_checkLot, Cond.selects RX0 yX0_checkLot yX0_checkLot, Cond.code yX0_checkLot cX0_checkLot 2 none, Cond.classLink RX0 172 "java/lang/IndexOutOfBoundsException"]
def wsL_split_r2 : List Cond := [Cond.initialized "java/lang/IndexOutOfBoundsException", Cond.methodLink RX0 147 yX0_isLot, Cond.instanceMethod yX0_isLot, Cond.selects RX0 yX0_isLot yX0_isLot, Cond.code yX0_isLot cX0_isLot 2 (some .boolean), Cond.methodLink RX0 72 yX0_isWithin, Cond.static yX0_isWithin, Cond.code yX0_isWithin cX0_isWithin 3 (some .boolean), Cond.methodLink RX0 92 yX0_makeLot, Cond.instanceMethod yX0_makeLot, Cond.selects RX0 yX0_makeLot yX0_makeLot, Cond.code yX0_makeLot cX0_makeLot 7 (some .int), Cond.fieldLink RX0 42 "LotTracker" "lotParent" "[I", Cond.methodLink RX0 121 yX0_moveWafers, Cond.instanceMethod yX0_moveWafers, Cond.selects RX0 yX0_moveWafers yX0_moveWafers, Cond.code yX0_moveWafers cX0_moveWafers 6 none, Cond.fieldLink RX0 62 "LotTracker" "waferCount" "I", Cond.fieldLink RX0 51 "LotTracker" "waferLot" "[I", Cond.methodLink RX0 186 yX0_putInto, Cond.instanceMethod yX0_putInto, Cond.selects RX0 yX0_putInto yX0_putInto, Cond.code yX0_putInto cX0_putInto 4 none, Cond.fieldLink RX0 59 "LotTracker" "waferPathLength" "[I"]
def wsL_split_r3 : List Cond := [Cond.fieldLink RX0 56 "LotTracker" "waferPath" "[[I"]
def wsL_split : List Cond := .codeWith yL_split cL_split 5 (some .int) [(0, 10, 13, 13), (0, 10, 17, 15), (0, 10, 21, 17)] :: ((wsL_split_r1 ++ (wsL_split_r2 ++ wsL_split_r3)) ++ wsX00 ++ (vx_atS RX0 80 "java/lang/IllegalArgumentException" ["java/lang/RuntimeException", "java/lang/Exception"]).filter goodWord ++ (vx_atS RX0 87 "java/lang/IllegalStateException" ["java/lang/RuntimeException", "java/lang/Exception"]).filter goodWord ++ (vx_atS RX0 176 "java/lang/IndexOutOfBoundsException" ["java/lang/RuntimeException", "java/lang/Exception"]).filter goodWord)
def wsL_merge_r1 : List Cond := [Cond.classLink RL 13 "java/lang/IndexOutOfBoundsException", Cond.classLink RL 15 "java/lang/IllegalArgumentException", Cond.classLink RL 17 "java/lang/IllegalStateException", Cond.methodLink RL 33 yX0_merge, Cond.instanceMethod yX0_merge, Cond.selects RX0 yX0_merge yX0_merge, Cond.initialized RX0, Cond.code yX0_merge cX0_merge 3 (some .int), Cond.classLink RX0 76 "java/lang/IllegalArgumentException", Cond.initialized "java/lang/IllegalArgumentException", Cond.classLink RX0 83 "java/lang/IllegalStateException", Cond.initialized "java/lang/IllegalStateException", Cond.fieldLink RX0 29 "LotTracker" "lotStep" "[I", Cond.fieldLink RX0 32 "LotTracker" "lotMoment" "[I", Cond.methodLink RX0 129 Lib.Math.min.name, Cond.static Lib.Math.min.name, Cond.initialized "java/lang/Math", Cond.code Lib.Math.min.name Lib.Math.min.code 2 (some .int), Cond.fieldLink RX0 39 "LotTracker" "lotReworks" "[I", Cond.methodLink RX0 135 Lib.Math.max.name, Cond.static Lib.Math.max.name, Cond.code Lib.Math.max.name Lib.Math.max.code 2 (some .int), Cond.fieldLink RX0 45 "LotTracker" "lotSize" "[I", Cond.methodLink RX0 99 yX0_checkLot]
def wsL_merge_r2 : List Cond := [Cond.instanceMethod yX0_checkLot, Cond.selects RX0 yX0_checkLot yX0_checkLot, Cond.code yX0_checkLot cX0_checkLot 2 none, Cond.classLink RX0 172 "java/lang/IndexOutOfBoundsException", Cond.initialized "java/lang/IndexOutOfBoundsException", Cond.methodLink RX0 147 yX0_isLot, Cond.instanceMethod yX0_isLot, Cond.selects RX0 yX0_isLot yX0_isLot, Cond.code yX0_isLot cX0_isLot 2 (some .boolean), Cond.fieldLink RX0 48 "LotTracker" "lotCount" "I", Cond.methodLink RX0 114 yX0_isFree, Cond.instanceMethod yX0_isFree, Cond.selects RX0 yX0_isFree yX0_isFree, Cond.code yX0_isFree cX0_isFree 2 (some .boolean), Cond.fieldLink RX0 26 "LotTracker" "lotState" "[I", Cond.fieldLink RX0 35 "LotTracker" "lotHeld" "[Z", Cond.methodLink RX0 121 yX0_moveWafers, Cond.instanceMethod yX0_moveWafers, Cond.selects RX0 yX0_moveWafers yX0_moveWafers, Cond.code yX0_moveWafers cX0_moveWafers 6 none, Cond.fieldLink RX0 62 "LotTracker" "waferCount" "I", Cond.fieldLink RX0 51 "LotTracker" "waferLot" "[I", Cond.methodLink RX0 186 yX0_putInto, Cond.instanceMethod yX0_putInto]
def wsL_merge_r3 : List Cond := [Cond.selects RX0 yX0_putInto yX0_putInto, Cond.code yX0_putInto cX0_putInto 4 none, Cond.fieldLink RX0 59 "LotTracker" "waferPathLength" "[I", Cond.fieldLink RX0 56 "LotTracker" "waferPath" "[[I", Cond.methodLink RX0 138 yX0_leaveRoute, Cond.instanceMethod yX0_leaveRoute, Cond.selects RX0 yX0_leaveRoute yX0_leaveRoute, Cond.code yX0_leaveRoute cX0_leaveRoute 3 none]
def wsL_merge : List Cond := .codeWith yL_merge cL_merge 5 (some .int) [(0, 10, 13, 13), (0, 10, 17, 15), (0, 10, 21, 17)] :: ((wsL_merge_r1 ++ (wsL_merge_r2 ++ wsL_merge_r3)) ++ wsX00 ++ (vx_atS RX0 80 "java/lang/IllegalArgumentException" ["java/lang/RuntimeException", "java/lang/Exception"]).filter goodWord ++ (vx_atS RX0 87 "java/lang/IllegalStateException" ["java/lang/RuntimeException", "java/lang/Exception"]).filter goodWord ++ (vx_atS RX0 176 "java/lang/IndexOutOfBoundsException" ["java/lang/RuntimeException", "java/lang/Exception"]).filter goodWord)
def wsL_hold : List Cond := .codeWith yL_hold cL_hold 5 (some .int) [(0, 17, 20, 13), (0, 17, 24, 17)] :: ([.classLink RL 13 "java/lang/IndexOutOfBoundsException", .classLink RL 17 "java/lang/IllegalStateException", .methodLink RL 36 yX0_hold, .instanceMethod yX0_hold, .selects RX0 yX0_hold yX0_hold, .initialized RX0, .code yX0_hold cX0_hold 4 (some .boolean), .classLink RX0 83 "java/lang/IllegalStateException", .initialized "java/lang/IllegalStateException", .fieldLink RX0 26 "LotTracker" "lotState" "[I", .fieldLink RX0 35 "LotTracker" "lotHeld" "[Z", .methodLink RX0 99 yX0_checkLot, .instanceMethod yX0_checkLot, .selects RX0 yX0_checkLot yX0_checkLot, .code yX0_checkLot cX0_checkLot 2 none, .classLink RX0 172 "java/lang/IndexOutOfBoundsException", .initialized "java/lang/IndexOutOfBoundsException", .methodLink RX0 147 yX0_isLot, .instanceMethod yX0_isLot, .selects RX0 yX0_isLot yX0_isLot, .code yX0_isLot cX0_isLot 2 (some .boolean), .fieldLink RX0 48 "LotTracker" "lotCount" "I"] ++ wsX00 ++ (vx_atS RX0 87 "java/lang/IllegalStateException" ["java/lang/RuntimeException", "java/lang/Exception"]).filter goodWord ++ (vx_atS RX0 176 "java/lang/IndexOutOfBoundsException" ["java/lang/RuntimeException", "java/lang/Exception"]).filter goodWord)
def wsL_scrap_r1 : List Cond := [Cond.classLink RL 13 "java/lang/IndexOutOfBoundsException", Cond.classLink RL 17 "java/lang/IllegalStateException", Cond.methodLink RL 40 yX0_scrap, Cond.instanceMethod yX0_scrap, Cond.selects RX0 yX0_scrap yX0_scrap, Cond.initialized RX0, Cond.code yX0_scrap cX0_scrap 3 (some .int), Cond.classLink RX0 83 "java/lang/IllegalStateException", Cond.initialized "java/lang/IllegalStateException", Cond.fieldLink RX0 51 "LotTracker" "waferLot" "[I", Cond.fieldLink RX0 26 "LotTracker" "lotState" "[I", Cond.fieldLink RX0 45 "LotTracker" "lotSize" "[I", Cond.methodLink RX0 144 yX0_checkWafer, Cond.instanceMethod yX0_checkWafer, Cond.selects RX0 yX0_checkWafer yX0_checkWafer, Cond.code yX0_checkWafer cX0_checkWafer 2 none, Cond.classLink RX0 172 "java/lang/IndexOutOfBoundsException", Cond.initialized "java/lang/IndexOutOfBoundsException", Cond.fieldLink RX0 62 "LotTracker" "waferCount" "I", Cond.methodLink RX0 147 yX0_isLot, Cond.instanceMethod yX0_isLot, Cond.selects RX0 yX0_isLot yX0_isLot, Cond.code yX0_isLot cX0_isLot 2 (some .boolean), Cond.fieldLink RX0 48 "LotTracker" "lotCount" "I"]
def wsL_scrap_r2 : List Cond := [Cond.methodLink RX0 138 yX0_leaveRoute, Cond.instanceMethod yX0_leaveRoute, Cond.selects RX0 yX0_leaveRoute yX0_leaveRoute, Cond.code yX0_leaveRoute cX0_leaveRoute 3 none, Cond.fieldLink RX0 29 "LotTracker" "lotStep" "[I"]
def wsL_scrap : List Cond := .codeWith yL_scrap cL_scrap 4 (some .int) [(0, 9, 12, 13), (0, 9, 15, 17)] :: ((wsL_scrap_r1 ++ wsL_scrap_r2) ++ wsX00 ++ (vx_atS RX0 87 "java/lang/IllegalStateException" ["java/lang/RuntimeException", "java/lang/Exception"]).filter goodWord ++ (vx_atS RX0 176 "java/lang/IndexOutOfBoundsException" ["java/lang/RuntimeException", "java/lang/Exception"]).filter goodWord)
def wsL_advance_r1 : List Cond := [Cond.classLink RL 15 "java/lang/IllegalArgumentException", Cond.methodLink RL 43 yX0_advance, Cond.instanceMethod yX0_advance, Cond.selects RX0 yX0_advance yX0_advance, Cond.initialized RX0, Cond.code yX0_advance cX0_advance 4 (some .int), Cond.classLink RX0 76 "java/lang/IllegalArgumentException", Cond.initialized "java/lang/IllegalArgumentException", Cond.fieldLink RX0 65 "LotTracker" "now" "I", Cond.fieldLink RX0 48 "LotTracker" "lotCount" "I", Cond.fieldLink RX0 26 "LotTracker" "lotState" "[I", Cond.fieldLink RX0 32 "LotTracker" "lotMoment" "[I", Cond.methodLink RX0 72 yX0_isWithin, Cond.static yX0_isWithin, Cond.code yX0_isWithin cX0_isWithin 3 (some .boolean), Cond.methodLink RX0 154 yX0_endProcessing, Cond.instanceMethod yX0_endProcessing, Cond.selects RX0 yX0_endProcessing yX0_endProcessing, Cond.code yX0_endProcessing cX0_endProcessing 3 none, Cond.fieldLink RX0 29 "LotTracker" "lotStep" "[I", Cond.methodLink RX0 106 yX0_isStep, Cond.instanceMethod yX0_isStep, Cond.selects RX0 yX0_isStep yX0_isStep, Cond.code yX0_isStep cX0_isStep 2 (some .boolean)]
def wsL_advance_r2 : List Cond := [Cond.fieldLink RX0 22 "LotTracker" "stepCount" "I", Cond.methodLink RX0 138 yX0_leaveRoute, Cond.instanceMethod yX0_leaveRoute, Cond.selects RX0 yX0_leaveRoute yX0_leaveRoute, Cond.code yX0_leaveRoute cX0_leaveRoute 3 none]
def wsL_advance : List Cond := .codeWith yL_advance cL_advance 4 (some .int) [(0, 9, 12, 15)] :: ((wsL_advance_r1 ++ wsL_advance_r2) ++ wsX00 ++ (vx_atS RX0 80 "java/lang/IllegalArgumentException" ["java/lang/RuntimeException", "java/lang/Exception"]).filter goodWord)
def wsL_state : List Cond := .codeWith yL_state cL_state 4 (some .int) [(0, 9, 12, 13)] :: ([.classLink RL 13 "java/lang/IndexOutOfBoundsException", .methodLink RL 46 yX0_state, .instanceMethod yX0_state, .selects RX0 yX0_state yX0_state, .initialized RX0, .code yX0_state cX0_state 2 (some .int), .fieldLink RX0 26 "LotTracker" "lotState" "[I", .methodLink RX0 99 yX0_checkLot, .instanceMethod yX0_checkLot, .selects RX0 yX0_checkLot yX0_checkLot, .code yX0_checkLot cX0_checkLot 2 none, .classLink RX0 172 "java/lang/IndexOutOfBoundsException", .initialized "java/lang/IndexOutOfBoundsException", .methodLink RX0 147 yX0_isLot, .instanceMethod yX0_isLot, .selects RX0 yX0_isLot yX0_isLot, .code yX0_isLot cX0_isLot 2 (some .boolean), .fieldLink RX0 48 "LotTracker" "lotCount" "I"] ++ wsX00 ++ (vx_atS RX0 176 "java/lang/IndexOutOfBoundsException" ["java/lang/RuntimeException", "java/lang/Exception"]).filter goodWord)
def wsL_stepOf : List Cond := .codeWith yL_stepOf cL_stepOf 4 (some .int) [(0, 9, 12, 13)] :: ([.classLink RL 13 "java/lang/IndexOutOfBoundsException", .methodLink RL 49 yX0_stepOf, .instanceMethod yX0_stepOf, .selects RX0 yX0_stepOf yX0_stepOf, .initialized RX0, .code yX0_stepOf cX0_stepOf 2 (some .int), .fieldLink RX0 29 "LotTracker" "lotStep" "[I", .methodLink RX0 99 yX0_checkLot, .instanceMethod yX0_checkLot, .selects RX0 yX0_checkLot yX0_checkLot, .code yX0_checkLot cX0_checkLot 2 none, .classLink RX0 172 "java/lang/IndexOutOfBoundsException", .initialized "java/lang/IndexOutOfBoundsException", .methodLink RX0 147 yX0_isLot, .instanceMethod yX0_isLot, .selects RX0 yX0_isLot yX0_isLot, .code yX0_isLot cX0_isLot 2 (some .boolean), .fieldLink RX0 48 "LotTracker" "lotCount" "I"] ++ wsX00 ++ (vx_atS RX0 176 "java/lang/IndexOutOfBoundsException" ["java/lang/RuntimeException", "java/lang/Exception"]).filter goodWord)
def wsL_size : List Cond := .codeWith yL_size cL_size 4 (some .int) [(0, 9, 12, 13)] :: ([.classLink RL 13 "java/lang/IndexOutOfBoundsException", .methodLink RL 52 yX0_size, .instanceMethod yX0_size, .selects RX0 yX0_size yX0_size, .initialized RX0, .code yX0_size cX0_size 2 (some .int), .fieldLink RX0 45 "LotTracker" "lotSize" "[I", .methodLink RX0 99 yX0_checkLot, .instanceMethod yX0_checkLot, .selects RX0 yX0_checkLot yX0_checkLot, .code yX0_checkLot cX0_checkLot 2 none, .classLink RX0 172 "java/lang/IndexOutOfBoundsException", .initialized "java/lang/IndexOutOfBoundsException", .methodLink RX0 147 yX0_isLot, .instanceMethod yX0_isLot, .selects RX0 yX0_isLot yX0_isLot, .code yX0_isLot cX0_isLot 2 (some .boolean), .fieldLink RX0 48 "LotTracker" "lotCount" "I"] ++ wsX00 ++ (vx_atS RX0 176 "java/lang/IndexOutOfBoundsException" ["java/lang/RuntimeException", "java/lang/Exception"]).filter goodWord)
def wsL_slack_r1 : List Cond := [Cond.classLink RL 13 "java/lang/IndexOutOfBoundsException", Cond.methodLink RL 55 yX0_slack, Cond.instanceMethod yX0_slack, Cond.selects RX0 yX0_slack yX0_slack, Cond.initialized RX0, Cond.code yX0_slack cX0_slack 2 (some .int), Cond.methodLink RX0 99 yX0_checkLot, Cond.instanceMethod yX0_checkLot, Cond.selects RX0 yX0_checkLot yX0_checkLot, Cond.code yX0_checkLot cX0_checkLot 2 none, Cond.classLink RX0 172 "java/lang/IndexOutOfBoundsException", Cond.initialized "java/lang/IndexOutOfBoundsException", Cond.methodLink RX0 147 yX0_isLot, Cond.instanceMethod yX0_isLot, Cond.selects RX0 yX0_isLot yX0_isLot, Cond.code yX0_isLot cX0_isLot 2 (some .boolean), Cond.fieldLink RX0 48 "LotTracker" "lotCount" "I", Cond.methodLink RX0 157 yX0_waitingLeft, Cond.instanceMethod yX0_waitingLeft, Cond.selects RX0 yX0_waitingLeft yX0_waitingLeft, Cond.code yX0_waitingLeft cX0_waitingLeft 3 (some .int), Cond.fieldLink RX0 29 "LotTracker" "lotStep" "[I", Cond.fieldLink RX0 26 "LotTracker" "lotState" "[I", Cond.constant RX0 161 (2000000)]
def wsL_slack_r2 : List Cond := [Cond.fieldLink RX0 16 "LotTracker" "stepLimit" "[I", Cond.constant RX0 185 (1000000), Cond.fieldLink RX0 65 "LotTracker" "now" "I", Cond.fieldLink RX0 32 "LotTracker" "lotMoment" "[I", Cond.methodLink RX0 106 yX0_isStep, Cond.instanceMethod yX0_isStep, Cond.selects RX0 yX0_isStep yX0_isStep, Cond.code yX0_isStep cX0_isStep 2 (some .boolean), Cond.fieldLink RX0 22 "LotTracker" "stepCount" "I"]
def wsL_slack : List Cond := .codeWith yL_slack cL_slack 4 (some .int) [(0, 9, 12, 13)] :: ((wsL_slack_r1 ++ wsL_slack_r2) ++ wsX00 ++ (vx_atS RX0 176 "java/lang/IndexOutOfBoundsException" ["java/lang/RuntimeException", "java/lang/Exception"]).filter goodWord)
def wsL_isLate_r1 : List Cond := [Cond.classLink RL 13 "java/lang/IndexOutOfBoundsException", Cond.methodLink RL 58 yX0_isLate, Cond.instanceMethod yX0_isLate, Cond.selects RX0 yX0_isLate yX0_isLate, Cond.initialized RX0, Cond.code yX0_isLate cX0_isLate 2 (some .boolean), Cond.methodLink RX0 99 yX0_checkLot, Cond.instanceMethod yX0_checkLot, Cond.selects RX0 yX0_checkLot yX0_checkLot, Cond.code yX0_checkLot cX0_checkLot 2 none, Cond.classLink RX0 172 "java/lang/IndexOutOfBoundsException", Cond.initialized "java/lang/IndexOutOfBoundsException", Cond.methodLink RX0 147 yX0_isLot, Cond.instanceMethod yX0_isLot, Cond.selects RX0 yX0_isLot yX0_isLot, Cond.code yX0_isLot cX0_isLot 2 (some .boolean), Cond.fieldLink RX0 48 "LotTracker" "lotCount" "I", Cond.methodLink RX0 157 yX0_waitingLeft, Cond.instanceMethod yX0_waitingLeft, Cond.selects RX0 yX0_waitingLeft yX0_waitingLeft, Cond.code yX0_waitingLeft cX0_waitingLeft 3 (some .int), Cond.fieldLink RX0 29 "LotTracker" "lotStep" "[I", Cond.fieldLink RX0 26 "LotTracker" "lotState" "[I", Cond.constant RX0 161 (2000000)]
def wsL_isLate_r2 : List Cond := [Cond.fieldLink RX0 16 "LotTracker" "stepLimit" "[I", Cond.constant RX0 185 (1000000), Cond.fieldLink RX0 65 "LotTracker" "now" "I", Cond.fieldLink RX0 32 "LotTracker" "lotMoment" "[I", Cond.methodLink RX0 106 yX0_isStep, Cond.instanceMethod yX0_isStep, Cond.selects RX0 yX0_isStep yX0_isStep, Cond.code yX0_isStep cX0_isStep 2 (some .boolean), Cond.fieldLink RX0 22 "LotTracker" "stepCount" "I"]
def wsL_isLate : List Cond := .codeWith yL_isLate cL_isLate 4 (some .int) [(0, 16, 19, 13)] :: ((wsL_isLate_r1 ++ wsL_isLate_r2) ++ wsX00 ++ (vx_atS RX0 176 "java/lang/IndexOutOfBoundsException" ["java/lang/RuntimeException", "java/lang/Exception"]).filter goodWord)
def wsL_reworks : List Cond := .codeWith yL_reworks cL_reworks 4 (some .int) [(0, 9, 12, 13)] :: ([.classLink RL 13 "java/lang/IndexOutOfBoundsException", .methodLink RL 62 yX0_reworks, .instanceMethod yX0_reworks, .selects RX0 yX0_reworks yX0_reworks, .initialized RX0, .code yX0_reworks cX0_reworks 2 (some .int), .fieldLink RX0 39 "LotTracker" "lotReworks" "[I", .methodLink RX0 99 yX0_checkLot, .instanceMethod yX0_checkLot, .selects RX0 yX0_checkLot yX0_checkLot, .code yX0_checkLot cX0_checkLot 2 none, .classLink RX0 172 "java/lang/IndexOutOfBoundsException", .initialized "java/lang/IndexOutOfBoundsException", .methodLink RX0 147 yX0_isLot, .instanceMethod yX0_isLot, .selects RX0 yX0_isLot yX0_isLot, .code yX0_isLot cX0_isLot 2 (some .boolean), .fieldLink RX0 48 "LotTracker" "lotCount" "I"] ++ wsX00 ++ (vx_atS RX0 176 "java/lang/IndexOutOfBoundsException" ["java/lang/RuntimeException", "java/lang/Exception"]).filter goodWord)
def wsL_nextFor_r1 : List Cond := [Cond.classLink RL 13 "java/lang/IndexOutOfBoundsException", Cond.methodLink RL 65 yX0_nextFor, Cond.instanceMethod yX0_nextFor, Cond.selects RX0 yX0_nextFor yX0_nextFor, Cond.initialized RX0, Cond.code yX0_nextFor cX0_nextFor 5 (some .int), Cond.constant RX0 161 (2000000), Cond.fieldLink RX0 48 "LotTracker" "lotCount" "I", Cond.methodLink RX0 68 yX0_checkTool, Cond.static yX0_checkTool, Cond.code yX0_checkTool cX0_checkTool 1 none, Cond.classLink RX0 172 "java/lang/IndexOutOfBoundsException", Cond.initialized "java/lang/IndexOutOfBoundsException", Cond.methodLink RX0 72 yX0_isWithin, Cond.static yX0_isWithin, Cond.code yX0_isWithin cX0_isWithin 3 (some .boolean), Cond.methodLink RX0 109 yX0_isBusy, Cond.instanceMethod yX0_isBusy, Cond.selects RX0 yX0_isBusy yX0_isBusy, Cond.code yX0_isBusy cX0_isBusy 3 (some .boolean), Cond.fieldLink RX0 26 "LotTracker" "lotState" "[I", Cond.methodLink RX0 162 yX0_usesTool, Cond.instanceMethod yX0_usesTool, Cond.selects RX0 yX0_usesTool yX0_usesTool]
def wsL_nextFor_r2 : List Cond := [Cond.code yX0_usesTool cX0_usesTool 4 (some .boolean), Cond.fieldLink RX0 29 "LotTracker" "lotStep" "[I", Cond.fieldLink RX0 9 "LotTracker" "stepTool" "[I", Cond.methodLink RX0 106 yX0_isStep, Cond.instanceMethod yX0_isStep, Cond.selects RX0 yX0_isStep yX0_isStep, Cond.code yX0_isStep cX0_isStep 2 (some .boolean), Cond.fieldLink RX0 22 "LotTracker" "stepCount" "I", Cond.methodLink RX0 102 yX0_isReady, Cond.instanceMethod yX0_isReady, Cond.selects RX0 yX0_isReady yX0_isReady, Cond.code yX0_isReady cX0_isReady 2 (some .boolean), Cond.methodLink RX0 114 yX0_isFree, Cond.instanceMethod yX0_isFree, Cond.selects RX0 yX0_isFree yX0_isFree, Cond.code yX0_isFree cX0_isFree 2 (some .boolean), Cond.fieldLink RX0 35 "LotTracker" "lotHeld" "[Z", Cond.methodLink RX0 157 yX0_waitingLeft, Cond.instanceMethod yX0_waitingLeft, Cond.selects RX0 yX0_waitingLeft yX0_waitingLeft, Cond.code yX0_waitingLeft cX0_waitingLeft 3 (some .int), Cond.fieldLink RX0 16 "LotTracker" "stepLimit" "[I", Cond.constant RX0 185 (1000000), Cond.fieldLink RX0 65 "LotTracker" "now" "I"]
def wsL_nextFor_r3 : List Cond := [Cond.fieldLink RX0 32 "LotTracker" "lotMoment" "[I"]
def wsL_nextFor : List Cond := .codeWith yL_nextFor cL_nextFor 4 (some .int) [(0, 9, 12, 13)] :: ((wsL_nextFor_r1 ++ (wsL_nextFor_r2 ++ wsL_nextFor_r3)) ++ wsX00 ++ (vx_atS RX0 176 "java/lang/IndexOutOfBoundsException" ["java/lang/RuntimeException", "java/lang/Exception"]).filter goodWord)
def wsL_wafersAt : List Cond := .codeWith yL_wafersAt cL_wafersAt 4 (some .int) [(0, 9, 12, 13)] :: ([.classLink RL 13 "java/lang/IndexOutOfBoundsException", .methodLink RL 68 yX0_wafersAt, .instanceMethod yX0_wafersAt, .selects RX0 yX0_wafersAt yX0_wafersAt, .initialized RX0, .code yX0_wafersAt cX0_wafersAt 4 (some .int), .fieldLink RX0 48 "LotTracker" "lotCount" "I", .fieldLink RX0 29 "LotTracker" "lotStep" "[I", .fieldLink RX0 45 "LotTracker" "lotSize" "[I", .methodLink RX0 166 yX0_checkStep, .instanceMethod yX0_checkStep, .selects RX0 yX0_checkStep yX0_checkStep, .code yX0_checkStep cX0_checkStep 2 none, .classLink RX0 172 "java/lang/IndexOutOfBoundsException", .initialized "java/lang/IndexOutOfBoundsException", .methodLink RX0 106 yX0_isStep, .instanceMethod yX0_isStep, .selects RX0 yX0_isStep yX0_isStep, .code yX0_isStep cX0_isStep 2 (some .boolean), .fieldLink RX0 22 "LotTracker" "stepCount" "I"] ++ wsX00 ++ (vx_atS RX0 176 "java/lang/IndexOutOfBoundsException" ["java/lang/RuntimeException", "java/lang/Exception"]).filter goodWord)
def wsL_wafersAtByWafers_r1 : List Cond := [Cond.classLink RL 13 "java/lang/IndexOutOfBoundsException", Cond.methodLink RL 71 yX0_wafersAtByWafers, Cond.instanceMethod yX0_wafersAtByWafers, Cond.selects RX0 yX0_wafersAtByWafers yX0_wafersAtByWafers, Cond.initialized RX0, Cond.code yX0_wafersAtByWafers cX0_wafersAtByWafers 5 (some .int), Cond.fieldLink RX0 62 "LotTracker" "waferCount" "I", Cond.fieldLink RX0 51 "LotTracker" "waferLot" "[I", Cond.fieldLink RX0 29 "LotTracker" "lotStep" "[I", Cond.methodLink RX0 166 yX0_checkStep, Cond.instanceMethod yX0_checkStep, Cond.selects RX0 yX0_checkStep yX0_checkStep, Cond.code yX0_checkStep cX0_checkStep 2 none, Cond.classLink RX0 172 "java/lang/IndexOutOfBoundsException", Cond.initialized "java/lang/IndexOutOfBoundsException", Cond.methodLink RX0 106 yX0_isStep, Cond.instanceMethod yX0_isStep, Cond.selects RX0 yX0_isStep yX0_isStep, Cond.code yX0_isStep cX0_isStep 2 (some .boolean), Cond.fieldLink RX0 22 "LotTracker" "stepCount" "I", Cond.methodLink RX0 147 yX0_isLot, Cond.instanceMethod yX0_isLot, Cond.selects RX0 yX0_isLot yX0_isLot, Cond.code yX0_isLot cX0_isLot 2 (some .boolean)]
def wsL_wafersAtByWafers_r2 : List Cond := [Cond.fieldLink RX0 48 "LotTracker" "lotCount" "I"]
def wsL_wafersAtByWafers : List Cond := .codeWith yL_wafersAtByWafers cL_wafersAtByWafers 4 (some .int) [(0, 9, 12, 13)] :: ((wsL_wafersAtByWafers_r1 ++ wsL_wafersAtByWafers_r2) ++ wsX00 ++ (vx_atS RX0 176 "java/lang/IndexOutOfBoundsException" ["java/lang/RuntimeException", "java/lang/Exception"]).filter goodWord)
def wsL_lotOf : List Cond := .codeWith yL_lotOf cL_lotOf 4 (some .int) [(0, 9, 12, 13)] :: ([.classLink RL 13 "java/lang/IndexOutOfBoundsException", .methodLink RL 74 yX0_lotOf, .instanceMethod yX0_lotOf, .selects RX0 yX0_lotOf yX0_lotOf, .initialized RX0, .code yX0_lotOf cX0_lotOf 2 (some .int), .fieldLink RX0 51 "LotTracker" "waferLot" "[I", .methodLink RX0 144 yX0_checkWafer, .instanceMethod yX0_checkWafer, .selects RX0 yX0_checkWafer yX0_checkWafer, .code yX0_checkWafer cX0_checkWafer 2 none, .classLink RX0 172 "java/lang/IndexOutOfBoundsException", .initialized "java/lang/IndexOutOfBoundsException", .fieldLink RX0 62 "LotTracker" "waferCount" "I"] ++ wsX00 ++ (vx_atS RX0 176 "java/lang/IndexOutOfBoundsException" ["java/lang/RuntimeException", "java/lang/Exception"]).filter goodWord)
def wsL_parentOf : List Cond := .codeWith yL_parentOf cL_parentOf 4 (some .int) [(0, 9, 12, 13)] :: ([.classLink RL 13 "java/lang/IndexOutOfBoundsException", .methodLink RL 77 yX0_parentOf, .instanceMethod yX0_parentOf, .selects RX0 yX0_parentOf yX0_parentOf, .initialized RX0, .code yX0_parentOf cX0_parentOf 2 (some .int), .fieldLink RX0 42 "LotTracker" "lotParent" "[I", .methodLink RX0 99 yX0_checkLot, .instanceMethod yX0_checkLot, .selects RX0 yX0_checkLot yX0_checkLot, .code yX0_checkLot cX0_checkLot 2 none, .classLink RX0 172 "java/lang/IndexOutOfBoundsException", .initialized "java/lang/IndexOutOfBoundsException", .methodLink RX0 147 yX0_isLot, .instanceMethod yX0_isLot, .selects RX0 yX0_isLot yX0_isLot, .code yX0_isLot cX0_isLot 2 (some .boolean), .fieldLink RX0 48 "LotTracker" "lotCount" "I"] ++ wsX00 ++ (vx_atS RX0 176 "java/lang/IndexOutOfBoundsException" ["java/lang/RuntimeException", "java/lang/Exception"]).filter goodWord)
def wsL_common : List Cond := .codeWith yL_common cL_common 5 (some .int) [(0, 10, 13, 13)] :: ([.classLink RL 13 "java/lang/IndexOutOfBoundsException", .methodLink RL 80 yX0_common, .instanceMethod yX0_common, .selects RX0 yX0_common yX0_common, .initialized RX0, .code yX0_common cX0_common 6 (some .int), .methodLink RX0 99 yX0_checkLot, .instanceMethod yX0_checkLot, .selects RX0 yX0_checkLot yX0_checkLot, .code yX0_checkLot cX0_checkLot 2 none, .classLink RX0 172 "java/lang/IndexOutOfBoundsException", .initialized "java/lang/IndexOutOfBoundsException", .methodLink RX0 147 yX0_isLot, .instanceMethod yX0_isLot, .selects RX0 yX0_isLot yX0_isLot, .code yX0_isLot cX0_isLot 2 (some .boolean), .fieldLink RX0 48 "LotTracker" "lotCount" "I", .methodLink RX0 169 yX0_parentOrNone, .instanceMethod yX0_parentOrNone, .selects RX0 yX0_parentOrNone yX0_parentOrNone, .code yX0_parentOrNone cX0_parentOrNone 2 (some .int), .fieldLink RX0 42 "LotTracker" "lotParent" "[I"] ++ wsX00 ++ (vx_atS RX0 176 "java/lang/IndexOutOfBoundsException" ["java/lang/RuntimeException", "java/lang/Exception"]).filter goodWord)
def wsL_path : List Cond := .codeWith yL_path cL_path 4 (some .int) [(0, 9, 12, 13)] :: ([.classLink RL 13 "java/lang/IndexOutOfBoundsException", .methodLink RL 83 yX0_path, .instanceMethod yX0_path, .selects RX0 yX0_path yX0_path, .initialized RX0, .code yX0_path cX0_path 2 (some .int), .fieldLink RX0 59 "LotTracker" "waferPathLength" "[I", .methodLink RX0 144 yX0_checkWafer, .instanceMethod yX0_checkWafer, .selects RX0 yX0_checkWafer yX0_checkWafer, .code yX0_checkWafer cX0_checkWafer 2 none, .classLink RX0 172 "java/lang/IndexOutOfBoundsException", .initialized "java/lang/IndexOutOfBoundsException", .fieldLink RX0 62 "LotTracker" "waferCount" "I"] ++ wsX00 ++ (vx_atS RX0 176 "java/lang/IndexOutOfBoundsException" ["java/lang/RuntimeException", "java/lang/Exception"]).filter goodWord)
def wsL_pathAt : List Cond := .codeWith yL_pathAt cL_pathAt 5 (some .int) [(0, 10, 13, 13)] :: ([.classLink RL 13 "java/lang/IndexOutOfBoundsException", .methodLink RL 86 yX0_pathAt, .instanceMethod yX0_pathAt, .selects RX0 yX0_pathAt yX0_pathAt, .initialized RX0, .code yX0_pathAt cX0_pathAt 3 (some .int), .classLink RX0 172 "java/lang/IndexOutOfBoundsException", .initialized "java/lang/IndexOutOfBoundsException", .fieldLink RX0 59 "LotTracker" "waferPathLength" "[I", .fieldLink RX0 56 "LotTracker" "waferPath" "[[I", .methodLink RX0 144 yX0_checkWafer, .instanceMethod yX0_checkWafer, .selects RX0 yX0_checkWafer yX0_checkWafer, .code yX0_checkWafer cX0_checkWafer 2 none, .fieldLink RX0 62 "LotTracker" "waferCount" "I", .methodLink RX0 72 yX0_isWithin, .static yX0_isWithin, .code yX0_isWithin cX0_isWithin 3 (some .boolean)] ++ wsX00 ++ (vx_atS RX0 176 "java/lang/IndexOutOfBoundsException" ["java/lang/RuntimeException", "java/lang/Exception"]).filter goodWord)
def wsL_law0_r1 : List Cond := [Cond.classLink RL 8 RX0, Cond.instantiable RX0 18, Cond.initialized RX0, Cond.classLink RL 90 RX1, Cond.instantiable RX1 20, Cond.initialized RX1, Cond.arrayClass .long, Cond.methodLink RL 89 yX0_init, Cond.instanceMethod yX0_init, Cond.code yX0_init cX0_init 1 none, Cond.methodLink RX0 3 objectInit, Cond.instanceMethod objectInit, Cond.code objectInit ⟨#[0xb1]⟩ 1 none, Cond.arrayClass .int, Cond.fieldLink RX0 9 "LotTracker" "stepTool" "[I", Cond.fieldLink RX0 13 "LotTracker" "stepMinutes" "[I", Cond.fieldLink RX0 16 "LotTracker" "stepLimit" "[I", Cond.fieldLink RX0 19 "LotTracker" "stepBack" "[I", Cond.fieldLink RX0 22 "LotTracker" "stepCount" "I", Cond.fieldLink RX0 26 "LotTracker" "lotState" "[I", Cond.fieldLink RX0 29 "LotTracker" "lotStep" "[I", Cond.fieldLink RX0 32 "LotTracker" "lotMoment" "[I", Cond.arrayClass .boolean, Cond.fieldLink RX0 35 "LotTracker" "lotHeld" "[Z"]
def wsL_law0_r2 : List Cond := [Cond.fieldLink RX0 39 "LotTracker" "lotReworks" "[I", Cond.fieldLink RX0 42 "LotTracker" "lotParent" "[I", Cond.fieldLink RX0 45 "LotTracker" "lotSize" "[I", Cond.fieldLink RX0 48 "LotTracker" "lotCount" "I", Cond.fieldLink RX0 51 "LotTracker" "waferLot" "[I", Cond.classLink RX0 54 "[[I", Cond.fieldLink RX0 56 "LotTracker" "waferPath" "[[I", Cond.fieldLink RX0 59 "LotTracker" "waferPathLength" "[I", Cond.fieldLink RX0 62 "LotTracker" "waferCount" "I", Cond.fieldLink RX0 65 "LotTracker" "now" "I", Cond.methodLink RL 92 yX1_init, Cond.instanceMethod yX1_init, Cond.code yX1_init cX1_init 1 none, Cond.methodLink RX1 1 objectInit, Cond.fieldLink RX1 7 "LotTrackerModel" "tools" "[I", Cond.fieldLink RX1 13 "LotTrackerModel" "minutes" "[I", Cond.fieldLink RX1 16 "LotTrackerModel" "limits" "[I", Cond.fieldLink RX1 19 "LotTrackerModel" "backs" "[I", Cond.fieldLink RX1 22 "LotTrackerModel" "states" "[I", Cond.fieldLink RX1 25 "LotTrackerModel" "steps" "[I", Cond.fieldLink RX1 28 "LotTrackerModel" "since" "[I", Cond.fieldLink RX1 31 "LotTrackerModel" "ends" "[I", Cond.fieldLink RX1 34 "LotTrackerModel" "areHeld" "[Z", Cond.fieldLink RX1 38 "LotTrackerModel" "again" "[I"]
def wsL_law0_r3 : List Cond := [Cond.fieldLink RX1 41 "LotTrackerModel" "parents" "[I", Cond.fieldLink RX1 44 "LotTrackerModel" "lotOfWafer" "[I", Cond.fieldLink RX1 47 "LotTrackerModel" "pathMany" "[I", Cond.fieldLink RX1 50 "LotTrackerModel" "paths" "[I", Cond.fieldLink RX1 53 "LotTrackerModel" "isAncestor" "[Z", Cond.fieldLink RX1 56 "LotTrackerModel" "thrown" "I", Cond.methodLink RL 93 yL_addStep, Cond.static yL_addStep, Cond.initialized RL, Cond.codeWith yL_addStep cL_addStep 7 (some .int) [(0, 14, 17, 13), (0, 14, 21, 15), (0, 14, 25, 17)], Cond.classLink RL 13 "java/lang/IndexOutOfBoundsException", Cond.classLink RL 15 "java/lang/IllegalArgumentException", Cond.classLink RL 17 "java/lang/IllegalStateException", Cond.methodLink RL 7 yX0_addStep, Cond.instanceMethod yX0_addStep, Cond.selects RX0 yX0_addStep yX0_addStep, Cond.code yX0_addStep cX0_addStep 6 (some .int), Cond.classLink RX0 76 "java/lang/IllegalArgumentException", Cond.initialized "java/lang/IllegalArgumentException", Cond.classLink RX0 83 "java/lang/IllegalStateException", Cond.initialized "java/lang/IllegalStateException", Cond.methodLink RX0 68 yX0_checkTool, Cond.static yX0_checkTool, Cond.code yX0_checkTool cX0_checkTool 1 none]
def wsL_law0_r4 : List Cond := [Cond.classLink RX0 172 "java/lang/IndexOutOfBoundsException", Cond.initialized "java/lang/IndexOutOfBoundsException", Cond.methodLink RX0 72 yX0_isWithin, Cond.static yX0_isWithin, Cond.code yX0_isWithin cX0_isWithin 3 (some .boolean), Cond.methodLink RL 98 yX1_addStep, Cond.instanceMethod yX1_addStep, Cond.selects RX1 yX1_addStep yX1_addStep, Cond.code yX1_addStep cX1_addStep 6 (some .int), Cond.fieldLink RX1 70 "LotTrackerModel" "stepMany" "I", Cond.fieldLink RX1 64 "LotTrackerModel" "lotMany" "I", Cond.methodLink RX1 60 yX1_in, Cond.static yX1_in, Cond.code yX1_in cX1_in 3 (some .boolean), Cond.methodLink RX1 73 yX1_isTool, Cond.static yX1_isTool, Cond.code yX1_isTool cX1_isTool 1 (some .boolean), Cond.methodLink RL 99 yX1_thrown, Cond.instanceMethod yX1_thrown, Cond.selects RX1 yX1_thrown yX1_thrown, Cond.code yX1_thrown cX1_thrown 1 (some .int), Cond.methodLink RL 103 yL_enter, Cond.static yL_enter, Cond.codeWith yL_enter cL_enter 4 (some .int) [(0, 9, 12, 15), (0, 9, 15, 17)]]
def wsL_law0_r5 : List Cond := [Cond.methodLink RL 19 yX0_enter, Cond.instanceMethod yX0_enter, Cond.selects RX0 yX0_enter yX0_enter, Cond.code yX0_enter cX0_enter 4 (some .int), Cond.methodLink RX0 92 yX0_makeLot, Cond.instanceMethod yX0_makeLot, Cond.selects RX0 yX0_makeLot yX0_makeLot, Cond.code yX0_makeLot cX0_makeLot 7 (some .int), Cond.methodLink RX0 96 yX0_makeWafer, Cond.instanceMethod yX0_makeWafer, Cond.selects RX0 yX0_makeWafer yX0_makeWafer, Cond.code yX0_makeWafer cX0_makeWafer 3 none, Cond.methodLink RX0 186 yX0_putInto, Cond.instanceMethod yX0_putInto, Cond.selects RX0 yX0_putInto yX0_putInto, Cond.code yX0_putInto cX0_putInto 4 none, Cond.methodLink RL 106 yX1_enter, Cond.instanceMethod yX1_enter, Cond.selects RX1 yX1_enter yX1_enter, Cond.code yX1_enter cX1_enter 3 (some .int), Cond.fieldLink RX1 67 "LotTrackerModel" "waferMany" "I", Cond.fieldLink RX1 77 "LotTrackerModel" "now" "I", Cond.methodLink RX1 80 yX1_puts, Cond.instanceMethod yX1_puts]
def wsL_law0_r6 : List Cond := [Cond.selects RX1 yX1_puts yX1_puts, Cond.code yX1_puts cX1_puts 3 none, Cond.methodLink RL 107 yL_start, Cond.static yL_start, Cond.codeWith yL_start cL_start 4 (some .int) [(0, 9, 12, 13), (0, 9, 15, 17)], Cond.methodLink RL 23 yX0_start, Cond.instanceMethod yX0_start, Cond.selects RX0 yX0_start yX0_start, Cond.code yX0_start cX0_start 3 (some .int), Cond.methodLink RX0 99 yX0_checkLot, Cond.instanceMethod yX0_checkLot, Cond.selects RX0 yX0_checkLot yX0_checkLot, Cond.code yX0_checkLot cX0_checkLot 2 none, Cond.methodLink RX0 147 yX0_isLot, Cond.instanceMethod yX0_isLot, Cond.selects RX0 yX0_isLot yX0_isLot, Cond.code yX0_isLot cX0_isLot 2 (some .boolean), Cond.methodLink RX0 102 yX0_isReady, Cond.instanceMethod yX0_isReady, Cond.selects RX0 yX0_isReady yX0_isReady, Cond.code yX0_isReady cX0_isReady 2 (some .boolean), Cond.methodLink RX0 114 yX0_isFree, Cond.instanceMethod yX0_isFree, Cond.selects RX0 yX0_isFree yX0_isFree]
def wsL_law0_r7 : List Cond := [Cond.code yX0_isFree cX0_isFree 2 (some .boolean), Cond.methodLink RX0 157 yX0_waitingLeft, Cond.instanceMethod yX0_waitingLeft, Cond.selects RX0 yX0_waitingLeft yX0_waitingLeft, Cond.code yX0_waitingLeft cX0_waitingLeft 3 (some .int), Cond.constant RX0 161 (2000000), Cond.constant RX0 185 (1000000), Cond.methodLink RX0 106 yX0_isStep, Cond.instanceMethod yX0_isStep, Cond.selects RX0 yX0_isStep yX0_isStep, Cond.code yX0_isStep cX0_isStep 2 (some .boolean), Cond.methodLink RX0 109 yX0_isBusy, Cond.instanceMethod yX0_isBusy, Cond.selects RX0 yX0_isBusy yX0_isBusy, Cond.code yX0_isBusy cX0_isBusy 3 (some .boolean), Cond.methodLink RX0 162 yX0_usesTool, Cond.instanceMethod yX0_usesTool, Cond.selects RX0 yX0_usesTool yX0_usesTool, Cond.code yX0_usesTool cX0_usesTool 4 (some .boolean), Cond.methodLink RL 109 yX1_start, Cond.instanceMethod yX1_start, Cond.selects RX1 yX1_start yX1_start, Cond.code yX1_start cX1_start 2 (some .int), Cond.methodLink RX1 88 yX1_isLot]
def wsL_law0_r8 : List Cond := [Cond.instanceMethod yX1_isLot, Cond.selects RX1 yX1_isLot yX1_isLot, Cond.code yX1_isLot cX1_isLot 2 (some .boolean), Cond.methodLink RX1 91 yX1_tooLate, Cond.instanceMethod yX1_tooLate, Cond.selects RX1 yX1_tooLate yX1_tooLate, Cond.code yX1_tooLate cX1_tooLate 2 (some .boolean), Cond.methodLink RX1 84 yX1_waited, Cond.instanceMethod yX1_waited, Cond.selects RX1 yX1_waited yX1_waited, Cond.code yX1_waited cX1_waited 2 (some .int), Cond.methodLink RX1 94 yX1_isBusy, Cond.instanceMethod yX1_isBusy, Cond.selects RX1 yX1_isBusy yX1_isBusy, Cond.code yX1_isBusy cX1_isBusy 4 (some .boolean), Cond.methodLink RL 110 yL_rework, Cond.static yL_rework, Cond.codeWith yL_rework cL_rework 4 (some .int) [(0, 9, 12, 13), (0, 9, 15, 17)], Cond.methodLink RL 26 yX0_rework, Cond.instanceMethod yX0_rework, Cond.selects RX0 yX0_rework yX0_rework, Cond.code yX0_rework cX0_rework 3 (some .int), Cond.methodLink RL 112 yX1_rework, Cond.instanceMethod yX1_rework]
def wsL_law0_r9 : List Cond := [Cond.selects RX1 yX1_rework yX1_rework, Cond.code yX1_rework cX1_rework 2 (some .int), Cond.methodLink RL 113 yL_split, Cond.static yL_split, Cond.codeWith yL_split cL_split 5 (some .int) [(0, 10, 13, 13), (0, 10, 17, 15), (0, 10, 21, 17)], Cond.methodLink RL 29 yX0_split, Cond.instanceMethod yX0_split, Cond.selects RX0 yX0_split yX0_split, Cond.code yX0_split cX0_split 4 (some .int), Cond.methodLink RX0 121 yX0_moveWafers, Cond.instanceMethod yX0_moveWafers, Cond.selects RX0 yX0_moveWafers yX0_moveWafers, Cond.code yX0_moveWafers cX0_moveWafers 6 none, Cond.methodLink RL 116 yX1_split, Cond.instanceMethod yX1_split, Cond.selects RX1 yX1_split yX1_split, Cond.code yX1_split cX1_split 6 (some .int), Cond.methodLink RX1 97 yX1_count, Cond.instanceMethod yX1_count, Cond.selects RX1 yX1_count yX1_count, Cond.code yX1_count cX1_count 4 (some .int), Cond.methodLink RL 117 yL_merge, Cond.static yL_merge, Cond.codeWith yL_merge cL_merge 5 (some .int) [(0, 10, 13, 13), (0, 10, 17, 15), (0, 10, 21, 17)]]
def wsL_law0_r10 : List Cond := [Cond.methodLink RL 33 yX0_merge, Cond.instanceMethod yX0_merge, Cond.selects RX0 yX0_merge yX0_merge, Cond.code yX0_merge cX0_merge 3 (some .int), Cond.methodLink RX0 129 Lib.Math.min.name, Cond.static Lib.Math.min.name, Cond.initialized "java/lang/Math", Cond.code Lib.Math.min.name Lib.Math.min.code 2 (some .int), Cond.methodLink RX0 135 Lib.Math.max.name, Cond.static Lib.Math.max.name, Cond.code Lib.Math.max.name Lib.Math.max.code 2 (some .int), Cond.methodLink RX0 138 yX0_leaveRoute, Cond.instanceMethod yX0_leaveRoute, Cond.selects RX0 yX0_leaveRoute yX0_leaveRoute, Cond.code yX0_leaveRoute cX0_leaveRoute 3 none, Cond.methodLink RL 119 yX1_merge, Cond.instanceMethod yX1_merge, Cond.selects RX1 yX1_merge yX1_merge, Cond.code yX1_merge cX1_merge 4 (some .int), Cond.methodLink RX1 100 yX1_canMerge, Cond.instanceMethod yX1_canMerge, Cond.selects RX1 yX1_canMerge yX1_canMerge, Cond.code yX1_canMerge cX1_canMerge 2 (some .boolean), Cond.methodLink RL 120 yL_hold]
def wsL_law0_r11 : List Cond := [Cond.static yL_hold, Cond.codeWith yL_hold cL_hold 5 (some .int) [(0, 17, 20, 13), (0, 17, 24, 17)], Cond.methodLink RL 36 yX0_hold, Cond.instanceMethod yX0_hold, Cond.selects RX0 yX0_hold yX0_hold, Cond.code yX0_hold cX0_hold 4 (some .boolean), Cond.methodLink RL 123 yX1_hold, Cond.instanceMethod yX1_hold, Cond.selects RX1 yX1_hold yX1_hold, Cond.code yX1_hold cX1_hold 4 (some .boolean), Cond.methodLink RL 124 yL_scrap, Cond.static yL_scrap, Cond.codeWith yL_scrap cL_scrap 4 (some .int) [(0, 9, 12, 13), (0, 9, 15, 17)], Cond.methodLink RL 40 yX0_scrap, Cond.instanceMethod yX0_scrap, Cond.selects RX0 yX0_scrap yX0_scrap, Cond.code yX0_scrap cX0_scrap 3 (some .int), Cond.methodLink RX0 144 yX0_checkWafer, Cond.instanceMethod yX0_checkWafer, Cond.selects RX0 yX0_checkWafer yX0_checkWafer, Cond.code yX0_checkWafer cX0_checkWafer 2 none, Cond.methodLink RL 126 yX1_scrap, Cond.instanceMethod yX1_scrap, Cond.selects RX1 yX1_scrap yX1_scrap]
def wsL_law0_r12 : List Cond := [Cond.code yX1_scrap cX1_scrap 3 (some .int), Cond.methodLink RX1 103 yX1_isWafer, Cond.instanceMethod yX1_isWafer, Cond.selects RX1 yX1_isWafer yX1_isWafer, Cond.code yX1_isWafer cX1_isWafer 2 (some .boolean), Cond.methodLink RL 127 yL_advance, Cond.static yL_advance, Cond.codeWith yL_advance cL_advance 4 (some .int) [(0, 9, 12, 15)], Cond.methodLink RL 43 yX0_advance, Cond.instanceMethod yX0_advance, Cond.selects RX0 yX0_advance yX0_advance, Cond.code yX0_advance cX0_advance 4 (some .int), Cond.methodLink RX0 154 yX0_endProcessing, Cond.instanceMethod yX0_endProcessing, Cond.selects RX0 yX0_endProcessing yX0_endProcessing, Cond.code yX0_endProcessing cX0_endProcessing 3 none, Cond.methodLink RL 129 yX1_advance, Cond.instanceMethod yX1_advance, Cond.selects RX1 yX1_advance yX1_advance, Cond.code yX1_advance cX1_advance 4 (some .int), Cond.methodLink RL 130 yX0_time, Cond.instanceMethod yX0_time, Cond.selects RX0 yX0_time yX0_time, Cond.code yX0_time cX0_time 1 (some .int)]
def wsL_law0_r13 : List Cond := [Cond.methodLink RL 133 yX1_time, Cond.instanceMethod yX1_time, Cond.selects RX1 yX1_time yX1_time, Cond.code yX1_time cX1_time 1 (some .int), Cond.methodLink RL 134 yX0_lots, Cond.instanceMethod yX0_lots, Cond.selects RX0 yX0_lots yX0_lots, Cond.code yX0_lots cX0_lots 1 (some .int), Cond.methodLink RL 137 yX1_lots, Cond.instanceMethod yX1_lots, Cond.selects RX1 yX1_lots yX1_lots, Cond.code yX1_lots cX1_lots 1 (some .int), Cond.methodLink RL 138 yX0_wafers, Cond.instanceMethod yX0_wafers, Cond.selects RX0 yX0_wafers yX0_wafers, Cond.code yX0_wafers cX0_wafers 1 (some .int), Cond.methodLink RL 141 yX1_wafers, Cond.instanceMethod yX1_wafers, Cond.selects RX1 yX1_wafers yX1_wafers, Cond.code yX1_wafers cX1_wafers 1 (some .int), Cond.methodLink RL 142 yL_state, Cond.static yL_state, Cond.codeWith yL_state cL_state 4 (some .int) [(0, 9, 12, 13)], Cond.methodLink RL 46 yX0_state]
def wsL_law0_r14 : List Cond := [Cond.instanceMethod yX0_state, Cond.selects RX0 yX0_state yX0_state, Cond.code yX0_state cX0_state 2 (some .int), Cond.methodLink RL 144 yX1_state, Cond.instanceMethod yX1_state, Cond.selects RX1 yX1_state yX1_state, Cond.code yX1_state cX1_state 2 (some .int), Cond.methodLink RX1 109 yX1_told, Cond.instanceMethod yX1_told, Cond.selects RX1 yX1_told yX1_told, Cond.code yX1_told cX1_told 3 (some .int), Cond.methodLink RX1 106 yX1_fails, Cond.instanceMethod yX1_fails, Cond.selects RX1 yX1_fails yX1_fails, Cond.code yX1_fails cX1_fails 2 (some .int), Cond.methodLink RL 145 yL_stepOf, Cond.static yL_stepOf, Cond.codeWith yL_stepOf cL_stepOf 4 (some .int) [(0, 9, 12, 13)], Cond.methodLink RL 49 yX0_stepOf, Cond.instanceMethod yX0_stepOf, Cond.selects RX0 yX0_stepOf yX0_stepOf, Cond.code yX0_stepOf cX0_stepOf 2 (some .int), Cond.methodLink RL 147 yX1_stepOf, Cond.instanceMethod yX1_stepOf]
def wsL_law0_r15 : List Cond := [Cond.selects RX1 yX1_stepOf yX1_stepOf, Cond.code yX1_stepOf cX1_stepOf 3 (some .int), Cond.methodLink RL 148 yL_size, Cond.static yL_size, Cond.codeWith yL_size cL_size 4 (some .int) [(0, 9, 12, 13)], Cond.methodLink RL 52 yX0_size, Cond.instanceMethod yX0_size, Cond.selects RX0 yX0_size yX0_size, Cond.code yX0_size cX0_size 2 (some .int), Cond.methodLink RL 150 yX1_size, Cond.instanceMethod yX1_size, Cond.selects RX1 yX1_size yX1_size, Cond.code yX1_size cX1_size 2 (some .int), Cond.methodLink RL 151 yL_slack, Cond.static yL_slack, Cond.codeWith yL_slack cL_slack 4 (some .int) [(0, 9, 12, 13)], Cond.methodLink RL 55 yX0_slack, Cond.instanceMethod yX0_slack, Cond.selects RX0 yX0_slack yX0_slack, Cond.code yX0_slack cX0_slack 2 (some .int), Cond.methodLink RL 153 yX1_slack, Cond.instanceMethod yX1_slack, Cond.selects RX1 yX1_slack yX1_slack, Cond.code yX1_slack cX1_slack 2 (some .int)]
def wsL_law0_r16 : List Cond := [Cond.constant RX1 117 (2000000), Cond.methodLink RX1 114 yX1_left, Cond.instanceMethod yX1_left, Cond.selects RX1 yX1_left yX1_left, Cond.code yX1_left cX1_left 3 (some .int), Cond.constant RX1 113 (1000000), Cond.methodLink RL 154 yL_isLate, Cond.static yL_isLate, Cond.codeWith yL_isLate cL_isLate 4 (some .int) [(0, 16, 19, 13)], Cond.methodLink RL 58 yX0_isLate, Cond.instanceMethod yX0_isLate, Cond.selects RX0 yX0_isLate yX0_isLate, Cond.code yX0_isLate cX0_isLate 2 (some .boolean), Cond.methodLink RL 156 yX1_isLate, Cond.instanceMethod yX1_isLate, Cond.selects RX1 yX1_isLate yX1_isLate, Cond.code yX1_isLate cX1_isLate 2 (some .boolean), Cond.methodLink RL 157 yL_reworks, Cond.static yL_reworks, Cond.codeWith yL_reworks cL_reworks 4 (some .int) [(0, 9, 12, 13)], Cond.methodLink RL 62 yX0_reworks, Cond.instanceMethod yX0_reworks, Cond.selects RX0 yX0_reworks yX0_reworks, Cond.code yX0_reworks cX0_reworks 2 (some .int)]
def wsL_law0_r17 : List Cond := [Cond.methodLink RL 159 yX1_reworks, Cond.instanceMethod yX1_reworks, Cond.selects RX1 yX1_reworks yX1_reworks, Cond.code yX1_reworks cX1_reworks 2 (some .int), Cond.methodLink RL 160 yL_nextFor, Cond.static yL_nextFor, Cond.codeWith yL_nextFor cL_nextFor 4 (some .int) [(0, 9, 12, 13)], Cond.methodLink RL 65 yX0_nextFor, Cond.instanceMethod yX0_nextFor, Cond.selects RX0 yX0_nextFor yX0_nextFor, Cond.code yX0_nextFor cX0_nextFor 5 (some .int), Cond.methodLink RL 162 yX1_nextFor, Cond.instanceMethod yX1_nextFor, Cond.selects RX1 yX1_nextFor yX1_nextFor, Cond.code yX1_nextFor cX1_nextFor 5 (some .int), Cond.methodLink RL 163 yL_wafersAt, Cond.static yL_wafersAt, Cond.codeWith yL_wafersAt cL_wafersAt 4 (some .int) [(0, 9, 12, 13)], Cond.methodLink RL 68 yX0_wafersAt, Cond.instanceMethod yX0_wafersAt, Cond.selects RX0 yX0_wafersAt yX0_wafersAt, Cond.code yX0_wafersAt cX0_wafersAt 4 (some .int), Cond.methodLink RX0 166 yX0_checkStep, Cond.instanceMethod yX0_checkStep]
def wsL_law0_r18 : List Cond := [Cond.selects RX0 yX0_checkStep yX0_checkStep, Cond.code yX0_checkStep cX0_checkStep 2 none, Cond.methodLink RL 165 yX1_wafersAt, Cond.instanceMethod yX1_wafersAt, Cond.selects RX1 yX1_wafersAt yX1_wafersAt, Cond.code yX1_wafersAt cX1_wafersAt 2 (some .int), Cond.methodLink RX1 118 yX1_at, Cond.instanceMethod yX1_at, Cond.selects RX1 yX1_at yX1_at, Cond.code yX1_at cX1_at 4 (some .int), Cond.methodLink RL 166 yL_wafersAtByWafers, Cond.static yL_wafersAtByWafers, Cond.codeWith yL_wafersAtByWafers cL_wafersAtByWafers 4 (some .int) [(0, 9, 12, 13)], Cond.methodLink RL 71 yX0_wafersAtByWafers, Cond.instanceMethod yX0_wafersAtByWafers, Cond.selects RX0 yX0_wafersAtByWafers yX0_wafersAtByWafers, Cond.code yX0_wafersAtByWafers cX0_wafersAtByWafers 5 (some .int), Cond.methodLink RL 168 yX1_wafersAtByWafers, Cond.instanceMethod yX1_wafersAtByWafers, Cond.selects RX1 yX1_wafersAtByWafers yX1_wafersAtByWafers, Cond.code yX1_wafersAtByWafers cX1_wafersAtByWafers 2 (some .int), Cond.methodLink RL 169 yL_lotOf, Cond.static yL_lotOf, Cond.codeWith yL_lotOf cL_lotOf 4 (some .int) [(0, 9, 12, 13)]]
def wsL_law0_r19 : List Cond := [Cond.methodLink RL 74 yX0_lotOf, Cond.instanceMethod yX0_lotOf, Cond.selects RX0 yX0_lotOf yX0_lotOf, Cond.code yX0_lotOf cX0_lotOf 2 (some .int), Cond.methodLink RL 171 yX1_lotOf, Cond.instanceMethod yX1_lotOf, Cond.selects RX1 yX1_lotOf yX1_lotOf, Cond.code yX1_lotOf cX1_lotOf 2 (some .int), Cond.methodLink RL 172 yL_parentOf, Cond.static yL_parentOf, Cond.codeWith yL_parentOf cL_parentOf 4 (some .int) [(0, 9, 12, 13)], Cond.methodLink RL 77 yX0_parentOf, Cond.instanceMethod yX0_parentOf, Cond.selects RX0 yX0_parentOf yX0_parentOf, Cond.code yX0_parentOf cX0_parentOf 2 (some .int), Cond.methodLink RL 174 yX1_parentOf, Cond.instanceMethod yX1_parentOf, Cond.selects RX1 yX1_parentOf yX1_parentOf, Cond.code yX1_parentOf cX1_parentOf 2 (some .int), Cond.methodLink RL 175 yL_common, Cond.static yL_common, Cond.codeWith yL_common cL_common 5 (some .int) [(0, 10, 13, 13)], Cond.methodLink RL 80 yX0_common, Cond.instanceMethod yX0_common]
def wsL_law0_r20 : List Cond := [Cond.selects RX0 yX0_common yX0_common, Cond.code yX0_common cX0_common 6 (some .int), Cond.methodLink RX0 169 yX0_parentOrNone, Cond.instanceMethod yX0_parentOrNone, Cond.selects RX0 yX0_parentOrNone yX0_parentOrNone, Cond.code yX0_parentOrNone cX0_parentOrNone 2 (some .int), Cond.methodLink RL 177 yX1_common, Cond.instanceMethod yX1_common, Cond.selects RX1 yX1_common yX1_common, Cond.code yX1_common cX1_common 4 (some .int), Cond.methodLink RL 178 yL_path, Cond.static yL_path, Cond.codeWith yL_path cL_path 4 (some .int) [(0, 9, 12, 13)], Cond.methodLink RL 83 yX0_path, Cond.instanceMethod yX0_path, Cond.selects RX0 yX0_path yX0_path, Cond.code yX0_path cX0_path 2 (some .int), Cond.methodLink RL 180 yX1_path, Cond.instanceMethod yX1_path, Cond.selects RX1 yX1_path yX1_path, Cond.code yX1_path cX1_path 2 (some .int), Cond.methodLink RL 181 yL_pathAt, Cond.static yL_pathAt, Cond.codeWith yL_pathAt cL_pathAt 5 (some .int) [(0, 10, 13, 13)]]
def wsL_law0_r21 : List Cond := [Cond.methodLink RL 86 yX0_pathAt, Cond.instanceMethod yX0_pathAt, Cond.selects RX0 yX0_pathAt yX0_pathAt, Cond.code yX0_pathAt cX0_pathAt 3 (some .int), Cond.methodLink RL 183 yX1_pathAt, Cond.instanceMethod yX1_pathAt, Cond.selects RX1 yX1_pathAt yX1_pathAt, Cond.code yX1_pathAt cX1_pathAt 3 (some .int)]
def wsL_law0 : List Cond := (wsL_law0_r1 ++ (wsL_law0_r2 ++ (wsL_law0_r3 ++ (wsL_law0_r4 ++ (wsL_law0_r5 ++ (wsL_law0_r6 ++ (wsL_law0_r7 ++ (wsL_law0_r8 ++ (wsL_law0_r9 ++ (wsL_law0_r10 ++ (wsL_law0_r11 ++ (wsL_law0_r12 ++ (wsL_law0_r13 ++ (wsL_law0_r14 ++ (wsL_law0_r15 ++ (wsL_law0_r16 ++ (wsL_law0_r17 ++ (wsL_law0_r18 ++ (wsL_law0_r19 ++ (wsL_law0_r20 ++ wsL_law0_r21)))))))))))))))))))) ++ wsX00 ++ wsX10 ++ ([] : List Cond)
def wsL_law : List Cond := wsL_law0 ++ (vx_atS RX0 80 "java/lang/IllegalArgumentException" ["java/lang/RuntimeException", "java/lang/Exception"]).filter goodWord ++ (vx_atS RX0 87 "java/lang/IllegalStateException" ["java/lang/RuntimeException", "java/lang/Exception"]).filter goodWord ++ (vx_atS RX0 176 "java/lang/IndexOutOfBoundsException" ["java/lang/RuntimeException", "java/lang/Exception"]).filter goodWord
set_option maxRecDepth 20000 in
theorem wsL_law0_r1_in : ∀ w ∈ wsL_law0_r1, w ∈ lw_tbl := mem_r [40, 41, 31, 479, 480, 32, 710, 42, 43, 44, 45, 46, 47, 105, 50, 51, 52, 53, 54, 55, 56, 57, 106, 58] (by decide +kernel)
theorem wsL_law0_r2_in : ∀ w ∈ wsL_law0_r2, w ∈ lw_tbl := mem_r [59, 60, 61, 62, 63, 48, 64, 65, 66, 67, 481, 482, 483, 484, 488, 489, 490, 491, 493, 494, 495, 496, 497, 498] (by decide +kernel)
theorem wsL_law0_r3_in : ∀ w ∈ wsL_law0_r3, w ∈ lw_tbl := mem_r [499, 501, 502, 503, 504, 485, 119, 120, 30, 121, 122, 123, 124, 125, 126, 127, 128, 203, 37, 219, 38, 129, 130, 131] (by decide +kernel)
theorem wsL_law0_r4_in : ∀ w ∈ wsL_law0_r4, w ∈ lw_tbl := mem_r [135, 36, 132, 133, 134, 550, 551, 552, 553, 487, 492, 554, 555, 556, 557, 558, 559, 546, 547, 548, 549, 235, 236, 237] (by decide +kernel)
theorem wsL_law0_r5_in : ∀ w ∈ wsL_law0_r5, w ∈ lw_tbl := mem_r [238, 239, 240, 241, 244, 246, 1, 247, 248, 250, 2, 251, 252, 254, 3, 255, 560, 561, 562, 563, 500, 486, 564, 566] (by decide +kernel)
theorem wsL_law0_r6_in : ∀ w ∈ wsL_law0_r6, w ∈ lw_tbl := mem_r [18, 567, 256, 257, 258, 259, 260, 261, 262, 263, 265, 4, 266, 267, 269, 5, 270, 272, 274, 6, 275, 276, 278, 7] (by decide +kernel)
theorem wsL_law0_r7_in : ∀ w ∈ wsL_law0_r7, w ∈ lw_tbl := mem_r [279, 280, 282, 8, 283, 288, 289, 284, 286, 9, 287, 290, 292, 10, 293, 294, 296, 11, 297, 568, 569, 570, 571, 572] (by decide +kernel)
theorem wsL_law0_r8_in : ∀ w ∈ wsL_law0_r8, w ∈ lw_tbl := mem_r [574, 19, 575, 576, 578, 20, 579, 580, 582, 21, 583, 584, 586, 22, 587, 299, 300, 301, 302, 303, 304, 305, 588, 589] (by decide +kernel)
theorem wsL_law0_r9_in : ∀ w ∈ wsL_law0_r9, w ∈ lw_tbl := mem_r [590, 591, 307, 308, 309, 310, 311, 312, 313, 315, 317, 12, 318, 592, 593, 594, 595, 596, 598, 23, 599, 319, 320, 321] (by decide +kernel)
theorem wsL_law0_r10_in : ∀ w ∈ wsL_law0_r10, w ∈ lw_tbl := mem_r [322, 323, 324, 325, 328, 329, 39, 330, 331, 332, 333, 334, 336, 13, 337, 600, 601, 602, 603, 604, 606, 24, 607, 338] (by decide +kernel)
theorem wsL_law0_r11_in : ∀ w ∈ wsL_law0_r11, w ∈ lw_tbl := mem_r [339, 340, 341, 342, 343, 344, 608, 609, 610, 611, 346, 347, 348, 349, 350, 351, 352, 353, 355, 14, 356, 612, 613, 614] (by decide +kernel)
theorem wsL_law0_r12_in : ∀ w ∈ wsL_law0_r12, w ∈ lw_tbl := mem_r [615, 616, 618, 25, 619, 359, 360, 361, 362, 363, 364, 365, 367, 369, 15, 370, 620, 621, 622, 623, 107, 108, 109, 110] (by decide +kernel)
theorem wsL_law0_r13_in : ∀ w ∈ wsL_law0_r13, w ∈ lw_tbl := mem_r [624, 625, 626, 627, 111, 112, 113, 114, 628, 629, 630, 631, 115, 116, 117, 118, 632, 633, 634, 635, 371, 372, 373, 374] (by decide +kernel)
theorem wsL_law0_r14_in : ∀ w ∈ wsL_law0_r14, w ∈ lw_tbl := mem_r [375, 376, 377, 636, 637, 638, 639, 640, 642, 26, 643, 644, 646, 27, 647, 378, 379, 380, 381, 382, 383, 384, 648, 649] (by decide +kernel)
theorem wsL_law0_r15_in : ∀ w ∈ wsL_law0_r15, w ∈ lw_tbl := mem_r [650, 651, 385, 386, 387, 388, 389, 390, 391, 652, 653, 654, 655, 392, 393, 394, 395, 396, 397, 398, 656, 657, 658, 659] (by decide +kernel)
theorem wsL_law0_r16_in : ∀ w ∈ wsL_law0_r16, w ∈ lw_tbl := mem_r [665, 660, 662, 28, 663, 664, 399, 400, 401, 402, 403, 404, 405, 666, 667, 668, 669, 406, 407, 408, 409, 410, 411, 412] (by decide +kernel)
theorem wsL_law0_r17_in : ∀ w ∈ wsL_law0_r17, w ∈ lw_tbl := mem_r [670, 671, 672, 673, 413, 414, 415, 416, 417, 418, 419, 674, 675, 676, 677, 420, 421, 422, 423, 424, 425, 426, 427, 429] (by decide +kernel)
theorem wsL_law0_r18_in : ∀ w ∈ wsL_law0_r18, w ∈ lw_tbl := mem_r [16, 430, 678, 679, 680, 681, 682, 684, 29, 685, 432, 433, 434, 435, 436, 437, 438, 686, 687, 688, 689, 439, 440, 441] (by decide +kernel)
theorem wsL_law0_r19_in : ∀ w ∈ wsL_law0_r19, w ∈ lw_tbl := mem_r [442, 443, 444, 445, 690, 691, 692, 693, 446, 447, 448, 449, 450, 451, 452, 694, 695, 696, 697, 453, 454, 455, 456, 457] (by decide +kernel)
theorem wsL_law0_r20_in : ∀ w ∈ wsL_law0_r20, w ∈ lw_tbl := mem_r [458, 459, 460, 462, 17, 463, 698, 699, 700, 701, 464, 465, 466, 467, 468, 469, 470, 702, 703, 704, 705, 471, 472, 473] (by decide +kernel)
theorem wsL_law0_r21_in : ∀ w ∈ wsL_law0_r21, w ∈ lw_tbl := mem_r [474, 475, 476, 477, 706, 707, 708, 709] (by decide +kernel)
theorem wsX00_in : ∀ w ∈ wsX00, w ∈ lw_tbl := by decide +kernel
theorem wsX10_in : ∀ w ∈ wsX10, w ∈ lw_tbl := by decide +kernel
theorem wsL_law_in0 : ∀ w ∈ wsL_law0, w ∈ lw_tbl := List.forall_mem_append.mpr ⟨List.forall_mem_append.mpr ⟨List.forall_mem_append.mpr ⟨(List.forall_mem_append.mpr ⟨wsL_law0_r1_in, (List.forall_mem_append.mpr ⟨wsL_law0_r2_in, (List.forall_mem_append.mpr ⟨wsL_law0_r3_in, (List.forall_mem_append.mpr ⟨wsL_law0_r4_in, (List.forall_mem_append.mpr ⟨wsL_law0_r5_in, (List.forall_mem_append.mpr ⟨wsL_law0_r6_in, (List.forall_mem_append.mpr ⟨wsL_law0_r7_in, (List.forall_mem_append.mpr ⟨wsL_law0_r8_in, (List.forall_mem_append.mpr ⟨wsL_law0_r9_in, (List.forall_mem_append.mpr ⟨wsL_law0_r10_in, (List.forall_mem_append.mpr ⟨wsL_law0_r11_in, (List.forall_mem_append.mpr ⟨wsL_law0_r12_in, (List.forall_mem_append.mpr ⟨wsL_law0_r13_in, (List.forall_mem_append.mpr ⟨wsL_law0_r14_in, (List.forall_mem_append.mpr ⟨wsL_law0_r15_in, (List.forall_mem_append.mpr ⟨wsL_law0_r16_in, (List.forall_mem_append.mpr ⟨wsL_law0_r17_in, (List.forall_mem_append.mpr ⟨wsL_law0_r18_in, (List.forall_mem_append.mpr ⟨wsL_law0_r19_in, (List.forall_mem_append.mpr ⟨wsL_law0_r20_in, wsL_law0_r21_in⟩)⟩)⟩)⟩)⟩)⟩)⟩)⟩)⟩)⟩)⟩)⟩)⟩)⟩)⟩)⟩)⟩)⟩)⟩)⟩), wsX00_in⟩, wsX10_in⟩, fun _ h => nomatch h⟩
theorem wsL_law_x0 : ∀ w ∈ (vx_atS RX0 80 "java/lang/IllegalArgumentException" ["java/lang/RuntimeException", "java/lang/Exception"]).filter goodWord, w ∈ lw_tbl := by decide +kernel
theorem wsL_law_x1 : ∀ w ∈ (vx_atS RX0 87 "java/lang/IllegalStateException" ["java/lang/RuntimeException", "java/lang/Exception"]).filter goodWord, w ∈ lw_tbl := by decide +kernel
theorem wsL_law_x2 : ∀ w ∈ (vx_atS RX0 176 "java/lang/IndexOutOfBoundsException" ["java/lang/RuntimeException", "java/lang/Exception"]).filter goodWord, w ∈ lw_tbl := by decide +kernel
theorem wsL_law_in : ∀ w ∈ wsL_law, w ∈ lw_tbl := fun w h => (List.mem_append.mp h).elim (fun h => (List.mem_append.mp h).elim (fun h => (List.mem_append.mp h).elim (fun h => wsL_law_in0 w h) (fun h => wsL_law_x0 w h)) (fun h => wsL_law_x1 w h)) (fun h => wsL_law_x2 w h)
theorem inlX0 : ∀ w ∈ wsX00, w ∈ wsL_law := fun _ h => List.mem_append_left _ (List.mem_append_left _ (List.mem_append_left _ (List.mem_append_left _ (List.mem_append_left _ (List.mem_append_right _ h)))))
theorem inX0 : ∀ w ∈ wsX00, w ∈ lw_tbl := fun w h => wsL_law_in w (inlX0 w h)
theorem inlX1 : ∀ w ∈ wsX10, w ∈ wsL_law := fun _ h => List.mem_append_left _ (List.mem_append_left _ (List.mem_append_left _ (List.mem_append_left _ (List.mem_append_right _ h))))
theorem inX1 : ∀ w ∈ wsX10, w ∈ lw_tbl := fun w h => wsL_law_in w (inlX1 w h)
theorem inJ9 : ∀ w ∈ wsJ90, w ∈ lw_tbl := by decide +kernel
theorem inJ0 : ∀ w ∈ wsJ00, w ∈ lw_tbl := by decide +kernel
abbrev vwCl : List vw_C := [(RX0, TX0, 18), (RX1, TX1, 20)]
end
section
set_option maxRecDepth 20000 in
theorem ggL_addStep_X0_addStep : GoodIn wsL_addStep wsX0_addStep := goodIn_ca (goodIn_ca (goodIn_ca (goodIn_r _ [8, 9, 10, 11, 12, 13, 14, 15, 16, 17, 18, 19, 20, 7, 21, 22, 23, 24, 25, 26, 27, 28, 29, 30, 31, 32, 33, 34, 35, 36, 37, 38, 39, 40, 41, 42, 43, 44] (by decide +kernel) (by decide +kernel)) (goodIn_sub (fun _ h => List.mem_cons_of_mem _ (List.mem_append_left _ (List.mem_append_left _ (List.mem_append_right _ h)))) (by decide +kernel))) (goodIn_sub (fun _ h => List.mem_cons_of_mem _ (List.mem_append_left _ (List.mem_append_right _ h))) (by decide +kernel))) (goodIn_sub (fun _ h => List.mem_cons_of_mem _ (List.mem_append_right _ h)) (by decide +kernel))
set_option maxRecDepth 20000 in
theorem gL_addStep_X0_addStep : GoodIn wsL_addStep (wsV RL 7 RX0 yX0_addStep wsX0_addStep) := goodIn_app (goodIn_of _ (by decide +kernel)) ggL_addStep_X0_addStep
theorem dL_addStep_0 : decode cL_addStep 0 = .ok (.aload 5, 2) := by decide +kernel
theorem dL_addStep_2 : decode cL_addStep 2 = .ok (.iconst 0, 1) := by decide +kernel
theorem dL_addStep_3 : decode cL_addStep 3 = .ok (.aload_n 0, 1) := by decide +kernel
theorem dL_addStep_4 : decode cL_addStep 4 = .ok (.iload_n 1, 1) := by decide +kernel
theorem dL_addStep_5 : decode cL_addStep 5 = .ok (.iload_n 2, 1) := by decide +kernel
theorem dL_addStep_6 : decode cL_addStep 6 = .ok (.iload_n 3, 1) := by decide +kernel
theorem dL_addStep_7 : decode cL_addStep 7 = .ok (.iload 4, 2) := by decide +kernel
theorem dL_addStep_9 : decode cL_addStep 9 = .ok (.invokevirtual 7, 3) := by decide +kernel
theorem dL_addStep_12 : decode cL_addStep 12 = .ok (.i2l, 1) := by decide +kernel
theorem dL_addStep_13 : decode cL_addStep 13 = .ok (.lastore, 1) := by decide +kernel
theorem dL_addStep_14 : decode cL_addStep 14 = .ok (.goto 15, 3) := by decide +kernel
theorem dL_addStep_17 : decode cL_addStep 17 = .ok (.astore 6, 2) := by decide +kernel
theorem dL_addStep_19 : decode cL_addStep 19 = .ok (.iconst 1, 1) := by decide +kernel
theorem dL_addStep_20 : decode cL_addStep 20 = .ok (.ireturn, 1) := by decide +kernel
theorem dL_addStep_21 : decode cL_addStep 21 = .ok (.astore 6, 2) := by decide +kernel
theorem dL_addStep_23 : decode cL_addStep 23 = .ok (.iconst 2, 1) := by decide +kernel
theorem dL_addStep_24 : decode cL_addStep 24 = .ok (.ireturn, 1) := by decide +kernel
theorem dL_addStep_25 : decode cL_addStep 25 = .ok (.astore 6, 2) := by decide +kernel
theorem dL_addStep_27 : decode cL_addStep 27 = .ok (.iconst 3, 1) := by decide +kernel
theorem dL_addStep_28 : decode cL_addStep 28 = .ok (.ireturn, 1) := by decide +kernel
theorem dL_addStep_29 : decode cL_addStep 29 = .ok (.iconst 0, 1) := by decide +kernel
theorem dL_addStep_30 : decode cL_addStep 30 = .ok (.ireturn, 1) := by decide +kernel
set_option maxRecDepth 20000 in
theorem ggL_enter_X0_enter : GoodIn wsL_enter wsX0_enter := goodIn_ca (goodIn_ca (goodIn_r _ [7, 8, 9, 10, 11, 12, 13, 14, 15, 16, 17, 6, 18, 19, 20, 21, 22, 23, 24, 25, 26, 27, 28, 29, 30, 31, 32, 33, 34, 35, 36, 37, 38, 39, 40, 41, 42, 43, 44, 45, 46, 47, 48, 49, 50, 51, 52, 53, 54, 55, 56, 57, 58] (by decide +kernel) (by decide +kernel)) (goodIn_sub (fun _ h => List.mem_cons_of_mem _ (List.mem_append_left _ (List.mem_append_right _ h))) (by decide +kernel))) (goodIn_sub (fun _ h => List.mem_cons_of_mem _ (List.mem_append_right _ h)) (by decide +kernel))
set_option maxRecDepth 20000 in
theorem gL_enter_X0_enter : GoodIn wsL_enter (wsV RL 19 RX0 yX0_enter wsX0_enter) := goodIn_app (goodIn_of _ (by decide +kernel)) ggL_enter_X0_enter
theorem dL_enter_0 : decode cL_enter 0 = .ok (.aload_n 2, 1) := by decide +kernel
theorem dL_enter_1 : decode cL_enter 1 = .ok (.iconst 0, 1) := by decide +kernel
theorem dL_enter_2 : decode cL_enter 2 = .ok (.aload_n 0, 1) := by decide +kernel
theorem dL_enter_3 : decode cL_enter 3 = .ok (.iload_n 1, 1) := by decide +kernel
theorem dL_enter_4 : decode cL_enter 4 = .ok (.invokevirtual 19, 3) := by decide +kernel
theorem dL_enter_7 : decode cL_enter 7 = .ok (.i2l, 1) := by decide +kernel
theorem dL_enter_8 : decode cL_enter 8 = .ok (.lastore, 1) := by decide +kernel
theorem dL_enter_9 : decode cL_enter 9 = .ok (.goto 9, 3) := by decide +kernel
theorem dL_enter_12 : decode cL_enter 12 = .ok (.astore_n 3, 1) := by decide +kernel
theorem dL_enter_13 : decode cL_enter 13 = .ok (.iconst 1, 1) := by decide +kernel
theorem dL_enter_14 : decode cL_enter 14 = .ok (.ireturn, 1) := by decide +kernel
theorem dL_enter_15 : decode cL_enter 15 = .ok (.astore_n 3, 1) := by decide +kernel
theorem dL_enter_16 : decode cL_enter 16 = .ok (.iconst 2, 1) := by decide +kernel
theorem dL_enter_17 : decode cL_enter 17 = .ok (.ireturn, 1) := by decide +kernel
theorem dL_enter_18 : decode cL_enter 18 = .ok (.iconst 0, 1) := by decide +kernel
theorem dL_enter_19 : decode cL_enter 19 = .ok (.ireturn, 1) := by decide +kernel
set_option maxRecDepth 20000 in
theorem ggL_start_X0_start : GoodIn wsL_start wsX0_start := goodIn_ca (goodIn_ca (goodIn_r _ [7, 8, 9, 10, 11, 12, 13, 14, 15, 16, 17, 18, 6, 19, 20, 21, 22, 23, 24, 25, 26, 27, 28, 29, 30, 31, 32, 33, 34, 35, 36, 37, 38, 39, 40, 41, 42, 43, 44, 45, 46, 47, 48, 49, 50, 51, 52, 53, 54, 55, 56, 57, 58, 59, 60, 61, 62, 63, 64, 65, 66, 67, 68, 69, 70, 71, 72, 73] (by decide +kernel) (by decide +kernel)) (goodIn_sub (fun _ h => List.mem_cons_of_mem _ (List.mem_append_left _ (List.mem_append_right _ h))) (by decide +kernel))) (goodIn_sub (fun _ h => List.mem_cons_of_mem _ (List.mem_append_right _ h)) (by decide +kernel))
set_option maxRecDepth 20000 in
theorem gL_start_X0_start : GoodIn wsL_start (wsV RL 23 RX0 yX0_start wsX0_start) := goodIn_app (goodIn_of _ (by decide +kernel)) ggL_start_X0_start
theorem dL_start_0 : decode cL_start 0 = .ok (.aload_n 2, 1) := by decide +kernel
theorem dL_start_1 : decode cL_start 1 = .ok (.iconst 0, 1) := by decide +kernel
theorem dL_start_2 : decode cL_start 2 = .ok (.aload_n 0, 1) := by decide +kernel
theorem dL_start_3 : decode cL_start 3 = .ok (.iload_n 1, 1) := by decide +kernel
theorem dL_start_4 : decode cL_start 4 = .ok (.invokevirtual 23, 3) := by decide +kernel
theorem dL_start_7 : decode cL_start 7 = .ok (.i2l, 1) := by decide +kernel
theorem dL_start_8 : decode cL_start 8 = .ok (.lastore, 1) := by decide +kernel
theorem dL_start_9 : decode cL_start 9 = .ok (.goto 9, 3) := by decide +kernel
theorem dL_start_12 : decode cL_start 12 = .ok (.astore_n 3, 1) := by decide +kernel
theorem dL_start_13 : decode cL_start 13 = .ok (.iconst 1, 1) := by decide +kernel
theorem dL_start_14 : decode cL_start 14 = .ok (.ireturn, 1) := by decide +kernel
theorem dL_start_15 : decode cL_start 15 = .ok (.astore_n 3, 1) := by decide +kernel
theorem dL_start_16 : decode cL_start 16 = .ok (.iconst 2, 1) := by decide +kernel
theorem dL_start_17 : decode cL_start 17 = .ok (.ireturn, 1) := by decide +kernel
theorem dL_start_18 : decode cL_start 18 = .ok (.iconst 0, 1) := by decide +kernel
theorem dL_start_19 : decode cL_start 19 = .ok (.ireturn, 1) := by decide +kernel
set_option maxRecDepth 20000 in
theorem ggL_rework_X0_rework : GoodIn wsL_rework wsX0_rework := goodIn_ca (goodIn_ca (goodIn_r _ [7, 8, 9, 10, 11, 12, 13, 14, 15, 16, 17, 6, 18, 19, 20, 21, 22, 23, 24, 25, 26, 27, 28, 29, 30, 31, 32, 33, 34, 35, 36, 37, 38, 39, 40, 41, 42, 43, 44, 45, 46, 47, 48, 49, 50, 51, 52, 53, 54] (by decide +kernel) (by decide +kernel)) (goodIn_sub (fun _ h => List.mem_cons_of_mem _ (List.mem_append_left _ (List.mem_append_right _ h))) (by decide +kernel))) (goodIn_sub (fun _ h => List.mem_cons_of_mem _ (List.mem_append_right _ h)) (by decide +kernel))
set_option maxRecDepth 20000 in
theorem gL_rework_X0_rework : GoodIn wsL_rework (wsV RL 26 RX0 yX0_rework wsX0_rework) := goodIn_app (goodIn_of _ (by decide +kernel)) ggL_rework_X0_rework
theorem dL_rework_0 : decode cL_rework 0 = .ok (.aload_n 2, 1) := by decide +kernel
theorem dL_rework_1 : decode cL_rework 1 = .ok (.iconst 0, 1) := by decide +kernel
theorem dL_rework_2 : decode cL_rework 2 = .ok (.aload_n 0, 1) := by decide +kernel
theorem dL_rework_3 : decode cL_rework 3 = .ok (.iload_n 1, 1) := by decide +kernel
theorem dL_rework_4 : decode cL_rework 4 = .ok (.invokevirtual 26, 3) := by decide +kernel
theorem dL_rework_7 : decode cL_rework 7 = .ok (.i2l, 1) := by decide +kernel
theorem dL_rework_8 : decode cL_rework 8 = .ok (.lastore, 1) := by decide +kernel
theorem dL_rework_9 : decode cL_rework 9 = .ok (.goto 9, 3) := by decide +kernel
theorem dL_rework_12 : decode cL_rework 12 = .ok (.astore_n 3, 1) := by decide +kernel
theorem dL_rework_13 : decode cL_rework 13 = .ok (.iconst 1, 1) := by decide +kernel
theorem dL_rework_14 : decode cL_rework 14 = .ok (.ireturn, 1) := by decide +kernel
theorem dL_rework_15 : decode cL_rework 15 = .ok (.astore_n 3, 1) := by decide +kernel
theorem dL_rework_16 : decode cL_rework 16 = .ok (.iconst 2, 1) := by decide +kernel
theorem dL_rework_17 : decode cL_rework 17 = .ok (.ireturn, 1) := by decide +kernel
theorem dL_rework_18 : decode cL_rework 18 = .ok (.iconst 0, 1) := by decide +kernel
theorem dL_rework_19 : decode cL_rework 19 = .ok (.ireturn, 1) := by decide +kernel
set_option maxRecDepth 20000 in
theorem ggL_split_X0_split : GoodIn wsL_split wsX0_split := goodIn_ca (goodIn_ca (goodIn_ca (goodIn_r _ [8, 9, 10, 11, 12, 13, 14, 15, 16, 17, 18, 19, 20, 21, 22, 7, 23, 24, 25, 26, 27, 28, 29, 30, 31, 32, 33, 34, 35, 36, 37, 38, 39, 40, 41, 42, 43, 44, 45, 46, 47, 48, 49, 50, 51, 52, 53, 54, 55, 56, 57, 58, 59, 60, 61, 62, 63, 64, 65, 66, 67] (by decide +kernel) (by decide +kernel)) (goodIn_sub (fun _ h => List.mem_cons_of_mem _ (List.mem_append_left _ (List.mem_append_left _ (List.mem_append_right _ h)))) (by decide +kernel))) (goodIn_sub (fun _ h => List.mem_cons_of_mem _ (List.mem_append_left _ (List.mem_append_right _ h))) (by decide +kernel))) (goodIn_sub (fun _ h => List.mem_cons_of_mem _ (List.mem_append_right _ h)) (by decide +kernel))
set_option maxRecDepth 20000 in
theorem gL_split_X0_split : GoodIn wsL_split (wsV RL 29 RX0 yX0_split wsX0_split) := goodIn_app (goodIn_of _ (by decide +kernel)) ggL_split_X0_split
theorem dL_split_0 : decode cL_split 0 = .ok (.aload_n 3, 1) := by decide +kernel
theorem dL_split_1 : decode cL_split 1 = .ok (.iconst 0, 1) := by decide +kernel
theorem dL_split_2 : decode cL_split 2 = .ok (.aload_n 0, 1) := by decide +kernel
theorem dL_split_3 : decode cL_split 3 = .ok (.iload_n 1, 1) := by decide +kernel
theorem dL_split_4 : decode cL_split 4 = .ok (.iload_n 2, 1) := by decide +kernel
theorem dL_split_5 : decode cL_split 5 = .ok (.invokevirtual 29, 3) := by decide +kernel
theorem dL_split_8 : decode cL_split 8 = .ok (.i2l, 1) := by decide +kernel
theorem dL_split_9 : decode cL_split 9 = .ok (.lastore, 1) := by decide +kernel
theorem dL_split_10 : decode cL_split 10 = .ok (.goto 15, 3) := by decide +kernel
theorem dL_split_13 : decode cL_split 13 = .ok (.astore 4, 2) := by decide +kernel
theorem dL_split_15 : decode cL_split 15 = .ok (.iconst 1, 1) := by decide +kernel
theorem dL_split_16 : decode cL_split 16 = .ok (.ireturn, 1) := by decide +kernel
theorem dL_split_17 : decode cL_split 17 = .ok (.astore 4, 2) := by decide +kernel
theorem dL_split_19 : decode cL_split 19 = .ok (.iconst 2, 1) := by decide +kernel
theorem dL_split_20 : decode cL_split 20 = .ok (.ireturn, 1) := by decide +kernel
theorem dL_split_21 : decode cL_split 21 = .ok (.astore 4, 2) := by decide +kernel
theorem dL_split_23 : decode cL_split 23 = .ok (.iconst 3, 1) := by decide +kernel
theorem dL_split_24 : decode cL_split 24 = .ok (.ireturn, 1) := by decide +kernel
theorem dL_split_25 : decode cL_split 25 = .ok (.iconst 0, 1) := by decide +kernel
theorem dL_split_26 : decode cL_split 26 = .ok (.ireturn, 1) := by decide +kernel
set_option maxRecDepth 20000 in
theorem ggL_merge_X0_merge : GoodIn wsL_merge wsX0_merge := goodIn_ca (goodIn_ca (goodIn_ca (goodIn_r _ [8, 9, 10, 11, 12, 13, 14, 15, 16, 17, 18, 19, 20, 21, 22, 23, 24, 25, 26, 7, 27, 28, 29, 30, 31, 32, 33, 34, 35, 36, 37, 38, 39, 40, 41, 42, 43, 44, 45, 46, 47, 48, 49, 50, 51, 52, 53, 54, 55, 56, 57, 58, 59, 60, 61, 62, 63, 64, 65, 66, 67, 68, 69, 70, 71, 72, 73, 74] (by decide +kernel) (by decide +kernel)) (goodIn_sub (fun _ h => List.mem_cons_of_mem _ (List.mem_append_left _ (List.mem_append_left _ (List.mem_append_right _ h)))) (by decide +kernel))) (goodIn_sub (fun _ h => List.mem_cons_of_mem _ (List.mem_append_left _ (List.mem_append_right _ h))) (by decide +kernel))) (goodIn_sub (fun _ h => List.mem_cons_of_mem _ (List.mem_append_right _ h)) (by decide +kernel))
set_option maxRecDepth 20000 in
theorem gL_merge_X0_merge : GoodIn wsL_merge (wsV RL 33 RX0 yX0_merge wsX0_merge) := goodIn_app (goodIn_of _ (by decide +kernel)) ggL_merge_X0_merge
theorem dL_merge_0 : decode cL_merge 0 = .ok (.aload_n 3, 1) := by decide +kernel
theorem dL_merge_1 : decode cL_merge 1 = .ok (.iconst 0, 1) := by decide +kernel
theorem dL_merge_2 : decode cL_merge 2 = .ok (.aload_n 0, 1) := by decide +kernel
theorem dL_merge_3 : decode cL_merge 3 = .ok (.iload_n 1, 1) := by decide +kernel
theorem dL_merge_4 : decode cL_merge 4 = .ok (.iload_n 2, 1) := by decide +kernel
theorem dL_merge_5 : decode cL_merge 5 = .ok (.invokevirtual 33, 3) := by decide +kernel
theorem dL_merge_8 : decode cL_merge 8 = .ok (.i2l, 1) := by decide +kernel
theorem dL_merge_9 : decode cL_merge 9 = .ok (.lastore, 1) := by decide +kernel
theorem dL_merge_10 : decode cL_merge 10 = .ok (.goto 15, 3) := by decide +kernel
theorem dL_merge_13 : decode cL_merge 13 = .ok (.astore 4, 2) := by decide +kernel
theorem dL_merge_15 : decode cL_merge 15 = .ok (.iconst 1, 1) := by decide +kernel
theorem dL_merge_16 : decode cL_merge 16 = .ok (.ireturn, 1) := by decide +kernel
theorem dL_merge_17 : decode cL_merge 17 = .ok (.astore 4, 2) := by decide +kernel
theorem dL_merge_19 : decode cL_merge 19 = .ok (.iconst 2, 1) := by decide +kernel
theorem dL_merge_20 : decode cL_merge 20 = .ok (.ireturn, 1) := by decide +kernel
theorem dL_merge_21 : decode cL_merge 21 = .ok (.astore 4, 2) := by decide +kernel
theorem dL_merge_23 : decode cL_merge 23 = .ok (.iconst 3, 1) := by decide +kernel
theorem dL_merge_24 : decode cL_merge 24 = .ok (.ireturn, 1) := by decide +kernel
theorem dL_merge_25 : decode cL_merge 25 = .ok (.iconst 0, 1) := by decide +kernel
theorem dL_merge_26 : decode cL_merge 26 = .ok (.ireturn, 1) := by decide +kernel
set_option maxRecDepth 20000 in
theorem ggL_hold_X0_hold : GoodIn wsL_hold wsX0_hold := goodIn_ca (goodIn_ca (goodIn_r _ [7, 8, 9, 10, 11, 12, 13, 14, 6, 15, 16, 17, 18, 19, 20, 21, 22, 23, 24, 25, 26, 27, 28, 29, 30, 31, 32, 33, 34, 35, 36, 37, 38, 39, 40] (by decide +kernel) (by decide +kernel)) (goodIn_sub (fun _ h => List.mem_cons_of_mem _ (List.mem_append_left _ (List.mem_append_right _ h))) (by decide +kernel))) (goodIn_sub (fun _ h => List.mem_cons_of_mem _ (List.mem_append_right _ h)) (by decide +kernel))
set_option maxRecDepth 20000 in
theorem gL_hold_X0_hold : GoodIn wsL_hold (wsV RL 36 RX0 yX0_hold wsX0_hold) := goodIn_app (goodIn_of _ (by decide +kernel)) ggL_hold_X0_hold
theorem dL_hold_0 : decode cL_hold 0 = .ok (.aload_n 3, 1) := by decide +kernel
theorem dL_hold_1 : decode cL_hold 1 = .ok (.iconst 0, 1) := by decide +kernel
theorem dL_hold_2 : decode cL_hold 2 = .ok (.aload_n 0, 1) := by decide +kernel
theorem dL_hold_3 : decode cL_hold 3 = .ok (.iload_n 1, 1) := by decide +kernel
theorem dL_hold_4 : decode cL_hold 4 = .ok (.iload_n 2, 1) := by decide +kernel
theorem dL_hold_5 : decode cL_hold 5 = .ok (.invokevirtual 36, 3) := by decide +kernel
theorem dL_hold_8 : decode cL_hold 8 = .ok (.ifCond .eq 7, 3) := by decide +kernel
theorem dL_hold_11 : decode cL_hold 11 = .ok (.lconst 1, 1) := by decide +kernel
theorem dL_hold_12 : decode cL_hold 12 = .ok (.goto 4, 3) := by decide +kernel
theorem dL_hold_15 : decode cL_hold 15 = .ok (.lconst 0, 1) := by decide +kernel
theorem dL_hold_16 : decode cL_hold 16 = .ok (.lastore, 1) := by decide +kernel
theorem dL_hold_17 : decode cL_hold 17 = .ok (.goto 11, 3) := by decide +kernel
theorem dL_hold_20 : decode cL_hold 20 = .ok (.astore 4, 2) := by decide +kernel
theorem dL_hold_22 : decode cL_hold 22 = .ok (.iconst 1, 1) := by decide +kernel
theorem dL_hold_23 : decode cL_hold 23 = .ok (.ireturn, 1) := by decide +kernel
theorem dL_hold_24 : decode cL_hold 24 = .ok (.astore 4, 2) := by decide +kernel
theorem dL_hold_26 : decode cL_hold 26 = .ok (.iconst 2, 1) := by decide +kernel
theorem dL_hold_27 : decode cL_hold 27 = .ok (.ireturn, 1) := by decide +kernel
theorem dL_hold_28 : decode cL_hold 28 = .ok (.iconst 0, 1) := by decide +kernel
theorem dL_hold_29 : decode cL_hold 29 = .ok (.ireturn, 1) := by decide +kernel
set_option maxRecDepth 20000 in
theorem ggL_scrap_X0_scrap : GoodIn wsL_scrap wsX0_scrap := goodIn_ca (goodIn_ca (goodIn_r _ [7, 8, 9, 10, 11, 12, 13, 14, 15, 6, 16, 17, 18, 19, 20, 21, 22, 23, 24, 25, 26, 27, 28, 29, 30, 31, 32, 33, 34, 35, 36, 37, 38, 39, 40, 41, 42, 43, 44, 45, 46, 47] (by decide +kernel) (by decide +kernel)) (goodIn_sub (fun _ h => List.mem_cons_of_mem _ (List.mem_append_left _ (List.mem_append_right _ h))) (by decide +kernel))) (goodIn_sub (fun _ h => List.mem_cons_of_mem _ (List.mem_append_right _ h)) (by decide +kernel))
set_option maxRecDepth 20000 in
theorem gL_scrap_X0_scrap : GoodIn wsL_scrap (wsV RL 40 RX0 yX0_scrap wsX0_scrap) := goodIn_app (goodIn_of _ (by decide +kernel)) ggL_scrap_X0_scrap
theorem dL_scrap_0 : decode cL_scrap 0 = .ok (.aload_n 2, 1) := by decide +kernel
theorem dL_scrap_1 : decode cL_scrap 1 = .ok (.iconst 0, 1) := by decide +kernel
theorem dL_scrap_2 : decode cL_scrap 2 = .ok (.aload_n 0, 1) := by decide +kernel
theorem dL_scrap_3 : decode cL_scrap 3 = .ok (.iload_n 1, 1) := by decide +kernel
theorem dL_scrap_4 : decode cL_scrap 4 = .ok (.invokevirtual 40, 3) := by decide +kernel
theorem dL_scrap_7 : decode cL_scrap 7 = .ok (.i2l, 1) := by decide +kernel
theorem dL_scrap_8 : decode cL_scrap 8 = .ok (.lastore, 1) := by decide +kernel
theorem dL_scrap_9 : decode cL_scrap 9 = .ok (.goto 9, 3) := by decide +kernel
theorem dL_scrap_12 : decode cL_scrap 12 = .ok (.astore_n 3, 1) := by decide +kernel
theorem dL_scrap_13 : decode cL_scrap 13 = .ok (.iconst 1, 1) := by decide +kernel
theorem dL_scrap_14 : decode cL_scrap 14 = .ok (.ireturn, 1) := by decide +kernel
theorem dL_scrap_15 : decode cL_scrap 15 = .ok (.astore_n 3, 1) := by decide +kernel
theorem dL_scrap_16 : decode cL_scrap 16 = .ok (.iconst 2, 1) := by decide +kernel
theorem dL_scrap_17 : decode cL_scrap 17 = .ok (.ireturn, 1) := by decide +kernel
theorem dL_scrap_18 : decode cL_scrap 18 = .ok (.iconst 0, 1) := by decide +kernel
theorem dL_scrap_19 : decode cL_scrap 19 = .ok (.ireturn, 1) := by decide +kernel
set_option maxRecDepth 20000 in
theorem ggL_advance_X0_advance : GoodIn wsL_advance wsX0_advance := goodIn_ca (goodIn_r _ [6, 7, 8, 9, 10, 11, 12, 13, 14, 5, 15, 16, 17, 18, 19, 20, 21, 22, 23, 24, 25, 26, 27, 28, 29, 30, 31, 32, 33, 34, 35, 36, 37, 38, 39, 40, 41, 42, 43, 44, 45, 46, 47] (by decide +kernel) (by decide +kernel)) (goodIn_sub (fun _ h => List.mem_cons_of_mem _ (List.mem_append_right _ h)) (by decide +kernel))
set_option maxRecDepth 20000 in
theorem gL_advance_X0_advance : GoodIn wsL_advance (wsV RL 43 RX0 yX0_advance wsX0_advance) := goodIn_app (goodIn_of _ (by decide +kernel)) ggL_advance_X0_advance
theorem dL_advance_0 : decode cL_advance 0 = .ok (.aload_n 2, 1) := by decide +kernel
theorem dL_advance_1 : decode cL_advance 1 = .ok (.iconst 0, 1) := by decide +kernel
theorem dL_advance_2 : decode cL_advance 2 = .ok (.aload_n 0, 1) := by decide +kernel
theorem dL_advance_3 : decode cL_advance 3 = .ok (.iload_n 1, 1) := by decide +kernel
theorem dL_advance_4 : decode cL_advance 4 = .ok (.invokevirtual 43, 3) := by decide +kernel
theorem dL_advance_7 : decode cL_advance 7 = .ok (.i2l, 1) := by decide +kernel
theorem dL_advance_8 : decode cL_advance 8 = .ok (.lastore, 1) := by decide +kernel
theorem dL_advance_9 : decode cL_advance 9 = .ok (.goto 6, 3) := by decide +kernel
theorem dL_advance_12 : decode cL_advance 12 = .ok (.astore_n 3, 1) := by decide +kernel
theorem dL_advance_13 : decode cL_advance 13 = .ok (.iconst 1, 1) := by decide +kernel
theorem dL_advance_14 : decode cL_advance 14 = .ok (.ireturn, 1) := by decide +kernel
theorem dL_advance_15 : decode cL_advance 15 = .ok (.iconst 0, 1) := by decide +kernel
theorem dL_advance_16 : decode cL_advance 16 = .ok (.ireturn, 1) := by decide +kernel
set_option maxRecDepth 20000 in
theorem ggL_state_X0_state : GoodIn wsL_state wsX0_state := goodIn_ca (goodIn_r _ [6, 7, 8, 9, 10, 5, 11, 12, 13, 14, 15, 16, 17, 18, 19, 20, 21, 22, 23, 24, 25, 26, 27, 28, 29, 30, 31, 32, 33, 34, 35, 36] (by decide +kernel) (by decide +kernel)) (goodIn_sub (fun _ h => List.mem_cons_of_mem _ (List.mem_append_right _ h)) (by decide +kernel))
set_option maxRecDepth 20000 in
theorem gL_state_X0_state : GoodIn wsL_state (wsV RL 46 RX0 yX0_state wsX0_state) := goodIn_app (goodIn_of _ (by decide +kernel)) ggL_state_X0_state
theorem dL_state_0 : decode cL_state 0 = .ok (.aload_n 2, 1) := by decide +kernel
theorem dL_state_1 : decode cL_state 1 = .ok (.iconst 0, 1) := by decide +kernel
theorem dL_state_2 : decode cL_state 2 = .ok (.aload_n 0, 1) := by decide +kernel
theorem dL_state_3 : decode cL_state 3 = .ok (.iload_n 1, 1) := by decide +kernel
theorem dL_state_4 : decode cL_state 4 = .ok (.invokevirtual 46, 3) := by decide +kernel
theorem dL_state_7 : decode cL_state 7 = .ok (.i2l, 1) := by decide +kernel
theorem dL_state_8 : decode cL_state 8 = .ok (.lastore, 1) := by decide +kernel
theorem dL_state_9 : decode cL_state 9 = .ok (.goto 6, 3) := by decide +kernel
theorem dL_state_12 : decode cL_state 12 = .ok (.astore_n 3, 1) := by decide +kernel
theorem dL_state_13 : decode cL_state 13 = .ok (.iconst 1, 1) := by decide +kernel
theorem dL_state_14 : decode cL_state 14 = .ok (.ireturn, 1) := by decide +kernel
theorem dL_state_15 : decode cL_state 15 = .ok (.iconst 0, 1) := by decide +kernel
theorem dL_state_16 : decode cL_state 16 = .ok (.ireturn, 1) := by decide +kernel
set_option maxRecDepth 20000 in
theorem ggL_stepOf_X0_stepOf : GoodIn wsL_stepOf wsX0_stepOf := goodIn_ca (goodIn_r _ [6, 7, 8, 9, 10, 5, 11, 12, 13, 14, 15, 16, 17, 18, 19, 20, 21, 22, 23, 24, 25, 26, 27, 28, 29, 30, 31, 32, 33, 34, 35, 36] (by decide +kernel) (by decide +kernel)) (goodIn_sub (fun _ h => List.mem_cons_of_mem _ (List.mem_append_right _ h)) (by decide +kernel))
set_option maxRecDepth 20000 in
theorem gL_stepOf_X0_stepOf : GoodIn wsL_stepOf (wsV RL 49 RX0 yX0_stepOf wsX0_stepOf) := goodIn_app (goodIn_of _ (by decide +kernel)) ggL_stepOf_X0_stepOf
theorem dL_stepOf_0 : decode cL_stepOf 0 = .ok (.aload_n 2, 1) := by decide +kernel
theorem dL_stepOf_1 : decode cL_stepOf 1 = .ok (.iconst 0, 1) := by decide +kernel
theorem dL_stepOf_2 : decode cL_stepOf 2 = .ok (.aload_n 0, 1) := by decide +kernel
theorem dL_stepOf_3 : decode cL_stepOf 3 = .ok (.iload_n 1, 1) := by decide +kernel
theorem dL_stepOf_4 : decode cL_stepOf 4 = .ok (.invokevirtual 49, 3) := by decide +kernel
theorem dL_stepOf_7 : decode cL_stepOf 7 = .ok (.i2l, 1) := by decide +kernel
theorem dL_stepOf_8 : decode cL_stepOf 8 = .ok (.lastore, 1) := by decide +kernel
theorem dL_stepOf_9 : decode cL_stepOf 9 = .ok (.goto 6, 3) := by decide +kernel
theorem dL_stepOf_12 : decode cL_stepOf 12 = .ok (.astore_n 3, 1) := by decide +kernel
theorem dL_stepOf_13 : decode cL_stepOf 13 = .ok (.iconst 1, 1) := by decide +kernel
theorem dL_stepOf_14 : decode cL_stepOf 14 = .ok (.ireturn, 1) := by decide +kernel
theorem dL_stepOf_15 : decode cL_stepOf 15 = .ok (.iconst 0, 1) := by decide +kernel
theorem dL_stepOf_16 : decode cL_stepOf 16 = .ok (.ireturn, 1) := by decide +kernel
set_option maxRecDepth 20000 in
theorem ggL_size_X0_size : GoodIn wsL_size wsX0_size := goodIn_ca (goodIn_r _ [6, 7, 8, 9, 10, 5, 11, 12, 13, 14, 15, 16, 17, 18, 19, 20, 21, 22, 23, 24, 25, 26, 27, 28, 29, 30, 31, 32, 33, 34, 35, 36] (by decide +kernel) (by decide +kernel)) (goodIn_sub (fun _ h => List.mem_cons_of_mem _ (List.mem_append_right _ h)) (by decide +kernel))
set_option maxRecDepth 20000 in
theorem gL_size_X0_size : GoodIn wsL_size (wsV RL 52 RX0 yX0_size wsX0_size) := goodIn_app (goodIn_of _ (by decide +kernel)) ggL_size_X0_size
theorem dL_size_0 : decode cL_size 0 = .ok (.aload_n 2, 1) := by decide +kernel
theorem dL_size_1 : decode cL_size 1 = .ok (.iconst 0, 1) := by decide +kernel
theorem dL_size_2 : decode cL_size 2 = .ok (.aload_n 0, 1) := by decide +kernel
theorem dL_size_3 : decode cL_size 3 = .ok (.iload_n 1, 1) := by decide +kernel
theorem dL_size_4 : decode cL_size 4 = .ok (.invokevirtual 52, 3) := by decide +kernel
theorem dL_size_7 : decode cL_size 7 = .ok (.i2l, 1) := by decide +kernel
theorem dL_size_8 : decode cL_size 8 = .ok (.lastore, 1) := by decide +kernel
theorem dL_size_9 : decode cL_size 9 = .ok (.goto 6, 3) := by decide +kernel
theorem dL_size_12 : decode cL_size 12 = .ok (.astore_n 3, 1) := by decide +kernel
theorem dL_size_13 : decode cL_size 13 = .ok (.iconst 1, 1) := by decide +kernel
theorem dL_size_14 : decode cL_size 14 = .ok (.ireturn, 1) := by decide +kernel
theorem dL_size_15 : decode cL_size 15 = .ok (.iconst 0, 1) := by decide +kernel
theorem dL_size_16 : decode cL_size 16 = .ok (.ireturn, 1) := by decide +kernel
set_option maxRecDepth 20000 in
theorem ggL_slack_X0_slack : GoodIn wsL_slack wsX0_slack := goodIn_ca (goodIn_r _ [6, 7, 8, 9, 5, 10, 11, 12, 13, 14, 15, 16, 17, 18, 19, 20, 21, 22, 23, 24, 25, 26, 27, 28, 29, 30, 31, 32, 33, 34, 35, 36, 37, 38, 39, 40, 41, 42, 43, 44, 45, 46, 47, 48, 49, 50, 51] (by decide +kernel) (by decide +kernel)) (goodIn_sub (fun _ h => List.mem_cons_of_mem _ (List.mem_append_right _ h)) (by decide +kernel))
set_option maxRecDepth 20000 in
theorem gL_slack_X0_slack : GoodIn wsL_slack (wsV RL 55 RX0 yX0_slack wsX0_slack) := goodIn_app (goodIn_of _ (by decide +kernel)) ggL_slack_X0_slack
theorem dL_slack_0 : decode cL_slack 0 = .ok (.aload_n 2, 1) := by decide +kernel
theorem dL_slack_1 : decode cL_slack 1 = .ok (.iconst 0, 1) := by decide +kernel
theorem dL_slack_2 : decode cL_slack 2 = .ok (.aload_n 0, 1) := by decide +kernel
theorem dL_slack_3 : decode cL_slack 3 = .ok (.iload_n 1, 1) := by decide +kernel
theorem dL_slack_4 : decode cL_slack 4 = .ok (.invokevirtual 55, 3) := by decide +kernel
theorem dL_slack_7 : decode cL_slack 7 = .ok (.i2l, 1) := by decide +kernel
theorem dL_slack_8 : decode cL_slack 8 = .ok (.lastore, 1) := by decide +kernel
theorem dL_slack_9 : decode cL_slack 9 = .ok (.goto 6, 3) := by decide +kernel
theorem dL_slack_12 : decode cL_slack 12 = .ok (.astore_n 3, 1) := by decide +kernel
theorem dL_slack_13 : decode cL_slack 13 = .ok (.iconst 1, 1) := by decide +kernel
theorem dL_slack_14 : decode cL_slack 14 = .ok (.ireturn, 1) := by decide +kernel
theorem dL_slack_15 : decode cL_slack 15 = .ok (.iconst 0, 1) := by decide +kernel
theorem dL_slack_16 : decode cL_slack 16 = .ok (.ireturn, 1) := by decide +kernel
set_option maxRecDepth 20000 in
theorem ggL_isLate_X0_isLate : GoodIn wsL_isLate wsX0_isLate := goodIn_ca (goodIn_r _ [6, 7, 8, 9, 5, 10, 11, 12, 13, 14, 15, 16, 17, 18, 19, 20, 21, 22, 23, 24, 25, 26, 27, 28, 29, 30, 31, 32, 33, 34, 35, 36, 37, 38, 39, 40, 41, 42, 43, 44, 45, 46, 47, 48, 49, 50, 51] (by decide +kernel) (by decide +kernel)) (goodIn_sub (fun _ h => List.mem_cons_of_mem _ (List.mem_append_right _ h)) (by decide +kernel))
set_option maxRecDepth 20000 in
theorem gL_isLate_X0_isLate : GoodIn wsL_isLate (wsV RL 58 RX0 yX0_isLate wsX0_isLate) := goodIn_app (goodIn_of _ (by decide +kernel)) ggL_isLate_X0_isLate
theorem dL_isLate_0 : decode cL_isLate 0 = .ok (.aload_n 2, 1) := by decide +kernel
theorem dL_isLate_1 : decode cL_isLate 1 = .ok (.iconst 0, 1) := by decide +kernel
theorem dL_isLate_2 : decode cL_isLate 2 = .ok (.aload_n 0, 1) := by decide +kernel
theorem dL_isLate_3 : decode cL_isLate 3 = .ok (.iload_n 1, 1) := by decide +kernel
theorem dL_isLate_4 : decode cL_isLate 4 = .ok (.invokevirtual 58, 3) := by decide +kernel
theorem dL_isLate_7 : decode cL_isLate 7 = .ok (.ifCond .eq 7, 3) := by decide +kernel
theorem dL_isLate_10 : decode cL_isLate 10 = .ok (.lconst 1, 1) := by decide +kernel
theorem dL_isLate_11 : decode cL_isLate 11 = .ok (.goto 4, 3) := by decide +kernel
theorem dL_isLate_14 : decode cL_isLate 14 = .ok (.lconst 0, 1) := by decide +kernel
theorem dL_isLate_15 : decode cL_isLate 15 = .ok (.lastore, 1) := by decide +kernel
theorem dL_isLate_16 : decode cL_isLate 16 = .ok (.goto 6, 3) := by decide +kernel
theorem dL_isLate_19 : decode cL_isLate 19 = .ok (.astore_n 3, 1) := by decide +kernel
theorem dL_isLate_20 : decode cL_isLate 20 = .ok (.iconst 1, 1) := by decide +kernel
theorem dL_isLate_21 : decode cL_isLate 21 = .ok (.ireturn, 1) := by decide +kernel
theorem dL_isLate_22 : decode cL_isLate 22 = .ok (.iconst 0, 1) := by decide +kernel
theorem dL_isLate_23 : decode cL_isLate 23 = .ok (.ireturn, 1) := by decide +kernel
set_option maxRecDepth 20000 in
theorem ggL_reworks_X0_reworks : GoodIn wsL_reworks wsX0_reworks := goodIn_ca (goodIn_r _ [6, 7, 8, 9, 10, 5, 11, 12, 13, 14, 15, 16, 17, 18, 19, 20, 21, 22, 23, 24, 25, 26, 27, 28, 29, 30, 31, 32, 33, 34, 35, 36] (by decide +kernel) (by decide +kernel)) (goodIn_sub (fun _ h => List.mem_cons_of_mem _ (List.mem_append_right _ h)) (by decide +kernel))
set_option maxRecDepth 20000 in
theorem gL_reworks_X0_reworks : GoodIn wsL_reworks (wsV RL 62 RX0 yX0_reworks wsX0_reworks) := goodIn_app (goodIn_of _ (by decide +kernel)) ggL_reworks_X0_reworks
theorem dL_reworks_0 : decode cL_reworks 0 = .ok (.aload_n 2, 1) := by decide +kernel
theorem dL_reworks_1 : decode cL_reworks 1 = .ok (.iconst 0, 1) := by decide +kernel
theorem dL_reworks_2 : decode cL_reworks 2 = .ok (.aload_n 0, 1) := by decide +kernel
theorem dL_reworks_3 : decode cL_reworks 3 = .ok (.iload_n 1, 1) := by decide +kernel
theorem dL_reworks_4 : decode cL_reworks 4 = .ok (.invokevirtual 62, 3) := by decide +kernel
theorem dL_reworks_7 : decode cL_reworks 7 = .ok (.i2l, 1) := by decide +kernel
theorem dL_reworks_8 : decode cL_reworks 8 = .ok (.lastore, 1) := by decide +kernel
theorem dL_reworks_9 : decode cL_reworks 9 = .ok (.goto 6, 3) := by decide +kernel
theorem dL_reworks_12 : decode cL_reworks 12 = .ok (.astore_n 3, 1) := by decide +kernel
theorem dL_reworks_13 : decode cL_reworks 13 = .ok (.iconst 1, 1) := by decide +kernel
theorem dL_reworks_14 : decode cL_reworks 14 = .ok (.ireturn, 1) := by decide +kernel
theorem dL_reworks_15 : decode cL_reworks 15 = .ok (.iconst 0, 1) := by decide +kernel
theorem dL_reworks_16 : decode cL_reworks 16 = .ok (.ireturn, 1) := by decide +kernel
set_option maxRecDepth 20000 in
theorem ggL_nextFor_X0_nextFor : GoodIn wsL_nextFor wsX0_nextFor := goodIn_ca (goodIn_r _ [6, 7, 8, 9, 10, 5, 11, 12, 13, 14, 15, 16, 17, 18, 19, 20, 21, 22, 23, 24, 25, 26, 27, 28, 29, 30, 31, 32, 33, 34, 35, 36, 37, 38, 39, 40, 41, 42, 43, 44, 45, 46, 47, 48, 49, 50, 51, 52, 53, 54, 55, 56, 57, 58, 59, 60, 61, 62, 63, 64, 65, 66, 67] (by decide +kernel) (by decide +kernel)) (goodIn_sub (fun _ h => List.mem_cons_of_mem _ (List.mem_append_right _ h)) (by decide +kernel))
set_option maxRecDepth 20000 in
theorem gL_nextFor_X0_nextFor : GoodIn wsL_nextFor (wsV RL 65 RX0 yX0_nextFor wsX0_nextFor) := goodIn_app (goodIn_of _ (by decide +kernel)) ggL_nextFor_X0_nextFor
theorem dL_nextFor_0 : decode cL_nextFor 0 = .ok (.aload_n 2, 1) := by decide +kernel
theorem dL_nextFor_1 : decode cL_nextFor 1 = .ok (.iconst 0, 1) := by decide +kernel
theorem dL_nextFor_2 : decode cL_nextFor 2 = .ok (.aload_n 0, 1) := by decide +kernel
theorem dL_nextFor_3 : decode cL_nextFor 3 = .ok (.iload_n 1, 1) := by decide +kernel
theorem dL_nextFor_4 : decode cL_nextFor 4 = .ok (.invokevirtual 65, 3) := by decide +kernel
theorem dL_nextFor_7 : decode cL_nextFor 7 = .ok (.i2l, 1) := by decide +kernel
theorem dL_nextFor_8 : decode cL_nextFor 8 = .ok (.lastore, 1) := by decide +kernel
theorem dL_nextFor_9 : decode cL_nextFor 9 = .ok (.goto 6, 3) := by decide +kernel
theorem dL_nextFor_12 : decode cL_nextFor 12 = .ok (.astore_n 3, 1) := by decide +kernel
theorem dL_nextFor_13 : decode cL_nextFor 13 = .ok (.iconst 1, 1) := by decide +kernel
theorem dL_nextFor_14 : decode cL_nextFor 14 = .ok (.ireturn, 1) := by decide +kernel
theorem dL_nextFor_15 : decode cL_nextFor 15 = .ok (.iconst 0, 1) := by decide +kernel
theorem dL_nextFor_16 : decode cL_nextFor 16 = .ok (.ireturn, 1) := by decide +kernel
set_option maxRecDepth 20000 in
theorem ggL_wafersAt_X0_wafersAt : GoodIn wsL_wafersAt wsX0_wafersAt := goodIn_ca (goodIn_r _ [6, 7, 8, 9, 10, 11, 12, 5, 13, 14, 15, 16, 17, 18, 19, 20, 21, 22, 23, 24, 25, 26, 27, 28, 29, 30, 31, 32, 33, 34, 35, 36, 37, 38] (by decide +kernel) (by decide +kernel)) (goodIn_sub (fun _ h => List.mem_cons_of_mem _ (List.mem_append_right _ h)) (by decide +kernel))
set_option maxRecDepth 20000 in
theorem gL_wafersAt_X0_wafersAt : GoodIn wsL_wafersAt (wsV RL 68 RX0 yX0_wafersAt wsX0_wafersAt) := goodIn_app (goodIn_of _ (by decide +kernel)) ggL_wafersAt_X0_wafersAt
theorem dL_wafersAt_0 : decode cL_wafersAt 0 = .ok (.aload_n 2, 1) := by decide +kernel
theorem dL_wafersAt_1 : decode cL_wafersAt 1 = .ok (.iconst 0, 1) := by decide +kernel
theorem dL_wafersAt_2 : decode cL_wafersAt 2 = .ok (.aload_n 0, 1) := by decide +kernel
theorem dL_wafersAt_3 : decode cL_wafersAt 3 = .ok (.iload_n 1, 1) := by decide +kernel
theorem dL_wafersAt_4 : decode cL_wafersAt 4 = .ok (.invokevirtual 68, 3) := by decide +kernel
theorem dL_wafersAt_7 : decode cL_wafersAt 7 = .ok (.i2l, 1) := by decide +kernel
theorem dL_wafersAt_8 : decode cL_wafersAt 8 = .ok (.lastore, 1) := by decide +kernel
theorem dL_wafersAt_9 : decode cL_wafersAt 9 = .ok (.goto 6, 3) := by decide +kernel
theorem dL_wafersAt_12 : decode cL_wafersAt 12 = .ok (.astore_n 3, 1) := by decide +kernel
theorem dL_wafersAt_13 : decode cL_wafersAt 13 = .ok (.iconst 1, 1) := by decide +kernel
theorem dL_wafersAt_14 : decode cL_wafersAt 14 = .ok (.ireturn, 1) := by decide +kernel
theorem dL_wafersAt_15 : decode cL_wafersAt 15 = .ok (.iconst 0, 1) := by decide +kernel
theorem dL_wafersAt_16 : decode cL_wafersAt 16 = .ok (.ireturn, 1) := by decide +kernel
set_option maxRecDepth 20000 in
theorem ggL_wafersAtByWafers_X0_wafersAtByWafers : GoodIn wsL_wafersAtByWafers wsX0_wafersAtByWafers := goodIn_ca (goodIn_r _ [6, 7, 8, 9, 10, 11, 12, 5, 13, 14, 15, 16, 17, 18, 19, 20, 21, 22, 23, 24, 25, 26, 27, 28, 29, 30, 31, 32, 33, 34, 35, 36, 37, 38, 39, 40, 41, 42, 43] (by decide +kernel) (by decide +kernel)) (goodIn_sub (fun _ h => List.mem_cons_of_mem _ (List.mem_append_right _ h)) (by decide +kernel))
set_option maxRecDepth 20000 in
theorem gL_wafersAtByWafers_X0_wafersAtByWafers : GoodIn wsL_wafersAtByWafers (wsV RL 71 RX0 yX0_wafersAtByWafers wsX0_wafersAtByWafers) := goodIn_app (goodIn_of _ (by decide +kernel)) ggL_wafersAtByWafers_X0_wafersAtByWafers
theorem dL_wafersAtByWafers_0 : decode cL_wafersAtByWafers 0 = .ok (.aload_n 2, 1) := by decide +kernel
theorem dL_wafersAtByWafers_1 : decode cL_wafersAtByWafers 1 = .ok (.iconst 0, 1) := by decide +kernel
theorem dL_wafersAtByWafers_2 : decode cL_wafersAtByWafers 2 = .ok (.aload_n 0, 1) := by decide +kernel
theorem dL_wafersAtByWafers_3 : decode cL_wafersAtByWafers 3 = .ok (.iload_n 1, 1) := by decide +kernel
theorem dL_wafersAtByWafers_4 : decode cL_wafersAtByWafers 4 = .ok (.invokevirtual 71, 3) := by decide +kernel
theorem dL_wafersAtByWafers_7 : decode cL_wafersAtByWafers 7 = .ok (.i2l, 1) := by decide +kernel
theorem dL_wafersAtByWafers_8 : decode cL_wafersAtByWafers 8 = .ok (.lastore, 1) := by decide +kernel
theorem dL_wafersAtByWafers_9 : decode cL_wafersAtByWafers 9 = .ok (.goto 6, 3) := by decide +kernel
theorem dL_wafersAtByWafers_12 : decode cL_wafersAtByWafers 12 = .ok (.astore_n 3, 1) := by decide +kernel
theorem dL_wafersAtByWafers_13 : decode cL_wafersAtByWafers 13 = .ok (.iconst 1, 1) := by decide +kernel
theorem dL_wafersAtByWafers_14 : decode cL_wafersAtByWafers 14 = .ok (.ireturn, 1) := by decide +kernel
theorem dL_wafersAtByWafers_15 : decode cL_wafersAtByWafers 15 = .ok (.iconst 0, 1) := by decide +kernel
theorem dL_wafersAtByWafers_16 : decode cL_wafersAtByWafers 16 = .ok (.ireturn, 1) := by decide +kernel
set_option maxRecDepth 20000 in
theorem ggL_lotOf_X0_lotOf : GoodIn wsL_lotOf wsX0_lotOf := goodIn_ca (goodIn_r _ [6, 7, 8, 9, 10, 5, 11, 12, 13, 14, 15, 16, 17, 18, 19, 20, 21, 22, 23, 24, 25, 26, 27, 28, 29, 30, 31, 32] (by decide +kernel) (by decide +kernel)) (goodIn_sub (fun _ h => List.mem_cons_of_mem _ (List.mem_append_right _ h)) (by decide +kernel))
set_option maxRecDepth 20000 in
theorem gL_lotOf_X0_lotOf : GoodIn wsL_lotOf (wsV RL 74 RX0 yX0_lotOf wsX0_lotOf) := goodIn_app (goodIn_of _ (by decide +kernel)) ggL_lotOf_X0_lotOf
theorem dL_lotOf_0 : decode cL_lotOf 0 = .ok (.aload_n 2, 1) := by decide +kernel
theorem dL_lotOf_1 : decode cL_lotOf 1 = .ok (.iconst 0, 1) := by decide +kernel
theorem dL_lotOf_2 : decode cL_lotOf 2 = .ok (.aload_n 0, 1) := by decide +kernel
theorem dL_lotOf_3 : decode cL_lotOf 3 = .ok (.iload_n 1, 1) := by decide +kernel
theorem dL_lotOf_4 : decode cL_lotOf 4 = .ok (.invokevirtual 74, 3) := by decide +kernel
theorem dL_lotOf_7 : decode cL_lotOf 7 = .ok (.i2l, 1) := by decide +kernel
theorem dL_lotOf_8 : decode cL_lotOf 8 = .ok (.lastore, 1) := by decide +kernel
theorem dL_lotOf_9 : decode cL_lotOf 9 = .ok (.goto 6, 3) := by decide +kernel
theorem dL_lotOf_12 : decode cL_lotOf 12 = .ok (.astore_n 3, 1) := by decide +kernel
theorem dL_lotOf_13 : decode cL_lotOf 13 = .ok (.iconst 1, 1) := by decide +kernel
theorem dL_lotOf_14 : decode cL_lotOf 14 = .ok (.ireturn, 1) := by decide +kernel
theorem dL_lotOf_15 : decode cL_lotOf 15 = .ok (.iconst 0, 1) := by decide +kernel
theorem dL_lotOf_16 : decode cL_lotOf 16 = .ok (.ireturn, 1) := by decide +kernel
set_option maxRecDepth 20000 in
theorem ggL_parentOf_X0_parentOf : GoodIn wsL_parentOf wsX0_parentOf := goodIn_ca (goodIn_r _ [6, 7, 8, 9, 10, 5, 11, 12, 13, 14, 15, 16, 17, 18, 19, 20, 21, 22, 23, 24, 25, 26, 27, 28, 29, 30, 31, 32, 33, 34, 35, 36] (by decide +kernel) (by decide +kernel)) (goodIn_sub (fun _ h => List.mem_cons_of_mem _ (List.mem_append_right _ h)) (by decide +kernel))
set_option maxRecDepth 20000 in
theorem gL_parentOf_X0_parentOf : GoodIn wsL_parentOf (wsV RL 77 RX0 yX0_parentOf wsX0_parentOf) := goodIn_app (goodIn_of _ (by decide +kernel)) ggL_parentOf_X0_parentOf
theorem dL_parentOf_0 : decode cL_parentOf 0 = .ok (.aload_n 2, 1) := by decide +kernel
theorem dL_parentOf_1 : decode cL_parentOf 1 = .ok (.iconst 0, 1) := by decide +kernel
theorem dL_parentOf_2 : decode cL_parentOf 2 = .ok (.aload_n 0, 1) := by decide +kernel
theorem dL_parentOf_3 : decode cL_parentOf 3 = .ok (.iload_n 1, 1) := by decide +kernel
theorem dL_parentOf_4 : decode cL_parentOf 4 = .ok (.invokevirtual 77, 3) := by decide +kernel
theorem dL_parentOf_7 : decode cL_parentOf 7 = .ok (.i2l, 1) := by decide +kernel
theorem dL_parentOf_8 : decode cL_parentOf 8 = .ok (.lastore, 1) := by decide +kernel
theorem dL_parentOf_9 : decode cL_parentOf 9 = .ok (.goto 6, 3) := by decide +kernel
theorem dL_parentOf_12 : decode cL_parentOf 12 = .ok (.astore_n 3, 1) := by decide +kernel
theorem dL_parentOf_13 : decode cL_parentOf 13 = .ok (.iconst 1, 1) := by decide +kernel
theorem dL_parentOf_14 : decode cL_parentOf 14 = .ok (.ireturn, 1) := by decide +kernel
theorem dL_parentOf_15 : decode cL_parentOf 15 = .ok (.iconst 0, 1) := by decide +kernel
theorem dL_parentOf_16 : decode cL_parentOf 16 = .ok (.ireturn, 1) := by decide +kernel
set_option maxRecDepth 20000 in
theorem ggL_common_X0_common : GoodIn wsL_common wsX0_common := goodIn_ca (goodIn_r _ [6, 7, 8, 9, 5, 10, 11, 12, 13, 14, 15, 16, 17, 18, 19, 20, 21, 22, 23, 24, 25, 26, 27, 28, 29, 30, 31, 32, 33, 34, 35, 36, 37, 38, 39, 40] (by decide +kernel) (by decide +kernel)) (goodIn_sub (fun _ h => List.mem_cons_of_mem _ (List.mem_append_right _ h)) (by decide +kernel))
set_option maxRecDepth 20000 in
theorem gL_common_X0_common : GoodIn wsL_common (wsV RL 80 RX0 yX0_common wsX0_common) := goodIn_app (goodIn_of _ (by decide +kernel)) ggL_common_X0_common
theorem dL_common_0 : decode cL_common 0 = .ok (.aload_n 3, 1) := by decide +kernel
theorem dL_common_1 : decode cL_common 1 = .ok (.iconst 0, 1) := by decide +kernel
theorem dL_common_2 : decode cL_common 2 = .ok (.aload_n 0, 1) := by decide +kernel
theorem dL_common_3 : decode cL_common 3 = .ok (.iload_n 1, 1) := by decide +kernel
theorem dL_common_4 : decode cL_common 4 = .ok (.iload_n 2, 1) := by decide +kernel
theorem dL_common_5 : decode cL_common 5 = .ok (.invokevirtual 80, 3) := by decide +kernel
theorem dL_common_8 : decode cL_common 8 = .ok (.i2l, 1) := by decide +kernel
theorem dL_common_9 : decode cL_common 9 = .ok (.lastore, 1) := by decide +kernel
theorem dL_common_10 : decode cL_common 10 = .ok (.goto 7, 3) := by decide +kernel
theorem dL_common_13 : decode cL_common 13 = .ok (.astore 4, 2) := by decide +kernel
theorem dL_common_15 : decode cL_common 15 = .ok (.iconst 1, 1) := by decide +kernel
theorem dL_common_16 : decode cL_common 16 = .ok (.ireturn, 1) := by decide +kernel
theorem dL_common_17 : decode cL_common 17 = .ok (.iconst 0, 1) := by decide +kernel
theorem dL_common_18 : decode cL_common 18 = .ok (.ireturn, 1) := by decide +kernel
set_option maxRecDepth 20000 in
theorem ggL_path_X0_path : GoodIn wsL_path wsX0_path := goodIn_ca (goodIn_r _ [6, 7, 8, 9, 10, 5, 11, 12, 13, 14, 15, 16, 17, 18, 19, 20, 21, 22, 23, 24, 25, 26, 27, 28, 29, 30, 31, 32] (by decide +kernel) (by decide +kernel)) (goodIn_sub (fun _ h => List.mem_cons_of_mem _ (List.mem_append_right _ h)) (by decide +kernel))
set_option maxRecDepth 20000 in
theorem gL_path_X0_path : GoodIn wsL_path (wsV RL 83 RX0 yX0_path wsX0_path) := goodIn_app (goodIn_of _ (by decide +kernel)) ggL_path_X0_path
theorem dL_path_0 : decode cL_path 0 = .ok (.aload_n 2, 1) := by decide +kernel
theorem dL_path_1 : decode cL_path 1 = .ok (.iconst 0, 1) := by decide +kernel
theorem dL_path_2 : decode cL_path 2 = .ok (.aload_n 0, 1) := by decide +kernel
theorem dL_path_3 : decode cL_path 3 = .ok (.iload_n 1, 1) := by decide +kernel
theorem dL_path_4 : decode cL_path 4 = .ok (.invokevirtual 83, 3) := by decide +kernel
theorem dL_path_7 : decode cL_path 7 = .ok (.i2l, 1) := by decide +kernel
theorem dL_path_8 : decode cL_path 8 = .ok (.lastore, 1) := by decide +kernel
theorem dL_path_9 : decode cL_path 9 = .ok (.goto 6, 3) := by decide +kernel
theorem dL_path_12 : decode cL_path 12 = .ok (.astore_n 3, 1) := by decide +kernel
theorem dL_path_13 : decode cL_path 13 = .ok (.iconst 1, 1) := by decide +kernel
theorem dL_path_14 : decode cL_path 14 = .ok (.ireturn, 1) := by decide +kernel
theorem dL_path_15 : decode cL_path 15 = .ok (.iconst 0, 1) := by decide +kernel
theorem dL_path_16 : decode cL_path 16 = .ok (.ireturn, 1) := by decide +kernel
set_option maxRecDepth 20000 in
theorem ggL_pathAt_X0_pathAt : GoodIn wsL_pathAt wsX0_pathAt := goodIn_ca (goodIn_r _ [6, 7, 8, 9, 10, 11, 12, 13, 5, 14, 15, 16, 17, 18, 19, 20, 21, 22, 23, 24, 25, 26, 27, 28, 29, 30, 31, 32, 33, 34, 35, 36] (by decide +kernel) (by decide +kernel)) (goodIn_sub (fun _ h => List.mem_cons_of_mem _ (List.mem_append_right _ h)) (by decide +kernel))
set_option maxRecDepth 20000 in
theorem gL_pathAt_X0_pathAt : GoodIn wsL_pathAt (wsV RL 86 RX0 yX0_pathAt wsX0_pathAt) := goodIn_app (goodIn_of _ (by decide +kernel)) ggL_pathAt_X0_pathAt
theorem dL_pathAt_0 : decode cL_pathAt 0 = .ok (.aload_n 3, 1) := by decide +kernel
theorem dL_pathAt_1 : decode cL_pathAt 1 = .ok (.iconst 0, 1) := by decide +kernel
theorem dL_pathAt_2 : decode cL_pathAt 2 = .ok (.aload_n 0, 1) := by decide +kernel
theorem dL_pathAt_3 : decode cL_pathAt 3 = .ok (.iload_n 1, 1) := by decide +kernel
theorem dL_pathAt_4 : decode cL_pathAt 4 = .ok (.iload_n 2, 1) := by decide +kernel
theorem dL_pathAt_5 : decode cL_pathAt 5 = .ok (.invokevirtual 86, 3) := by decide +kernel
theorem dL_pathAt_8 : decode cL_pathAt 8 = .ok (.i2l, 1) := by decide +kernel
theorem dL_pathAt_9 : decode cL_pathAt 9 = .ok (.lastore, 1) := by decide +kernel
theorem dL_pathAt_10 : decode cL_pathAt 10 = .ok (.goto 7, 3) := by decide +kernel
theorem dL_pathAt_13 : decode cL_pathAt 13 = .ok (.astore 4, 2) := by decide +kernel
theorem dL_pathAt_15 : decode cL_pathAt 15 = .ok (.iconst 1, 1) := by decide +kernel
theorem dL_pathAt_16 : decode cL_pathAt 16 = .ok (.ireturn, 1) := by decide +kernel
theorem dL_pathAt_17 : decode cL_pathAt 17 = .ok (.iconst 0, 1) := by decide +kernel
theorem dL_pathAt_18 : decode cL_pathAt 18 = .ok (.ireturn, 1) := by decide +kernel
end
section
theorem dX0_init_0 : decode cX0_init 0 = .ok (.aload_n 0, 1) := by decide +kernel
theorem dX0_init_1 : decode cX0_init 1 = .ok (.invokespecial 3, 3) := by decide +kernel
theorem dX0_init_4 : decode cX0_init 4 = .ok (.aload_n 0, 1) := by decide +kernel
theorem dX0_init_5 : decode cX0_init 5 = .ok (.bipush 12, 2) := by decide +kernel
theorem dX0_init_7 : decode cX0_init 7 = .ok (.newarray .int, 2) := by decide +kernel
theorem dX0_init_9 : decode cX0_init 9 = .ok (.putfield 9, 3) := by decide +kernel
theorem dX0_init_12 : decode cX0_init 12 = .ok (.aload_n 0, 1) := by decide +kernel
theorem dX0_init_13 : decode cX0_init 13 = .ok (.bipush 12, 2) := by decide +kernel
theorem dX0_init_15 : decode cX0_init 15 = .ok (.newarray .int, 2) := by decide +kernel
theorem dX0_init_17 : decode cX0_init 17 = .ok (.putfield 13, 3) := by decide +kernel
theorem dX0_init_20 : decode cX0_init 20 = .ok (.aload_n 0, 1) := by decide +kernel
theorem dX0_init_21 : decode cX0_init 21 = .ok (.bipush 12, 2) := by decide +kernel
theorem dX0_init_23 : decode cX0_init 23 = .ok (.newarray .int, 2) := by decide +kernel
theorem dX0_init_25 : decode cX0_init 25 = .ok (.putfield 16, 3) := by decide +kernel
theorem dX0_init_28 : decode cX0_init 28 = .ok (.aload_n 0, 1) := by decide +kernel
theorem dX0_init_29 : decode cX0_init 29 = .ok (.bipush 12, 2) := by decide +kernel
theorem dX0_init_31 : decode cX0_init 31 = .ok (.newarray .int, 2) := by decide +kernel
theorem dX0_init_33 : decode cX0_init 33 = .ok (.putfield 19, 3) := by decide +kernel
theorem dX0_init_36 : decode cX0_init 36 = .ok (.aload_n 0, 1) := by decide +kernel
theorem dX0_init_37 : decode cX0_init 37 = .ok (.iconst 0, 1) := by decide +kernel
theorem dX0_init_38 : decode cX0_init 38 = .ok (.putfield 22, 3) := by decide +kernel
theorem dX0_init_41 : decode cX0_init 41 = .ok (.aload_n 0, 1) := by decide +kernel
theorem dX0_init_42 : decode cX0_init 42 = .ok (.bipush 24, 2) := by decide +kernel
theorem dX0_init_44 : decode cX0_init 44 = .ok (.newarray .int, 2) := by decide +kernel
theorem dX0_init_46 : decode cX0_init 46 = .ok (.putfield 26, 3) := by decide +kernel
theorem dX0_init_49 : decode cX0_init 49 = .ok (.aload_n 0, 1) := by decide +kernel
theorem dX0_init_50 : decode cX0_init 50 = .ok (.bipush 24, 2) := by decide +kernel
theorem dX0_init_52 : decode cX0_init 52 = .ok (.newarray .int, 2) := by decide +kernel
theorem dX0_init_54 : decode cX0_init 54 = .ok (.putfield 29, 3) := by decide +kernel
theorem dX0_init_57 : decode cX0_init 57 = .ok (.aload_n 0, 1) := by decide +kernel
theorem dX0_init_58 : decode cX0_init 58 = .ok (.bipush 24, 2) := by decide +kernel
theorem dX0_init_60 : decode cX0_init 60 = .ok (.newarray .int, 2) := by decide +kernel
theorem dX0_init_62 : decode cX0_init 62 = .ok (.putfield 32, 3) := by decide +kernel
theorem dX0_init_65 : decode cX0_init 65 = .ok (.aload_n 0, 1) := by decide +kernel
theorem dX0_init_66 : decode cX0_init 66 = .ok (.bipush 24, 2) := by decide +kernel
theorem dX0_init_68 : decode cX0_init 68 = .ok (.newarray .boolean, 2) := by decide +kernel
theorem dX0_init_70 : decode cX0_init 70 = .ok (.putfield 35, 3) := by decide +kernel
theorem dX0_init_73 : decode cX0_init 73 = .ok (.aload_n 0, 1) := by decide +kernel
theorem dX0_init_74 : decode cX0_init 74 = .ok (.bipush 24, 2) := by decide +kernel
theorem dX0_init_76 : decode cX0_init 76 = .ok (.newarray .int, 2) := by decide +kernel
theorem dX0_init_78 : decode cX0_init 78 = .ok (.putfield 39, 3) := by decide +kernel
theorem dX0_init_81 : decode cX0_init 81 = .ok (.aload_n 0, 1) := by decide +kernel
theorem dX0_init_82 : decode cX0_init 82 = .ok (.bipush 24, 2) := by decide +kernel
theorem dX0_init_84 : decode cX0_init 84 = .ok (.newarray .int, 2) := by decide +kernel
theorem dX0_init_86 : decode cX0_init 86 = .ok (.putfield 42, 3) := by decide +kernel
theorem dX0_init_89 : decode cX0_init 89 = .ok (.aload_n 0, 1) := by decide +kernel
theorem dX0_init_90 : decode cX0_init 90 = .ok (.bipush 24, 2) := by decide +kernel
theorem dX0_init_92 : decode cX0_init 92 = .ok (.newarray .int, 2) := by decide +kernel
theorem dX0_init_94 : decode cX0_init 94 = .ok (.putfield 45, 3) := by decide +kernel
theorem dX0_init_97 : decode cX0_init 97 = .ok (.aload_n 0, 1) := by decide +kernel
theorem dX0_init_98 : decode cX0_init 98 = .ok (.iconst 0, 1) := by decide +kernel
theorem dX0_init_99 : decode cX0_init 99 = .ok (.putfield 48, 3) := by decide +kernel
theorem dX0_init_102 : decode cX0_init 102 = .ok (.aload_n 0, 1) := by decide +kernel
theorem dX0_init_103 : decode cX0_init 103 = .ok (.bipush 60, 2) := by decide +kernel
theorem dX0_init_105 : decode cX0_init 105 = .ok (.newarray .int, 2) := by decide +kernel
theorem dX0_init_107 : decode cX0_init 107 = .ok (.putfield 51, 3) := by decide +kernel
theorem dX0_init_110 : decode cX0_init 110 = .ok (.aload_n 0, 1) := by decide +kernel
theorem dX0_init_111 : decode cX0_init 111 = .ok (.bipush 60, 2) := by decide +kernel
theorem dX0_init_113 : decode cX0_init 113 = .ok (.bipush 47, 2) := by decide +kernel
theorem dX0_init_115 : decode cX0_init 115 = .ok (.multianewarray 54 2, 4) := by decide +kernel
theorem dX0_init_119 : decode cX0_init 119 = .ok (.putfield 56, 3) := by decide +kernel
theorem dX0_init_122 : decode cX0_init 122 = .ok (.aload_n 0, 1) := by decide +kernel
theorem dX0_init_123 : decode cX0_init 123 = .ok (.bipush 60, 2) := by decide +kernel
theorem dX0_init_125 : decode cX0_init 125 = .ok (.newarray .int, 2) := by decide +kernel
theorem dX0_init_127 : decode cX0_init 127 = .ok (.putfield 59, 3) := by decide +kernel
theorem dX0_init_130 : decode cX0_init 130 = .ok (.aload_n 0, 1) := by decide +kernel
theorem dX0_init_131 : decode cX0_init 131 = .ok (.iconst 0, 1) := by decide +kernel
theorem dX0_init_132 : decode cX0_init 132 = .ok (.putfield 62, 3) := by decide +kernel
theorem dX0_init_135 : decode cX0_init 135 = .ok (.aload_n 0, 1) := by decide +kernel
theorem dX0_init_136 : decode cX0_init 136 = .ok (.iconst 0, 1) := by decide +kernel
theorem dX0_init_137 : decode cX0_init 137 = .ok (.putfield 65, 3) := by decide +kernel
theorem dX0_init_140 : decode cX0_init 140 = .ok (.return_, 1) := by decide +kernel
set_option maxRecDepth 20000 in
theorem ggX0_addStep_X0_checkTool : GoodIn wsX0_addStep wsX0_checkTool := goodIn_ca (goodIn_r _ [14, 15, 16, 17, 18, 13, 19] (by decide +kernel) (by decide +kernel)) (goodIn_sub (fun _ h => List.mem_cons_of_mem _ (List.mem_append_right _ h)) (by decide +kernel))
set_option maxRecDepth 20000 in
theorem gX0_addStep_X0_checkTool : GoodIn wsX0_addStep (va_wsS RX0 68 yX0_checkTool wsX0_checkTool) := goodIn_app (goodIn_of _ (by decide +kernel)) ggX0_addStep_X0_checkTool
set_option maxRecDepth 20000 in
theorem ggX0_addStep_X0_isWithin : GoodIn wsX0_addStep wsX0_isWithin := goodIn_r _ [19] (by decide +kernel) (by decide +kernel)
set_option maxRecDepth 20000 in
theorem gX0_addStep_X0_isWithin : GoodIn wsX0_addStep (va_wsS RX0 72 yX0_isWithin wsX0_isWithin) := goodIn_app (goodIn_of _ (by decide +kernel)) ggX0_addStep_X0_isWithin
theorem dX0_addStep_0 : decode cX0_addStep 0 = .ok (.iload_n 1, 1) := by decide +kernel
theorem dX0_addStep_1 : decode cX0_addStep 1 = .ok (.invokestatic 68, 3) := by decide +kernel
theorem dX0_addStep_4 : decode cX0_addStep 4 = .ok (.iload_n 2, 1) := by decide +kernel
theorem dX0_addStep_5 : decode cX0_addStep 5 = .ok (.iconst 1, 1) := by decide +kernel
theorem dX0_addStep_6 : decode cX0_addStep 6 = .ok (.sipush 1000, 3) := by decide +kernel
theorem dX0_addStep_9 : decode cX0_addStep 9 = .ok (.invokestatic 72, 3) := by decide +kernel
theorem dX0_addStep_12 : decode cX0_addStep 12 = .ok (.ifCond .eq 27, 3) := by decide +kernel
theorem dX0_addStep_15 : decode cX0_addStep 15 = .ok (.iload_n 3, 1) := by decide +kernel
theorem dX0_addStep_16 : decode cX0_addStep 16 = .ok (.iconst 0, 1) := by decide +kernel
theorem dX0_addStep_17 : decode cX0_addStep 17 = .ok (.sipush 10000, 3) := by decide +kernel
theorem dX0_addStep_20 : decode cX0_addStep 20 = .ok (.invokestatic 72, 3) := by decide +kernel
theorem dX0_addStep_23 : decode cX0_addStep 23 = .ok (.ifCond .eq 16, 3) := by decide +kernel
theorem dX0_addStep_26 : decode cX0_addStep 26 = .ok (.iload 4, 2) := by decide +kernel
theorem dX0_addStep_28 : decode cX0_addStep 28 = .ok (.iconst 0, 1) := by decide +kernel
theorem dX0_addStep_29 : decode cX0_addStep 29 = .ok (.aload_n 0, 1) := by decide +kernel
theorem dX0_addStep_30 : decode cX0_addStep 30 = .ok (.getfield 22, 3) := by decide +kernel
theorem dX0_addStep_33 : decode cX0_addStep 33 = .ok (.invokestatic 72, 3) := by decide +kernel
theorem dX0_addStep_36 : decode cX0_addStep 36 = .ok (.ifCond .ne 13, 3) := by decide +kernel
theorem dX0_addStep_39 : decode cX0_addStep 39 = .ok (.new 76, 3) := by decide +kernel
theorem dX0_addStep_42 : decode cX0_addStep 42 = .ok (.dup, 1) := by decide +kernel
theorem dX0_addStep_43 : decode cX0_addStep 43 = .ok (.ldc 78, 2) := by decide +kernel
theorem dX0_addStep_45 : decode cX0_addStep 45 = .ok (.invokespecial 80, 3) := by decide +kernel
theorem dX0_addStep_48 : decode cX0_addStep 48 = .ok (.athrow, 1) := by decide +kernel
theorem dX0_addStep_49 : decode cX0_addStep 49 = .ok (.aload_n 0, 1) := by decide +kernel
theorem dX0_addStep_50 : decode cX0_addStep 50 = .ok (.getfield 22, 3) := by decide +kernel
theorem dX0_addStep_53 : decode cX0_addStep 53 = .ok (.bipush 12, 2) := by decide +kernel
theorem dX0_addStep_55 : decode cX0_addStep 55 = .ok (.if_icmp .ge 10, 3) := by decide +kernel
theorem dX0_addStep_58 : decode cX0_addStep 58 = .ok (.aload_n 0, 1) := by decide +kernel
theorem dX0_addStep_59 : decode cX0_addStep 59 = .ok (.getfield 48, 3) := by decide +kernel
theorem dX0_addStep_62 : decode cX0_addStep 62 = .ok (.ifCond .le 13, 3) := by decide +kernel
theorem dX0_addStep_65 : decode cX0_addStep 65 = .ok (.new 83, 3) := by decide +kernel
theorem dX0_addStep_68 : decode cX0_addStep 68 = .ok (.dup, 1) := by decide +kernel
theorem dX0_addStep_69 : decode cX0_addStep 69 = .ok (.ldc 85, 2) := by decide +kernel
theorem dX0_addStep_71 : decode cX0_addStep 71 = .ok (.invokespecial 87, 3) := by decide +kernel
theorem dX0_addStep_74 : decode cX0_addStep 74 = .ok (.athrow, 1) := by decide +kernel
theorem dX0_addStep_75 : decode cX0_addStep 75 = .ok (.aload_n 0, 1) := by decide +kernel
theorem dX0_addStep_76 : decode cX0_addStep 76 = .ok (.getfield 22, 3) := by decide +kernel
theorem dX0_addStep_79 : decode cX0_addStep 79 = .ok (.istore 5, 2) := by decide +kernel
theorem dX0_addStep_81 : decode cX0_addStep 81 = .ok (.aload_n 0, 1) := by decide +kernel
theorem dX0_addStep_82 : decode cX0_addStep 82 = .ok (.getfield 9, 3) := by decide +kernel
theorem dX0_addStep_85 : decode cX0_addStep 85 = .ok (.iload 5, 2) := by decide +kernel
theorem dX0_addStep_87 : decode cX0_addStep 87 = .ok (.iload_n 1, 1) := by decide +kernel
theorem dX0_addStep_88 : decode cX0_addStep 88 = .ok (.iastore, 1) := by decide +kernel
theorem dX0_addStep_89 : decode cX0_addStep 89 = .ok (.aload_n 0, 1) := by decide +kernel
theorem dX0_addStep_90 : decode cX0_addStep 90 = .ok (.getfield 13, 3) := by decide +kernel
theorem dX0_addStep_93 : decode cX0_addStep 93 = .ok (.iload 5, 2) := by decide +kernel
theorem dX0_addStep_95 : decode cX0_addStep 95 = .ok (.iload_n 2, 1) := by decide +kernel
theorem dX0_addStep_96 : decode cX0_addStep 96 = .ok (.iastore, 1) := by decide +kernel
theorem dX0_addStep_97 : decode cX0_addStep 97 = .ok (.aload_n 0, 1) := by decide +kernel
theorem dX0_addStep_98 : decode cX0_addStep 98 = .ok (.getfield 16, 3) := by decide +kernel
theorem dX0_addStep_101 : decode cX0_addStep 101 = .ok (.iload 5, 2) := by decide +kernel
theorem dX0_addStep_103 : decode cX0_addStep 103 = .ok (.iload_n 3, 1) := by decide +kernel
theorem dX0_addStep_104 : decode cX0_addStep 104 = .ok (.iastore, 1) := by decide +kernel
theorem dX0_addStep_105 : decode cX0_addStep 105 = .ok (.aload_n 0, 1) := by decide +kernel
theorem dX0_addStep_106 : decode cX0_addStep 106 = .ok (.getfield 19, 3) := by decide +kernel
theorem dX0_addStep_109 : decode cX0_addStep 109 = .ok (.iload 5, 2) := by decide +kernel
theorem dX0_addStep_111 : decode cX0_addStep 111 = .ok (.iload 4, 2) := by decide +kernel
theorem dX0_addStep_113 : decode cX0_addStep 113 = .ok (.iastore, 1) := by decide +kernel
theorem dX0_addStep_114 : decode cX0_addStep 114 = .ok (.aload_n 0, 1) := by decide +kernel
theorem dX0_addStep_115 : decode cX0_addStep 115 = .ok (.iload 5, 2) := by decide +kernel
theorem dX0_addStep_117 : decode cX0_addStep 117 = .ok (.iconst 1, 1) := by decide +kernel
theorem dX0_addStep_118 : decode cX0_addStep 118 = .ok (.iadd, 1) := by decide +kernel
theorem dX0_addStep_119 : decode cX0_addStep 119 = .ok (.putfield 22, 3) := by decide +kernel
theorem dX0_addStep_122 : decode cX0_addStep 122 = .ok (.iload 5, 2) := by decide +kernel
theorem dX0_addStep_124 : decode cX0_addStep 124 = .ok (.ireturn, 1) := by decide +kernel
set_option maxRecDepth 20000 in
theorem ggX0_enter_X0_isWithin : GoodIn wsX0_enter wsX0_isWithin := goodIn_r _ [12] (by decide +kernel) (by decide +kernel)
set_option maxRecDepth 20000 in
theorem gX0_enter_X0_isWithin : GoodIn wsX0_enter (va_wsS RX0 72 yX0_isWithin wsX0_isWithin) := goodIn_app (goodIn_of _ (by decide +kernel)) ggX0_enter_X0_isWithin
set_option maxRecDepth 20000 in
theorem ggX0_enter_X0_makeLot : GoodIn wsX0_enter wsX0_makeLot := goodIn_r _ [16, 6, 17, 18, 19, 20, 21, 22, 23, 35, 36, 37, 38, 39, 40, 41, 42, 43, 44, 45, 46, 47, 48, 49, 50, 51, 52] (by decide +kernel) (by decide +kernel)
set_option maxRecDepth 20000 in
theorem gX0_enter_X0_makeLot : GoodIn wsX0_enter (wsV RX0 92 RX0 yX0_makeLot wsX0_makeLot) := goodIn_app (goodIn_of _ (by decide +kernel)) ggX0_enter_X0_makeLot
set_option maxRecDepth 20000 in
theorem ggX0_enter_X0_makeWafer : GoodIn wsX0_enter wsX0_makeWafer := goodIn_r _ [27, 7, 28, 29, 30, 31, 11, 32, 33, 23, 34, 35, 36, 37, 38, 39, 40, 41, 42, 43, 44, 45, 46, 47, 48, 49, 50, 51, 52] (by decide +kernel) (by decide +kernel)
set_option maxRecDepth 20000 in
theorem gX0_enter_X0_makeWafer : GoodIn wsX0_enter (wsV RX0 96 RX0 yX0_makeWafer wsX0_makeWafer) := goodIn_app (goodIn_of _ (by decide +kernel)) ggX0_enter_X0_makeWafer
theorem dX0_enter_0 : decode cX0_enter 0 = .ok (.iload_n 1, 1) := by decide +kernel
theorem dX0_enter_1 : decode cX0_enter 1 = .ok (.iconst 1, 1) := by decide +kernel
theorem dX0_enter_2 : decode cX0_enter 2 = .ok (.bipush 12, 2) := by decide +kernel
theorem dX0_enter_4 : decode cX0_enter 4 = .ok (.invokestatic 72, 3) := by decide +kernel
theorem dX0_enter_7 : decode cX0_enter 7 = .ok (.ifCond .ne 13, 3) := by decide +kernel
theorem dX0_enter_10 : decode cX0_enter 10 = .ok (.new 76, 3) := by decide +kernel
theorem dX0_enter_13 : decode cX0_enter 13 = .ok (.dup, 1) := by decide +kernel
theorem dX0_enter_14 : decode cX0_enter 14 = .ok (.ldc 88, 2) := by decide +kernel
theorem dX0_enter_16 : decode cX0_enter 16 = .ok (.invokespecial 80, 3) := by decide +kernel
theorem dX0_enter_19 : decode cX0_enter 19 = .ok (.athrow, 1) := by decide +kernel
theorem dX0_enter_20 : decode cX0_enter 20 = .ok (.aload_n 0, 1) := by decide +kernel
theorem dX0_enter_21 : decode cX0_enter 21 = .ok (.getfield 22, 3) := by decide +kernel
theorem dX0_enter_24 : decode cX0_enter 24 = .ok (.ifCond .eq 23, 3) := by decide +kernel
theorem dX0_enter_27 : decode cX0_enter 27 = .ok (.aload_n 0, 1) := by decide +kernel
theorem dX0_enter_28 : decode cX0_enter 28 = .ok (.getfield 48, 3) := by decide +kernel
theorem dX0_enter_31 : decode cX0_enter 31 = .ok (.bipush 24, 2) := by decide +kernel
theorem dX0_enter_33 : decode cX0_enter 33 = .ok (.if_icmp .ge 14, 3) := by decide +kernel
theorem dX0_enter_36 : decode cX0_enter 36 = .ok (.aload_n 0, 1) := by decide +kernel
theorem dX0_enter_37 : decode cX0_enter 37 = .ok (.getfield 62, 3) := by decide +kernel
theorem dX0_enter_40 : decode cX0_enter 40 = .ok (.iload_n 1, 1) := by decide +kernel
theorem dX0_enter_41 : decode cX0_enter 41 = .ok (.iadd, 1) := by decide +kernel
theorem dX0_enter_42 : decode cX0_enter 42 = .ok (.bipush 60, 2) := by decide +kernel
theorem dX0_enter_44 : decode cX0_enter 44 = .ok (.if_icmp .le 13, 3) := by decide +kernel
theorem dX0_enter_47 : decode cX0_enter 47 = .ok (.new 83, 3) := by decide +kernel
theorem dX0_enter_50 : decode cX0_enter 50 = .ok (.dup, 1) := by decide +kernel
theorem dX0_enter_51 : decode cX0_enter 51 = .ok (.ldc 90, 2) := by decide +kernel
theorem dX0_enter_53 : decode cX0_enter 53 = .ok (.invokespecial 87, 3) := by decide +kernel
theorem dX0_enter_56 : decode cX0_enter 56 = .ok (.athrow, 1) := by decide +kernel
theorem dX0_enter_57 : decode cX0_enter 57 = .ok (.aload_n 0, 1) := by decide +kernel
theorem dX0_enter_58 : decode cX0_enter 58 = .ok (.iconst 0, 1) := by decide +kernel
theorem dX0_enter_59 : decode cX0_enter 59 = .ok (.aload_n 0, 1) := by decide +kernel
theorem dX0_enter_60 : decode cX0_enter 60 = .ok (.getfield 65, 3) := by decide +kernel
theorem dX0_enter_63 : decode cX0_enter 63 = .ok (.iconst 0, 1) := by decide +kernel
theorem dX0_enter_64 : decode cX0_enter 64 = .ok (.iconst 0, 1) := by decide +kernel
theorem dX0_enter_65 : decode cX0_enter 65 = .ok (.iconst (-1), 1) := by decide +kernel
theorem dX0_enter_66 : decode cX0_enter 66 = .ok (.invokevirtual 92, 3) := by decide +kernel
theorem dX0_enter_69 : decode cX0_enter 69 = .ok (.istore_n 2, 1) := by decide +kernel
theorem dX0_enter_70 : decode cX0_enter 70 = .ok (.iconst 0, 1) := by decide +kernel
theorem dX0_enter_71 : decode cX0_enter 71 = .ok (.istore_n 3, 1) := by decide +kernel
theorem dX0_enter_72 : decode cX0_enter 72 = .ok (.iload_n 3, 1) := by decide +kernel
theorem dX0_enter_73 : decode cX0_enter 73 = .ok (.iload_n 1, 1) := by decide +kernel
theorem dX0_enter_74 : decode cX0_enter 74 = .ok (.if_icmp .ge 14, 3) := by decide +kernel
theorem dX0_enter_77 : decode cX0_enter 77 = .ok (.aload_n 0, 1) := by decide +kernel
theorem dX0_enter_78 : decode cX0_enter 78 = .ok (.iload_n 2, 1) := by decide +kernel
theorem dX0_enter_79 : decode cX0_enter 79 = .ok (.invokevirtual 96, 3) := by decide +kernel
theorem dX0_enter_82 : decode cX0_enter 82 = .ok (.iinc 3 1, 3) := by decide +kernel
theorem dX0_enter_85 : decode cX0_enter 85 = .ok (.goto (-13), 3) := by decide +kernel
theorem dX0_enter_88 : decode cX0_enter 88 = .ok (.iload_n 2, 1) := by decide +kernel
theorem dX0_enter_89 : decode cX0_enter 89 = .ok (.ireturn, 1) := by decide +kernel
set_option maxRecDepth 20000 in
theorem ggX0_start_X0_checkLot : GoodIn wsX0_start wsX0_checkLot := goodIn_ca (goodIn_r _ [13, 14, 15, 16, 17, 18, 12, 19, 20, 50, 51, 52, 53, 54, 55, 56, 57, 58, 59, 60, 61, 62, 63, 64, 65, 66, 67] (by decide +kernel) (by decide +kernel)) (goodIn_sub (fun _ h => List.mem_cons_of_mem _ (List.mem_append_right _ h)) (by decide +kernel))
set_option maxRecDepth 20000 in
theorem gX0_start_X0_checkLot : GoodIn wsX0_start (wsV RX0 99 RX0 yX0_checkLot wsX0_checkLot) := goodIn_app (goodIn_of _ (by decide +kernel)) ggX0_start_X0_checkLot
set_option maxRecDepth 20000 in
theorem ggX0_start_X0_isReady : GoodIn wsX0_start wsX0_isReady := goodIn_r _ [24, 25, 26, 27, 12, 28, 5, 29, 30, 31, 32, 33, 3, 34, 35, 36, 7, 6, 37, 38, 39, 40, 41, 50, 51, 52, 53, 54, 55, 56, 57, 58, 59, 60, 61, 62, 63, 64, 65, 66, 67] (by decide +kernel) (by decide +kernel)
set_option maxRecDepth 20000 in
theorem gX0_start_X0_isReady : GoodIn wsX0_start (wsV RX0 102 RX0 yX0_isReady wsX0_isReady) := goodIn_app (goodIn_of _ (by decide +kernel)) ggX0_start_X0_isReady
set_option maxRecDepth 20000 in
theorem ggX0_start_X0_isStep : GoodIn wsX0_start wsX0_isStep := goodIn_r _ [40, 41, 50, 51, 52, 53, 54, 55, 56, 57, 58, 59, 60, 61, 62, 63, 64, 65, 66, 67] (by decide +kernel) (by decide +kernel)
set_option maxRecDepth 20000 in
theorem gX0_start_X0_isStep : GoodIn wsX0_start (wsV RX0 106 RX0 yX0_isStep wsX0_isStep) := goodIn_app (goodIn_of _ (by decide +kernel)) ggX0_start_X0_isStep
set_option maxRecDepth 20000 in
theorem ggX0_start_X0_isBusy : GoodIn wsX0_start wsX0_isBusy := goodIn_r _ [45, 20, 5, 46, 47, 48, 12, 49, 3, 4, 37, 38, 39, 40, 41, 50, 51, 52, 53, 54, 55, 56, 57, 58, 59, 60, 61, 62, 63, 64, 65, 66, 67] (by decide +kernel) (by decide +kernel)
set_option maxRecDepth 20000 in
theorem gX0_start_X0_isBusy : GoodIn wsX0_start (wsV RX0 109 RX0 yX0_isBusy wsX0_isBusy) := goodIn_app (goodIn_of _ (by decide +kernel)) ggX0_start_X0_isBusy
theorem dX0_start_0 : decode cX0_start 0 = .ok (.aload_n 0, 1) := by decide +kernel
theorem dX0_start_1 : decode cX0_start 1 = .ok (.iload_n 1, 1) := by decide +kernel
theorem dX0_start_2 : decode cX0_start 2 = .ok (.invokevirtual 99, 3) := by decide +kernel
theorem dX0_start_5 : decode cX0_start 5 = .ok (.aload_n 0, 1) := by decide +kernel
theorem dX0_start_6 : decode cX0_start 6 = .ok (.getfield 29, 3) := by decide +kernel
theorem dX0_start_9 : decode cX0_start 9 = .ok (.iload_n 1, 1) := by decide +kernel
theorem dX0_start_10 : decode cX0_start 10 = .ok (.iaload, 1) := by decide +kernel
theorem dX0_start_11 : decode cX0_start 11 = .ok (.istore_n 2, 1) := by decide +kernel
theorem dX0_start_12 : decode cX0_start 12 = .ok (.aload_n 0, 1) := by decide +kernel
theorem dX0_start_13 : decode cX0_start 13 = .ok (.iload_n 1, 1) := by decide +kernel
theorem dX0_start_14 : decode cX0_start 14 = .ok (.invokevirtual 102, 3) := by decide +kernel
theorem dX0_start_17 : decode cX0_start 17 = .ok (.ifCond .eq 24, 3) := by decide +kernel
theorem dX0_start_20 : decode cX0_start 20 = .ok (.aload_n 0, 1) := by decide +kernel
theorem dX0_start_21 : decode cX0_start 21 = .ok (.iload_n 2, 1) := by decide +kernel
theorem dX0_start_22 : decode cX0_start 22 = .ok (.invokevirtual 106, 3) := by decide +kernel
theorem dX0_start_25 : decode cX0_start 25 = .ok (.ifCond .eq 16, 3) := by decide +kernel
theorem dX0_start_28 : decode cX0_start 28 = .ok (.aload_n 0, 1) := by decide +kernel
theorem dX0_start_29 : decode cX0_start 29 = .ok (.aload_n 0, 1) := by decide +kernel
theorem dX0_start_30 : decode cX0_start 30 = .ok (.getfield 9, 3) := by decide +kernel
theorem dX0_start_33 : decode cX0_start 33 = .ok (.iload_n 2, 1) := by decide +kernel
theorem dX0_start_34 : decode cX0_start 34 = .ok (.iaload, 1) := by decide +kernel
theorem dX0_start_35 : decode cX0_start 35 = .ok (.invokevirtual 109, 3) := by decide +kernel
theorem dX0_start_38 : decode cX0_start 38 = .ok (.ifCond .eq 13, 3) := by decide +kernel
theorem dX0_start_41 : decode cX0_start 41 = .ok (.new 83, 3) := by decide +kernel
theorem dX0_start_44 : decode cX0_start 44 = .ok (.dup, 1) := by decide +kernel
theorem dX0_start_45 : decode cX0_start 45 = .ok (.ldc 112, 2) := by decide +kernel
theorem dX0_start_47 : decode cX0_start 47 = .ok (.invokespecial 87, 3) := by decide +kernel
theorem dX0_start_50 : decode cX0_start 50 = .ok (.athrow, 1) := by decide +kernel
theorem dX0_start_51 : decode cX0_start 51 = .ok (.aload_n 0, 1) := by decide +kernel
theorem dX0_start_52 : decode cX0_start 52 = .ok (.getfield 26, 3) := by decide +kernel
theorem dX0_start_55 : decode cX0_start 55 = .ok (.iload_n 1, 1) := by decide +kernel
theorem dX0_start_56 : decode cX0_start 56 = .ok (.iconst 1, 1) := by decide +kernel
theorem dX0_start_57 : decode cX0_start 57 = .ok (.iastore, 1) := by decide +kernel
theorem dX0_start_58 : decode cX0_start 58 = .ok (.aload_n 0, 1) := by decide +kernel
theorem dX0_start_59 : decode cX0_start 59 = .ok (.getfield 32, 3) := by decide +kernel
theorem dX0_start_62 : decode cX0_start 62 = .ok (.iload_n 1, 1) := by decide +kernel
theorem dX0_start_63 : decode cX0_start 63 = .ok (.aload_n 0, 1) := by decide +kernel
theorem dX0_start_64 : decode cX0_start 64 = .ok (.getfield 65, 3) := by decide +kernel
theorem dX0_start_67 : decode cX0_start 67 = .ok (.aload_n 0, 1) := by decide +kernel
theorem dX0_start_68 : decode cX0_start 68 = .ok (.getfield 13, 3) := by decide +kernel
theorem dX0_start_71 : decode cX0_start 71 = .ok (.iload_n 2, 1) := by decide +kernel
theorem dX0_start_72 : decode cX0_start 72 = .ok (.iaload, 1) := by decide +kernel
theorem dX0_start_73 : decode cX0_start 73 = .ok (.iadd, 1) := by decide +kernel
theorem dX0_start_74 : decode cX0_start 74 = .ok (.iastore, 1) := by decide +kernel
theorem dX0_start_75 : decode cX0_start 75 = .ok (.aload_n 0, 1) := by decide +kernel
theorem dX0_start_76 : decode cX0_start 76 = .ok (.getfield 32, 3) := by decide +kernel
theorem dX0_start_79 : decode cX0_start 79 = .ok (.iload_n 1, 1) := by decide +kernel
theorem dX0_start_80 : decode cX0_start 80 = .ok (.iaload, 1) := by decide +kernel
theorem dX0_start_81 : decode cX0_start 81 = .ok (.ireturn, 1) := by decide +kernel
set_option maxRecDepth 20000 in
theorem ggX0_rework_X0_checkLot : GoodIn wsX0_rework wsX0_checkLot := goodIn_ca (goodIn_r _ [12, 13, 14, 15, 16, 17, 11, 18, 19, 31, 32, 33, 34, 35, 36, 37, 38, 39, 40, 41, 42, 43, 44, 45, 46, 47, 48] (by decide +kernel) (by decide +kernel)) (goodIn_sub (fun _ h => List.mem_cons_of_mem _ (List.mem_append_right _ h)) (by decide +kernel))
set_option maxRecDepth 20000 in
theorem gX0_rework_X0_checkLot : GoodIn wsX0_rework (wsV RX0 99 RX0 yX0_checkLot wsX0_checkLot) := goodIn_app (goodIn_of _ (by decide +kernel)) ggX0_rework_X0_checkLot
set_option maxRecDepth 20000 in
theorem ggX0_rework_X0_isFree : GoodIn wsX0_rework wsX0_isFree := goodIn_r _ [23, 24, 25, 31, 32, 33, 34, 35, 36, 37, 38, 39, 40, 41, 42, 43, 44, 45, 46, 47, 48] (by decide +kernel) (by decide +kernel)
set_option maxRecDepth 20000 in
theorem gX0_rework_X0_isFree : GoodIn wsX0_rework (wsV RX0 114 RX0 yX0_isFree wsX0_isFree) := goodIn_app (goodIn_of _ (by decide +kernel)) ggX0_rework_X0_isFree
set_option maxRecDepth 20000 in
theorem ggX0_rework_X0_isStep : GoodIn wsX0_rework wsX0_isStep := goodIn_r _ [29, 30, 31, 32, 33, 34, 35, 36, 37, 38, 39, 40, 41, 42, 43, 44, 45, 46, 47, 48] (by decide +kernel) (by decide +kernel)
set_option maxRecDepth 20000 in
theorem gX0_rework_X0_isStep : GoodIn wsX0_rework (wsV RX0 106 RX0 yX0_isStep wsX0_isStep) := goodIn_app (goodIn_of _ (by decide +kernel)) ggX0_rework_X0_isStep
theorem dX0_rework_0 : decode cX0_rework 0 = .ok (.aload_n 0, 1) := by decide +kernel
theorem dX0_rework_1 : decode cX0_rework 1 = .ok (.iload_n 1, 1) := by decide +kernel
theorem dX0_rework_2 : decode cX0_rework 2 = .ok (.invokevirtual 99, 3) := by decide +kernel
theorem dX0_rework_5 : decode cX0_rework 5 = .ok (.aload_n 0, 1) := by decide +kernel
theorem dX0_rework_6 : decode cX0_rework 6 = .ok (.getfield 29, 3) := by decide +kernel
theorem dX0_rework_9 : decode cX0_rework 9 = .ok (.iload_n 1, 1) := by decide +kernel
theorem dX0_rework_10 : decode cX0_rework 10 = .ok (.iaload, 1) := by decide +kernel
theorem dX0_rework_11 : decode cX0_rework 11 = .ok (.istore_n 2, 1) := by decide +kernel
theorem dX0_rework_12 : decode cX0_rework 12 = .ok (.aload_n 0, 1) := by decide +kernel
theorem dX0_rework_13 : decode cX0_rework 13 = .ok (.iload_n 1, 1) := by decide +kernel
theorem dX0_rework_14 : decode cX0_rework 14 = .ok (.invokevirtual 114, 3) := by decide +kernel
theorem dX0_rework_17 : decode cX0_rework 17 = .ok (.ifCond .eq 21, 3) := by decide +kernel
theorem dX0_rework_20 : decode cX0_rework 20 = .ok (.aload_n 0, 1) := by decide +kernel
theorem dX0_rework_21 : decode cX0_rework 21 = .ok (.iload_n 2, 1) := by decide +kernel
theorem dX0_rework_22 : decode cX0_rework 22 = .ok (.invokevirtual 106, 3) := by decide +kernel
theorem dX0_rework_25 : decode cX0_rework 25 = .ok (.ifCond .eq 13, 3) := by decide +kernel
theorem dX0_rework_28 : decode cX0_rework 28 = .ok (.aload_n 0, 1) := by decide +kernel
theorem dX0_rework_29 : decode cX0_rework 29 = .ok (.getfield 39, 3) := by decide +kernel
theorem dX0_rework_32 : decode cX0_rework 32 = .ok (.iload_n 1, 1) := by decide +kernel
theorem dX0_rework_33 : decode cX0_rework 33 = .ok (.iaload, 1) := by decide +kernel
theorem dX0_rework_34 : decode cX0_rework 34 = .ok (.iconst 2, 1) := by decide +kernel
theorem dX0_rework_35 : decode cX0_rework 35 = .ok (.if_icmp .lt 13, 3) := by decide +kernel
theorem dX0_rework_38 : decode cX0_rework 38 = .ok (.new 83, 3) := by decide +kernel
theorem dX0_rework_41 : decode cX0_rework 41 = .ok (.dup, 1) := by decide +kernel
theorem dX0_rework_42 : decode cX0_rework 42 = .ok (.ldc 117, 2) := by decide +kernel
theorem dX0_rework_44 : decode cX0_rework 44 = .ok (.invokespecial 87, 3) := by decide +kernel
theorem dX0_rework_47 : decode cX0_rework 47 = .ok (.athrow, 1) := by decide +kernel
theorem dX0_rework_48 : decode cX0_rework 48 = .ok (.aload_n 0, 1) := by decide +kernel
theorem dX0_rework_49 : decode cX0_rework 49 = .ok (.getfield 29, 3) := by decide +kernel
theorem dX0_rework_52 : decode cX0_rework 52 = .ok (.iload_n 1, 1) := by decide +kernel
theorem dX0_rework_53 : decode cX0_rework 53 = .ok (.aload_n 0, 1) := by decide +kernel
theorem dX0_rework_54 : decode cX0_rework 54 = .ok (.getfield 19, 3) := by decide +kernel
theorem dX0_rework_57 : decode cX0_rework 57 = .ok (.iload_n 2, 1) := by decide +kernel
theorem dX0_rework_58 : decode cX0_rework 58 = .ok (.iaload, 1) := by decide +kernel
theorem dX0_rework_59 : decode cX0_rework 59 = .ok (.iastore, 1) := by decide +kernel
theorem dX0_rework_60 : decode cX0_rework 60 = .ok (.aload_n 0, 1) := by decide +kernel
theorem dX0_rework_61 : decode cX0_rework 61 = .ok (.getfield 32, 3) := by decide +kernel
theorem dX0_rework_64 : decode cX0_rework 64 = .ok (.iload_n 1, 1) := by decide +kernel
theorem dX0_rework_65 : decode cX0_rework 65 = .ok (.aload_n 0, 1) := by decide +kernel
theorem dX0_rework_66 : decode cX0_rework 66 = .ok (.getfield 65, 3) := by decide +kernel
theorem dX0_rework_69 : decode cX0_rework 69 = .ok (.iastore, 1) := by decide +kernel
theorem dX0_rework_70 : decode cX0_rework 70 = .ok (.aload_n 0, 1) := by decide +kernel
theorem dX0_rework_71 : decode cX0_rework 71 = .ok (.getfield 39, 3) := by decide +kernel
theorem dX0_rework_74 : decode cX0_rework 74 = .ok (.iload_n 1, 1) := by decide +kernel
theorem dX0_rework_75 : decode cX0_rework 75 = .ok (.dup2, 1) := by decide +kernel
theorem dX0_rework_76 : decode cX0_rework 76 = .ok (.iaload, 1) := by decide +kernel
theorem dX0_rework_77 : decode cX0_rework 77 = .ok (.iconst 1, 1) := by decide +kernel
theorem dX0_rework_78 : decode cX0_rework 78 = .ok (.iadd, 1) := by decide +kernel
theorem dX0_rework_79 : decode cX0_rework 79 = .ok (.iastore, 1) := by decide +kernel
theorem dX0_rework_80 : decode cX0_rework 80 = .ok (.aload_n 0, 1) := by decide +kernel
theorem dX0_rework_81 : decode cX0_rework 81 = .ok (.getfield 29, 3) := by decide +kernel
theorem dX0_rework_84 : decode cX0_rework 84 = .ok (.iload_n 1, 1) := by decide +kernel
theorem dX0_rework_85 : decode cX0_rework 85 = .ok (.iaload, 1) := by decide +kernel
theorem dX0_rework_86 : decode cX0_rework 86 = .ok (.ireturn, 1) := by decide +kernel
set_option maxRecDepth 20000 in
theorem ggX0_split_X0_checkLot : GoodIn wsX0_split wsX0_checkLot := goodIn_ca (goodIn_r _ [16, 17, 18, 19, 20, 21, 15, 22, 7, 43, 44, 45, 46, 47, 48, 49, 50, 51, 52, 53, 54, 55, 56, 57, 58, 59, 60] (by decide +kernel) (by decide +kernel)) (goodIn_sub (fun _ h => List.mem_cons_of_mem _ (List.mem_append_right _ h)) (by decide +kernel))
set_option maxRecDepth 20000 in
theorem gX0_split_X0_checkLot : GoodIn wsX0_split (wsV RX0 99 RX0 yX0_checkLot wsX0_checkLot) := goodIn_app (goodIn_of _ (by decide +kernel)) ggX0_split_X0_checkLot
set_option maxRecDepth 20000 in
theorem ggX0_split_X0_isWithin : GoodIn wsX0_split wsX0_isWithin := goodIn_r _ [25] (by decide +kernel) (by decide +kernel)
set_option maxRecDepth 20000 in
theorem gX0_split_X0_isWithin : GoodIn wsX0_split (va_wsS RX0 72 yX0_isWithin wsX0_isWithin) := goodIn_app (goodIn_of _ (by decide +kernel)) ggX0_split_X0_isWithin
set_option maxRecDepth 20000 in
theorem ggX0_split_X0_makeLot : GoodIn wsX0_split wsX0_makeLot := goodIn_r _ [29, 7, 6, 8, 9, 10, 11, 30, 5, 43, 44, 45, 46, 47, 48, 49, 50, 51, 52, 53, 54, 55, 56, 57, 58, 59, 60] (by decide +kernel) (by decide +kernel)
set_option maxRecDepth 20000 in
theorem gX0_split_X0_makeLot : GoodIn wsX0_split (wsV RX0 92 RX0 yX0_makeLot wsX0_makeLot) := goodIn_app (goodIn_of _ (by decide +kernel)) ggX0_split_X0_makeLot
set_option maxRecDepth 20000 in
theorem ggX0_split_X0_moveWafers : GoodIn wsX0_split wsX0_moveWafers := goodIn_r _ [34, 35, 36, 5, 37, 38, 39, 15, 40, 41, 42, 43, 44, 45, 46, 47, 48, 49, 50, 51, 52, 53, 54, 55, 56, 57, 58, 59, 60] (by decide +kernel) (by decide +kernel)
set_option maxRecDepth 20000 in
theorem gX0_split_X0_moveWafers : GoodIn wsX0_split (wsV RX0 121 RX0 yX0_moveWafers wsX0_moveWafers) := goodIn_app (goodIn_of _ (by decide +kernel)) ggX0_split_X0_moveWafers
theorem dX0_split_0 : decode cX0_split 0 = .ok (.aload_n 0, 1) := by decide +kernel
theorem dX0_split_1 : decode cX0_split 1 = .ok (.iload_n 1, 1) := by decide +kernel
theorem dX0_split_2 : decode cX0_split 2 = .ok (.invokevirtual 99, 3) := by decide +kernel
theorem dX0_split_5 : decode cX0_split 5 = .ok (.iload_n 2, 1) := by decide +kernel
theorem dX0_split_6 : decode cX0_split 6 = .ok (.iconst 1, 1) := by decide +kernel
theorem dX0_split_7 : decode cX0_split 7 = .ok (.aload_n 0, 1) := by decide +kernel
theorem dX0_split_8 : decode cX0_split 8 = .ok (.getfield 45, 3) := by decide +kernel
theorem dX0_split_11 : decode cX0_split 11 = .ok (.iload_n 1, 1) := by decide +kernel
theorem dX0_split_12 : decode cX0_split 12 = .ok (.iaload, 1) := by decide +kernel
theorem dX0_split_13 : decode cX0_split 13 = .ok (.iconst 1, 1) := by decide +kernel
theorem dX0_split_14 : decode cX0_split 14 = .ok (.isub, 1) := by decide +kernel
theorem dX0_split_15 : decode cX0_split 15 = .ok (.invokestatic 72, 3) := by decide +kernel
theorem dX0_split_18 : decode cX0_split 18 = .ok (.ifCond .ne 13, 3) := by decide +kernel
theorem dX0_split_21 : decode cX0_split 21 = .ok (.new 76, 3) := by decide +kernel
theorem dX0_split_24 : decode cX0_split 24 = .ok (.dup, 1) := by decide +kernel
theorem dX0_split_25 : decode cX0_split 25 = .ok (.ldc 88, 2) := by decide +kernel
theorem dX0_split_27 : decode cX0_split 27 = .ok (.invokespecial 80, 3) := by decide +kernel
theorem dX0_split_30 : decode cX0_split 30 = .ok (.athrow, 1) := by decide +kernel
theorem dX0_split_31 : decode cX0_split 31 = .ok (.aload_n 0, 1) := by decide +kernel
theorem dX0_split_32 : decode cX0_split 32 = .ok (.getfield 26, 3) := by decide +kernel
theorem dX0_split_35 : decode cX0_split 35 = .ok (.iload_n 1, 1) := by decide +kernel
theorem dX0_split_36 : decode cX0_split 36 = .ok (.iaload, 1) := by decide +kernel
theorem dX0_split_37 : decode cX0_split 37 = .ok (.ifCond .ne 12, 3) := by decide +kernel
theorem dX0_split_40 : decode cX0_split 40 = .ok (.aload_n 0, 1) := by decide +kernel
theorem dX0_split_41 : decode cX0_split 41 = .ok (.getfield 48, 3) := by decide +kernel
theorem dX0_split_44 : decode cX0_split 44 = .ok (.bipush 24, 2) := by decide +kernel
theorem dX0_split_46 : decode cX0_split 46 = .ok (.if_icmp .lt 13, 3) := by decide +kernel
theorem dX0_split_49 : decode cX0_split 49 = .ok (.new 83, 3) := by decide +kernel
theorem dX0_split_52 : decode cX0_split 52 = .ok (.dup, 1) := by decide +kernel
theorem dX0_split_53 : decode cX0_split 53 = .ok (.ldc 119, 2) := by decide +kernel
theorem dX0_split_55 : decode cX0_split 55 = .ok (.invokespecial 87, 3) := by decide +kernel
theorem dX0_split_58 : decode cX0_split 58 = .ok (.athrow, 1) := by decide +kernel
theorem dX0_split_59 : decode cX0_split 59 = .ok (.aload_n 0, 1) := by decide +kernel
theorem dX0_split_60 : decode cX0_split 60 = .ok (.aload_n 0, 1) := by decide +kernel
theorem dX0_split_61 : decode cX0_split 61 = .ok (.getfield 29, 3) := by decide +kernel
theorem dX0_split_64 : decode cX0_split 64 = .ok (.iload_n 1, 1) := by decide +kernel
theorem dX0_split_65 : decode cX0_split 65 = .ok (.iaload, 1) := by decide +kernel
theorem dX0_split_66 : decode cX0_split 66 = .ok (.aload_n 0, 1) := by decide +kernel
theorem dX0_split_67 : decode cX0_split 67 = .ok (.getfield 32, 3) := by decide +kernel
theorem dX0_split_70 : decode cX0_split 70 = .ok (.iload_n 1, 1) := by decide +kernel
theorem dX0_split_71 : decode cX0_split 71 = .ok (.iaload, 1) := by decide +kernel
theorem dX0_split_72 : decode cX0_split 72 = .ok (.aload_n 0, 1) := by decide +kernel
theorem dX0_split_73 : decode cX0_split 73 = .ok (.getfield 35, 3) := by decide +kernel
theorem dX0_split_76 : decode cX0_split 76 = .ok (.iload_n 1, 1) := by decide +kernel
theorem dX0_split_77 : decode cX0_split 77 = .ok (.baload, 1) := by decide +kernel
theorem dX0_split_78 : decode cX0_split 78 = .ok (.aload_n 0, 1) := by decide +kernel
theorem dX0_split_79 : decode cX0_split 79 = .ok (.getfield 39, 3) := by decide +kernel
theorem dX0_split_82 : decode cX0_split 82 = .ok (.iload_n 1, 1) := by decide +kernel
theorem dX0_split_83 : decode cX0_split 83 = .ok (.iaload, 1) := by decide +kernel
theorem dX0_split_84 : decode cX0_split 84 = .ok (.iload_n 1, 1) := by decide +kernel
theorem dX0_split_85 : decode cX0_split 85 = .ok (.invokevirtual 92, 3) := by decide +kernel
theorem dX0_split_88 : decode cX0_split 88 = .ok (.istore_n 3, 1) := by decide +kernel
theorem dX0_split_89 : decode cX0_split 89 = .ok (.aload_n 0, 1) := by decide +kernel
theorem dX0_split_90 : decode cX0_split 90 = .ok (.iload_n 1, 1) := by decide +kernel
theorem dX0_split_91 : decode cX0_split 91 = .ok (.iload_n 3, 1) := by decide +kernel
theorem dX0_split_92 : decode cX0_split 92 = .ok (.iload_n 2, 1) := by decide +kernel
theorem dX0_split_93 : decode cX0_split 93 = .ok (.invokevirtual 121, 3) := by decide +kernel
theorem dX0_split_96 : decode cX0_split 96 = .ok (.iload_n 3, 1) := by decide +kernel
theorem dX0_split_97 : decode cX0_split 97 = .ok (.ireturn, 1) := by decide +kernel
set_option maxRecDepth 20000 in
theorem ggX0_merge_X0_checkLot : GoodIn wsX0_merge wsX0_checkLot := goodIn_ca (goodIn_r _ [20, 21, 22, 23, 24, 25, 19, 26, 27, 50, 51, 52, 53, 54, 55, 56, 57, 58, 59, 60, 61, 62, 63, 64, 65, 66, 67] (by decide +kernel) (by decide +kernel)) (goodIn_sub (fun _ h => List.mem_cons_of_mem _ (List.mem_append_right _ h)) (by decide +kernel))
set_option maxRecDepth 20000 in
theorem gX0_merge_X0_checkLot : GoodIn wsX0_merge (wsV RX0 99 RX0 yX0_checkLot wsX0_checkLot) := goodIn_app (goodIn_of _ (by decide +kernel)) ggX0_merge_X0_checkLot
set_option maxRecDepth 20000 in
theorem ggX0_merge_X0_isFree : GoodIn wsX0_merge wsX0_isFree := goodIn_r _ [31, 32, 33, 50, 51, 52, 53, 54, 55, 56, 57, 58, 59, 60, 61, 62, 63, 64, 65, 66, 67] (by decide +kernel) (by decide +kernel)
set_option maxRecDepth 20000 in
theorem gX0_merge_X0_isFree : GoodIn wsX0_merge (wsV RX0 114 RX0 yX0_isFree wsX0_isFree) := goodIn_app (goodIn_of _ (by decide +kernel)) ggX0_merge_X0_isFree
set_option maxRecDepth 20000 in
theorem ggX0_merge_X0_moveWafers : GoodIn wsX0_merge wsX0_moveWafers := goodIn_r _ [37, 38, 39, 15, 40, 41, 42, 19, 43, 44, 45, 50, 51, 52, 53, 54, 55, 56, 57, 58, 59, 60, 61, 62, 63, 64, 65, 66, 67] (by decide +kernel) (by decide +kernel)
set_option maxRecDepth 20000 in
theorem gX0_merge_X0_moveWafers : GoodIn wsX0_merge (wsV RX0 121 RX0 yX0_moveWafers wsX0_moveWafers) := goodIn_app (goodIn_of _ (by decide +kernel)) ggX0_merge_X0_moveWafers
set_option maxRecDepth 20000 in
theorem ggX0_merge_X0_leaveRoute : GoodIn wsX0_merge wsX0_leaveRoute := goodIn_r _ [49, 32, 5, 50, 51, 52, 53, 54, 55, 56, 57, 58, 59, 60, 61, 62, 63, 64, 65, 66, 67] (by decide +kernel) (by decide +kernel)
set_option maxRecDepth 20000 in
theorem gX0_merge_X0_leaveRoute : GoodIn wsX0_merge (wsV RX0 138 RX0 yX0_leaveRoute wsX0_leaveRoute) := goodIn_app (goodIn_of _ (by decide +kernel)) ggX0_merge_X0_leaveRoute
theorem dX0_merge_0 : decode cX0_merge 0 = .ok (.aload_n 0, 1) := by decide +kernel
theorem dX0_merge_1 : decode cX0_merge 1 = .ok (.iload_n 1, 1) := by decide +kernel
theorem dX0_merge_2 : decode cX0_merge 2 = .ok (.invokevirtual 99, 3) := by decide +kernel
theorem dX0_merge_5 : decode cX0_merge 5 = .ok (.aload_n 0, 1) := by decide +kernel
theorem dX0_merge_6 : decode cX0_merge 6 = .ok (.iload_n 2, 1) := by decide +kernel
theorem dX0_merge_7 : decode cX0_merge 7 = .ok (.invokevirtual 99, 3) := by decide +kernel
theorem dX0_merge_10 : decode cX0_merge 10 = .ok (.iload_n 1, 1) := by decide +kernel
theorem dX0_merge_11 : decode cX0_merge 11 = .ok (.iload_n 2, 1) := by decide +kernel
theorem dX0_merge_12 : decode cX0_merge 12 = .ok (.if_icmp .ne 13, 3) := by decide +kernel
theorem dX0_merge_15 : decode cX0_merge 15 = .ok (.new 76, 3) := by decide +kernel
theorem dX0_merge_18 : decode cX0_merge 18 = .ok (.dup, 1) := by decide +kernel
theorem dX0_merge_19 : decode cX0_merge 19 = .ok (.ldc 125, 2) := by decide +kernel
theorem dX0_merge_21 : decode cX0_merge 21 = .ok (.invokespecial 80, 3) := by decide +kernel
theorem dX0_merge_24 : decode cX0_merge 24 = .ok (.athrow, 1) := by decide +kernel
theorem dX0_merge_25 : decode cX0_merge 25 = .ok (.aload_n 0, 1) := by decide +kernel
theorem dX0_merge_26 : decode cX0_merge 26 = .ok (.iload_n 1, 1) := by decide +kernel
theorem dX0_merge_27 : decode cX0_merge 27 = .ok (.invokevirtual 114, 3) := by decide +kernel
theorem dX0_merge_30 : decode cX0_merge 30 = .ok (.ifCond .eq 26, 3) := by decide +kernel
theorem dX0_merge_33 : decode cX0_merge 33 = .ok (.aload_n 0, 1) := by decide +kernel
theorem dX0_merge_34 : decode cX0_merge 34 = .ok (.iload_n 2, 1) := by decide +kernel
theorem dX0_merge_35 : decode cX0_merge 35 = .ok (.invokevirtual 114, 3) := by decide +kernel
theorem dX0_merge_38 : decode cX0_merge 38 = .ok (.ifCond .eq 18, 3) := by decide +kernel
theorem dX0_merge_41 : decode cX0_merge 41 = .ok (.aload_n 0, 1) := by decide +kernel
theorem dX0_merge_42 : decode cX0_merge 42 = .ok (.getfield 29, 3) := by decide +kernel
theorem dX0_merge_45 : decode cX0_merge 45 = .ok (.iload_n 1, 1) := by decide +kernel
theorem dX0_merge_46 : decode cX0_merge 46 = .ok (.iaload, 1) := by decide +kernel
theorem dX0_merge_47 : decode cX0_merge 47 = .ok (.aload_n 0, 1) := by decide +kernel
theorem dX0_merge_48 : decode cX0_merge 48 = .ok (.getfield 29, 3) := by decide +kernel
theorem dX0_merge_51 : decode cX0_merge 51 = .ok (.iload_n 2, 1) := by decide +kernel
theorem dX0_merge_52 : decode cX0_merge 52 = .ok (.iaload, 1) := by decide +kernel
theorem dX0_merge_53 : decode cX0_merge 53 = .ok (.if_icmp .eq 13, 3) := by decide +kernel
theorem dX0_merge_56 : decode cX0_merge 56 = .ok (.new 83, 3) := by decide +kernel
theorem dX0_merge_59 : decode cX0_merge 59 = .ok (.dup, 1) := by decide +kernel
theorem dX0_merge_60 : decode cX0_merge 60 = .ok (.ldc 127, 2) := by decide +kernel
theorem dX0_merge_62 : decode cX0_merge 62 = .ok (.invokespecial 87, 3) := by decide +kernel
theorem dX0_merge_65 : decode cX0_merge 65 = .ok (.athrow, 1) := by decide +kernel
theorem dX0_merge_66 : decode cX0_merge 66 = .ok (.aload_n 0, 1) := by decide +kernel
theorem dX0_merge_67 : decode cX0_merge 67 = .ok (.getfield 32, 3) := by decide +kernel
theorem dX0_merge_70 : decode cX0_merge 70 = .ok (.iload_n 2, 1) := by decide +kernel
theorem dX0_merge_71 : decode cX0_merge 71 = .ok (.aload_n 0, 1) := by decide +kernel
theorem dX0_merge_72 : decode cX0_merge 72 = .ok (.getfield 32, 3) := by decide +kernel
theorem dX0_merge_75 : decode cX0_merge 75 = .ok (.iload_n 1, 1) := by decide +kernel
theorem dX0_merge_76 : decode cX0_merge 76 = .ok (.iaload, 1) := by decide +kernel
theorem dX0_merge_77 : decode cX0_merge 77 = .ok (.aload_n 0, 1) := by decide +kernel
theorem dX0_merge_78 : decode cX0_merge 78 = .ok (.getfield 32, 3) := by decide +kernel
theorem dX0_merge_81 : decode cX0_merge 81 = .ok (.iload_n 2, 1) := by decide +kernel
theorem dX0_merge_82 : decode cX0_merge 82 = .ok (.iaload, 1) := by decide +kernel
theorem dX0_merge_83 : decode cX0_merge 83 = .ok (.invokestatic 129, 3) := by decide +kernel
theorem dX0_merge_86 : decode cX0_merge 86 = .ok (.iastore, 1) := by decide +kernel
theorem dX0_merge_87 : decode cX0_merge 87 = .ok (.aload_n 0, 1) := by decide +kernel
theorem dX0_merge_88 : decode cX0_merge 88 = .ok (.getfield 39, 3) := by decide +kernel
theorem dX0_merge_91 : decode cX0_merge 91 = .ok (.iload_n 2, 1) := by decide +kernel
theorem dX0_merge_92 : decode cX0_merge 92 = .ok (.aload_n 0, 1) := by decide +kernel
theorem dX0_merge_93 : decode cX0_merge 93 = .ok (.getfield 39, 3) := by decide +kernel
theorem dX0_merge_96 : decode cX0_merge 96 = .ok (.iload_n 1, 1) := by decide +kernel
theorem dX0_merge_97 : decode cX0_merge 97 = .ok (.iaload, 1) := by decide +kernel
theorem dX0_merge_98 : decode cX0_merge 98 = .ok (.aload_n 0, 1) := by decide +kernel
theorem dX0_merge_99 : decode cX0_merge 99 = .ok (.getfield 39, 3) := by decide +kernel
theorem dX0_merge_102 : decode cX0_merge 102 = .ok (.iload_n 2, 1) := by decide +kernel
theorem dX0_merge_103 : decode cX0_merge 103 = .ok (.iaload, 1) := by decide +kernel
theorem dX0_merge_104 : decode cX0_merge 104 = .ok (.invokestatic 135, 3) := by decide +kernel
theorem dX0_merge_107 : decode cX0_merge 107 = .ok (.iastore, 1) := by decide +kernel
theorem dX0_merge_108 : decode cX0_merge 108 = .ok (.aload_n 0, 1) := by decide +kernel
theorem dX0_merge_109 : decode cX0_merge 109 = .ok (.iload_n 1, 1) := by decide +kernel
theorem dX0_merge_110 : decode cX0_merge 110 = .ok (.iload_n 2, 1) := by decide +kernel
theorem dX0_merge_111 : decode cX0_merge 111 = .ok (.aload_n 0, 1) := by decide +kernel
theorem dX0_merge_112 : decode cX0_merge 112 = .ok (.getfield 45, 3) := by decide +kernel
theorem dX0_merge_115 : decode cX0_merge 115 = .ok (.iload_n 1, 1) := by decide +kernel
theorem dX0_merge_116 : decode cX0_merge 116 = .ok (.iaload, 1) := by decide +kernel
theorem dX0_merge_117 : decode cX0_merge 117 = .ok (.invokevirtual 121, 3) := by decide +kernel
theorem dX0_merge_120 : decode cX0_merge 120 = .ok (.aload_n 0, 1) := by decide +kernel
theorem dX0_merge_121 : decode cX0_merge 121 = .ok (.iload_n 1, 1) := by decide +kernel
theorem dX0_merge_122 : decode cX0_merge 122 = .ok (.iconst 3, 1) := by decide +kernel
theorem dX0_merge_123 : decode cX0_merge 123 = .ok (.invokevirtual 138, 3) := by decide +kernel
theorem dX0_merge_126 : decode cX0_merge 126 = .ok (.aload_n 0, 1) := by decide +kernel
theorem dX0_merge_127 : decode cX0_merge 127 = .ok (.getfield 45, 3) := by decide +kernel
theorem dX0_merge_130 : decode cX0_merge 130 = .ok (.iload_n 2, 1) := by decide +kernel
theorem dX0_merge_131 : decode cX0_merge 131 = .ok (.iaload, 1) := by decide +kernel
theorem dX0_merge_132 : decode cX0_merge 132 = .ok (.ireturn, 1) := by decide +kernel
set_option maxRecDepth 20000 in
theorem ggX0_hold_X0_checkLot : GoodIn wsX0_hold wsX0_checkLot := goodIn_ca (goodIn_r _ [9, 10, 11, 12, 13, 14, 8, 15, 16, 17, 18, 19, 20, 21, 22, 23, 24, 25, 26, 27, 28, 29, 30, 31, 32, 33, 34] (by decide +kernel) (by decide +kernel)) (goodIn_sub (fun _ h => List.mem_cons_of_mem _ (List.mem_append_right _ h)) (by decide +kernel))
set_option maxRecDepth 20000 in
theorem gX0_hold_X0_checkLot : GoodIn wsX0_hold (wsV RX0 99 RX0 yX0_checkLot wsX0_checkLot) := goodIn_app (goodIn_of _ (by decide +kernel)) ggX0_hold_X0_checkLot
theorem dX0_hold_0 : decode cX0_hold 0 = .ok (.aload_n 0, 1) := by decide +kernel
theorem dX0_hold_1 : decode cX0_hold 1 = .ok (.iload_n 1, 1) := by decide +kernel
theorem dX0_hold_2 : decode cX0_hold 2 = .ok (.invokevirtual 99, 3) := by decide +kernel
theorem dX0_hold_5 : decode cX0_hold 5 = .ok (.aload_n 0, 1) := by decide +kernel
theorem dX0_hold_6 : decode cX0_hold 6 = .ok (.getfield 26, 3) := by decide +kernel
theorem dX0_hold_9 : decode cX0_hold 9 = .ok (.iload_n 1, 1) := by decide +kernel
theorem dX0_hold_10 : decode cX0_hold 10 = .ok (.iaload, 1) := by decide +kernel
theorem dX0_hold_11 : decode cX0_hold 11 = .ok (.iconst 2, 1) := by decide +kernel
theorem dX0_hold_12 : decode cX0_hold 12 = .ok (.if_icmp .eq 13, 3) := by decide +kernel
theorem dX0_hold_15 : decode cX0_hold 15 = .ok (.aload_n 0, 1) := by decide +kernel
theorem dX0_hold_16 : decode cX0_hold 16 = .ok (.getfield 26, 3) := by decide +kernel
theorem dX0_hold_19 : decode cX0_hold 19 = .ok (.iload_n 1, 1) := by decide +kernel
theorem dX0_hold_20 : decode cX0_hold 20 = .ok (.iaload, 1) := by decide +kernel
theorem dX0_hold_21 : decode cX0_hold 21 = .ok (.iconst 3, 1) := by decide +kernel
theorem dX0_hold_22 : decode cX0_hold 22 = .ok (.if_icmp .ne 13, 3) := by decide +kernel
theorem dX0_hold_25 : decode cX0_hold 25 = .ok (.new 83, 3) := by decide +kernel
theorem dX0_hold_28 : decode cX0_hold 28 = .ok (.dup, 1) := by decide +kernel
theorem dX0_hold_29 : decode cX0_hold 29 = .ok (.ldc 142, 2) := by decide +kernel
theorem dX0_hold_31 : decode cX0_hold 31 = .ok (.invokespecial 87, 3) := by decide +kernel
theorem dX0_hold_34 : decode cX0_hold 34 = .ok (.athrow, 1) := by decide +kernel
theorem dX0_hold_35 : decode cX0_hold 35 = .ok (.aload_n 0, 1) := by decide +kernel
theorem dX0_hold_36 : decode cX0_hold 36 = .ok (.getfield 35, 3) := by decide +kernel
theorem dX0_hold_39 : decode cX0_hold 39 = .ok (.iload_n 1, 1) := by decide +kernel
theorem dX0_hold_40 : decode cX0_hold 40 = .ok (.baload, 1) := by decide +kernel
theorem dX0_hold_41 : decode cX0_hold 41 = .ok (.istore_n 3, 1) := by decide +kernel
theorem dX0_hold_42 : decode cX0_hold 42 = .ok (.aload_n 0, 1) := by decide +kernel
theorem dX0_hold_43 : decode cX0_hold 43 = .ok (.getfield 35, 3) := by decide +kernel
theorem dX0_hold_46 : decode cX0_hold 46 = .ok (.iload_n 1, 1) := by decide +kernel
theorem dX0_hold_47 : decode cX0_hold 47 = .ok (.iload_n 2, 1) := by decide +kernel
theorem dX0_hold_48 : decode cX0_hold 48 = .ok (.bastore, 1) := by decide +kernel
theorem dX0_hold_49 : decode cX0_hold 49 = .ok (.iload_n 3, 1) := by decide +kernel
theorem dX0_hold_50 : decode cX0_hold 50 = .ok (.ireturn, 1) := by decide +kernel
set_option maxRecDepth 20000 in
theorem ggX0_scrap_X0_checkWafer : GoodIn wsX0_scrap wsX0_checkWafer := goodIn_ca (goodIn_r _ [10, 11, 12, 13, 24, 25, 26, 27, 28, 29, 30, 31, 32, 33, 34, 35, 36, 37, 38, 39, 40, 41] (by decide +kernel) (by decide +kernel)) (goodIn_sub (fun _ h => List.mem_cons_of_mem _ (List.mem_append_right _ h)) (by decide +kernel))
set_option maxRecDepth 20000 in
theorem gX0_scrap_X0_checkWafer : GoodIn wsX0_scrap (wsV RX0 144 RX0 yX0_checkWafer wsX0_checkWafer) := goodIn_app (goodIn_of _ (by decide +kernel)) ggX0_scrap_X0_checkWafer
set_option maxRecDepth 20000 in
theorem ggX0_scrap_X0_isLot : GoodIn wsX0_scrap wsX0_isLot := goodIn_r _ [17, 18, 24, 25, 26, 27, 28, 29, 30, 31, 32, 33, 34, 35, 36, 37, 38, 39, 40, 41] (by decide +kernel) (by decide +kernel)
set_option maxRecDepth 20000 in
theorem gX0_scrap_X0_isLot : GoodIn wsX0_scrap (wsV RX0 147 RX0 yX0_isLot wsX0_isLot) := goodIn_app (goodIn_of _ (by decide +kernel)) ggX0_scrap_X0_isLot
set_option maxRecDepth 20000 in
theorem ggX0_scrap_X0_leaveRoute : GoodIn wsX0_scrap wsX0_leaveRoute := goodIn_r _ [22, 4, 23, 24, 25, 26, 27, 28, 29, 30, 31, 32, 33, 34, 35, 36, 37, 38, 39, 40, 41] (by decide +kernel) (by decide +kernel)
set_option maxRecDepth 20000 in
theorem gX0_scrap_X0_leaveRoute : GoodIn wsX0_scrap (wsV RX0 138 RX0 yX0_leaveRoute wsX0_leaveRoute) := goodIn_app (goodIn_of _ (by decide +kernel)) ggX0_scrap_X0_leaveRoute
theorem dX0_scrap_0 : decode cX0_scrap 0 = .ok (.aload_n 0, 1) := by decide +kernel
theorem dX0_scrap_1 : decode cX0_scrap 1 = .ok (.iload_n 1, 1) := by decide +kernel
theorem dX0_scrap_2 : decode cX0_scrap 2 = .ok (.invokevirtual 144, 3) := by decide +kernel
theorem dX0_scrap_5 : decode cX0_scrap 5 = .ok (.aload_n 0, 1) := by decide +kernel
theorem dX0_scrap_6 : decode cX0_scrap 6 = .ok (.getfield 51, 3) := by decide +kernel
theorem dX0_scrap_9 : decode cX0_scrap 9 = .ok (.iload_n 1, 1) := by decide +kernel
theorem dX0_scrap_10 : decode cX0_scrap 10 = .ok (.iaload, 1) := by decide +kernel
theorem dX0_scrap_11 : decode cX0_scrap 11 = .ok (.istore_n 2, 1) := by decide +kernel
theorem dX0_scrap_12 : decode cX0_scrap 12 = .ok (.aload_n 0, 1) := by decide +kernel
theorem dX0_scrap_13 : decode cX0_scrap 13 = .ok (.iload_n 2, 1) := by decide +kernel
theorem dX0_scrap_14 : decode cX0_scrap 14 = .ok (.invokevirtual 147, 3) := by decide +kernel
theorem dX0_scrap_17 : decode cX0_scrap 17 = .ok (.ifCond .eq 12, 3) := by decide +kernel
theorem dX0_scrap_20 : decode cX0_scrap 20 = .ok (.aload_n 0, 1) := by decide +kernel
theorem dX0_scrap_21 : decode cX0_scrap 21 = .ok (.getfield 26, 3) := by decide +kernel
theorem dX0_scrap_24 : decode cX0_scrap 24 = .ok (.iload_n 2, 1) := by decide +kernel
theorem dX0_scrap_25 : decode cX0_scrap 25 = .ok (.iaload, 1) := by decide +kernel
theorem dX0_scrap_26 : decode cX0_scrap 26 = .ok (.ifCond .eq 13, 3) := by decide +kernel
theorem dX0_scrap_29 : decode cX0_scrap 29 = .ok (.new 83, 3) := by decide +kernel
theorem dX0_scrap_32 : decode cX0_scrap 32 = .ok (.dup, 1) := by decide +kernel
theorem dX0_scrap_33 : decode cX0_scrap 33 = .ok (.ldc 150, 2) := by decide +kernel
theorem dX0_scrap_35 : decode cX0_scrap 35 = .ok (.invokespecial 87, 3) := by decide +kernel
theorem dX0_scrap_38 : decode cX0_scrap 38 = .ok (.athrow, 1) := by decide +kernel
theorem dX0_scrap_39 : decode cX0_scrap 39 = .ok (.aload_n 0, 1) := by decide +kernel
theorem dX0_scrap_40 : decode cX0_scrap 40 = .ok (.getfield 51, 3) := by decide +kernel
theorem dX0_scrap_43 : decode cX0_scrap 43 = .ok (.iload_n 1, 1) := by decide +kernel
theorem dX0_scrap_44 : decode cX0_scrap 44 = .ok (.iconst (-1), 1) := by decide +kernel
theorem dX0_scrap_45 : decode cX0_scrap 45 = .ok (.iastore, 1) := by decide +kernel
theorem dX0_scrap_46 : decode cX0_scrap 46 = .ok (.aload_n 0, 1) := by decide +kernel
theorem dX0_scrap_47 : decode cX0_scrap 47 = .ok (.getfield 45, 3) := by decide +kernel
theorem dX0_scrap_50 : decode cX0_scrap 50 = .ok (.iload_n 2, 1) := by decide +kernel
theorem dX0_scrap_51 : decode cX0_scrap 51 = .ok (.dup2, 1) := by decide +kernel
theorem dX0_scrap_52 : decode cX0_scrap 52 = .ok (.iaload, 1) := by decide +kernel
theorem dX0_scrap_53 : decode cX0_scrap 53 = .ok (.iconst 1, 1) := by decide +kernel
theorem dX0_scrap_54 : decode cX0_scrap 54 = .ok (.isub, 1) := by decide +kernel
theorem dX0_scrap_55 : decode cX0_scrap 55 = .ok (.iastore, 1) := by decide +kernel
theorem dX0_scrap_56 : decode cX0_scrap 56 = .ok (.aload_n 0, 1) := by decide +kernel
theorem dX0_scrap_57 : decode cX0_scrap 57 = .ok (.getfield 45, 3) := by decide +kernel
theorem dX0_scrap_60 : decode cX0_scrap 60 = .ok (.iload_n 2, 1) := by decide +kernel
theorem dX0_scrap_61 : decode cX0_scrap 61 = .ok (.iaload, 1) := by decide +kernel
theorem dX0_scrap_62 : decode cX0_scrap 62 = .ok (.ifCond .ne 9, 3) := by decide +kernel
theorem dX0_scrap_65 : decode cX0_scrap 65 = .ok (.aload_n 0, 1) := by decide +kernel
theorem dX0_scrap_66 : decode cX0_scrap 66 = .ok (.iload_n 2, 1) := by decide +kernel
theorem dX0_scrap_67 : decode cX0_scrap 67 = .ok (.iconst 3, 1) := by decide +kernel
theorem dX0_scrap_68 : decode cX0_scrap 68 = .ok (.invokevirtual 138, 3) := by decide +kernel
theorem dX0_scrap_71 : decode cX0_scrap 71 = .ok (.aload_n 0, 1) := by decide +kernel
theorem dX0_scrap_72 : decode cX0_scrap 72 = .ok (.getfield 45, 3) := by decide +kernel
theorem dX0_scrap_75 : decode cX0_scrap 75 = .ok (.iload_n 2, 1) := by decide +kernel
theorem dX0_scrap_76 : decode cX0_scrap 76 = .ok (.iaload, 1) := by decide +kernel
theorem dX0_scrap_77 : decode cX0_scrap 77 = .ok (.ireturn, 1) := by decide +kernel
set_option maxRecDepth 20000 in
theorem ggX0_advance_X0_isWithin : GoodIn wsX0_advance wsX0_isWithin := goodIn_r _ [10] (by decide +kernel) (by decide +kernel)
set_option maxRecDepth 20000 in
theorem gX0_advance_X0_isWithin : GoodIn wsX0_advance (va_wsS RX0 72 yX0_isWithin wsX0_isWithin) := goodIn_app (goodIn_of _ (by decide +kernel)) ggX0_advance_X0_isWithin
set_option maxRecDepth 20000 in
theorem ggX0_advance_X0_endProcessing : GoodIn wsX0_advance wsX0_endProcessing := goodIn_r _ [14, 15, 5, 16, 17, 18, 9, 19, 20, 21, 22, 23, 24, 25, 26, 27, 28, 29, 30, 31, 32, 33, 34, 35, 36, 37, 38, 39, 40, 41, 42] (by decide +kernel) (by decide +kernel)
set_option maxRecDepth 20000 in
theorem gX0_advance_X0_endProcessing : GoodIn wsX0_advance (wsV RX0 154 RX0 yX0_endProcessing wsX0_endProcessing) := goodIn_app (goodIn_of _ (by decide +kernel)) ggX0_advance_X0_endProcessing
theorem dX0_advance_0 : decode cX0_advance 0 = .ok (.iload_n 1, 1) := by decide +kernel
theorem dX0_advance_1 : decode cX0_advance 1 = .ok (.iconst 1, 1) := by decide +kernel
theorem dX0_advance_2 : decode cX0_advance 2 = .ok (.sipush 10000, 3) := by decide +kernel
theorem dX0_advance_5 : decode cX0_advance 5 = .ok (.invokestatic 72, 3) := by decide +kernel
theorem dX0_advance_8 : decode cX0_advance 8 = .ok (.ifCond .ne 13, 3) := by decide +kernel
theorem dX0_advance_11 : decode cX0_advance 11 = .ok (.new 76, 3) := by decide +kernel
theorem dX0_advance_14 : decode cX0_advance 14 = .ok (.dup, 1) := by decide +kernel
theorem dX0_advance_15 : decode cX0_advance 15 = .ok (.ldc 152, 2) := by decide +kernel
theorem dX0_advance_17 : decode cX0_advance 17 = .ok (.invokespecial 80, 3) := by decide +kernel
theorem dX0_advance_20 : decode cX0_advance 20 = .ok (.athrow, 1) := by decide +kernel
theorem dX0_advance_21 : decode cX0_advance 21 = .ok (.aload_n 0, 1) := by decide +kernel
theorem dX0_advance_22 : decode cX0_advance 22 = .ok (.dup, 1) := by decide +kernel
theorem dX0_advance_23 : decode cX0_advance 23 = .ok (.getfield 65, 3) := by decide +kernel
theorem dX0_advance_26 : decode cX0_advance 26 = .ok (.iload_n 1, 1) := by decide +kernel
theorem dX0_advance_27 : decode cX0_advance 27 = .ok (.iadd, 1) := by decide +kernel
theorem dX0_advance_28 : decode cX0_advance 28 = .ok (.putfield 65, 3) := by decide +kernel
theorem dX0_advance_31 : decode cX0_advance 31 = .ok (.iconst 0, 1) := by decide +kernel
theorem dX0_advance_32 : decode cX0_advance 32 = .ok (.istore_n 2, 1) := by decide +kernel
theorem dX0_advance_33 : decode cX0_advance 33 = .ok (.iconst 0, 1) := by decide +kernel
theorem dX0_advance_34 : decode cX0_advance 34 = .ok (.istore_n 3, 1) := by decide +kernel
theorem dX0_advance_35 : decode cX0_advance 35 = .ok (.iload_n 3, 1) := by decide +kernel
theorem dX0_advance_36 : decode cX0_advance 36 = .ok (.aload_n 0, 1) := by decide +kernel
theorem dX0_advance_37 : decode cX0_advance 37 = .ok (.getfield 48, 3) := by decide +kernel
theorem dX0_advance_40 : decode cX0_advance 40 = .ok (.if_icmp .ge 40, 3) := by decide +kernel
theorem dX0_advance_43 : decode cX0_advance 43 = .ok (.aload_n 0, 1) := by decide +kernel
theorem dX0_advance_44 : decode cX0_advance 44 = .ok (.getfield 26, 3) := by decide +kernel
theorem dX0_advance_47 : decode cX0_advance 47 = .ok (.iload_n 3, 1) := by decide +kernel
theorem dX0_advance_48 : decode cX0_advance 48 = .ok (.iaload, 1) := by decide +kernel
theorem dX0_advance_49 : decode cX0_advance 49 = .ok (.iconst 1, 1) := by decide +kernel
theorem dX0_advance_50 : decode cX0_advance 50 = .ok (.if_icmp .ne 24, 3) := by decide +kernel
theorem dX0_advance_53 : decode cX0_advance 53 = .ok (.aload_n 0, 1) := by decide +kernel
theorem dX0_advance_54 : decode cX0_advance 54 = .ok (.getfield 32, 3) := by decide +kernel
theorem dX0_advance_57 : decode cX0_advance 57 = .ok (.iload_n 3, 1) := by decide +kernel
theorem dX0_advance_58 : decode cX0_advance 58 = .ok (.iaload, 1) := by decide +kernel
theorem dX0_advance_59 : decode cX0_advance 59 = .ok (.aload_n 0, 1) := by decide +kernel
theorem dX0_advance_60 : decode cX0_advance 60 = .ok (.getfield 65, 3) := by decide +kernel
theorem dX0_advance_63 : decode cX0_advance 63 = .ok (.if_icmp .gt 11, 3) := by decide +kernel
theorem dX0_advance_66 : decode cX0_advance 66 = .ok (.aload_n 0, 1) := by decide +kernel
theorem dX0_advance_67 : decode cX0_advance 67 = .ok (.iload_n 3, 1) := by decide +kernel
theorem dX0_advance_68 : decode cX0_advance 68 = .ok (.invokevirtual 154, 3) := by decide +kernel
theorem dX0_advance_71 : decode cX0_advance 71 = .ok (.iinc 2 1, 3) := by decide +kernel
theorem dX0_advance_74 : decode cX0_advance 74 = .ok (.iinc 3 1, 3) := by decide +kernel
theorem dX0_advance_77 : decode cX0_advance 77 = .ok (.goto (-42), 3) := by decide +kernel
theorem dX0_advance_80 : decode cX0_advance 80 = .ok (.iload_n 2, 1) := by decide +kernel
theorem dX0_advance_81 : decode cX0_advance 81 = .ok (.ireturn, 1) := by decide +kernel
theorem dX0_time_0 : decode cX0_time 0 = .ok (.aload_n 0, 1) := by decide +kernel
theorem dX0_time_1 : decode cX0_time 1 = .ok (.getfield 65, 3) := by decide +kernel
theorem dX0_time_4 : decode cX0_time 4 = .ok (.ireturn, 1) := by decide +kernel
theorem dX0_lots_0 : decode cX0_lots 0 = .ok (.aload_n 0, 1) := by decide +kernel
theorem dX0_lots_1 : decode cX0_lots 1 = .ok (.getfield 48, 3) := by decide +kernel
theorem dX0_lots_4 : decode cX0_lots 4 = .ok (.ireturn, 1) := by decide +kernel
theorem dX0_wafers_0 : decode cX0_wafers 0 = .ok (.aload_n 0, 1) := by decide +kernel
theorem dX0_wafers_1 : decode cX0_wafers 1 = .ok (.getfield 62, 3) := by decide +kernel
theorem dX0_wafers_4 : decode cX0_wafers 4 = .ok (.ireturn, 1) := by decide +kernel
set_option maxRecDepth 20000 in
theorem ggX0_state_X0_checkLot : GoodIn wsX0_state wsX0_checkLot := goodIn_ca (goodIn_r _ [6, 7, 8, 9, 10, 11, 5, 12, 13, 14, 15, 16, 17, 18, 19, 20, 21, 22, 23, 24, 25, 26, 27, 28, 29, 30, 31] (by decide +kernel) (by decide +kernel)) (goodIn_sub (fun _ h => List.mem_cons_of_mem _ (List.mem_append_right _ h)) (by decide +kernel))
set_option maxRecDepth 20000 in
theorem gX0_state_X0_checkLot : GoodIn wsX0_state (wsV RX0 99 RX0 yX0_checkLot wsX0_checkLot) := goodIn_app (goodIn_of _ (by decide +kernel)) ggX0_state_X0_checkLot
theorem dX0_state_0 : decode cX0_state 0 = .ok (.aload_n 0, 1) := by decide +kernel
theorem dX0_state_1 : decode cX0_state 1 = .ok (.iload_n 1, 1) := by decide +kernel
theorem dX0_state_2 : decode cX0_state 2 = .ok (.invokevirtual 99, 3) := by decide +kernel
theorem dX0_state_5 : decode cX0_state 5 = .ok (.aload_n 0, 1) := by decide +kernel
theorem dX0_state_6 : decode cX0_state 6 = .ok (.getfield 26, 3) := by decide +kernel
theorem dX0_state_9 : decode cX0_state 9 = .ok (.iload_n 1, 1) := by decide +kernel
theorem dX0_state_10 : decode cX0_state 10 = .ok (.iaload, 1) := by decide +kernel
theorem dX0_state_11 : decode cX0_state 11 = .ok (.ireturn, 1) := by decide +kernel
set_option maxRecDepth 20000 in
theorem ggX0_stepOf_X0_checkLot : GoodIn wsX0_stepOf wsX0_checkLot := goodIn_ca (goodIn_r _ [6, 7, 8, 9, 10, 11, 5, 12, 13, 14, 15, 16, 17, 18, 19, 20, 21, 22, 23, 24, 25, 26, 27, 28, 29, 30, 31] (by decide +kernel) (by decide +kernel)) (goodIn_sub (fun _ h => List.mem_cons_of_mem _ (List.mem_append_right _ h)) (by decide +kernel))
set_option maxRecDepth 20000 in
theorem gX0_stepOf_X0_checkLot : GoodIn wsX0_stepOf (wsV RX0 99 RX0 yX0_checkLot wsX0_checkLot) := goodIn_app (goodIn_of _ (by decide +kernel)) ggX0_stepOf_X0_checkLot
theorem dX0_stepOf_0 : decode cX0_stepOf 0 = .ok (.aload_n 0, 1) := by decide +kernel
theorem dX0_stepOf_1 : decode cX0_stepOf 1 = .ok (.iload_n 1, 1) := by decide +kernel
theorem dX0_stepOf_2 : decode cX0_stepOf 2 = .ok (.invokevirtual 99, 3) := by decide +kernel
theorem dX0_stepOf_5 : decode cX0_stepOf 5 = .ok (.aload_n 0, 1) := by decide +kernel
theorem dX0_stepOf_6 : decode cX0_stepOf 6 = .ok (.getfield 29, 3) := by decide +kernel
theorem dX0_stepOf_9 : decode cX0_stepOf 9 = .ok (.iload_n 1, 1) := by decide +kernel
theorem dX0_stepOf_10 : decode cX0_stepOf 10 = .ok (.iaload, 1) := by decide +kernel
theorem dX0_stepOf_11 : decode cX0_stepOf 11 = .ok (.ireturn, 1) := by decide +kernel
set_option maxRecDepth 20000 in
theorem ggX0_size_X0_checkLot : GoodIn wsX0_size wsX0_checkLot := goodIn_ca (goodIn_r _ [6, 7, 8, 9, 10, 11, 5, 12, 13, 14, 15, 16, 17, 18, 19, 20, 21, 22, 23, 24, 25, 26, 27, 28, 29, 30, 31] (by decide +kernel) (by decide +kernel)) (goodIn_sub (fun _ h => List.mem_cons_of_mem _ (List.mem_append_right _ h)) (by decide +kernel))
set_option maxRecDepth 20000 in
theorem gX0_size_X0_checkLot : GoodIn wsX0_size (wsV RX0 99 RX0 yX0_checkLot wsX0_checkLot) := goodIn_app (goodIn_of _ (by decide +kernel)) ggX0_size_X0_checkLot
theorem dX0_size_0 : decode cX0_size 0 = .ok (.aload_n 0, 1) := by decide +kernel
theorem dX0_size_1 : decode cX0_size 1 = .ok (.iload_n 1, 1) := by decide +kernel
theorem dX0_size_2 : decode cX0_size 2 = .ok (.invokevirtual 99, 3) := by decide +kernel
theorem dX0_size_5 : decode cX0_size 5 = .ok (.aload_n 0, 1) := by decide +kernel
theorem dX0_size_6 : decode cX0_size 6 = .ok (.getfield 45, 3) := by decide +kernel
theorem dX0_size_9 : decode cX0_size 9 = .ok (.iload_n 1, 1) := by decide +kernel
theorem dX0_size_10 : decode cX0_size 10 = .ok (.iaload, 1) := by decide +kernel
theorem dX0_size_11 : decode cX0_size 11 = .ok (.ireturn, 1) := by decide +kernel
set_option maxRecDepth 20000 in
theorem ggX0_slack_X0_checkLot : GoodIn wsX0_slack wsX0_checkLot := goodIn_ca (goodIn_r _ [5, 6, 7, 8, 9, 10, 4, 11, 12, 29, 30, 31, 32, 33, 34, 35, 36, 37, 38, 39, 40, 41, 42, 43, 44, 45, 46] (by decide +kernel) (by decide +kernel)) (goodIn_sub (fun _ h => List.mem_cons_of_mem _ (List.mem_append_right _ h)) (by decide +kernel))
set_option maxRecDepth 20000 in
theorem gX0_slack_X0_checkLot : GoodIn wsX0_slack (wsV RX0 99 RX0 yX0_checkLot wsX0_checkLot) := goodIn_app (goodIn_of _ (by decide +kernel)) ggX0_slack_X0_checkLot
set_option maxRecDepth 20000 in
theorem ggX0_slack_X0_waitingLeft : GoodIn wsX0_slack wsX0_waitingLeft := goodIn_r _ [16, 17, 18, 19, 20, 21, 22, 23, 24, 25, 26, 4, 27, 28, 29, 30, 31, 32, 33, 34, 35, 36, 37, 38, 39, 40, 41, 42, 43, 44, 45, 46] (by decide +kernel) (by decide +kernel)
set_option maxRecDepth 20000 in
theorem gX0_slack_X0_waitingLeft : GoodIn wsX0_slack (wsV RX0 157 RX0 yX0_waitingLeft wsX0_waitingLeft) := goodIn_app (goodIn_of _ (by decide +kernel)) ggX0_slack_X0_waitingLeft
theorem dX0_slack_0 : decode cX0_slack 0 = .ok (.aload_n 0, 1) := by decide +kernel
theorem dX0_slack_1 : decode cX0_slack 1 = .ok (.iload_n 1, 1) := by decide +kernel
theorem dX0_slack_2 : decode cX0_slack 2 = .ok (.invokevirtual 99, 3) := by decide +kernel
theorem dX0_slack_5 : decode cX0_slack 5 = .ok (.aload_n 0, 1) := by decide +kernel
theorem dX0_slack_6 : decode cX0_slack 6 = .ok (.iload_n 1, 1) := by decide +kernel
theorem dX0_slack_7 : decode cX0_slack 7 = .ok (.invokevirtual 157, 3) := by decide +kernel
theorem dX0_slack_10 : decode cX0_slack 10 = .ok (.ireturn, 1) := by decide +kernel
set_option maxRecDepth 20000 in
theorem ggX0_isLate_X0_checkLot : GoodIn wsX0_isLate wsX0_checkLot := goodIn_ca (goodIn_r _ [5, 6, 7, 8, 9, 10, 4, 11, 12, 29, 30, 31, 32, 33, 34, 35, 36, 37, 38, 39, 40, 41, 42, 43, 44, 45, 46] (by decide +kernel) (by decide +kernel)) (goodIn_sub (fun _ h => List.mem_cons_of_mem _ (List.mem_append_right _ h)) (by decide +kernel))
set_option maxRecDepth 20000 in
theorem gX0_isLate_X0_checkLot : GoodIn wsX0_isLate (wsV RX0 99 RX0 yX0_checkLot wsX0_checkLot) := goodIn_app (goodIn_of _ (by decide +kernel)) ggX0_isLate_X0_checkLot
set_option maxRecDepth 20000 in
theorem ggX0_isLate_X0_waitingLeft : GoodIn wsX0_isLate wsX0_waitingLeft := goodIn_r _ [16, 17, 18, 19, 20, 21, 22, 23, 24, 25, 26, 4, 27, 28, 29, 30, 31, 32, 33, 34, 35, 36, 37, 38, 39, 40, 41, 42, 43, 44, 45, 46] (by decide +kernel) (by decide +kernel)
set_option maxRecDepth 20000 in
theorem gX0_isLate_X0_waitingLeft : GoodIn wsX0_isLate (wsV RX0 157 RX0 yX0_waitingLeft wsX0_waitingLeft) := goodIn_app (goodIn_of _ (by decide +kernel)) ggX0_isLate_X0_waitingLeft
theorem dX0_isLate_0 : decode cX0_isLate 0 = .ok (.aload_n 0, 1) := by decide +kernel
theorem dX0_isLate_1 : decode cX0_isLate 1 = .ok (.iload_n 1, 1) := by decide +kernel
theorem dX0_isLate_2 : decode cX0_isLate 2 = .ok (.invokevirtual 99, 3) := by decide +kernel
theorem dX0_isLate_5 : decode cX0_isLate 5 = .ok (.aload_n 0, 1) := by decide +kernel
theorem dX0_isLate_6 : decode cX0_isLate 6 = .ok (.iload_n 1, 1) := by decide +kernel
theorem dX0_isLate_7 : decode cX0_isLate 7 = .ok (.invokevirtual 157, 3) := by decide +kernel
theorem dX0_isLate_10 : decode cX0_isLate 10 = .ok (.ifCond .ge 7, 3) := by decide +kernel
theorem dX0_isLate_13 : decode cX0_isLate 13 = .ok (.iconst 1, 1) := by decide +kernel
theorem dX0_isLate_14 : decode cX0_isLate 14 = .ok (.goto 4, 3) := by decide +kernel
theorem dX0_isLate_17 : decode cX0_isLate 17 = .ok (.iconst 0, 1) := by decide +kernel
theorem dX0_isLate_18 : decode cX0_isLate 18 = .ok (.ireturn, 1) := by decide +kernel
set_option maxRecDepth 20000 in
theorem ggX0_reworks_X0_checkLot : GoodIn wsX0_reworks wsX0_checkLot := goodIn_ca (goodIn_r _ [6, 7, 8, 9, 10, 11, 5, 12, 13, 14, 15, 16, 17, 18, 19, 20, 21, 22, 23, 24, 25, 26, 27, 28, 29, 30, 31] (by decide +kernel) (by decide +kernel)) (goodIn_sub (fun _ h => List.mem_cons_of_mem _ (List.mem_append_right _ h)) (by decide +kernel))
set_option maxRecDepth 20000 in
theorem gX0_reworks_X0_checkLot : GoodIn wsX0_reworks (wsV RX0 99 RX0 yX0_checkLot wsX0_checkLot) := goodIn_app (goodIn_of _ (by decide +kernel)) ggX0_reworks_X0_checkLot
theorem dX0_reworks_0 : decode cX0_reworks 0 = .ok (.aload_n 0, 1) := by decide +kernel
theorem dX0_reworks_1 : decode cX0_reworks 1 = .ok (.iload_n 1, 1) := by decide +kernel
theorem dX0_reworks_2 : decode cX0_reworks 2 = .ok (.invokevirtual 99, 3) := by decide +kernel
theorem dX0_reworks_5 : decode cX0_reworks 5 = .ok (.aload_n 0, 1) := by decide +kernel
theorem dX0_reworks_6 : decode cX0_reworks 6 = .ok (.getfield 39, 3) := by decide +kernel
theorem dX0_reworks_9 : decode cX0_reworks 9 = .ok (.iload_n 1, 1) := by decide +kernel
theorem dX0_reworks_10 : decode cX0_reworks 10 = .ok (.iaload, 1) := by decide +kernel
theorem dX0_reworks_11 : decode cX0_reworks 11 = .ok (.ireturn, 1) := by decide +kernel
set_option maxRecDepth 20000 in
theorem ggX0_nextFor_X0_checkTool : GoodIn wsX0_nextFor wsX0_checkTool := goodIn_ca (goodIn_r _ [6, 7, 8, 9, 10, 5, 11] (by decide +kernel) (by decide +kernel)) (goodIn_sub (fun _ h => List.mem_cons_of_mem _ (List.mem_append_right _ h)) (by decide +kernel))
set_option maxRecDepth 20000 in
theorem gX0_nextFor_X0_checkTool : GoodIn wsX0_nextFor (va_wsS RX0 68 yX0_checkTool wsX0_checkTool) := goodIn_app (goodIn_of _ (by decide +kernel)) ggX0_nextFor_X0_checkTool
set_option maxRecDepth 20000 in
theorem ggX0_nextFor_X0_isBusy : GoodIn wsX0_nextFor wsX0_isBusy := goodIn_r _ [15, 2, 16, 17, 18, 19, 5, 20, 21, 22, 23, 24, 25, 26, 27, 45, 46, 47, 48, 49, 50, 51, 52, 53, 54, 55, 56, 57, 58, 59, 60, 61, 62] (by decide +kernel) (by decide +kernel)
set_option maxRecDepth 20000 in
theorem gX0_nextFor_X0_isBusy : GoodIn wsX0_nextFor (wsV RX0 109 RX0 yX0_isBusy wsX0_isBusy) := goodIn_app (goodIn_of _ (by decide +kernel)) ggX0_nextFor_X0_isBusy
set_option maxRecDepth 20000 in
theorem ggX0_nextFor_X0_isReady : GoodIn wsX0_nextFor wsX0_isReady := goodIn_r _ [31, 32, 33, 34, 5, 35, 16, 36, 37, 38, 39, 40, 21, 1, 41, 42, 43, 44, 23, 24, 25, 26, 27, 45, 46, 47, 48, 49, 50, 51, 52, 53, 54, 55, 56, 57, 58, 59, 60, 61, 62] (by decide +kernel) (by decide +kernel)
set_option maxRecDepth 20000 in
theorem gX0_nextFor_X0_isReady : GoodIn wsX0_nextFor (wsV RX0 102 RX0 yX0_isReady wsX0_isReady) := goodIn_app (goodIn_of _ (by decide +kernel)) ggX0_nextFor_X0_isReady
set_option maxRecDepth 20000 in
theorem ggX0_nextFor_X0_usesTool : GoodIn wsX0_nextFor wsX0_usesTool := goodIn_r _ [20, 21, 22, 23, 24, 25, 5, 26, 27, 45, 46, 47, 48, 49, 50, 51, 52, 53, 54, 55, 56, 57, 58, 59, 60, 61, 62] (by decide +kernel) (by decide +kernel)
set_option maxRecDepth 20000 in
theorem gX0_nextFor_X0_usesTool : GoodIn wsX0_nextFor (wsV RX0 162 RX0 yX0_usesTool wsX0_usesTool) := goodIn_app (goodIn_of _ (by decide +kernel)) ggX0_nextFor_X0_usesTool
set_option maxRecDepth 20000 in
theorem ggX0_nextFor_X0_waitingLeft : GoodIn wsX0_nextFor wsX0_waitingLeft := goodIn_r _ [40, 21, 16, 1, 41, 42, 43, 44, 23, 24, 25, 5, 26, 27, 45, 46, 47, 48, 49, 50, 51, 52, 53, 54, 55, 56, 57, 58, 59, 60, 61, 62] (by decide +kernel) (by decide +kernel)
set_option maxRecDepth 20000 in
theorem gX0_nextFor_X0_waitingLeft : GoodIn wsX0_nextFor (wsV RX0 157 RX0 yX0_waitingLeft wsX0_waitingLeft) := goodIn_app (goodIn_of _ (by decide +kernel)) ggX0_nextFor_X0_waitingLeft
theorem dX0_nextFor_0 : decode cX0_nextFor 0 = .ok (.iload_n 1, 1) := by decide +kernel
theorem dX0_nextFor_1 : decode cX0_nextFor 1 = .ok (.invokestatic 68, 3) := by decide +kernel
theorem dX0_nextFor_4 : decode cX0_nextFor 4 = .ok (.aload_n 0, 1) := by decide +kernel
theorem dX0_nextFor_5 : decode cX0_nextFor 5 = .ok (.iload_n 1, 1) := by decide +kernel
theorem dX0_nextFor_6 : decode cX0_nextFor 6 = .ok (.invokevirtual 109, 3) := by decide +kernel
theorem dX0_nextFor_9 : decode cX0_nextFor 9 = .ok (.ifCond .eq 5, 3) := by decide +kernel
theorem dX0_nextFor_12 : decode cX0_nextFor 12 = .ok (.iconst (-1), 1) := by decide +kernel
theorem dX0_nextFor_13 : decode cX0_nextFor 13 = .ok (.ireturn, 1) := by decide +kernel
theorem dX0_nextFor_14 : decode cX0_nextFor 14 = .ok (.iconst (-1), 1) := by decide +kernel
theorem dX0_nextFor_15 : decode cX0_nextFor 15 = .ok (.istore_n 2, 1) := by decide +kernel
theorem dX0_nextFor_16 : decode cX0_nextFor 16 = .ok (.ldc 161, 2) := by decide +kernel
theorem dX0_nextFor_18 : decode cX0_nextFor 18 = .ok (.istore_n 3, 1) := by decide +kernel
theorem dX0_nextFor_19 : decode cX0_nextFor 19 = .ok (.iconst 0, 1) := by decide +kernel
theorem dX0_nextFor_20 : decode cX0_nextFor 20 = .ok (.istore 4, 2) := by decide +kernel
theorem dX0_nextFor_22 : decode cX0_nextFor 22 = .ok (.iload 4, 2) := by decide +kernel
theorem dX0_nextFor_24 : decode cX0_nextFor 24 = .ok (.aload_n 0, 1) := by decide +kernel
theorem dX0_nextFor_25 : decode cX0_nextFor 25 = .ok (.getfield 48, 3) := by decide +kernel
theorem dX0_nextFor_28 : decode cX0_nextFor 28 = .ok (.if_icmp .ge 48, 3) := by decide +kernel
theorem dX0_nextFor_31 : decode cX0_nextFor 31 = .ok (.aload_n 0, 1) := by decide +kernel
theorem dX0_nextFor_32 : decode cX0_nextFor 32 = .ok (.iload 4, 2) := by decide +kernel
theorem dX0_nextFor_34 : decode cX0_nextFor 34 = .ok (.invokevirtual 102, 3) := by decide +kernel
theorem dX0_nextFor_37 : decode cX0_nextFor 37 = .ok (.ifCond .eq 33, 3) := by decide +kernel
theorem dX0_nextFor_40 : decode cX0_nextFor 40 = .ok (.aload_n 0, 1) := by decide +kernel
theorem dX0_nextFor_41 : decode cX0_nextFor 41 = .ok (.iload 4, 2) := by decide +kernel
theorem dX0_nextFor_43 : decode cX0_nextFor 43 = .ok (.iload_n 1, 1) := by decide +kernel
theorem dX0_nextFor_44 : decode cX0_nextFor 44 = .ok (.invokevirtual 162, 3) := by decide +kernel
theorem dX0_nextFor_47 : decode cX0_nextFor 47 = .ok (.ifCond .eq 23, 3) := by decide +kernel
theorem dX0_nextFor_50 : decode cX0_nextFor 50 = .ok (.aload_n 0, 1) := by decide +kernel
theorem dX0_nextFor_51 : decode cX0_nextFor 51 = .ok (.iload 4, 2) := by decide +kernel
theorem dX0_nextFor_53 : decode cX0_nextFor 53 = .ok (.invokevirtual 157, 3) := by decide +kernel
theorem dX0_nextFor_56 : decode cX0_nextFor 56 = .ok (.iload_n 3, 1) := by decide +kernel
theorem dX0_nextFor_57 : decode cX0_nextFor 57 = .ok (.if_icmp .ge 13, 3) := by decide +kernel
theorem dX0_nextFor_60 : decode cX0_nextFor 60 = .ok (.iload 4, 2) := by decide +kernel
theorem dX0_nextFor_62 : decode cX0_nextFor 62 = .ok (.istore_n 2, 1) := by decide +kernel
theorem dX0_nextFor_63 : decode cX0_nextFor 63 = .ok (.aload_n 0, 1) := by decide +kernel
theorem dX0_nextFor_64 : decode cX0_nextFor 64 = .ok (.iload 4, 2) := by decide +kernel
theorem dX0_nextFor_66 : decode cX0_nextFor 66 = .ok (.invokevirtual 157, 3) := by decide +kernel
theorem dX0_nextFor_69 : decode cX0_nextFor 69 = .ok (.istore_n 3, 1) := by decide +kernel
theorem dX0_nextFor_70 : decode cX0_nextFor 70 = .ok (.iinc 4 1, 3) := by decide +kernel
theorem dX0_nextFor_73 : decode cX0_nextFor 73 = .ok (.goto (-51), 3) := by decide +kernel
theorem dX0_nextFor_76 : decode cX0_nextFor 76 = .ok (.iload_n 2, 1) := by decide +kernel
theorem dX0_nextFor_77 : decode cX0_nextFor 77 = .ok (.ireturn, 1) := by decide +kernel
set_option maxRecDepth 20000 in
theorem ggX0_wafersAt_X0_checkStep : GoodIn wsX0_wafersAt wsX0_checkStep := goodIn_ca (goodIn_r _ [8, 9, 10, 11, 12, 13, 7, 14, 15, 16, 17, 18, 19, 20, 21, 22, 23, 24, 25, 26, 27, 28, 29, 30, 31, 32, 33] (by decide +kernel) (by decide +kernel)) (goodIn_sub (fun _ h => List.mem_cons_of_mem _ (List.mem_append_right _ h)) (by decide +kernel))
set_option maxRecDepth 20000 in
theorem gX0_wafersAt_X0_checkStep : GoodIn wsX0_wafersAt (wsV RX0 166 RX0 yX0_checkStep wsX0_checkStep) := goodIn_app (goodIn_of _ (by decide +kernel)) ggX0_wafersAt_X0_checkStep
theorem dX0_wafersAt_0 : decode cX0_wafersAt 0 = .ok (.aload_n 0, 1) := by decide +kernel
theorem dX0_wafersAt_1 : decode cX0_wafersAt 1 = .ok (.iload_n 1, 1) := by decide +kernel
theorem dX0_wafersAt_2 : decode cX0_wafersAt 2 = .ok (.invokevirtual 166, 3) := by decide +kernel
theorem dX0_wafersAt_5 : decode cX0_wafersAt 5 = .ok (.iconst 0, 1) := by decide +kernel
theorem dX0_wafersAt_6 : decode cX0_wafersAt 6 = .ok (.istore_n 2, 1) := by decide +kernel
theorem dX0_wafersAt_7 : decode cX0_wafersAt 7 = .ok (.iconst 0, 1) := by decide +kernel
theorem dX0_wafersAt_8 : decode cX0_wafersAt 8 = .ok (.istore_n 3, 1) := by decide +kernel
theorem dX0_wafersAt_9 : decode cX0_wafersAt 9 = .ok (.iload_n 3, 1) := by decide +kernel
theorem dX0_wafersAt_10 : decode cX0_wafersAt 10 = .ok (.aload_n 0, 1) := by decide +kernel
theorem dX0_wafersAt_11 : decode cX0_wafersAt 11 = .ok (.getfield 48, 3) := by decide +kernel
theorem dX0_wafersAt_14 : decode cX0_wafersAt 14 = .ok (.if_icmp .ge 28, 3) := by decide +kernel
theorem dX0_wafersAt_17 : decode cX0_wafersAt 17 = .ok (.aload_n 0, 1) := by decide +kernel
theorem dX0_wafersAt_18 : decode cX0_wafersAt 18 = .ok (.getfield 29, 3) := by decide +kernel
theorem dX0_wafersAt_21 : decode cX0_wafersAt 21 = .ok (.iload_n 3, 1) := by decide +kernel
theorem dX0_wafersAt_22 : decode cX0_wafersAt 22 = .ok (.iaload, 1) := by decide +kernel
theorem dX0_wafersAt_23 : decode cX0_wafersAt 23 = .ok (.iload_n 1, 1) := by decide +kernel
theorem dX0_wafersAt_24 : decode cX0_wafersAt 24 = .ok (.if_icmp .ne 12, 3) := by decide +kernel
theorem dX0_wafersAt_27 : decode cX0_wafersAt 27 = .ok (.iload_n 2, 1) := by decide +kernel
theorem dX0_wafersAt_28 : decode cX0_wafersAt 28 = .ok (.aload_n 0, 1) := by decide +kernel
theorem dX0_wafersAt_29 : decode cX0_wafersAt 29 = .ok (.getfield 45, 3) := by decide +kernel
theorem dX0_wafersAt_32 : decode cX0_wafersAt 32 = .ok (.iload_n 3, 1) := by decide +kernel
theorem dX0_wafersAt_33 : decode cX0_wafersAt 33 = .ok (.iaload, 1) := by decide +kernel
theorem dX0_wafersAt_34 : decode cX0_wafersAt 34 = .ok (.iadd, 1) := by decide +kernel
theorem dX0_wafersAt_35 : decode cX0_wafersAt 35 = .ok (.istore_n 2, 1) := by decide +kernel
theorem dX0_wafersAt_36 : decode cX0_wafersAt 36 = .ok (.iinc 3 1, 3) := by decide +kernel
theorem dX0_wafersAt_39 : decode cX0_wafersAt 39 = .ok (.goto (-30), 3) := by decide +kernel
theorem dX0_wafersAt_42 : decode cX0_wafersAt 42 = .ok (.iload_n 2, 1) := by decide +kernel
theorem dX0_wafersAt_43 : decode cX0_wafersAt 43 = .ok (.ireturn, 1) := by decide +kernel
set_option maxRecDepth 20000 in
theorem ggX0_wafersAtByWafers_X0_checkStep : GoodIn wsX0_wafersAtByWafers wsX0_checkStep := goodIn_ca (goodIn_r _ [8, 9, 10, 11, 12, 13, 7, 14, 15, 21, 22, 23, 24, 25, 26, 27, 28, 29, 30, 31, 32, 33, 34, 35, 36, 37, 38] (by decide +kernel) (by decide +kernel)) (goodIn_sub (fun _ h => List.mem_cons_of_mem _ (List.mem_append_right _ h)) (by decide +kernel))
set_option maxRecDepth 20000 in
theorem gX0_wafersAtByWafers_X0_checkStep : GoodIn wsX0_wafersAtByWafers (wsV RX0 166 RX0 yX0_checkStep wsX0_checkStep) := goodIn_app (goodIn_of _ (by decide +kernel)) ggX0_wafersAtByWafers_X0_checkStep
set_option maxRecDepth 20000 in
theorem ggX0_wafersAtByWafers_X0_isLot : GoodIn wsX0_wafersAtByWafers wsX0_isLot := goodIn_r _ [19, 20, 21, 22, 23, 24, 25, 26, 27, 28, 29, 30, 31, 32, 33, 34, 35, 36, 37, 38] (by decide +kernel) (by decide +kernel)
set_option maxRecDepth 20000 in
theorem gX0_wafersAtByWafers_X0_isLot : GoodIn wsX0_wafersAtByWafers (wsV RX0 147 RX0 yX0_isLot wsX0_isLot) := goodIn_app (goodIn_of _ (by decide +kernel)) ggX0_wafersAtByWafers_X0_isLot
theorem dX0_wafersAtByWafers_0 : decode cX0_wafersAtByWafers 0 = .ok (.aload_n 0, 1) := by decide +kernel
theorem dX0_wafersAtByWafers_1 : decode cX0_wafersAtByWafers 1 = .ok (.iload_n 1, 1) := by decide +kernel
theorem dX0_wafersAtByWafers_2 : decode cX0_wafersAtByWafers 2 = .ok (.invokevirtual 166, 3) := by decide +kernel
theorem dX0_wafersAtByWafers_5 : decode cX0_wafersAtByWafers 5 = .ok (.iconst 0, 1) := by decide +kernel
theorem dX0_wafersAtByWafers_6 : decode cX0_wafersAtByWafers 6 = .ok (.istore_n 2, 1) := by decide +kernel
theorem dX0_wafersAtByWafers_7 : decode cX0_wafersAtByWafers 7 = .ok (.iconst 0, 1) := by decide +kernel
theorem dX0_wafersAtByWafers_8 : decode cX0_wafersAtByWafers 8 = .ok (.istore_n 3, 1) := by decide +kernel
theorem dX0_wafersAtByWafers_9 : decode cX0_wafersAtByWafers 9 = .ok (.iload_n 3, 1) := by decide +kernel
theorem dX0_wafersAtByWafers_10 : decode cX0_wafersAtByWafers 10 = .ok (.aload_n 0, 1) := by decide +kernel
theorem dX0_wafersAtByWafers_11 : decode cX0_wafersAtByWafers 11 = .ok (.getfield 62, 3) := by decide +kernel
theorem dX0_wafersAtByWafers_14 : decode cX0_wafersAtByWafers 14 = .ok (.if_icmp .ge 40, 3) := by decide +kernel
theorem dX0_wafersAtByWafers_17 : decode cX0_wafersAtByWafers 17 = .ok (.aload_n 0, 1) := by decide +kernel
theorem dX0_wafersAtByWafers_18 : decode cX0_wafersAtByWafers 18 = .ok (.getfield 51, 3) := by decide +kernel
theorem dX0_wafersAtByWafers_21 : decode cX0_wafersAtByWafers 21 = .ok (.iload_n 3, 1) := by decide +kernel
theorem dX0_wafersAtByWafers_22 : decode cX0_wafersAtByWafers 22 = .ok (.iaload, 1) := by decide +kernel
theorem dX0_wafersAtByWafers_23 : decode cX0_wafersAtByWafers 23 = .ok (.istore 4, 2) := by decide +kernel
theorem dX0_wafersAtByWafers_25 : decode cX0_wafersAtByWafers 25 = .ok (.aload_n 0, 1) := by decide +kernel
theorem dX0_wafersAtByWafers_26 : decode cX0_wafersAtByWafers 26 = .ok (.iload 4, 2) := by decide +kernel
theorem dX0_wafersAtByWafers_28 : decode cX0_wafersAtByWafers 28 = .ok (.invokevirtual 147, 3) := by decide +kernel
theorem dX0_wafersAtByWafers_31 : decode cX0_wafersAtByWafers 31 = .ok (.ifCond .eq 17, 3) := by decide +kernel
theorem dX0_wafersAtByWafers_34 : decode cX0_wafersAtByWafers 34 = .ok (.aload_n 0, 1) := by decide +kernel
theorem dX0_wafersAtByWafers_35 : decode cX0_wafersAtByWafers 35 = .ok (.getfield 29, 3) := by decide +kernel
theorem dX0_wafersAtByWafers_38 : decode cX0_wafersAtByWafers 38 = .ok (.iload 4, 2) := by decide +kernel
theorem dX0_wafersAtByWafers_40 : decode cX0_wafersAtByWafers 40 = .ok (.iaload, 1) := by decide +kernel
theorem dX0_wafersAtByWafers_41 : decode cX0_wafersAtByWafers 41 = .ok (.iload_n 1, 1) := by decide +kernel
theorem dX0_wafersAtByWafers_42 : decode cX0_wafersAtByWafers 42 = .ok (.if_icmp .ne 6, 3) := by decide +kernel
theorem dX0_wafersAtByWafers_45 : decode cX0_wafersAtByWafers 45 = .ok (.iinc 2 1, 3) := by decide +kernel
theorem dX0_wafersAtByWafers_48 : decode cX0_wafersAtByWafers 48 = .ok (.iinc 3 1, 3) := by decide +kernel
theorem dX0_wafersAtByWafers_51 : decode cX0_wafersAtByWafers 51 = .ok (.goto (-42), 3) := by decide +kernel
theorem dX0_wafersAtByWafers_54 : decode cX0_wafersAtByWafers 54 = .ok (.iload_n 2, 1) := by decide +kernel
theorem dX0_wafersAtByWafers_55 : decode cX0_wafersAtByWafers 55 = .ok (.ireturn, 1) := by decide +kernel
set_option maxRecDepth 20000 in
theorem ggX0_lotOf_X0_checkWafer : GoodIn wsX0_lotOf wsX0_checkWafer := goodIn_ca (goodIn_r _ [6, 7, 8, 9, 10, 11, 12, 13, 14, 15, 16, 17, 18, 19, 20, 21, 22, 23, 24, 25, 26, 27] (by decide +kernel) (by decide +kernel)) (goodIn_sub (fun _ h => List.mem_cons_of_mem _ (List.mem_append_right _ h)) (by decide +kernel))
set_option maxRecDepth 20000 in
theorem gX0_lotOf_X0_checkWafer : GoodIn wsX0_lotOf (wsV RX0 144 RX0 yX0_checkWafer wsX0_checkWafer) := goodIn_app (goodIn_of _ (by decide +kernel)) ggX0_lotOf_X0_checkWafer
theorem dX0_lotOf_0 : decode cX0_lotOf 0 = .ok (.aload_n 0, 1) := by decide +kernel
theorem dX0_lotOf_1 : decode cX0_lotOf 1 = .ok (.iload_n 1, 1) := by decide +kernel
theorem dX0_lotOf_2 : decode cX0_lotOf 2 = .ok (.invokevirtual 144, 3) := by decide +kernel
theorem dX0_lotOf_5 : decode cX0_lotOf 5 = .ok (.aload_n 0, 1) := by decide +kernel
theorem dX0_lotOf_6 : decode cX0_lotOf 6 = .ok (.getfield 51, 3) := by decide +kernel
theorem dX0_lotOf_9 : decode cX0_lotOf 9 = .ok (.iload_n 1, 1) := by decide +kernel
theorem dX0_lotOf_10 : decode cX0_lotOf 10 = .ok (.iaload, 1) := by decide +kernel
theorem dX0_lotOf_11 : decode cX0_lotOf 11 = .ok (.ireturn, 1) := by decide +kernel
set_option maxRecDepth 20000 in
theorem ggX0_parentOf_X0_checkLot : GoodIn wsX0_parentOf wsX0_checkLot := goodIn_ca (goodIn_r _ [6, 7, 8, 9, 10, 11, 5, 12, 13, 14, 15, 16, 17, 18, 19, 20, 21, 22, 23, 24, 25, 26, 27, 28, 29, 30, 31] (by decide +kernel) (by decide +kernel)) (goodIn_sub (fun _ h => List.mem_cons_of_mem _ (List.mem_append_right _ h)) (by decide +kernel))
set_option maxRecDepth 20000 in
theorem gX0_parentOf_X0_checkLot : GoodIn wsX0_parentOf (wsV RX0 99 RX0 yX0_checkLot wsX0_checkLot) := goodIn_app (goodIn_of _ (by decide +kernel)) ggX0_parentOf_X0_checkLot
theorem dX0_parentOf_0 : decode cX0_parentOf 0 = .ok (.aload_n 0, 1) := by decide +kernel
theorem dX0_parentOf_1 : decode cX0_parentOf 1 = .ok (.iload_n 1, 1) := by decide +kernel
theorem dX0_parentOf_2 : decode cX0_parentOf 2 = .ok (.invokevirtual 99, 3) := by decide +kernel
theorem dX0_parentOf_5 : decode cX0_parentOf 5 = .ok (.aload_n 0, 1) := by decide +kernel
theorem dX0_parentOf_6 : decode cX0_parentOf 6 = .ok (.getfield 42, 3) := by decide +kernel
theorem dX0_parentOf_9 : decode cX0_parentOf 9 = .ok (.iload_n 1, 1) := by decide +kernel
theorem dX0_parentOf_10 : decode cX0_parentOf 10 = .ok (.iaload, 1) := by decide +kernel
theorem dX0_parentOf_11 : decode cX0_parentOf 11 = .ok (.ireturn, 1) := by decide +kernel
set_option maxRecDepth 20000 in
theorem ggX0_common_X0_checkLot : GoodIn wsX0_common wsX0_checkLot := goodIn_ca (goodIn_r _ [5, 6, 7, 8, 9, 10, 4, 11, 12, 18, 19, 20, 21, 22, 23, 24, 25, 26, 27, 28, 29, 30, 31, 32, 33, 34, 35] (by decide +kernel) (by decide +kernel)) (goodIn_sub (fun _ h => List.mem_cons_of_mem _ (List.mem_append_right _ h)) (by decide +kernel))
set_option maxRecDepth 20000 in
theorem gX0_common_X0_checkLot : GoodIn wsX0_common (wsV RX0 99 RX0 yX0_checkLot wsX0_checkLot) := goodIn_app (goodIn_of _ (by decide +kernel)) ggX0_common_X0_checkLot
set_option maxRecDepth 20000 in
theorem ggX0_common_X0_parentOrNone : GoodIn wsX0_common wsX0_parentOrNone := goodIn_r _ [16, 17, 8, 9, 10, 4, 11, 12, 18, 19, 20, 21, 22, 23, 24, 25, 26, 27, 28, 29, 30, 31, 32, 33, 34, 35] (by decide +kernel) (by decide +kernel)
set_option maxRecDepth 20000 in
theorem gX0_common_X0_parentOrNone : GoodIn wsX0_common (wsV RX0 169 RX0 yX0_parentOrNone wsX0_parentOrNone) := goodIn_app (goodIn_of _ (by decide +kernel)) ggX0_common_X0_parentOrNone
theorem dX0_common_0 : decode cX0_common 0 = .ok (.aload_n 0, 1) := by decide +kernel
theorem dX0_common_1 : decode cX0_common 1 = .ok (.iload_n 1, 1) := by decide +kernel
theorem dX0_common_2 : decode cX0_common 2 = .ok (.invokevirtual 99, 3) := by decide +kernel
theorem dX0_common_5 : decode cX0_common 5 = .ok (.aload_n 0, 1) := by decide +kernel
theorem dX0_common_6 : decode cX0_common 6 = .ok (.iload_n 2, 1) := by decide +kernel
theorem dX0_common_7 : decode cX0_common 7 = .ok (.invokevirtual 99, 3) := by decide +kernel
theorem dX0_common_10 : decode cX0_common 10 = .ok (.iload_n 1, 1) := by decide +kernel
theorem dX0_common_11 : decode cX0_common 11 = .ok (.istore_n 3, 1) := by decide +kernel
theorem dX0_common_12 : decode cX0_common 12 = .ok (.iload_n 2, 1) := by decide +kernel
theorem dX0_common_13 : decode cX0_common 13 = .ok (.istore 4, 2) := by decide +kernel
theorem dX0_common_15 : decode cX0_common 15 = .ok (.iconst 0, 1) := by decide +kernel
theorem dX0_common_16 : decode cX0_common 16 = .ok (.istore 5, 2) := by decide +kernel
theorem dX0_common_18 : decode cX0_common 18 = .ok (.iload 5, 2) := by decide +kernel
theorem dX0_common_20 : decode cX0_common 20 = .ok (.bipush 48, 2) := by decide +kernel
theorem dX0_common_22 : decode cX0_common 22 = .ok (.if_icmp .ge 38, 3) := by decide +kernel
theorem dX0_common_25 : decode cX0_common 25 = .ok (.iload_n 3, 1) := by decide +kernel
theorem dX0_common_26 : decode cX0_common 26 = .ok (.iload 4, 2) := by decide +kernel
theorem dX0_common_28 : decode cX0_common 28 = .ok (.if_icmp .eq 32, 3) := by decide +kernel
theorem dX0_common_31 : decode cX0_common 31 = .ok (.iload_n 3, 1) := by decide +kernel
theorem dX0_common_32 : decode cX0_common 32 = .ok (.iload 4, 2) := by decide +kernel
theorem dX0_common_34 : decode cX0_common 34 = .ok (.if_icmp .le 12, 3) := by decide +kernel
theorem dX0_common_37 : decode cX0_common 37 = .ok (.aload_n 0, 1) := by decide +kernel
theorem dX0_common_38 : decode cX0_common 38 = .ok (.iload_n 3, 1) := by decide +kernel
theorem dX0_common_39 : decode cX0_common 39 = .ok (.invokevirtual 169, 3) := by decide +kernel
theorem dX0_common_42 : decode cX0_common 42 = .ok (.istore_n 3, 1) := by decide +kernel
theorem dX0_common_43 : decode cX0_common 43 = .ok (.goto 11, 3) := by decide +kernel
theorem dX0_common_46 : decode cX0_common 46 = .ok (.aload_n 0, 1) := by decide +kernel
theorem dX0_common_47 : decode cX0_common 47 = .ok (.iload 4, 2) := by decide +kernel
theorem dX0_common_49 : decode cX0_common 49 = .ok (.invokevirtual 169, 3) := by decide +kernel
theorem dX0_common_52 : decode cX0_common 52 = .ok (.istore 4, 2) := by decide +kernel
theorem dX0_common_54 : decode cX0_common 54 = .ok (.iinc 5 1, 3) := by decide +kernel
theorem dX0_common_57 : decode cX0_common 57 = .ok (.goto (-39), 3) := by decide +kernel
theorem dX0_common_60 : decode cX0_common 60 = .ok (.iload_n 3, 1) := by decide +kernel
theorem dX0_common_61 : decode cX0_common 61 = .ok (.ireturn, 1) := by decide +kernel
set_option maxRecDepth 20000 in
theorem ggX0_path_X0_checkWafer : GoodIn wsX0_path wsX0_checkWafer := goodIn_ca (goodIn_r _ [6, 7, 8, 9, 10, 11, 12, 13, 14, 15, 16, 17, 18, 19, 20, 21, 22, 23, 24, 25, 26, 27] (by decide +kernel) (by decide +kernel)) (goodIn_sub (fun _ h => List.mem_cons_of_mem _ (List.mem_append_right _ h)) (by decide +kernel))
set_option maxRecDepth 20000 in
theorem gX0_path_X0_checkWafer : GoodIn wsX0_path (wsV RX0 144 RX0 yX0_checkWafer wsX0_checkWafer) := goodIn_app (goodIn_of _ (by decide +kernel)) ggX0_path_X0_checkWafer
theorem dX0_path_0 : decode cX0_path 0 = .ok (.aload_n 0, 1) := by decide +kernel
theorem dX0_path_1 : decode cX0_path 1 = .ok (.iload_n 1, 1) := by decide +kernel
theorem dX0_path_2 : decode cX0_path 2 = .ok (.invokevirtual 144, 3) := by decide +kernel
theorem dX0_path_5 : decode cX0_path 5 = .ok (.aload_n 0, 1) := by decide +kernel
theorem dX0_path_6 : decode cX0_path 6 = .ok (.getfield 59, 3) := by decide +kernel
theorem dX0_path_9 : decode cX0_path 9 = .ok (.iload_n 1, 1) := by decide +kernel
theorem dX0_path_10 : decode cX0_path 10 = .ok (.iaload, 1) := by decide +kernel
theorem dX0_path_11 : decode cX0_path 11 = .ok (.ireturn, 1) := by decide +kernel
set_option maxRecDepth 20000 in
theorem ggX0_pathAt_X0_checkWafer : GoodIn wsX0_pathAt wsX0_checkWafer := goodIn_ca (goodIn_r _ [9, 1, 2, 10, 14, 15, 16, 17, 18, 19, 20, 21, 22, 23, 24, 25, 26, 27, 28, 29, 30, 31] (by decide +kernel) (by decide +kernel)) (goodIn_sub (fun _ h => List.mem_cons_of_mem _ (List.mem_append_right _ h)) (by decide +kernel))
set_option maxRecDepth 20000 in
theorem gX0_pathAt_X0_checkWafer : GoodIn wsX0_pathAt (wsV RX0 144 RX0 yX0_checkWafer wsX0_checkWafer) := goodIn_app (goodIn_of _ (by decide +kernel)) ggX0_pathAt_X0_checkWafer
set_option maxRecDepth 20000 in
theorem ggX0_pathAt_X0_isWithin : GoodIn wsX0_pathAt wsX0_isWithin := goodIn_r _ [13] (by decide +kernel) (by decide +kernel)
set_option maxRecDepth 20000 in
theorem gX0_pathAt_X0_isWithin : GoodIn wsX0_pathAt (va_wsS RX0 72 yX0_isWithin wsX0_isWithin) := goodIn_app (goodIn_of _ (by decide +kernel)) ggX0_pathAt_X0_isWithin
theorem dX0_pathAt_0 : decode cX0_pathAt 0 = .ok (.aload_n 0, 1) := by decide +kernel
theorem dX0_pathAt_1 : decode cX0_pathAt 1 = .ok (.iload_n 1, 1) := by decide +kernel
theorem dX0_pathAt_2 : decode cX0_pathAt 2 = .ok (.invokevirtual 144, 3) := by decide +kernel
theorem dX0_pathAt_5 : decode cX0_pathAt 5 = .ok (.iload_n 2, 1) := by decide +kernel
theorem dX0_pathAt_6 : decode cX0_pathAt 6 = .ok (.iconst 0, 1) := by decide +kernel
theorem dX0_pathAt_7 : decode cX0_pathAt 7 = .ok (.aload_n 0, 1) := by decide +kernel
theorem dX0_pathAt_8 : decode cX0_pathAt 8 = .ok (.getfield 59, 3) := by decide +kernel
theorem dX0_pathAt_11 : decode cX0_pathAt 11 = .ok (.iload_n 1, 1) := by decide +kernel
theorem dX0_pathAt_12 : decode cX0_pathAt 12 = .ok (.iaload, 1) := by decide +kernel
theorem dX0_pathAt_13 : decode cX0_pathAt 13 = .ok (.iconst 1, 1) := by decide +kernel
theorem dX0_pathAt_14 : decode cX0_pathAt 14 = .ok (.isub, 1) := by decide +kernel
theorem dX0_pathAt_15 : decode cX0_pathAt 15 = .ok (.invokestatic 72, 3) := by decide +kernel
theorem dX0_pathAt_18 : decode cX0_pathAt 18 = .ok (.ifCond .ne 13, 3) := by decide +kernel
theorem dX0_pathAt_21 : decode cX0_pathAt 21 = .ok (.new 172, 3) := by decide +kernel
theorem dX0_pathAt_24 : decode cX0_pathAt 24 = .ok (.dup, 1) := by decide +kernel
theorem dX0_pathAt_25 : decode cX0_pathAt 25 = .ok (.ldc 174, 2) := by decide +kernel
theorem dX0_pathAt_27 : decode cX0_pathAt 27 = .ok (.invokespecial 176, 3) := by decide +kernel
theorem dX0_pathAt_30 : decode cX0_pathAt 30 = .ok (.athrow, 1) := by decide +kernel
theorem dX0_pathAt_31 : decode cX0_pathAt 31 = .ok (.aload_n 0, 1) := by decide +kernel
theorem dX0_pathAt_32 : decode cX0_pathAt 32 = .ok (.getfield 56, 3) := by decide +kernel
theorem dX0_pathAt_35 : decode cX0_pathAt 35 = .ok (.iload_n 1, 1) := by decide +kernel
theorem dX0_pathAt_36 : decode cX0_pathAt 36 = .ok (.aaload, 1) := by decide +kernel
theorem dX0_pathAt_37 : decode cX0_pathAt 37 = .ok (.iload_n 2, 1) := by decide +kernel
theorem dX0_pathAt_38 : decode cX0_pathAt 38 = .ok (.iaload, 1) := by decide +kernel
theorem dX0_pathAt_39 : decode cX0_pathAt 39 = .ok (.ireturn, 1) := by decide +kernel
theorem dX0_isWithin_0 : decode cX0_isWithin 0 = .ok (.iload_n 0, 1) := by decide +kernel
theorem dX0_isWithin_1 : decode cX0_isWithin 1 = .ok (.iload_n 1, 1) := by decide +kernel
theorem dX0_isWithin_2 : decode cX0_isWithin 2 = .ok (.if_icmp .lt 12, 3) := by decide +kernel
theorem dX0_isWithin_5 : decode cX0_isWithin 5 = .ok (.iload_n 0, 1) := by decide +kernel
theorem dX0_isWithin_6 : decode cX0_isWithin 6 = .ok (.iload_n 2, 1) := by decide +kernel
theorem dX0_isWithin_7 : decode cX0_isWithin 7 = .ok (.if_icmp .gt 7, 3) := by decide +kernel
theorem dX0_isWithin_10 : decode cX0_isWithin 10 = .ok (.iconst 1, 1) := by decide +kernel
theorem dX0_isWithin_11 : decode cX0_isWithin 11 = .ok (.goto 4, 3) := by decide +kernel
theorem dX0_isWithin_14 : decode cX0_isWithin 14 = .ok (.iconst 0, 1) := by decide +kernel
theorem dX0_isWithin_15 : decode cX0_isWithin 15 = .ok (.ireturn, 1) := by decide +kernel
theorem dX0_isStep_0 : decode cX0_isStep 0 = .ok (.iload_n 1, 1) := by decide +kernel
theorem dX0_isStep_1 : decode cX0_isStep 1 = .ok (.ifCond .lt 15, 3) := by decide +kernel
theorem dX0_isStep_4 : decode cX0_isStep 4 = .ok (.iload_n 1, 1) := by decide +kernel
theorem dX0_isStep_5 : decode cX0_isStep 5 = .ok (.aload_n 0, 1) := by decide +kernel
theorem dX0_isStep_6 : decode cX0_isStep 6 = .ok (.getfield 22, 3) := by decide +kernel
theorem dX0_isStep_9 : decode cX0_isStep 9 = .ok (.if_icmp .ge 7, 3) := by decide +kernel
theorem dX0_isStep_12 : decode cX0_isStep 12 = .ok (.iconst 1, 1) := by decide +kernel
theorem dX0_isStep_13 : decode cX0_isStep 13 = .ok (.goto 4, 3) := by decide +kernel
theorem dX0_isStep_16 : decode cX0_isStep 16 = .ok (.iconst 0, 1) := by decide +kernel
theorem dX0_isStep_17 : decode cX0_isStep 17 = .ok (.ireturn, 1) := by decide +kernel
theorem dX0_isLot_0 : decode cX0_isLot 0 = .ok (.iload_n 1, 1) := by decide +kernel
theorem dX0_isLot_1 : decode cX0_isLot 1 = .ok (.ifCond .lt 15, 3) := by decide +kernel
theorem dX0_isLot_4 : decode cX0_isLot 4 = .ok (.iload_n 1, 1) := by decide +kernel
theorem dX0_isLot_5 : decode cX0_isLot 5 = .ok (.aload_n 0, 1) := by decide +kernel
theorem dX0_isLot_6 : decode cX0_isLot 6 = .ok (.getfield 48, 3) := by decide +kernel
theorem dX0_isLot_9 : decode cX0_isLot 9 = .ok (.if_icmp .ge 7, 3) := by decide +kernel
theorem dX0_isLot_12 : decode cX0_isLot 12 = .ok (.iconst 1, 1) := by decide +kernel
theorem dX0_isLot_13 : decode cX0_isLot 13 = .ok (.goto 4, 3) := by decide +kernel
theorem dX0_isLot_16 : decode cX0_isLot 16 = .ok (.iconst 0, 1) := by decide +kernel
theorem dX0_isLot_17 : decode cX0_isLot 17 = .ok (.ireturn, 1) := by decide +kernel
set_option maxRecDepth 20000 in
theorem ggX0_checkTool_X0_isWithin : GoodIn wsX0_checkTool wsX0_isWithin := goodIn_r _ [6] (by decide +kernel) (by decide +kernel)
set_option maxRecDepth 20000 in
theorem gX0_checkTool_X0_isWithin : GoodIn wsX0_checkTool (va_wsS RX0 72 yX0_isWithin wsX0_isWithin) := goodIn_app (goodIn_of _ (by decide +kernel)) ggX0_checkTool_X0_isWithin
theorem dX0_checkTool_0 : decode cX0_checkTool 0 = .ok (.iload_n 0, 1) := by decide +kernel
theorem dX0_checkTool_1 : decode cX0_checkTool 1 = .ok (.iconst 0, 1) := by decide +kernel
theorem dX0_checkTool_2 : decode cX0_checkTool 2 = .ok (.iconst 5, 1) := by decide +kernel
theorem dX0_checkTool_3 : decode cX0_checkTool 3 = .ok (.invokestatic 72, 3) := by decide +kernel
theorem dX0_checkTool_6 : decode cX0_checkTool 6 = .ok (.ifCond .ne 13, 3) := by decide +kernel
theorem dX0_checkTool_9 : decode cX0_checkTool 9 = .ok (.new 172, 3) := by decide +kernel
theorem dX0_checkTool_12 : decode cX0_checkTool 12 = .ok (.dup, 1) := by decide +kernel
theorem dX0_checkTool_13 : decode cX0_checkTool 13 = .ok (.ldc 177, 2) := by decide +kernel
theorem dX0_checkTool_15 : decode cX0_checkTool 15 = .ok (.invokespecial 176, 3) := by decide +kernel
theorem dX0_checkTool_18 : decode cX0_checkTool 18 = .ok (.athrow, 1) := by decide +kernel
theorem dX0_checkTool_19 : decode cX0_checkTool 19 = .ok (.return_, 1) := by decide +kernel
set_option maxRecDepth 20000 in
theorem ggX0_checkStep_X0_isStep : GoodIn wsX0_checkStep wsX0_isStep := goodIn_r _ [7, 8, 9, 10, 11, 12, 13, 14, 15, 16, 17, 18, 19, 20, 21, 22, 23, 24, 25, 26] (by decide +kernel) (by decide +kernel)
set_option maxRecDepth 20000 in
theorem gX0_checkStep_X0_isStep : GoodIn wsX0_checkStep (wsV RX0 106 RX0 yX0_isStep wsX0_isStep) := goodIn_app (goodIn_of _ (by decide +kernel)) ggX0_checkStep_X0_isStep
theorem dX0_checkStep_0 : decode cX0_checkStep 0 = .ok (.aload_n 0, 1) := by decide +kernel
theorem dX0_checkStep_1 : decode cX0_checkStep 1 = .ok (.iload_n 1, 1) := by decide +kernel
theorem dX0_checkStep_2 : decode cX0_checkStep 2 = .ok (.invokevirtual 106, 3) := by decide +kernel
theorem dX0_checkStep_5 : decode cX0_checkStep 5 = .ok (.ifCond .ne 13, 3) := by decide +kernel
theorem dX0_checkStep_8 : decode cX0_checkStep 8 = .ok (.new 172, 3) := by decide +kernel
theorem dX0_checkStep_11 : decode cX0_checkStep 11 = .ok (.dup, 1) := by decide +kernel
theorem dX0_checkStep_12 : decode cX0_checkStep 12 = .ok (.ldc 179, 2) := by decide +kernel
theorem dX0_checkStep_14 : decode cX0_checkStep 14 = .ok (.invokespecial 176, 3) := by decide +kernel
theorem dX0_checkStep_17 : decode cX0_checkStep 17 = .ok (.athrow, 1) := by decide +kernel
theorem dX0_checkStep_18 : decode cX0_checkStep 18 = .ok (.return_, 1) := by decide +kernel
set_option maxRecDepth 20000 in
theorem ggX0_checkLot_X0_isLot : GoodIn wsX0_checkLot wsX0_isLot := goodIn_r _ [7, 8, 9, 10, 11, 12, 13, 14, 15, 16, 17, 18, 19, 20, 21, 22, 23, 24, 25, 26] (by decide +kernel) (by decide +kernel)
set_option maxRecDepth 20000 in
theorem gX0_checkLot_X0_isLot : GoodIn wsX0_checkLot (wsV RX0 147 RX0 yX0_isLot wsX0_isLot) := goodIn_app (goodIn_of _ (by decide +kernel)) ggX0_checkLot_X0_isLot
theorem dX0_checkLot_0 : decode cX0_checkLot 0 = .ok (.aload_n 0, 1) := by decide +kernel
theorem dX0_checkLot_1 : decode cX0_checkLot 1 = .ok (.iload_n 1, 1) := by decide +kernel
theorem dX0_checkLot_2 : decode cX0_checkLot 2 = .ok (.invokevirtual 147, 3) := by decide +kernel
theorem dX0_checkLot_5 : decode cX0_checkLot 5 = .ok (.ifCond .ne 13, 3) := by decide +kernel
theorem dX0_checkLot_8 : decode cX0_checkLot 8 = .ok (.new 172, 3) := by decide +kernel
theorem dX0_checkLot_11 : decode cX0_checkLot 11 = .ok (.dup, 1) := by decide +kernel
theorem dX0_checkLot_12 : decode cX0_checkLot 12 = .ok (.ldc 181, 2) := by decide +kernel
theorem dX0_checkLot_14 : decode cX0_checkLot 14 = .ok (.invokespecial 176, 3) := by decide +kernel
theorem dX0_checkLot_17 : decode cX0_checkLot 17 = .ok (.athrow, 1) := by decide +kernel
theorem dX0_checkLot_18 : decode cX0_checkLot 18 = .ok (.return_, 1) := by decide +kernel
theorem dX0_checkWafer_0 : decode cX0_checkWafer 0 = .ok (.iload_n 1, 1) := by decide +kernel
theorem dX0_checkWafer_1 : decode cX0_checkWafer 1 = .ok (.ifCond .lt 11, 3) := by decide +kernel
theorem dX0_checkWafer_4 : decode cX0_checkWafer 4 = .ok (.iload_n 1, 1) := by decide +kernel
theorem dX0_checkWafer_5 : decode cX0_checkWafer 5 = .ok (.aload_n 0, 1) := by decide +kernel
theorem dX0_checkWafer_6 : decode cX0_checkWafer 6 = .ok (.getfield 62, 3) := by decide +kernel
theorem dX0_checkWafer_9 : decode cX0_checkWafer 9 = .ok (.if_icmp .lt 13, 3) := by decide +kernel
theorem dX0_checkWafer_12 : decode cX0_checkWafer 12 = .ok (.new 172, 3) := by decide +kernel
theorem dX0_checkWafer_15 : decode cX0_checkWafer 15 = .ok (.dup, 1) := by decide +kernel
theorem dX0_checkWafer_16 : decode cX0_checkWafer 16 = .ok (.ldc 183, 2) := by decide +kernel
theorem dX0_checkWafer_18 : decode cX0_checkWafer 18 = .ok (.invokespecial 176, 3) := by decide +kernel
theorem dX0_checkWafer_21 : decode cX0_checkWafer 21 = .ok (.athrow, 1) := by decide +kernel
theorem dX0_checkWafer_22 : decode cX0_checkWafer 22 = .ok (.return_, 1) := by decide +kernel
theorem dX0_isFree_0 : decode cX0_isFree 0 = .ok (.aload_n 0, 1) := by decide +kernel
theorem dX0_isFree_1 : decode cX0_isFree 1 = .ok (.getfield 26, 3) := by decide +kernel
theorem dX0_isFree_4 : decode cX0_isFree 4 = .ok (.iload_n 1, 1) := by decide +kernel
theorem dX0_isFree_5 : decode cX0_isFree 5 = .ok (.iaload, 1) := by decide +kernel
theorem dX0_isFree_6 : decode cX0_isFree 6 = .ok (.ifCond .ne 16, 3) := by decide +kernel
theorem dX0_isFree_9 : decode cX0_isFree 9 = .ok (.aload_n 0, 1) := by decide +kernel
theorem dX0_isFree_10 : decode cX0_isFree 10 = .ok (.getfield 35, 3) := by decide +kernel
theorem dX0_isFree_13 : decode cX0_isFree 13 = .ok (.iload_n 1, 1) := by decide +kernel
theorem dX0_isFree_14 : decode cX0_isFree 14 = .ok (.baload, 1) := by decide +kernel
theorem dX0_isFree_15 : decode cX0_isFree 15 = .ok (.ifCond .ne 7, 3) := by decide +kernel
theorem dX0_isFree_18 : decode cX0_isFree 18 = .ok (.iconst 1, 1) := by decide +kernel
theorem dX0_isFree_19 : decode cX0_isFree 19 = .ok (.goto 4, 3) := by decide +kernel
theorem dX0_isFree_22 : decode cX0_isFree 22 = .ok (.iconst 0, 1) := by decide +kernel
theorem dX0_isFree_23 : decode cX0_isFree 23 = .ok (.ireturn, 1) := by decide +kernel
set_option maxRecDepth 20000 in
theorem ggX0_isReady_X0_isFree : GoodIn wsX0_isReady wsX0_isFree := goodIn_r _ [5, 6, 7, 23, 24, 25, 26, 27, 28, 29, 30, 31, 32, 33, 34, 35, 36, 37, 38, 39, 40] (by decide +kernel) (by decide +kernel)
set_option maxRecDepth 20000 in
theorem gX0_isReady_X0_isFree : GoodIn wsX0_isReady (wsV RX0 114 RX0 yX0_isFree wsX0_isFree) := goodIn_app (goodIn_of _ (by decide +kernel)) ggX0_isReady_X0_isFree
set_option maxRecDepth 20000 in
theorem ggX0_isReady_X0_waitingLeft : GoodIn wsX0_isReady wsX0_waitingLeft := goodIn_r _ [11, 12, 6, 13, 14, 15, 16, 17, 18, 19, 20, 4, 21, 22, 23, 24, 25, 26, 27, 28, 29, 30, 31, 32, 33, 34, 35, 36, 37, 38, 39, 40] (by decide +kernel) (by decide +kernel)
set_option maxRecDepth 20000 in
theorem gX0_isReady_X0_waitingLeft : GoodIn wsX0_isReady (wsV RX0 157 RX0 yX0_waitingLeft wsX0_waitingLeft) := goodIn_app (goodIn_of _ (by decide +kernel)) ggX0_isReady_X0_waitingLeft
theorem dX0_isReady_0 : decode cX0_isReady 0 = .ok (.aload_n 0, 1) := by decide +kernel
theorem dX0_isReady_1 : decode cX0_isReady 1 = .ok (.iload_n 1, 1) := by decide +kernel
theorem dX0_isReady_2 : decode cX0_isReady 2 = .ok (.invokevirtual 114, 3) := by decide +kernel
theorem dX0_isReady_5 : decode cX0_isReady 5 = .ok (.ifCond .eq 15, 3) := by decide +kernel
theorem dX0_isReady_8 : decode cX0_isReady 8 = .ok (.aload_n 0, 1) := by decide +kernel
theorem dX0_isReady_9 : decode cX0_isReady 9 = .ok (.iload_n 1, 1) := by decide +kernel
theorem dX0_isReady_10 : decode cX0_isReady 10 = .ok (.invokevirtual 157, 3) := by decide +kernel
theorem dX0_isReady_13 : decode cX0_isReady 13 = .ok (.ifCond .lt 7, 3) := by decide +kernel
theorem dX0_isReady_16 : decode cX0_isReady 16 = .ok (.iconst 1, 1) := by decide +kernel
theorem dX0_isReady_17 : decode cX0_isReady 17 = .ok (.goto 4, 3) := by decide +kernel
theorem dX0_isReady_20 : decode cX0_isReady 20 = .ok (.iconst 0, 1) := by decide +kernel
theorem dX0_isReady_21 : decode cX0_isReady 21 = .ok (.ireturn, 1) := by decide +kernel
set_option maxRecDepth 20000 in
theorem ggX0_usesTool_X0_isStep : GoodIn wsX0_usesTool wsX0_isStep := goodIn_r _ [7, 8, 9, 10, 11, 12, 13, 14, 15, 16, 17, 18, 19, 20, 21, 22, 23, 24, 25, 26] (by decide +kernel) (by decide +kernel)
set_option maxRecDepth 20000 in
theorem gX0_usesTool_X0_isStep : GoodIn wsX0_usesTool (wsV RX0 106 RX0 yX0_isStep wsX0_isStep) := goodIn_app (goodIn_of _ (by decide +kernel)) ggX0_usesTool_X0_isStep
theorem dX0_usesTool_0 : decode cX0_usesTool 0 = .ok (.aload_n 0, 1) := by decide +kernel
theorem dX0_usesTool_1 : decode cX0_usesTool 1 = .ok (.getfield 29, 3) := by decide +kernel
theorem dX0_usesTool_4 : decode cX0_usesTool 4 = .ok (.iload_n 1, 1) := by decide +kernel
theorem dX0_usesTool_5 : decode cX0_usesTool 5 = .ok (.iaload, 1) := by decide +kernel
theorem dX0_usesTool_6 : decode cX0_usesTool 6 = .ok (.istore_n 3, 1) := by decide +kernel
theorem dX0_usesTool_7 : decode cX0_usesTool 7 = .ok (.aload_n 0, 1) := by decide +kernel
theorem dX0_usesTool_8 : decode cX0_usesTool 8 = .ok (.iload_n 3, 1) := by decide +kernel
theorem dX0_usesTool_9 : decode cX0_usesTool 9 = .ok (.invokevirtual 106, 3) := by decide +kernel
theorem dX0_usesTool_12 : decode cX0_usesTool 12 = .ok (.ifCond .eq 17, 3) := by decide +kernel
theorem dX0_usesTool_15 : decode cX0_usesTool 15 = .ok (.aload_n 0, 1) := by decide +kernel
theorem dX0_usesTool_16 : decode cX0_usesTool 16 = .ok (.getfield 9, 3) := by decide +kernel
theorem dX0_usesTool_19 : decode cX0_usesTool 19 = .ok (.iload_n 3, 1) := by decide +kernel
theorem dX0_usesTool_20 : decode cX0_usesTool 20 = .ok (.iaload, 1) := by decide +kernel
theorem dX0_usesTool_21 : decode cX0_usesTool 21 = .ok (.iload_n 2, 1) := by decide +kernel
theorem dX0_usesTool_22 : decode cX0_usesTool 22 = .ok (.if_icmp .ne 7, 3) := by decide +kernel
theorem dX0_usesTool_25 : decode cX0_usesTool 25 = .ok (.iconst 1, 1) := by decide +kernel
theorem dX0_usesTool_26 : decode cX0_usesTool 26 = .ok (.goto 4, 3) := by decide +kernel
theorem dX0_usesTool_29 : decode cX0_usesTool 29 = .ok (.iconst 0, 1) := by decide +kernel
theorem dX0_usesTool_30 : decode cX0_usesTool 30 = .ok (.ireturn, 1) := by decide +kernel
set_option maxRecDepth 20000 in
theorem ggX0_isBusy_X0_usesTool : GoodIn wsX0_isBusy wsX0_usesTool := goodIn_r _ [7, 8, 9, 10, 11, 12, 6, 13, 14, 15, 16, 17, 18, 19, 20, 21, 22, 23, 24, 25, 26, 27, 28, 29, 30, 31, 32] (by decide +kernel) (by decide +kernel)
set_option maxRecDepth 20000 in
theorem gX0_isBusy_X0_usesTool : GoodIn wsX0_isBusy (wsV RX0 162 RX0 yX0_usesTool wsX0_usesTool) := goodIn_app (goodIn_of _ (by decide +kernel)) ggX0_isBusy_X0_usesTool
theorem dX0_isBusy_0 : decode cX0_isBusy 0 = .ok (.iconst 0, 1) := by decide +kernel
theorem dX0_isBusy_1 : decode cX0_isBusy 1 = .ok (.istore_n 2, 1) := by decide +kernel
theorem dX0_isBusy_2 : decode cX0_isBusy 2 = .ok (.iload_n 2, 1) := by decide +kernel
theorem dX0_isBusy_3 : decode cX0_isBusy 3 = .ok (.aload_n 0, 1) := by decide +kernel
theorem dX0_isBusy_4 : decode cX0_isBusy 4 = .ok (.getfield 48, 3) := by decide +kernel
theorem dX0_isBusy_7 : decode cX0_isBusy 7 = .ok (.if_icmp .ge 30, 3) := by decide +kernel
theorem dX0_isBusy_10 : decode cX0_isBusy 10 = .ok (.aload_n 0, 1) := by decide +kernel
theorem dX0_isBusy_11 : decode cX0_isBusy 11 = .ok (.getfield 26, 3) := by decide +kernel
theorem dX0_isBusy_14 : decode cX0_isBusy 14 = .ok (.iload_n 2, 1) := by decide +kernel
theorem dX0_isBusy_15 : decode cX0_isBusy 15 = .ok (.iaload, 1) := by decide +kernel
theorem dX0_isBusy_16 : decode cX0_isBusy 16 = .ok (.iconst 1, 1) := by decide +kernel
theorem dX0_isBusy_17 : decode cX0_isBusy 17 = .ok (.if_icmp .ne 14, 3) := by decide +kernel
theorem dX0_isBusy_20 : decode cX0_isBusy 20 = .ok (.aload_n 0, 1) := by decide +kernel
theorem dX0_isBusy_21 : decode cX0_isBusy 21 = .ok (.iload_n 2, 1) := by decide +kernel
theorem dX0_isBusy_22 : decode cX0_isBusy 22 = .ok (.iload_n 1, 1) := by decide +kernel
theorem dX0_isBusy_23 : decode cX0_isBusy 23 = .ok (.invokevirtual 162, 3) := by decide +kernel
theorem dX0_isBusy_26 : decode cX0_isBusy 26 = .ok (.ifCond .eq 5, 3) := by decide +kernel
theorem dX0_isBusy_29 : decode cX0_isBusy 29 = .ok (.iconst 1, 1) := by decide +kernel
theorem dX0_isBusy_30 : decode cX0_isBusy 30 = .ok (.ireturn, 1) := by decide +kernel
theorem dX0_isBusy_31 : decode cX0_isBusy 31 = .ok (.iinc 2 1, 3) := by decide +kernel
theorem dX0_isBusy_34 : decode cX0_isBusy 34 = .ok (.goto (-32), 3) := by decide +kernel
theorem dX0_isBusy_37 : decode cX0_isBusy 37 = .ok (.iconst 0, 1) := by decide +kernel
theorem dX0_isBusy_38 : decode cX0_isBusy 38 = .ok (.ireturn, 1) := by decide +kernel
set_option maxRecDepth 20000 in
theorem ggX0_waitingLeft_X0_isStep : GoodIn wsX0_waitingLeft wsX0_isStep := goodIn_r _ [12, 13, 14, 15, 16, 17, 18, 19, 20, 21, 22, 23, 24, 25, 26, 27, 28, 29, 30, 31] (by decide +kernel) (by decide +kernel)
set_option maxRecDepth 20000 in
theorem gX0_waitingLeft_X0_isStep : GoodIn wsX0_waitingLeft (wsV RX0 106 RX0 yX0_isStep wsX0_isStep) := goodIn_app (goodIn_of _ (by decide +kernel)) ggX0_waitingLeft_X0_isStep
theorem dX0_waitingLeft_0 : decode cX0_waitingLeft 0 = .ok (.aload_n 0, 1) := by decide +kernel
theorem dX0_waitingLeft_1 : decode cX0_waitingLeft 1 = .ok (.getfield 29, 3) := by decide +kernel
theorem dX0_waitingLeft_4 : decode cX0_waitingLeft 4 = .ok (.iload_n 1, 1) := by decide +kernel
theorem dX0_waitingLeft_5 : decode cX0_waitingLeft 5 = .ok (.iaload, 1) := by decide +kernel
theorem dX0_waitingLeft_6 : decode cX0_waitingLeft 6 = .ok (.istore_n 2, 1) := by decide +kernel
theorem dX0_waitingLeft_7 : decode cX0_waitingLeft 7 = .ok (.aload_n 0, 1) := by decide +kernel
theorem dX0_waitingLeft_8 : decode cX0_waitingLeft 8 = .ok (.getfield 26, 3) := by decide +kernel
theorem dX0_waitingLeft_11 : decode cX0_waitingLeft 11 = .ok (.iload_n 1, 1) := by decide +kernel
theorem dX0_waitingLeft_12 : decode cX0_waitingLeft 12 = .ok (.iaload, 1) := by decide +kernel
theorem dX0_waitingLeft_13 : decode cX0_waitingLeft 13 = .ok (.ifCond .ne 11, 3) := by decide +kernel
theorem dX0_waitingLeft_16 : decode cX0_waitingLeft 16 = .ok (.aload_n 0, 1) := by decide +kernel
theorem dX0_waitingLeft_17 : decode cX0_waitingLeft 17 = .ok (.iload_n 2, 1) := by decide +kernel
theorem dX0_waitingLeft_18 : decode cX0_waitingLeft 18 = .ok (.invokevirtual 106, 3) := by decide +kernel
theorem dX0_waitingLeft_21 : decode cX0_waitingLeft 21 = .ok (.ifCond .ne 6, 3) := by decide +kernel
theorem dX0_waitingLeft_24 : decode cX0_waitingLeft 24 = .ok (.ldc 161, 2) := by decide +kernel
theorem dX0_waitingLeft_26 : decode cX0_waitingLeft 26 = .ok (.ireturn, 1) := by decide +kernel
theorem dX0_waitingLeft_27 : decode cX0_waitingLeft 27 = .ok (.aload_n 0, 1) := by decide +kernel
theorem dX0_waitingLeft_28 : decode cX0_waitingLeft 28 = .ok (.getfield 16, 3) := by decide +kernel
theorem dX0_waitingLeft_31 : decode cX0_waitingLeft 31 = .ok (.iload_n 2, 1) := by decide +kernel
theorem dX0_waitingLeft_32 : decode cX0_waitingLeft 32 = .ok (.iaload, 1) := by decide +kernel
theorem dX0_waitingLeft_33 : decode cX0_waitingLeft 33 = .ok (.ifCond .ne 6, 3) := by decide +kernel
theorem dX0_waitingLeft_36 : decode cX0_waitingLeft 36 = .ok (.ldc 185, 2) := by decide +kernel
theorem dX0_waitingLeft_38 : decode cX0_waitingLeft 38 = .ok (.ireturn, 1) := by decide +kernel
theorem dX0_waitingLeft_39 : decode cX0_waitingLeft 39 = .ok (.aload_n 0, 1) := by decide +kernel
theorem dX0_waitingLeft_40 : decode cX0_waitingLeft 40 = .ok (.getfield 16, 3) := by decide +kernel
theorem dX0_waitingLeft_43 : decode cX0_waitingLeft 43 = .ok (.iload_n 2, 1) := by decide +kernel
theorem dX0_waitingLeft_44 : decode cX0_waitingLeft 44 = .ok (.iaload, 1) := by decide +kernel
theorem dX0_waitingLeft_45 : decode cX0_waitingLeft 45 = .ok (.aload_n 0, 1) := by decide +kernel
theorem dX0_waitingLeft_46 : decode cX0_waitingLeft 46 = .ok (.getfield 65, 3) := by decide +kernel
theorem dX0_waitingLeft_49 : decode cX0_waitingLeft 49 = .ok (.aload_n 0, 1) := by decide +kernel
theorem dX0_waitingLeft_50 : decode cX0_waitingLeft 50 = .ok (.getfield 32, 3) := by decide +kernel
theorem dX0_waitingLeft_53 : decode cX0_waitingLeft 53 = .ok (.iload_n 1, 1) := by decide +kernel
theorem dX0_waitingLeft_54 : decode cX0_waitingLeft 54 = .ok (.iaload, 1) := by decide +kernel
theorem dX0_waitingLeft_55 : decode cX0_waitingLeft 55 = .ok (.isub, 1) := by decide +kernel
theorem dX0_waitingLeft_56 : decode cX0_waitingLeft 56 = .ok (.isub, 1) := by decide +kernel
theorem dX0_waitingLeft_57 : decode cX0_waitingLeft 57 = .ok (.ireturn, 1) := by decide +kernel
set_option maxRecDepth 20000 in
theorem ggX0_parentOrNone_X0_isLot : GoodIn wsX0_parentOrNone wsX0_isLot := goodIn_r _ [6, 7, 8, 9, 10, 11, 12, 13, 14, 15, 16, 17, 18, 19, 20, 21, 22, 23, 24, 25] (by decide +kernel) (by decide +kernel)
set_option maxRecDepth 20000 in
theorem gX0_parentOrNone_X0_isLot : GoodIn wsX0_parentOrNone (wsV RX0 147 RX0 yX0_isLot wsX0_isLot) := goodIn_app (goodIn_of _ (by decide +kernel)) ggX0_parentOrNone_X0_isLot
theorem dX0_parentOrNone_0 : decode cX0_parentOrNone 0 = .ok (.aload_n 0, 1) := by decide +kernel
theorem dX0_parentOrNone_1 : decode cX0_parentOrNone 1 = .ok (.iload_n 1, 1) := by decide +kernel
theorem dX0_parentOrNone_2 : decode cX0_parentOrNone 2 = .ok (.invokevirtual 147, 3) := by decide +kernel
theorem dX0_parentOrNone_5 : decode cX0_parentOrNone 5 = .ok (.ifCond .eq 12, 3) := by decide +kernel
theorem dX0_parentOrNone_8 : decode cX0_parentOrNone 8 = .ok (.aload_n 0, 1) := by decide +kernel
theorem dX0_parentOrNone_9 : decode cX0_parentOrNone 9 = .ok (.getfield 42, 3) := by decide +kernel
theorem dX0_parentOrNone_12 : decode cX0_parentOrNone 12 = .ok (.iload_n 1, 1) := by decide +kernel
theorem dX0_parentOrNone_13 : decode cX0_parentOrNone 13 = .ok (.iaload, 1) := by decide +kernel
theorem dX0_parentOrNone_14 : decode cX0_parentOrNone 14 = .ok (.goto 4, 3) := by decide +kernel
theorem dX0_parentOrNone_17 : decode cX0_parentOrNone 17 = .ok (.iconst (-1), 1) := by decide +kernel
theorem dX0_parentOrNone_18 : decode cX0_parentOrNone 18 = .ok (.ireturn, 1) := by decide +kernel
theorem dX0_makeLot_0 : decode cX0_makeLot 0 = .ok (.aload_n 0, 1) := by decide +kernel
theorem dX0_makeLot_1 : decode cX0_makeLot 1 = .ok (.getfield 48, 3) := by decide +kernel
theorem dX0_makeLot_4 : decode cX0_makeLot 4 = .ok (.istore 6, 2) := by decide +kernel
theorem dX0_makeLot_6 : decode cX0_makeLot 6 = .ok (.aload_n 0, 1) := by decide +kernel
theorem dX0_makeLot_7 : decode cX0_makeLot 7 = .ok (.getfield 26, 3) := by decide +kernel
theorem dX0_makeLot_10 : decode cX0_makeLot 10 = .ok (.iload 6, 2) := by decide +kernel
theorem dX0_makeLot_12 : decode cX0_makeLot 12 = .ok (.iconst 0, 1) := by decide +kernel
theorem dX0_makeLot_13 : decode cX0_makeLot 13 = .ok (.iastore, 1) := by decide +kernel
theorem dX0_makeLot_14 : decode cX0_makeLot 14 = .ok (.aload_n 0, 1) := by decide +kernel
theorem dX0_makeLot_15 : decode cX0_makeLot 15 = .ok (.getfield 29, 3) := by decide +kernel
theorem dX0_makeLot_18 : decode cX0_makeLot 18 = .ok (.iload 6, 2) := by decide +kernel
theorem dX0_makeLot_20 : decode cX0_makeLot 20 = .ok (.iload_n 1, 1) := by decide +kernel
theorem dX0_makeLot_21 : decode cX0_makeLot 21 = .ok (.iastore, 1) := by decide +kernel
theorem dX0_makeLot_22 : decode cX0_makeLot 22 = .ok (.aload_n 0, 1) := by decide +kernel
theorem dX0_makeLot_23 : decode cX0_makeLot 23 = .ok (.getfield 32, 3) := by decide +kernel
theorem dX0_makeLot_26 : decode cX0_makeLot 26 = .ok (.iload 6, 2) := by decide +kernel
theorem dX0_makeLot_28 : decode cX0_makeLot 28 = .ok (.iload_n 2, 1) := by decide +kernel
theorem dX0_makeLot_29 : decode cX0_makeLot 29 = .ok (.iastore, 1) := by decide +kernel
theorem dX0_makeLot_30 : decode cX0_makeLot 30 = .ok (.aload_n 0, 1) := by decide +kernel
theorem dX0_makeLot_31 : decode cX0_makeLot 31 = .ok (.getfield 35, 3) := by decide +kernel
theorem dX0_makeLot_34 : decode cX0_makeLot 34 = .ok (.iload 6, 2) := by decide +kernel
theorem dX0_makeLot_36 : decode cX0_makeLot 36 = .ok (.iload_n 3, 1) := by decide +kernel
theorem dX0_makeLot_37 : decode cX0_makeLot 37 = .ok (.bastore, 1) := by decide +kernel
theorem dX0_makeLot_38 : decode cX0_makeLot 38 = .ok (.aload_n 0, 1) := by decide +kernel
theorem dX0_makeLot_39 : decode cX0_makeLot 39 = .ok (.getfield 39, 3) := by decide +kernel
theorem dX0_makeLot_42 : decode cX0_makeLot 42 = .ok (.iload 6, 2) := by decide +kernel
theorem dX0_makeLot_44 : decode cX0_makeLot 44 = .ok (.iload 4, 2) := by decide +kernel
theorem dX0_makeLot_46 : decode cX0_makeLot 46 = .ok (.iastore, 1) := by decide +kernel
theorem dX0_makeLot_47 : decode cX0_makeLot 47 = .ok (.aload_n 0, 1) := by decide +kernel
theorem dX0_makeLot_48 : decode cX0_makeLot 48 = .ok (.getfield 42, 3) := by decide +kernel
theorem dX0_makeLot_51 : decode cX0_makeLot 51 = .ok (.iload 6, 2) := by decide +kernel
theorem dX0_makeLot_53 : decode cX0_makeLot 53 = .ok (.iload 5, 2) := by decide +kernel
theorem dX0_makeLot_55 : decode cX0_makeLot 55 = .ok (.iastore, 1) := by decide +kernel
theorem dX0_makeLot_56 : decode cX0_makeLot 56 = .ok (.aload_n 0, 1) := by decide +kernel
theorem dX0_makeLot_57 : decode cX0_makeLot 57 = .ok (.getfield 45, 3) := by decide +kernel
theorem dX0_makeLot_60 : decode cX0_makeLot 60 = .ok (.iload 6, 2) := by decide +kernel
theorem dX0_makeLot_62 : decode cX0_makeLot 62 = .ok (.iconst 0, 1) := by decide +kernel
theorem dX0_makeLot_63 : decode cX0_makeLot 63 = .ok (.iastore, 1) := by decide +kernel
theorem dX0_makeLot_64 : decode cX0_makeLot 64 = .ok (.aload_n 0, 1) := by decide +kernel
theorem dX0_makeLot_65 : decode cX0_makeLot 65 = .ok (.iload 6, 2) := by decide +kernel
theorem dX0_makeLot_67 : decode cX0_makeLot 67 = .ok (.iconst 1, 1) := by decide +kernel
theorem dX0_makeLot_68 : decode cX0_makeLot 68 = .ok (.iadd, 1) := by decide +kernel
theorem dX0_makeLot_69 : decode cX0_makeLot 69 = .ok (.putfield 48, 3) := by decide +kernel
theorem dX0_makeLot_72 : decode cX0_makeLot 72 = .ok (.iload 6, 2) := by decide +kernel
theorem dX0_makeLot_74 : decode cX0_makeLot 74 = .ok (.ireturn, 1) := by decide +kernel
set_option maxRecDepth 20000 in
theorem ggX0_makeWafer_X0_putInto : GoodIn wsX0_makeWafer wsX0_putInto := goodIn_r _ [7, 8, 9, 2, 10, 11, 12, 13, 14, 15, 16, 17, 18, 19, 20, 21, 22, 23, 24, 25, 26, 27, 28] (by decide +kernel) (by decide +kernel)
set_option maxRecDepth 20000 in
theorem gX0_makeWafer_X0_putInto : GoodIn wsX0_makeWafer (wsV RX0 186 RX0 yX0_putInto wsX0_putInto) := goodIn_app (goodIn_of _ (by decide +kernel)) ggX0_makeWafer_X0_putInto
theorem dX0_makeWafer_0 : decode cX0_makeWafer 0 = .ok (.aload_n 0, 1) := by decide +kernel
theorem dX0_makeWafer_1 : decode cX0_makeWafer 1 = .ok (.getfield 62, 3) := by decide +kernel
theorem dX0_makeWafer_4 : decode cX0_makeWafer 4 = .ok (.istore_n 2, 1) := by decide +kernel
theorem dX0_makeWafer_5 : decode cX0_makeWafer 5 = .ok (.aload_n 0, 1) := by decide +kernel
theorem dX0_makeWafer_6 : decode cX0_makeWafer 6 = .ok (.getfield 59, 3) := by decide +kernel
theorem dX0_makeWafer_9 : decode cX0_makeWafer 9 = .ok (.iload_n 2, 1) := by decide +kernel
theorem dX0_makeWafer_10 : decode cX0_makeWafer 10 = .ok (.iconst 0, 1) := by decide +kernel
theorem dX0_makeWafer_11 : decode cX0_makeWafer 11 = .ok (.iastore, 1) := by decide +kernel
theorem dX0_makeWafer_12 : decode cX0_makeWafer 12 = .ok (.aload_n 0, 1) := by decide +kernel
theorem dX0_makeWafer_13 : decode cX0_makeWafer 13 = .ok (.iload_n 2, 1) := by decide +kernel
theorem dX0_makeWafer_14 : decode cX0_makeWafer 14 = .ok (.iconst 1, 1) := by decide +kernel
theorem dX0_makeWafer_15 : decode cX0_makeWafer 15 = .ok (.iadd, 1) := by decide +kernel
theorem dX0_makeWafer_16 : decode cX0_makeWafer 16 = .ok (.putfield 62, 3) := by decide +kernel
theorem dX0_makeWafer_19 : decode cX0_makeWafer 19 = .ok (.aload_n 0, 1) := by decide +kernel
theorem dX0_makeWafer_20 : decode cX0_makeWafer 20 = .ok (.iload_n 2, 1) := by decide +kernel
theorem dX0_makeWafer_21 : decode cX0_makeWafer 21 = .ok (.iload_n 1, 1) := by decide +kernel
theorem dX0_makeWafer_22 : decode cX0_makeWafer 22 = .ok (.invokevirtual 186, 3) := by decide +kernel
theorem dX0_makeWafer_25 : decode cX0_makeWafer 25 = .ok (.return_, 1) := by decide +kernel
theorem dX0_putInto_0 : decode cX0_putInto 0 = .ok (.aload_n 0, 1) := by decide +kernel
theorem dX0_putInto_1 : decode cX0_putInto 1 = .ok (.getfield 51, 3) := by decide +kernel
theorem dX0_putInto_4 : decode cX0_putInto 4 = .ok (.iload_n 1, 1) := by decide +kernel
theorem dX0_putInto_5 : decode cX0_putInto 5 = .ok (.iload_n 2, 1) := by decide +kernel
theorem dX0_putInto_6 : decode cX0_putInto 6 = .ok (.iastore, 1) := by decide +kernel
theorem dX0_putInto_7 : decode cX0_putInto 7 = .ok (.aload_n 0, 1) := by decide +kernel
theorem dX0_putInto_8 : decode cX0_putInto 8 = .ok (.getfield 45, 3) := by decide +kernel
theorem dX0_putInto_11 : decode cX0_putInto 11 = .ok (.iload_n 2, 1) := by decide +kernel
theorem dX0_putInto_12 : decode cX0_putInto 12 = .ok (.dup2, 1) := by decide +kernel
theorem dX0_putInto_13 : decode cX0_putInto 13 = .ok (.iaload, 1) := by decide +kernel
theorem dX0_putInto_14 : decode cX0_putInto 14 = .ok (.iconst 1, 1) := by decide +kernel
theorem dX0_putInto_15 : decode cX0_putInto 15 = .ok (.iadd, 1) := by decide +kernel
theorem dX0_putInto_16 : decode cX0_putInto 16 = .ok (.iastore, 1) := by decide +kernel
theorem dX0_putInto_17 : decode cX0_putInto 17 = .ok (.aload_n 0, 1) := by decide +kernel
theorem dX0_putInto_18 : decode cX0_putInto 18 = .ok (.getfield 59, 3) := by decide +kernel
theorem dX0_putInto_21 : decode cX0_putInto 21 = .ok (.iload_n 1, 1) := by decide +kernel
theorem dX0_putInto_22 : decode cX0_putInto 22 = .ok (.iaload, 1) := by decide +kernel
theorem dX0_putInto_23 : decode cX0_putInto 23 = .ok (.istore_n 3, 1) := by decide +kernel
theorem dX0_putInto_24 : decode cX0_putInto 24 = .ok (.iload_n 3, 1) := by decide +kernel
theorem dX0_putInto_25 : decode cX0_putInto 25 = .ok (.bipush 47, 2) := by decide +kernel
theorem dX0_putInto_27 : decode cX0_putInto 27 = .ok (.if_icmp .ge 21, 3) := by decide +kernel
theorem dX0_putInto_30 : decode cX0_putInto 30 = .ok (.aload_n 0, 1) := by decide +kernel
theorem dX0_putInto_31 : decode cX0_putInto 31 = .ok (.getfield 56, 3) := by decide +kernel
theorem dX0_putInto_34 : decode cX0_putInto 34 = .ok (.iload_n 1, 1) := by decide +kernel
theorem dX0_putInto_35 : decode cX0_putInto 35 = .ok (.aaload, 1) := by decide +kernel
theorem dX0_putInto_36 : decode cX0_putInto 36 = .ok (.iload_n 3, 1) := by decide +kernel
theorem dX0_putInto_37 : decode cX0_putInto 37 = .ok (.iload_n 2, 1) := by decide +kernel
theorem dX0_putInto_38 : decode cX0_putInto 38 = .ok (.iastore, 1) := by decide +kernel
theorem dX0_putInto_39 : decode cX0_putInto 39 = .ok (.aload_n 0, 1) := by decide +kernel
theorem dX0_putInto_40 : decode cX0_putInto 40 = .ok (.getfield 59, 3) := by decide +kernel
theorem dX0_putInto_43 : decode cX0_putInto 43 = .ok (.iload_n 1, 1) := by decide +kernel
theorem dX0_putInto_44 : decode cX0_putInto 44 = .ok (.iload_n 3, 1) := by decide +kernel
theorem dX0_putInto_45 : decode cX0_putInto 45 = .ok (.iconst 1, 1) := by decide +kernel
theorem dX0_putInto_46 : decode cX0_putInto 46 = .ok (.iadd, 1) := by decide +kernel
theorem dX0_putInto_47 : decode cX0_putInto 47 = .ok (.iastore, 1) := by decide +kernel
theorem dX0_putInto_48 : decode cX0_putInto 48 = .ok (.return_, 1) := by decide +kernel
set_option maxRecDepth 20000 in
theorem ggX0_moveWafers_X0_putInto : GoodIn wsX0_moveWafers wsX0_putInto := goodIn_r _ [8, 2, 3, 9, 10, 11, 12, 13, 14, 15, 16, 17, 18, 19, 20, 21, 22, 23, 24, 25, 26, 27, 28] (by decide +kernel) (by decide +kernel)
set_option maxRecDepth 20000 in
theorem gX0_moveWafers_X0_putInto : GoodIn wsX0_moveWafers (wsV RX0 186 RX0 yX0_putInto wsX0_putInto) := goodIn_app (goodIn_of _ (by decide +kernel)) ggX0_moveWafers_X0_putInto
theorem dX0_moveWafers_0 : decode cX0_moveWafers 0 = .ok (.iconst 0, 1) := by decide +kernel
theorem dX0_moveWafers_1 : decode cX0_moveWafers 1 = .ok (.istore 4, 2) := by decide +kernel
theorem dX0_moveWafers_3 : decode cX0_moveWafers 3 = .ok (.iconst 0, 1) := by decide +kernel
theorem dX0_moveWafers_4 : decode cX0_moveWafers 4 = .ok (.istore 5, 2) := by decide +kernel
theorem dX0_moveWafers_6 : decode cX0_moveWafers 6 = .ok (.iload 5, 2) := by decide +kernel
theorem dX0_moveWafers_8 : decode cX0_moveWafers 8 = .ok (.aload_n 0, 1) := by decide +kernel
theorem dX0_moveWafers_9 : decode cX0_moveWafers 9 = .ok (.getfield 62, 3) := by decide +kernel
theorem dX0_moveWafers_12 : decode cX0_moveWafers 12 = .ok (.if_icmp .ge 46, 3) := by decide +kernel
theorem dX0_moveWafers_15 : decode cX0_moveWafers 15 = .ok (.iload 4, 2) := by decide +kernel
theorem dX0_moveWafers_17 : decode cX0_moveWafers 17 = .ok (.iload_n 3, 1) := by decide +kernel
theorem dX0_moveWafers_18 : decode cX0_moveWafers 18 = .ok (.if_icmp .ge 40, 3) := by decide +kernel
theorem dX0_moveWafers_21 : decode cX0_moveWafers 21 = .ok (.aload_n 0, 1) := by decide +kernel
theorem dX0_moveWafers_22 : decode cX0_moveWafers 22 = .ok (.getfield 51, 3) := by decide +kernel
theorem dX0_moveWafers_25 : decode cX0_moveWafers 25 = .ok (.iload 5, 2) := by decide +kernel
theorem dX0_moveWafers_27 : decode cX0_moveWafers 27 = .ok (.iaload, 1) := by decide +kernel
theorem dX0_moveWafers_28 : decode cX0_moveWafers 28 = .ok (.iload_n 1, 1) := by decide +kernel
theorem dX0_moveWafers_29 : decode cX0_moveWafers 29 = .ok (.if_icmp .ne 23, 3) := by decide +kernel
theorem dX0_moveWafers_32 : decode cX0_moveWafers 32 = .ok (.aload_n 0, 1) := by decide +kernel
theorem dX0_moveWafers_33 : decode cX0_moveWafers 33 = .ok (.getfield 45, 3) := by decide +kernel
theorem dX0_moveWafers_36 : decode cX0_moveWafers 36 = .ok (.iload_n 1, 1) := by decide +kernel
theorem dX0_moveWafers_37 : decode cX0_moveWafers 37 = .ok (.dup2, 1) := by decide +kernel
theorem dX0_moveWafers_38 : decode cX0_moveWafers 38 = .ok (.iaload, 1) := by decide +kernel
theorem dX0_moveWafers_39 : decode cX0_moveWafers 39 = .ok (.iconst 1, 1) := by decide +kernel
theorem dX0_moveWafers_40 : decode cX0_moveWafers 40 = .ok (.isub, 1) := by decide +kernel
theorem dX0_moveWafers_41 : decode cX0_moveWafers 41 = .ok (.iastore, 1) := by decide +kernel
theorem dX0_moveWafers_42 : decode cX0_moveWafers 42 = .ok (.aload_n 0, 1) := by decide +kernel
theorem dX0_moveWafers_43 : decode cX0_moveWafers 43 = .ok (.iload 5, 2) := by decide +kernel
theorem dX0_moveWafers_45 : decode cX0_moveWafers 45 = .ok (.iload_n 2, 1) := by decide +kernel
theorem dX0_moveWafers_46 : decode cX0_moveWafers 46 = .ok (.invokevirtual 186, 3) := by decide +kernel
theorem dX0_moveWafers_49 : decode cX0_moveWafers 49 = .ok (.iinc 4 1, 3) := by decide +kernel
theorem dX0_moveWafers_52 : decode cX0_moveWafers 52 = .ok (.iinc 5 1, 3) := by decide +kernel
theorem dX0_moveWafers_55 : decode cX0_moveWafers 55 = .ok (.goto (-49), 3) := by decide +kernel
theorem dX0_moveWafers_58 : decode cX0_moveWafers 58 = .ok (.return_, 1) := by decide +kernel
theorem dX0_leaveRoute_0 : decode cX0_leaveRoute 0 = .ok (.aload_n 0, 1) := by decide +kernel
theorem dX0_leaveRoute_1 : decode cX0_leaveRoute 1 = .ok (.getfield 26, 3) := by decide +kernel
theorem dX0_leaveRoute_4 : decode cX0_leaveRoute 4 = .ok (.iload_n 1, 1) := by decide +kernel
theorem dX0_leaveRoute_5 : decode cX0_leaveRoute 5 = .ok (.iload_n 2, 1) := by decide +kernel
theorem dX0_leaveRoute_6 : decode cX0_leaveRoute 6 = .ok (.iastore, 1) := by decide +kernel
theorem dX0_leaveRoute_7 : decode cX0_leaveRoute 7 = .ok (.aload_n 0, 1) := by decide +kernel
theorem dX0_leaveRoute_8 : decode cX0_leaveRoute 8 = .ok (.getfield 29, 3) := by decide +kernel
theorem dX0_leaveRoute_11 : decode cX0_leaveRoute 11 = .ok (.iload_n 1, 1) := by decide +kernel
theorem dX0_leaveRoute_12 : decode cX0_leaveRoute 12 = .ok (.iconst (-1), 1) := by decide +kernel
theorem dX0_leaveRoute_13 : decode cX0_leaveRoute 13 = .ok (.iastore, 1) := by decide +kernel
theorem dX0_leaveRoute_14 : decode cX0_leaveRoute 14 = .ok (.return_, 1) := by decide +kernel
set_option maxRecDepth 20000 in
theorem ggX0_endProcessing_X0_isStep : GoodIn wsX0_endProcessing wsX0_isStep := goodIn_r _ [7, 8, 13, 14, 15, 16, 17, 18, 19, 20, 21, 22, 23, 24, 25, 26, 27, 28, 29, 30] (by decide +kernel) (by decide +kernel)
set_option maxRecDepth 20000 in
theorem gX0_endProcessing_X0_isStep : GoodIn wsX0_endProcessing (wsV RX0 106 RX0 yX0_isStep wsX0_isStep) := goodIn_app (goodIn_of _ (by decide +kernel)) ggX0_endProcessing_X0_isStep
set_option maxRecDepth 20000 in
theorem ggX0_endProcessing_X0_leaveRoute : GoodIn wsX0_endProcessing wsX0_leaveRoute := goodIn_r _ [12, 2, 1, 13, 14, 15, 16, 17, 18, 19, 20, 21, 22, 23, 24, 25, 26, 27, 28, 29, 30] (by decide +kernel) (by decide +kernel)
set_option maxRecDepth 20000 in
theorem gX0_endProcessing_X0_leaveRoute : GoodIn wsX0_endProcessing (wsV RX0 138 RX0 yX0_leaveRoute wsX0_leaveRoute) := goodIn_app (goodIn_of _ (by decide +kernel)) ggX0_endProcessing_X0_leaveRoute
theorem dX0_endProcessing_0 : decode cX0_endProcessing 0 = .ok (.aload_n 0, 1) := by decide +kernel
theorem dX0_endProcessing_1 : decode cX0_endProcessing 1 = .ok (.getfield 29, 3) := by decide +kernel
theorem dX0_endProcessing_4 : decode cX0_endProcessing 4 = .ok (.iload_n 1, 1) := by decide +kernel
theorem dX0_endProcessing_5 : decode cX0_endProcessing 5 = .ok (.iaload, 1) := by decide +kernel
theorem dX0_endProcessing_6 : decode cX0_endProcessing 6 = .ok (.iconst 1, 1) := by decide +kernel
theorem dX0_endProcessing_7 : decode cX0_endProcessing 7 = .ok (.iadd, 1) := by decide +kernel
theorem dX0_endProcessing_8 : decode cX0_endProcessing 8 = .ok (.istore_n 2, 1) := by decide +kernel
theorem dX0_endProcessing_9 : decode cX0_endProcessing 9 = .ok (.aload_n 0, 1) := by decide +kernel
theorem dX0_endProcessing_10 : decode cX0_endProcessing 10 = .ok (.iload_n 2, 1) := by decide +kernel
theorem dX0_endProcessing_11 : decode cX0_endProcessing 11 = .ok (.invokevirtual 106, 3) := by decide +kernel
theorem dX0_endProcessing_14 : decode cX0_endProcessing 14 = .ok (.ifCond .eq 20, 3) := by decide +kernel
theorem dX0_endProcessing_17 : decode cX0_endProcessing 17 = .ok (.aload_n 0, 1) := by decide +kernel
theorem dX0_endProcessing_18 : decode cX0_endProcessing 18 = .ok (.getfield 26, 3) := by decide +kernel
theorem dX0_endProcessing_21 : decode cX0_endProcessing 21 = .ok (.iload_n 1, 1) := by decide +kernel
theorem dX0_endProcessing_22 : decode cX0_endProcessing 22 = .ok (.iconst 0, 1) := by decide +kernel
theorem dX0_endProcessing_23 : decode cX0_endProcessing 23 = .ok (.iastore, 1) := by decide +kernel
theorem dX0_endProcessing_24 : decode cX0_endProcessing 24 = .ok (.aload_n 0, 1) := by decide +kernel
theorem dX0_endProcessing_25 : decode cX0_endProcessing 25 = .ok (.getfield 29, 3) := by decide +kernel
theorem dX0_endProcessing_28 : decode cX0_endProcessing 28 = .ok (.iload_n 1, 1) := by decide +kernel
theorem dX0_endProcessing_29 : decode cX0_endProcessing 29 = .ok (.iload_n 2, 1) := by decide +kernel
theorem dX0_endProcessing_30 : decode cX0_endProcessing 30 = .ok (.iastore, 1) := by decide +kernel
theorem dX0_endProcessing_31 : decode cX0_endProcessing 31 = .ok (.goto 9, 3) := by decide +kernel
theorem dX0_endProcessing_34 : decode cX0_endProcessing 34 = .ok (.aload_n 0, 1) := by decide +kernel
theorem dX0_endProcessing_35 : decode cX0_endProcessing 35 = .ok (.iload_n 1, 1) := by decide +kernel
theorem dX0_endProcessing_36 : decode cX0_endProcessing 36 = .ok (.iconst 2, 1) := by decide +kernel
theorem dX0_endProcessing_37 : decode cX0_endProcessing 37 = .ok (.invokevirtual 138, 3) := by decide +kernel
theorem dX0_endProcessing_40 : decode cX0_endProcessing 40 = .ok (.return_, 1) := by decide +kernel
theorem dJ9_max_7cf53_0 : decode cJ9_max_7cf53 0 = .ok (.iload_n 0, 1) := by decide +kernel
theorem dJ9_max_7cf53_1 : decode cJ9_max_7cf53 1 = .ok (.iload_n 1, 1) := by decide +kernel
theorem dJ9_max_7cf53_2 : decode cJ9_max_7cf53 2 = .ok (.if_icmp .lt 7, 3) := by decide +kernel
theorem dJ9_max_7cf53_5 : decode cJ9_max_7cf53 5 = .ok (.iload_n 0, 1) := by decide +kernel
theorem dJ9_max_7cf53_6 : decode cJ9_max_7cf53 6 = .ok (.goto 4, 3) := by decide +kernel
theorem dJ9_max_7cf53_9 : decode cJ9_max_7cf53 9 = .ok (.iload_n 1, 1) := by decide +kernel
theorem dJ9_max_7cf53_10 : decode cJ9_max_7cf53 10 = .ok (.ireturn, 1) := by decide +kernel
theorem dJ9_min_7cf53_0 : decode cJ9_min_7cf53 0 = .ok (.iload_n 0, 1) := by decide +kernel
theorem dJ9_min_7cf53_1 : decode cJ9_min_7cf53 1 = .ok (.iload_n 1, 1) := by decide +kernel
theorem dJ9_min_7cf53_2 : decode cJ9_min_7cf53 2 = .ok (.if_icmp .gt 7, 3) := by decide +kernel
theorem dJ9_min_7cf53_5 : decode cJ9_min_7cf53 5 = .ok (.iload_n 0, 1) := by decide +kernel
theorem dJ9_min_7cf53_6 : decode cJ9_min_7cf53 6 = .ok (.goto 4, 3) := by decide +kernel
theorem dJ9_min_7cf53_9 : decode cJ9_min_7cf53 9 = .ok (.iload_n 1, 1) := by decide +kernel
theorem dJ9_min_7cf53_10 : decode cJ9_min_7cf53 10 = .ok (.ireturn, 1) := by decide +kernel
end
section
theorem dX1_init_0 : decode cX1_init 0 = .ok (.aload_n 0, 1) := by decide +kernel
theorem dX1_init_1 : decode cX1_init 1 = .ok (.invokespecial 1, 3) := by decide +kernel
theorem dX1_init_4 : decode cX1_init 4 = .ok (.aload_n 0, 1) := by decide +kernel
theorem dX1_init_5 : decode cX1_init 5 = .ok (.bipush 12, 2) := by decide +kernel
theorem dX1_init_7 : decode cX1_init 7 = .ok (.newarray .int, 2) := by decide +kernel
theorem dX1_init_9 : decode cX1_init 9 = .ok (.putfield 7, 3) := by decide +kernel
theorem dX1_init_12 : decode cX1_init 12 = .ok (.aload_n 0, 1) := by decide +kernel
theorem dX1_init_13 : decode cX1_init 13 = .ok (.bipush 12, 2) := by decide +kernel
theorem dX1_init_15 : decode cX1_init 15 = .ok (.newarray .int, 2) := by decide +kernel
theorem dX1_init_17 : decode cX1_init 17 = .ok (.putfield 13, 3) := by decide +kernel
theorem dX1_init_20 : decode cX1_init 20 = .ok (.aload_n 0, 1) := by decide +kernel
theorem dX1_init_21 : decode cX1_init 21 = .ok (.bipush 12, 2) := by decide +kernel
theorem dX1_init_23 : decode cX1_init 23 = .ok (.newarray .int, 2) := by decide +kernel
theorem dX1_init_25 : decode cX1_init 25 = .ok (.putfield 16, 3) := by decide +kernel
theorem dX1_init_28 : decode cX1_init 28 = .ok (.aload_n 0, 1) := by decide +kernel
theorem dX1_init_29 : decode cX1_init 29 = .ok (.bipush 12, 2) := by decide +kernel
theorem dX1_init_31 : decode cX1_init 31 = .ok (.newarray .int, 2) := by decide +kernel
theorem dX1_init_33 : decode cX1_init 33 = .ok (.putfield 19, 3) := by decide +kernel
theorem dX1_init_36 : decode cX1_init 36 = .ok (.aload_n 0, 1) := by decide +kernel
theorem dX1_init_37 : decode cX1_init 37 = .ok (.bipush 24, 2) := by decide +kernel
theorem dX1_init_39 : decode cX1_init 39 = .ok (.newarray .int, 2) := by decide +kernel
theorem dX1_init_41 : decode cX1_init 41 = .ok (.putfield 22, 3) := by decide +kernel
theorem dX1_init_44 : decode cX1_init 44 = .ok (.aload_n 0, 1) := by decide +kernel
theorem dX1_init_45 : decode cX1_init 45 = .ok (.bipush 24, 2) := by decide +kernel
theorem dX1_init_47 : decode cX1_init 47 = .ok (.newarray .int, 2) := by decide +kernel
theorem dX1_init_49 : decode cX1_init 49 = .ok (.putfield 25, 3) := by decide +kernel
theorem dX1_init_52 : decode cX1_init 52 = .ok (.aload_n 0, 1) := by decide +kernel
theorem dX1_init_53 : decode cX1_init 53 = .ok (.bipush 24, 2) := by decide +kernel
theorem dX1_init_55 : decode cX1_init 55 = .ok (.newarray .int, 2) := by decide +kernel
theorem dX1_init_57 : decode cX1_init 57 = .ok (.putfield 28, 3) := by decide +kernel
theorem dX1_init_60 : decode cX1_init 60 = .ok (.aload_n 0, 1) := by decide +kernel
theorem dX1_init_61 : decode cX1_init 61 = .ok (.bipush 24, 2) := by decide +kernel
theorem dX1_init_63 : decode cX1_init 63 = .ok (.newarray .int, 2) := by decide +kernel
theorem dX1_init_65 : decode cX1_init 65 = .ok (.putfield 31, 3) := by decide +kernel
theorem dX1_init_68 : decode cX1_init 68 = .ok (.aload_n 0, 1) := by decide +kernel
theorem dX1_init_69 : decode cX1_init 69 = .ok (.bipush 24, 2) := by decide +kernel
theorem dX1_init_71 : decode cX1_init 71 = .ok (.newarray .boolean, 2) := by decide +kernel
theorem dX1_init_73 : decode cX1_init 73 = .ok (.putfield 34, 3) := by decide +kernel
theorem dX1_init_76 : decode cX1_init 76 = .ok (.aload_n 0, 1) := by decide +kernel
theorem dX1_init_77 : decode cX1_init 77 = .ok (.bipush 24, 2) := by decide +kernel
theorem dX1_init_79 : decode cX1_init 79 = .ok (.newarray .int, 2) := by decide +kernel
theorem dX1_init_81 : decode cX1_init 81 = .ok (.putfield 38, 3) := by decide +kernel
theorem dX1_init_84 : decode cX1_init 84 = .ok (.aload_n 0, 1) := by decide +kernel
theorem dX1_init_85 : decode cX1_init 85 = .ok (.bipush 24, 2) := by decide +kernel
theorem dX1_init_87 : decode cX1_init 87 = .ok (.newarray .int, 2) := by decide +kernel
theorem dX1_init_89 : decode cX1_init 89 = .ok (.putfield 41, 3) := by decide +kernel
theorem dX1_init_92 : decode cX1_init 92 = .ok (.aload_n 0, 1) := by decide +kernel
theorem dX1_init_93 : decode cX1_init 93 = .ok (.bipush 60, 2) := by decide +kernel
theorem dX1_init_95 : decode cX1_init 95 = .ok (.newarray .int, 2) := by decide +kernel
theorem dX1_init_97 : decode cX1_init 97 = .ok (.putfield 44, 3) := by decide +kernel
theorem dX1_init_100 : decode cX1_init 100 = .ok (.aload_n 0, 1) := by decide +kernel
theorem dX1_init_101 : decode cX1_init 101 = .ok (.bipush 60, 2) := by decide +kernel
theorem dX1_init_103 : decode cX1_init 103 = .ok (.newarray .int, 2) := by decide +kernel
theorem dX1_init_105 : decode cX1_init 105 = .ok (.putfield 47, 3) := by decide +kernel
theorem dX1_init_108 : decode cX1_init 108 = .ok (.aload_n 0, 1) := by decide +kernel
theorem dX1_init_109 : decode cX1_init 109 = .ok (.sipush 2880, 3) := by decide +kernel
theorem dX1_init_112 : decode cX1_init 112 = .ok (.newarray .int, 2) := by decide +kernel
theorem dX1_init_114 : decode cX1_init 114 = .ok (.putfield 50, 3) := by decide +kernel
theorem dX1_init_117 : decode cX1_init 117 = .ok (.aload_n 0, 1) := by decide +kernel
theorem dX1_init_118 : decode cX1_init 118 = .ok (.bipush 24, 2) := by decide +kernel
theorem dX1_init_120 : decode cX1_init 120 = .ok (.newarray .boolean, 2) := by decide +kernel
theorem dX1_init_122 : decode cX1_init 122 = .ok (.putfield 53, 3) := by decide +kernel
theorem dX1_init_125 : decode cX1_init 125 = .ok (.aload_n 0, 1) := by decide +kernel
theorem dX1_init_126 : decode cX1_init 126 = .ok (.iconst 0, 1) := by decide +kernel
theorem dX1_init_127 : decode cX1_init 127 = .ok (.putfield 56, 3) := by decide +kernel
theorem dX1_init_130 : decode cX1_init 130 = .ok (.return_, 1) := by decide +kernel
theorem dX1_thrown_0 : decode cX1_thrown 0 = .ok (.aload_n 0, 1) := by decide +kernel
theorem dX1_thrown_1 : decode cX1_thrown 1 = .ok (.getfield 56, 3) := by decide +kernel
theorem dX1_thrown_4 : decode cX1_thrown 4 = .ok (.ireturn, 1) := by decide +kernel
theorem dX1_fails_0 : decode cX1_fails 0 = .ok (.aload_n 0, 1) := by decide +kernel
theorem dX1_fails_1 : decode cX1_fails 1 = .ok (.iload_n 1, 1) := by decide +kernel
theorem dX1_fails_2 : decode cX1_fails 2 = .ok (.putfield 56, 3) := by decide +kernel
theorem dX1_fails_5 : decode cX1_fails 5 = .ok (.iconst 0, 1) := by decide +kernel
theorem dX1_fails_6 : decode cX1_fails 6 = .ok (.ireturn, 1) := by decide +kernel
theorem dX1_in_0 : decode cX1_in 0 = .ok (.iload_n 0, 1) := by decide +kernel
theorem dX1_in_1 : decode cX1_in 1 = .ok (.iload_n 1, 1) := by decide +kernel
theorem dX1_in_2 : decode cX1_in 2 = .ok (.if_icmp .lt 12, 3) := by decide +kernel
theorem dX1_in_5 : decode cX1_in 5 = .ok (.iload_n 0, 1) := by decide +kernel
theorem dX1_in_6 : decode cX1_in 6 = .ok (.iload_n 2, 1) := by decide +kernel
theorem dX1_in_7 : decode cX1_in 7 = .ok (.if_icmp .gt 7, 3) := by decide +kernel
theorem dX1_in_10 : decode cX1_in 10 = .ok (.iconst 1, 1) := by decide +kernel
theorem dX1_in_11 : decode cX1_in 11 = .ok (.goto 4, 3) := by decide +kernel
theorem dX1_in_14 : decode cX1_in 14 = .ok (.iconst 0, 1) := by decide +kernel
theorem dX1_in_15 : decode cX1_in 15 = .ok (.ireturn, 1) := by decide +kernel
set_option maxRecDepth 20000 in
theorem ggX1_isTool_X1_in : GoodIn wsX1_isTool wsX1_in := goodIn_r _ [4] (by decide +kernel) (by decide +kernel)
set_option maxRecDepth 20000 in
theorem gX1_isTool_X1_in : GoodIn wsX1_isTool (va_wsS RX1 60 yX1_in wsX1_in) := goodIn_app (goodIn_of _ (by decide +kernel)) ggX1_isTool_X1_in
theorem dX1_isTool_0 : decode cX1_isTool 0 = .ok (.iload_n 0, 1) := by decide +kernel
theorem dX1_isTool_1 : decode cX1_isTool 1 = .ok (.iconst 0, 1) := by decide +kernel
theorem dX1_isTool_2 : decode cX1_isTool 2 = .ok (.iconst 5, 1) := by decide +kernel
theorem dX1_isTool_3 : decode cX1_isTool 3 = .ok (.invokestatic 60, 3) := by decide +kernel
theorem dX1_isTool_6 : decode cX1_isTool 6 = .ok (.ireturn, 1) := by decide +kernel
set_option maxRecDepth 20000 in
theorem ggX1_isLot_X1_in : GoodIn wsX1_isLot wsX1_in := goodIn_r _ [5] (by decide +kernel) (by decide +kernel)
set_option maxRecDepth 20000 in
theorem gX1_isLot_X1_in : GoodIn wsX1_isLot (va_wsS RX1 60 yX1_in wsX1_in) := goodIn_app (goodIn_of _ (by decide +kernel)) ggX1_isLot_X1_in
theorem dX1_isLot_0 : decode cX1_isLot 0 = .ok (.iload_n 1, 1) := by decide +kernel
theorem dX1_isLot_1 : decode cX1_isLot 1 = .ok (.iconst 0, 1) := by decide +kernel
theorem dX1_isLot_2 : decode cX1_isLot 2 = .ok (.aload_n 0, 1) := by decide +kernel
theorem dX1_isLot_3 : decode cX1_isLot 3 = .ok (.getfield 64, 3) := by decide +kernel
theorem dX1_isLot_6 : decode cX1_isLot 6 = .ok (.iconst 1, 1) := by decide +kernel
theorem dX1_isLot_7 : decode cX1_isLot 7 = .ok (.isub, 1) := by decide +kernel
theorem dX1_isLot_8 : decode cX1_isLot 8 = .ok (.invokestatic 60, 3) := by decide +kernel
theorem dX1_isLot_11 : decode cX1_isLot 11 = .ok (.ireturn, 1) := by decide +kernel
set_option maxRecDepth 20000 in
theorem ggX1_isWafer_X1_in : GoodIn wsX1_isWafer wsX1_in := goodIn_r _ [5] (by decide +kernel) (by decide +kernel)
set_option maxRecDepth 20000 in
theorem gX1_isWafer_X1_in : GoodIn wsX1_isWafer (va_wsS RX1 60 yX1_in wsX1_in) := goodIn_app (goodIn_of _ (by decide +kernel)) ggX1_isWafer_X1_in
theorem dX1_isWafer_0 : decode cX1_isWafer 0 = .ok (.iload_n 1, 1) := by decide +kernel
theorem dX1_isWafer_1 : decode cX1_isWafer 1 = .ok (.iconst 0, 1) := by decide +kernel
theorem dX1_isWafer_2 : decode cX1_isWafer 2 = .ok (.aload_n 0, 1) := by decide +kernel
theorem dX1_isWafer_3 : decode cX1_isWafer 3 = .ok (.getfield 67, 3) := by decide +kernel
theorem dX1_isWafer_6 : decode cX1_isWafer 6 = .ok (.iconst 1, 1) := by decide +kernel
theorem dX1_isWafer_7 : decode cX1_isWafer 7 = .ok (.isub, 1) := by decide +kernel
theorem dX1_isWafer_8 : decode cX1_isWafer 8 = .ok (.invokestatic 60, 3) := by decide +kernel
theorem dX1_isWafer_11 : decode cX1_isWafer 11 = .ok (.ireturn, 1) := by decide +kernel
set_option maxRecDepth 20000 in
theorem ggX1_addStep_X1_in : GoodIn wsX1_addStep wsX1_in := goodIn_r _ [11] (by decide +kernel) (by decide +kernel)
set_option maxRecDepth 20000 in
theorem gX1_addStep_X1_in : GoodIn wsX1_addStep (va_wsS RX1 60 yX1_in wsX1_in) := goodIn_app (goodIn_of _ (by decide +kernel)) ggX1_addStep_X1_in
set_option maxRecDepth 20000 in
theorem ggX1_addStep_X1_isTool : GoodIn wsX1_addStep wsX1_isTool := goodIn_r _ [14, 8, 9, 10, 11] (by decide +kernel) (by decide +kernel)
set_option maxRecDepth 20000 in
theorem gX1_addStep_X1_isTool : GoodIn wsX1_addStep (va_wsS RX1 73 yX1_isTool wsX1_isTool) := goodIn_app (goodIn_of _ (by decide +kernel)) ggX1_addStep_X1_isTool
theorem dX1_addStep_0 : decode cX1_addStep 0 = .ok (.iload_n 2, 1) := by decide +kernel
theorem dX1_addStep_1 : decode cX1_addStep 1 = .ok (.iconst 1, 1) := by decide +kernel
theorem dX1_addStep_2 : decode cX1_addStep 2 = .ok (.sipush 1000, 3) := by decide +kernel
theorem dX1_addStep_5 : decode cX1_addStep 5 = .ok (.invokestatic 60, 3) := by decide +kernel
theorem dX1_addStep_8 : decode cX1_addStep 8 = .ok (.ifCond .eq 31, 3) := by decide +kernel
theorem dX1_addStep_11 : decode cX1_addStep 11 = .ok (.iload_n 3, 1) := by decide +kernel
theorem dX1_addStep_12 : decode cX1_addStep 12 = .ok (.iconst 0, 1) := by decide +kernel
theorem dX1_addStep_13 : decode cX1_addStep 13 = .ok (.sipush 10000, 3) := by decide +kernel
theorem dX1_addStep_16 : decode cX1_addStep 16 = .ok (.invokestatic 60, 3) := by decide +kernel
theorem dX1_addStep_19 : decode cX1_addStep 19 = .ok (.ifCond .eq 20, 3) := by decide +kernel
theorem dX1_addStep_22 : decode cX1_addStep 22 = .ok (.iload 4, 2) := by decide +kernel
theorem dX1_addStep_24 : decode cX1_addStep 24 = .ok (.iconst 0, 1) := by decide +kernel
theorem dX1_addStep_25 : decode cX1_addStep 25 = .ok (.aload_n 0, 1) := by decide +kernel
theorem dX1_addStep_26 : decode cX1_addStep 26 = .ok (.getfield 70, 3) := by decide +kernel
theorem dX1_addStep_29 : decode cX1_addStep 29 = .ok (.invokestatic 60, 3) := by decide +kernel
theorem dX1_addStep_32 : decode cX1_addStep 32 = .ok (.ifCond .eq 7, 3) := by decide +kernel
theorem dX1_addStep_35 : decode cX1_addStep 35 = .ok (.iconst 1, 1) := by decide +kernel
theorem dX1_addStep_36 : decode cX1_addStep 36 = .ok (.goto 4, 3) := by decide +kernel
theorem dX1_addStep_39 : decode cX1_addStep 39 = .ok (.iconst 0, 1) := by decide +kernel
theorem dX1_addStep_40 : decode cX1_addStep 40 = .ok (.istore 5, 2) := by decide +kernel
theorem dX1_addStep_42 : decode cX1_addStep 42 = .ok (.aload_n 0, 1) := by decide +kernel
theorem dX1_addStep_43 : decode cX1_addStep 43 = .ok (.iload_n 1, 1) := by decide +kernel
theorem dX1_addStep_44 : decode cX1_addStep 44 = .ok (.invokestatic 73, 3) := by decide +kernel
theorem dX1_addStep_47 : decode cX1_addStep 47 = .ok (.ifCond .ne 7, 3) := by decide +kernel
theorem dX1_addStep_50 : decode cX1_addStep 50 = .ok (.iconst 1, 1) := by decide +kernel
theorem dX1_addStep_51 : decode cX1_addStep 51 = .ok (.goto 33, 3) := by decide +kernel
theorem dX1_addStep_54 : decode cX1_addStep 54 = .ok (.iload 5, 2) := by decide +kernel
theorem dX1_addStep_56 : decode cX1_addStep 56 = .ok (.ifCond .ne 7, 3) := by decide +kernel
theorem dX1_addStep_59 : decode cX1_addStep 59 = .ok (.iconst 2, 1) := by decide +kernel
theorem dX1_addStep_60 : decode cX1_addStep 60 = .ok (.goto 24, 3) := by decide +kernel
theorem dX1_addStep_63 : decode cX1_addStep 63 = .ok (.aload_n 0, 1) := by decide +kernel
theorem dX1_addStep_64 : decode cX1_addStep 64 = .ok (.getfield 70, 3) := by decide +kernel
theorem dX1_addStep_67 : decode cX1_addStep 67 = .ok (.bipush 12, 2) := by decide +kernel
theorem dX1_addStep_69 : decode cX1_addStep 69 = .ok (.if_icmp .eq 10, 3) := by decide +kernel
theorem dX1_addStep_72 : decode cX1_addStep 72 = .ok (.aload_n 0, 1) := by decide +kernel
theorem dX1_addStep_73 : decode cX1_addStep 73 = .ok (.getfield 64, 3) := by decide +kernel
theorem dX1_addStep_76 : decode cX1_addStep 76 = .ok (.ifCond .le 7, 3) := by decide +kernel
theorem dX1_addStep_79 : decode cX1_addStep 79 = .ok (.iconst 3, 1) := by decide +kernel
theorem dX1_addStep_80 : decode cX1_addStep 80 = .ok (.goto 4, 3) := by decide +kernel
theorem dX1_addStep_83 : decode cX1_addStep 83 = .ok (.iconst 0, 1) := by decide +kernel
theorem dX1_addStep_84 : decode cX1_addStep 84 = .ok (.putfield 56, 3) := by decide +kernel
theorem dX1_addStep_87 : decode cX1_addStep 87 = .ok (.aload_n 0, 1) := by decide +kernel
theorem dX1_addStep_88 : decode cX1_addStep 88 = .ok (.getfield 56, 3) := by decide +kernel
theorem dX1_addStep_91 : decode cX1_addStep 91 = .ok (.ifCond .le 5, 3) := by decide +kernel
theorem dX1_addStep_94 : decode cX1_addStep 94 = .ok (.iconst 0, 1) := by decide +kernel
theorem dX1_addStep_95 : decode cX1_addStep 95 = .ok (.ireturn, 1) := by decide +kernel
theorem dX1_addStep_96 : decode cX1_addStep 96 = .ok (.aload_n 0, 1) := by decide +kernel
theorem dX1_addStep_97 : decode cX1_addStep 97 = .ok (.getfield 7, 3) := by decide +kernel
theorem dX1_addStep_100 : decode cX1_addStep 100 = .ok (.aload_n 0, 1) := by decide +kernel
theorem dX1_addStep_101 : decode cX1_addStep 101 = .ok (.getfield 70, 3) := by decide +kernel
theorem dX1_addStep_104 : decode cX1_addStep 104 = .ok (.iload_n 1, 1) := by decide +kernel
theorem dX1_addStep_105 : decode cX1_addStep 105 = .ok (.iastore, 1) := by decide +kernel
theorem dX1_addStep_106 : decode cX1_addStep 106 = .ok (.aload_n 0, 1) := by decide +kernel
theorem dX1_addStep_107 : decode cX1_addStep 107 = .ok (.getfield 13, 3) := by decide +kernel
theorem dX1_addStep_110 : decode cX1_addStep 110 = .ok (.aload_n 0, 1) := by decide +kernel
theorem dX1_addStep_111 : decode cX1_addStep 111 = .ok (.getfield 70, 3) := by decide +kernel
theorem dX1_addStep_114 : decode cX1_addStep 114 = .ok (.iload_n 2, 1) := by decide +kernel
theorem dX1_addStep_115 : decode cX1_addStep 115 = .ok (.iastore, 1) := by decide +kernel
theorem dX1_addStep_116 : decode cX1_addStep 116 = .ok (.aload_n 0, 1) := by decide +kernel
theorem dX1_addStep_117 : decode cX1_addStep 117 = .ok (.getfield 16, 3) := by decide +kernel
theorem dX1_addStep_120 : decode cX1_addStep 120 = .ok (.aload_n 0, 1) := by decide +kernel
theorem dX1_addStep_121 : decode cX1_addStep 121 = .ok (.getfield 70, 3) := by decide +kernel
theorem dX1_addStep_124 : decode cX1_addStep 124 = .ok (.iload_n 3, 1) := by decide +kernel
theorem dX1_addStep_125 : decode cX1_addStep 125 = .ok (.iastore, 1) := by decide +kernel
theorem dX1_addStep_126 : decode cX1_addStep 126 = .ok (.aload_n 0, 1) := by decide +kernel
theorem dX1_addStep_127 : decode cX1_addStep 127 = .ok (.getfield 19, 3) := by decide +kernel
theorem dX1_addStep_130 : decode cX1_addStep 130 = .ok (.aload_n 0, 1) := by decide +kernel
theorem dX1_addStep_131 : decode cX1_addStep 131 = .ok (.getfield 70, 3) := by decide +kernel
theorem dX1_addStep_134 : decode cX1_addStep 134 = .ok (.iload 4, 2) := by decide +kernel
theorem dX1_addStep_136 : decode cX1_addStep 136 = .ok (.iastore, 1) := by decide +kernel
theorem dX1_addStep_137 : decode cX1_addStep 137 = .ok (.aload_n 0, 1) := by decide +kernel
theorem dX1_addStep_138 : decode cX1_addStep 138 = .ok (.dup, 1) := by decide +kernel
theorem dX1_addStep_139 : decode cX1_addStep 139 = .ok (.getfield 70, 3) := by decide +kernel
theorem dX1_addStep_142 : decode cX1_addStep 142 = .ok (.iconst 1, 1) := by decide +kernel
theorem dX1_addStep_143 : decode cX1_addStep 143 = .ok (.iadd, 1) := by decide +kernel
theorem dX1_addStep_144 : decode cX1_addStep 144 = .ok (.putfield 70, 3) := by decide +kernel
theorem dX1_addStep_147 : decode cX1_addStep 147 = .ok (.aload_n 0, 1) := by decide +kernel
theorem dX1_addStep_148 : decode cX1_addStep 148 = .ok (.getfield 70, 3) := by decide +kernel
theorem dX1_addStep_151 : decode cX1_addStep 151 = .ok (.iconst 1, 1) := by decide +kernel
theorem dX1_addStep_152 : decode cX1_addStep 152 = .ok (.isub, 1) := by decide +kernel
theorem dX1_addStep_153 : decode cX1_addStep 153 = .ok (.ireturn, 1) := by decide +kernel
theorem dX1_puts_0 : decode cX1_puts 0 = .ok (.aload_n 0, 1) := by decide +kernel
theorem dX1_puts_1 : decode cX1_puts 1 = .ok (.getfield 44, 3) := by decide +kernel
theorem dX1_puts_4 : decode cX1_puts 4 = .ok (.iload_n 1, 1) := by decide +kernel
theorem dX1_puts_5 : decode cX1_puts 5 = .ok (.iload_n 2, 1) := by decide +kernel
theorem dX1_puts_6 : decode cX1_puts 6 = .ok (.iastore, 1) := by decide +kernel
theorem dX1_puts_7 : decode cX1_puts 7 = .ok (.aload_n 0, 1) := by decide +kernel
theorem dX1_puts_8 : decode cX1_puts 8 = .ok (.getfield 50, 3) := by decide +kernel
theorem dX1_puts_11 : decode cX1_puts 11 = .ok (.bipush 48, 2) := by decide +kernel
theorem dX1_puts_13 : decode cX1_puts 13 = .ok (.iload_n 1, 1) := by decide +kernel
theorem dX1_puts_14 : decode cX1_puts 14 = .ok (.imul, 1) := by decide +kernel
theorem dX1_puts_15 : decode cX1_puts 15 = .ok (.aload_n 0, 1) := by decide +kernel
theorem dX1_puts_16 : decode cX1_puts 16 = .ok (.getfield 47, 3) := by decide +kernel
theorem dX1_puts_19 : decode cX1_puts 19 = .ok (.iload_n 1, 1) := by decide +kernel
theorem dX1_puts_20 : decode cX1_puts 20 = .ok (.iaload, 1) := by decide +kernel
theorem dX1_puts_21 : decode cX1_puts 21 = .ok (.iadd, 1) := by decide +kernel
theorem dX1_puts_22 : decode cX1_puts 22 = .ok (.iload_n 2, 1) := by decide +kernel
theorem dX1_puts_23 : decode cX1_puts 23 = .ok (.iastore, 1) := by decide +kernel
theorem dX1_puts_24 : decode cX1_puts 24 = .ok (.aload_n 0, 1) := by decide +kernel
theorem dX1_puts_25 : decode cX1_puts 25 = .ok (.getfield 47, 3) := by decide +kernel
theorem dX1_puts_28 : decode cX1_puts 28 = .ok (.iload_n 1, 1) := by decide +kernel
theorem dX1_puts_29 : decode cX1_puts 29 = .ok (.dup2, 1) := by decide +kernel
theorem dX1_puts_30 : decode cX1_puts 30 = .ok (.iaload, 1) := by decide +kernel
theorem dX1_puts_31 : decode cX1_puts 31 = .ok (.iconst 1, 1) := by decide +kernel
theorem dX1_puts_32 : decode cX1_puts 32 = .ok (.iadd, 1) := by decide +kernel
theorem dX1_puts_33 : decode cX1_puts 33 = .ok (.iastore, 1) := by decide +kernel
theorem dX1_puts_34 : decode cX1_puts 34 = .ok (.return_, 1) := by decide +kernel
theorem dX1_count_0 : decode cX1_count 0 = .ok (.iconst 0, 1) := by decide +kernel
theorem dX1_count_1 : decode cX1_count 1 = .ok (.istore_n 2, 1) := by decide +kernel
theorem dX1_count_2 : decode cX1_count 2 = .ok (.iconst 0, 1) := by decide +kernel
theorem dX1_count_3 : decode cX1_count 3 = .ok (.istore_n 3, 1) := by decide +kernel
theorem dX1_count_4 : decode cX1_count 4 = .ok (.iload_n 3, 1) := by decide +kernel
theorem dX1_count_5 : decode cX1_count 5 = .ok (.aload_n 0, 1) := by decide +kernel
theorem dX1_count_6 : decode cX1_count 6 = .ok (.getfield 67, 3) := by decide +kernel
theorem dX1_count_9 : decode cX1_count 9 = .ok (.if_icmp .ge 27, 3) := by decide +kernel
theorem dX1_count_12 : decode cX1_count 12 = .ok (.iload_n 2, 1) := by decide +kernel
theorem dX1_count_13 : decode cX1_count 13 = .ok (.aload_n 0, 1) := by decide +kernel
theorem dX1_count_14 : decode cX1_count 14 = .ok (.getfield 44, 3) := by decide +kernel
theorem dX1_count_17 : decode cX1_count 17 = .ok (.iload_n 3, 1) := by decide +kernel
theorem dX1_count_18 : decode cX1_count 18 = .ok (.iaload, 1) := by decide +kernel
theorem dX1_count_19 : decode cX1_count 19 = .ok (.iload_n 1, 1) := by decide +kernel
theorem dX1_count_20 : decode cX1_count 20 = .ok (.if_icmp .ne 7, 3) := by decide +kernel
theorem dX1_count_23 : decode cX1_count 23 = .ok (.iconst 1, 1) := by decide +kernel
theorem dX1_count_24 : decode cX1_count 24 = .ok (.goto 4, 3) := by decide +kernel
theorem dX1_count_27 : decode cX1_count 27 = .ok (.iconst 0, 1) := by decide +kernel
theorem dX1_count_28 : decode cX1_count 28 = .ok (.iadd, 1) := by decide +kernel
theorem dX1_count_29 : decode cX1_count 29 = .ok (.istore_n 2, 1) := by decide +kernel
theorem dX1_count_30 : decode cX1_count 30 = .ok (.iinc 3 1, 3) := by decide +kernel
theorem dX1_count_33 : decode cX1_count 33 = .ok (.goto (-29), 3) := by decide +kernel
theorem dX1_count_36 : decode cX1_count 36 = .ok (.iload_n 2, 1) := by decide +kernel
theorem dX1_count_37 : decode cX1_count 37 = .ok (.ireturn, 1) := by decide +kernel
set_option maxRecDepth 20000 in
theorem ggX1_enter_X1_in : GoodIn wsX1_enter wsX1_in := goodIn_r _ [11] (by decide +kernel) (by decide +kernel)
set_option maxRecDepth 20000 in
theorem gX1_enter_X1_in : GoodIn wsX1_enter (va_wsS RX1 60 yX1_in wsX1_in) := goodIn_app (goodIn_of _ (by decide +kernel)) ggX1_enter_X1_in
set_option maxRecDepth 20000 in
theorem ggX1_enter_X1_puts : GoodIn wsX1_enter wsX1_puts := goodIn_r _ [15, 16, 17, 18, 19, 20, 21, 22, 23, 24, 25, 26, 27, 28, 29, 30, 31, 32, 33, 34, 35, 36, 37, 38] (by decide +kernel) (by decide +kernel)
set_option maxRecDepth 20000 in
theorem gX1_enter_X1_puts : GoodIn wsX1_enter (wsV RX1 80 RX1 yX1_puts wsX1_puts) := goodIn_app (goodIn_of _ (by decide +kernel)) ggX1_enter_X1_puts
theorem dX1_enter_0 : decode cX1_enter 0 = .ok (.aload_n 0, 1) := by decide +kernel
theorem dX1_enter_1 : decode cX1_enter 1 = .ok (.iload_n 1, 1) := by decide +kernel
theorem dX1_enter_2 : decode cX1_enter 2 = .ok (.iconst 1, 1) := by decide +kernel
theorem dX1_enter_3 : decode cX1_enter 3 = .ok (.bipush 12, 2) := by decide +kernel
theorem dX1_enter_5 : decode cX1_enter 5 = .ok (.invokestatic 60, 3) := by decide +kernel
theorem dX1_enter_8 : decode cX1_enter 8 = .ok (.ifCond .ne 7, 3) := by decide +kernel
theorem dX1_enter_11 : decode cX1_enter 11 = .ok (.iconst 1, 1) := by decide +kernel
theorem dX1_enter_12 : decode cX1_enter 12 = .ok (.goto 35, 3) := by decide +kernel
theorem dX1_enter_15 : decode cX1_enter 15 = .ok (.aload_n 0, 1) := by decide +kernel
theorem dX1_enter_16 : decode cX1_enter 16 = .ok (.getfield 70, 3) := by decide +kernel
theorem dX1_enter_19 : decode cX1_enter 19 = .ok (.ifCond .eq 23, 3) := by decide +kernel
theorem dX1_enter_22 : decode cX1_enter 22 = .ok (.aload_n 0, 1) := by decide +kernel
theorem dX1_enter_23 : decode cX1_enter 23 = .ok (.getfield 64, 3) := by decide +kernel
theorem dX1_enter_26 : decode cX1_enter 26 = .ok (.bipush 24, 2) := by decide +kernel
theorem dX1_enter_28 : decode cX1_enter 28 = .ok (.if_icmp .eq 14, 3) := by decide +kernel
theorem dX1_enter_31 : decode cX1_enter 31 = .ok (.aload_n 0, 1) := by decide +kernel
theorem dX1_enter_32 : decode cX1_enter 32 = .ok (.getfield 67, 3) := by decide +kernel
theorem dX1_enter_35 : decode cX1_enter 35 = .ok (.iload_n 1, 1) := by decide +kernel
theorem dX1_enter_36 : decode cX1_enter 36 = .ok (.iadd, 1) := by decide +kernel
theorem dX1_enter_37 : decode cX1_enter 37 = .ok (.bipush 60, 2) := by decide +kernel
theorem dX1_enter_39 : decode cX1_enter 39 = .ok (.if_icmp .le 7, 3) := by decide +kernel
theorem dX1_enter_42 : decode cX1_enter 42 = .ok (.iconst 2, 1) := by decide +kernel
theorem dX1_enter_43 : decode cX1_enter 43 = .ok (.goto 4, 3) := by decide +kernel
theorem dX1_enter_46 : decode cX1_enter 46 = .ok (.iconst 0, 1) := by decide +kernel
theorem dX1_enter_47 : decode cX1_enter 47 = .ok (.putfield 56, 3) := by decide +kernel
theorem dX1_enter_50 : decode cX1_enter 50 = .ok (.aload_n 0, 1) := by decide +kernel
theorem dX1_enter_51 : decode cX1_enter 51 = .ok (.getfield 56, 3) := by decide +kernel
theorem dX1_enter_54 : decode cX1_enter 54 = .ok (.ifCond .le 5, 3) := by decide +kernel
theorem dX1_enter_57 : decode cX1_enter 57 = .ok (.iconst 0, 1) := by decide +kernel
theorem dX1_enter_58 : decode cX1_enter 58 = .ok (.ireturn, 1) := by decide +kernel
theorem dX1_enter_59 : decode cX1_enter 59 = .ok (.aload_n 0, 1) := by decide +kernel
theorem dX1_enter_60 : decode cX1_enter 60 = .ok (.getfield 41, 3) := by decide +kernel
theorem dX1_enter_63 : decode cX1_enter 63 = .ok (.aload_n 0, 1) := by decide +kernel
theorem dX1_enter_64 : decode cX1_enter 64 = .ok (.getfield 64, 3) := by decide +kernel
theorem dX1_enter_67 : decode cX1_enter 67 = .ok (.iconst (-1), 1) := by decide +kernel
theorem dX1_enter_68 : decode cX1_enter 68 = .ok (.iastore, 1) := by decide +kernel
theorem dX1_enter_69 : decode cX1_enter 69 = .ok (.aload_n 0, 1) := by decide +kernel
theorem dX1_enter_70 : decode cX1_enter 70 = .ok (.getfield 28, 3) := by decide +kernel
theorem dX1_enter_73 : decode cX1_enter 73 = .ok (.aload_n 0, 1) := by decide +kernel
theorem dX1_enter_74 : decode cX1_enter 74 = .ok (.getfield 64, 3) := by decide +kernel
theorem dX1_enter_77 : decode cX1_enter 77 = .ok (.aload_n 0, 1) := by decide +kernel
theorem dX1_enter_78 : decode cX1_enter 78 = .ok (.getfield 77, 3) := by decide +kernel
theorem dX1_enter_81 : decode cX1_enter 81 = .ok (.iastore, 1) := by decide +kernel
theorem dX1_enter_82 : decode cX1_enter 82 = .ok (.iconst 0, 1) := by decide +kernel
theorem dX1_enter_83 : decode cX1_enter 83 = .ok (.istore_n 2, 1) := by decide +kernel
theorem dX1_enter_84 : decode cX1_enter 84 = .ok (.iload_n 2, 1) := by decide +kernel
theorem dX1_enter_85 : decode cX1_enter 85 = .ok (.iload_n 1, 1) := by decide +kernel
theorem dX1_enter_86 : decode cX1_enter 86 = .ok (.if_icmp .ge 31, 3) := by decide +kernel
theorem dX1_enter_89 : decode cX1_enter 89 = .ok (.aload_n 0, 1) := by decide +kernel
theorem dX1_enter_90 : decode cX1_enter 90 = .ok (.aload_n 0, 1) := by decide +kernel
theorem dX1_enter_91 : decode cX1_enter 91 = .ok (.getfield 67, 3) := by decide +kernel
theorem dX1_enter_94 : decode cX1_enter 94 = .ok (.aload_n 0, 1) := by decide +kernel
theorem dX1_enter_95 : decode cX1_enter 95 = .ok (.getfield 64, 3) := by decide +kernel
theorem dX1_enter_98 : decode cX1_enter 98 = .ok (.invokevirtual 80, 3) := by decide +kernel
theorem dX1_enter_101 : decode cX1_enter 101 = .ok (.aload_n 0, 1) := by decide +kernel
theorem dX1_enter_102 : decode cX1_enter 102 = .ok (.dup, 1) := by decide +kernel
theorem dX1_enter_103 : decode cX1_enter 103 = .ok (.getfield 67, 3) := by decide +kernel
theorem dX1_enter_106 : decode cX1_enter 106 = .ok (.iconst 1, 1) := by decide +kernel
theorem dX1_enter_107 : decode cX1_enter 107 = .ok (.iadd, 1) := by decide +kernel
theorem dX1_enter_108 : decode cX1_enter 108 = .ok (.putfield 67, 3) := by decide +kernel
theorem dX1_enter_111 : decode cX1_enter 111 = .ok (.iinc 2 1, 3) := by decide +kernel
theorem dX1_enter_114 : decode cX1_enter 114 = .ok (.goto (-30), 3) := by decide +kernel
theorem dX1_enter_117 : decode cX1_enter 117 = .ok (.aload_n 0, 1) := by decide +kernel
theorem dX1_enter_118 : decode cX1_enter 118 = .ok (.dup, 1) := by decide +kernel
theorem dX1_enter_119 : decode cX1_enter 119 = .ok (.getfield 64, 3) := by decide +kernel
theorem dX1_enter_122 : decode cX1_enter 122 = .ok (.iconst 1, 1) := by decide +kernel
theorem dX1_enter_123 : decode cX1_enter 123 = .ok (.iadd, 1) := by decide +kernel
theorem dX1_enter_124 : decode cX1_enter 124 = .ok (.putfield 64, 3) := by decide +kernel
theorem dX1_enter_127 : decode cX1_enter 127 = .ok (.aload_n 0, 1) := by decide +kernel
theorem dX1_enter_128 : decode cX1_enter 128 = .ok (.getfield 64, 3) := by decide +kernel
theorem dX1_enter_131 : decode cX1_enter 131 = .ok (.iconst 1, 1) := by decide +kernel
theorem dX1_enter_132 : decode cX1_enter 132 = .ok (.isub, 1) := by decide +kernel
theorem dX1_enter_133 : decode cX1_enter 133 = .ok (.ireturn, 1) := by decide +kernel
theorem dX1_waited_0 : decode cX1_waited 0 = .ok (.aload_n 0, 1) := by decide +kernel
theorem dX1_waited_1 : decode cX1_waited 1 = .ok (.getfield 77, 3) := by decide +kernel
theorem dX1_waited_4 : decode cX1_waited 4 = .ok (.aload_n 0, 1) := by decide +kernel
theorem dX1_waited_5 : decode cX1_waited 5 = .ok (.getfield 28, 3) := by decide +kernel
theorem dX1_waited_8 : decode cX1_waited 8 = .ok (.iload_n 1, 1) := by decide +kernel
theorem dX1_waited_9 : decode cX1_waited 9 = .ok (.iaload, 1) := by decide +kernel
theorem dX1_waited_10 : decode cX1_waited 10 = .ok (.isub, 1) := by decide +kernel
theorem dX1_waited_11 : decode cX1_waited 11 = .ok (.ireturn, 1) := by decide +kernel
set_option maxRecDepth 20000 in
theorem ggX1_tooLate_X1_waited : GoodIn wsX1_tooLate wsX1_waited := goodIn_r _ [8, 9, 10, 11, 12, 13, 14, 15, 16, 17, 18, 19, 20, 21, 22, 23, 24, 25, 26, 27, 28, 29, 30] (by decide +kernel) (by decide +kernel)
set_option maxRecDepth 20000 in
theorem gX1_tooLate_X1_waited : GoodIn wsX1_tooLate (wsV RX1 84 RX1 yX1_waited wsX1_waited) := goodIn_app (goodIn_of _ (by decide +kernel)) ggX1_tooLate_X1_waited
theorem dX1_tooLate_0 : decode cX1_tooLate 0 = .ok (.aload_n 0, 1) := by decide +kernel
theorem dX1_tooLate_1 : decode cX1_tooLate 1 = .ok (.getfield 22, 3) := by decide +kernel
theorem dX1_tooLate_4 : decode cX1_tooLate 4 = .ok (.iload_n 1, 1) := by decide +kernel
theorem dX1_tooLate_5 : decode cX1_tooLate 5 = .ok (.iaload, 1) := by decide +kernel
theorem dX1_tooLate_6 : decode cX1_tooLate 6 = .ok (.ifCond .ne 40, 3) := by decide +kernel
theorem dX1_tooLate_9 : decode cX1_tooLate 9 = .ok (.aload_n 0, 1) := by decide +kernel
theorem dX1_tooLate_10 : decode cX1_tooLate 10 = .ok (.getfield 16, 3) := by decide +kernel
theorem dX1_tooLate_13 : decode cX1_tooLate 13 = .ok (.aload_n 0, 1) := by decide +kernel
theorem dX1_tooLate_14 : decode cX1_tooLate 14 = .ok (.getfield 25, 3) := by decide +kernel
theorem dX1_tooLate_17 : decode cX1_tooLate 17 = .ok (.iload_n 1, 1) := by decide +kernel
theorem dX1_tooLate_18 : decode cX1_tooLate 18 = .ok (.iaload, 1) := by decide +kernel
theorem dX1_tooLate_19 : decode cX1_tooLate 19 = .ok (.iaload, 1) := by decide +kernel
theorem dX1_tooLate_20 : decode cX1_tooLate 20 = .ok (.ifCond .le 26, 3) := by decide +kernel
theorem dX1_tooLate_23 : decode cX1_tooLate 23 = .ok (.aload_n 0, 1) := by decide +kernel
theorem dX1_tooLate_24 : decode cX1_tooLate 24 = .ok (.iload_n 1, 1) := by decide +kernel
theorem dX1_tooLate_25 : decode cX1_tooLate 25 = .ok (.invokevirtual 84, 3) := by decide +kernel
theorem dX1_tooLate_28 : decode cX1_tooLate 28 = .ok (.aload_n 0, 1) := by decide +kernel
theorem dX1_tooLate_29 : decode cX1_tooLate 29 = .ok (.getfield 16, 3) := by decide +kernel
theorem dX1_tooLate_32 : decode cX1_tooLate 32 = .ok (.aload_n 0, 1) := by decide +kernel
theorem dX1_tooLate_33 : decode cX1_tooLate 33 = .ok (.getfield 25, 3) := by decide +kernel
theorem dX1_tooLate_36 : decode cX1_tooLate 36 = .ok (.iload_n 1, 1) := by decide +kernel
theorem dX1_tooLate_37 : decode cX1_tooLate 37 = .ok (.iaload, 1) := by decide +kernel
theorem dX1_tooLate_38 : decode cX1_tooLate 38 = .ok (.iaload, 1) := by decide +kernel
theorem dX1_tooLate_39 : decode cX1_tooLate 39 = .ok (.if_icmp .le 7, 3) := by decide +kernel
theorem dX1_tooLate_42 : decode cX1_tooLate 42 = .ok (.iconst 1, 1) := by decide +kernel
theorem dX1_tooLate_43 : decode cX1_tooLate 43 = .ok (.goto 4, 3) := by decide +kernel
theorem dX1_tooLate_46 : decode cX1_tooLate 46 = .ok (.iconst 0, 1) := by decide +kernel
theorem dX1_tooLate_47 : decode cX1_tooLate 47 = .ok (.ireturn, 1) := by decide +kernel
theorem dX1_isBusy_0 : decode cX1_isBusy 0 = .ok (.iconst 0, 1) := by decide +kernel
theorem dX1_isBusy_1 : decode cX1_isBusy 1 = .ok (.istore_n 2, 1) := by decide +kernel
theorem dX1_isBusy_2 : decode cX1_isBusy 2 = .ok (.iconst 0, 1) := by decide +kernel
theorem dX1_isBusy_3 : decode cX1_isBusy 3 = .ok (.istore_n 3, 1) := by decide +kernel
theorem dX1_isBusy_4 : decode cX1_isBusy 4 = .ok (.iload_n 3, 1) := by decide +kernel
theorem dX1_isBusy_5 : decode cX1_isBusy 5 = .ok (.aload_n 0, 1) := by decide +kernel
theorem dX1_isBusy_6 : decode cX1_isBusy 6 = .ok (.getfield 64, 3) := by decide +kernel
theorem dX1_isBusy_9 : decode cX1_isBusy 9 = .ok (.if_icmp .ge 44, 3) := by decide +kernel
theorem dX1_isBusy_12 : decode cX1_isBusy 12 = .ok (.iload_n 2, 1) := by decide +kernel
theorem dX1_isBusy_13 : decode cX1_isBusy 13 = .ok (.ifCond .ne 28, 3) := by decide +kernel
theorem dX1_isBusy_16 : decode cX1_isBusy 16 = .ok (.aload_n 0, 1) := by decide +kernel
theorem dX1_isBusy_17 : decode cX1_isBusy 17 = .ok (.getfield 22, 3) := by decide +kernel
theorem dX1_isBusy_20 : decode cX1_isBusy 20 = .ok (.iload_n 3, 1) := by decide +kernel
theorem dX1_isBusy_21 : decode cX1_isBusy 21 = .ok (.iaload, 1) := by decide +kernel
theorem dX1_isBusy_22 : decode cX1_isBusy 22 = .ok (.iconst 1, 1) := by decide +kernel
theorem dX1_isBusy_23 : decode cX1_isBusy 23 = .ok (.if_icmp .ne 22, 3) := by decide +kernel
theorem dX1_isBusy_26 : decode cX1_isBusy 26 = .ok (.aload_n 0, 1) := by decide +kernel
theorem dX1_isBusy_27 : decode cX1_isBusy 27 = .ok (.getfield 7, 3) := by decide +kernel
theorem dX1_isBusy_30 : decode cX1_isBusy 30 = .ok (.aload_n 0, 1) := by decide +kernel
theorem dX1_isBusy_31 : decode cX1_isBusy 31 = .ok (.getfield 25, 3) := by decide +kernel
theorem dX1_isBusy_34 : decode cX1_isBusy 34 = .ok (.iload_n 3, 1) := by decide +kernel
theorem dX1_isBusy_35 : decode cX1_isBusy 35 = .ok (.iaload, 1) := by decide +kernel
theorem dX1_isBusy_36 : decode cX1_isBusy 36 = .ok (.iaload, 1) := by decide +kernel
theorem dX1_isBusy_37 : decode cX1_isBusy 37 = .ok (.iload_n 1, 1) := by decide +kernel
theorem dX1_isBusy_38 : decode cX1_isBusy 38 = .ok (.if_icmp .ne 7, 3) := by decide +kernel
theorem dX1_isBusy_41 : decode cX1_isBusy 41 = .ok (.iconst 1, 1) := by decide +kernel
theorem dX1_isBusy_42 : decode cX1_isBusy 42 = .ok (.goto 4, 3) := by decide +kernel
theorem dX1_isBusy_45 : decode cX1_isBusy 45 = .ok (.iconst 0, 1) := by decide +kernel
theorem dX1_isBusy_46 : decode cX1_isBusy 46 = .ok (.istore_n 2, 1) := by decide +kernel
theorem dX1_isBusy_47 : decode cX1_isBusy 47 = .ok (.iinc 3 1, 3) := by decide +kernel
theorem dX1_isBusy_50 : decode cX1_isBusy 50 = .ok (.goto (-46), 3) := by decide +kernel
theorem dX1_isBusy_53 : decode cX1_isBusy 53 = .ok (.iload_n 2, 1) := by decide +kernel
theorem dX1_isBusy_54 : decode cX1_isBusy 54 = .ok (.ireturn, 1) := by decide +kernel
set_option maxRecDepth 20000 in
theorem ggX1_start_X1_isLot : GoodIn wsX1_start wsX1_isLot := goodIn_r _ [13, 14, 15, 16, 12, 17, 32, 33, 34, 35, 36, 37, 38, 39, 40, 41, 42, 43, 44, 45, 46, 47, 48, 49, 50, 51] (by decide +kernel) (by decide +kernel)
set_option maxRecDepth 20000 in
theorem gX1_start_X1_isLot : GoodIn wsX1_start (wsV RX1 88 RX1 yX1_isLot wsX1_isLot) := goodIn_app (goodIn_of _ (by decide +kernel)) ggX1_start_X1_isLot
set_option maxRecDepth 20000 in
theorem ggX1_start_X1_tooLate : GoodIn wsX1_start wsX1_tooLate := goodIn_r _ [21, 2, 22, 5, 23, 24, 25, 12, 26, 7, 27, 32, 33, 34, 35, 36, 37, 38, 39, 40, 41, 42, 43, 44, 45, 46, 47, 48, 49, 50, 51] (by decide +kernel) (by decide +kernel)
set_option maxRecDepth 20000 in
theorem gX1_start_X1_tooLate : GoodIn wsX1_start (wsV RX1 91 RX1 yX1_tooLate wsX1_tooLate) := goodIn_app (goodIn_of _ (by decide +kernel)) ggX1_start_X1_tooLate
set_option maxRecDepth 20000 in
theorem ggX1_start_X1_isBusy : GoodIn wsX1_start wsX1_isBusy := goodIn_r _ [31, 14, 2, 4, 5, 32, 33, 34, 35, 36, 37, 38, 39, 40, 41, 42, 43, 44, 45, 46, 47, 48, 49, 50, 51] (by decide +kernel) (by decide +kernel)
set_option maxRecDepth 20000 in
theorem gX1_start_X1_isBusy : GoodIn wsX1_start (wsV RX1 94 RX1 yX1_isBusy wsX1_isBusy) := goodIn_app (goodIn_of _ (by decide +kernel)) ggX1_start_X1_isBusy
theorem dX1_start_0 : decode cX1_start 0 = .ok (.aload_n 0, 1) := by decide +kernel
theorem dX1_start_1 : decode cX1_start 1 = .ok (.aload_n 0, 1) := by decide +kernel
theorem dX1_start_2 : decode cX1_start 2 = .ok (.iload_n 1, 1) := by decide +kernel
theorem dX1_start_3 : decode cX1_start 3 = .ok (.invokevirtual 88, 3) := by decide +kernel
theorem dX1_start_6 : decode cX1_start 6 = .ok (.ifCond .eq 7, 3) := by decide +kernel
theorem dX1_start_9 : decode cX1_start 9 = .ok (.iconst 0, 1) := by decide +kernel
theorem dX1_start_10 : decode cX1_start 10 = .ok (.goto 4, 3) := by decide +kernel
theorem dX1_start_13 : decode cX1_start 13 = .ok (.iconst 1, 1) := by decide +kernel
theorem dX1_start_14 : decode cX1_start 14 = .ok (.putfield 56, 3) := by decide +kernel
theorem dX1_start_17 : decode cX1_start 17 = .ok (.aload_n 0, 1) := by decide +kernel
theorem dX1_start_18 : decode cX1_start 18 = .ok (.getfield 56, 3) := by decide +kernel
theorem dX1_start_21 : decode cX1_start 21 = .ok (.ifCond .le 5, 3) := by decide +kernel
theorem dX1_start_24 : decode cX1_start 24 = .ok (.iconst 0, 1) := by decide +kernel
theorem dX1_start_25 : decode cX1_start 25 = .ok (.ireturn, 1) := by decide +kernel
theorem dX1_start_26 : decode cX1_start 26 = .ok (.aload_n 0, 1) := by decide +kernel
theorem dX1_start_27 : decode cX1_start 27 = .ok (.aload_n 0, 1) := by decide +kernel
theorem dX1_start_28 : decode cX1_start 28 = .ok (.getfield 22, 3) := by decide +kernel
theorem dX1_start_31 : decode cX1_start 31 = .ok (.iload_n 1, 1) := by decide +kernel
theorem dX1_start_32 : decode cX1_start 32 = .ok (.iaload, 1) := by decide +kernel
theorem dX1_start_33 : decode cX1_start 33 = .ok (.ifCond .ne 38, 3) := by decide +kernel
theorem dX1_start_36 : decode cX1_start 36 = .ok (.aload_n 0, 1) := by decide +kernel
theorem dX1_start_37 : decode cX1_start 37 = .ok (.getfield 34, 3) := by decide +kernel
theorem dX1_start_40 : decode cX1_start 40 = .ok (.iload_n 1, 1) := by decide +kernel
theorem dX1_start_41 : decode cX1_start 41 = .ok (.baload, 1) := by decide +kernel
theorem dX1_start_42 : decode cX1_start 42 = .ok (.ifCond .ne 29, 3) := by decide +kernel
theorem dX1_start_45 : decode cX1_start 45 = .ok (.aload_n 0, 1) := by decide +kernel
theorem dX1_start_46 : decode cX1_start 46 = .ok (.iload_n 1, 1) := by decide +kernel
theorem dX1_start_47 : decode cX1_start 47 = .ok (.invokevirtual 91, 3) := by decide +kernel
theorem dX1_start_50 : decode cX1_start 50 = .ok (.ifCond .ne 21, 3) := by decide +kernel
theorem dX1_start_53 : decode cX1_start 53 = .ok (.aload_n 0, 1) := by decide +kernel
theorem dX1_start_54 : decode cX1_start 54 = .ok (.aload_n 0, 1) := by decide +kernel
theorem dX1_start_55 : decode cX1_start 55 = .ok (.getfield 7, 3) := by decide +kernel
theorem dX1_start_58 : decode cX1_start 58 = .ok (.aload_n 0, 1) := by decide +kernel
theorem dX1_start_59 : decode cX1_start 59 = .ok (.getfield 25, 3) := by decide +kernel
theorem dX1_start_62 : decode cX1_start 62 = .ok (.iload_n 1, 1) := by decide +kernel
theorem dX1_start_63 : decode cX1_start 63 = .ok (.iaload, 1) := by decide +kernel
theorem dX1_start_64 : decode cX1_start 64 = .ok (.iaload, 1) := by decide +kernel
theorem dX1_start_65 : decode cX1_start 65 = .ok (.invokevirtual 94, 3) := by decide +kernel
theorem dX1_start_68 : decode cX1_start 68 = .ok (.ifCond .eq 7, 3) := by decide +kernel
theorem dX1_start_71 : decode cX1_start 71 = .ok (.iconst 2, 1) := by decide +kernel
theorem dX1_start_72 : decode cX1_start 72 = .ok (.goto 4, 3) := by decide +kernel
theorem dX1_start_75 : decode cX1_start 75 = .ok (.iconst 0, 1) := by decide +kernel
theorem dX1_start_76 : decode cX1_start 76 = .ok (.putfield 56, 3) := by decide +kernel
theorem dX1_start_79 : decode cX1_start 79 = .ok (.aload_n 0, 1) := by decide +kernel
theorem dX1_start_80 : decode cX1_start 80 = .ok (.getfield 56, 3) := by decide +kernel
theorem dX1_start_83 : decode cX1_start 83 = .ok (.ifCond .le 5, 3) := by decide +kernel
theorem dX1_start_86 : decode cX1_start 86 = .ok (.iconst 0, 1) := by decide +kernel
theorem dX1_start_87 : decode cX1_start 87 = .ok (.ireturn, 1) := by decide +kernel
theorem dX1_start_88 : decode cX1_start 88 = .ok (.aload_n 0, 1) := by decide +kernel
theorem dX1_start_89 : decode cX1_start 89 = .ok (.getfield 22, 3) := by decide +kernel
theorem dX1_start_92 : decode cX1_start 92 = .ok (.iload_n 1, 1) := by decide +kernel
theorem dX1_start_93 : decode cX1_start 93 = .ok (.iconst 1, 1) := by decide +kernel
theorem dX1_start_94 : decode cX1_start 94 = .ok (.iastore, 1) := by decide +kernel
theorem dX1_start_95 : decode cX1_start 95 = .ok (.aload_n 0, 1) := by decide +kernel
theorem dX1_start_96 : decode cX1_start 96 = .ok (.getfield 31, 3) := by decide +kernel
theorem dX1_start_99 : decode cX1_start 99 = .ok (.iload_n 1, 1) := by decide +kernel
theorem dX1_start_100 : decode cX1_start 100 = .ok (.aload_n 0, 1) := by decide +kernel
theorem dX1_start_101 : decode cX1_start 101 = .ok (.getfield 77, 3) := by decide +kernel
theorem dX1_start_104 : decode cX1_start 104 = .ok (.aload_n 0, 1) := by decide +kernel
theorem dX1_start_105 : decode cX1_start 105 = .ok (.getfield 13, 3) := by decide +kernel
theorem dX1_start_108 : decode cX1_start 108 = .ok (.aload_n 0, 1) := by decide +kernel
theorem dX1_start_109 : decode cX1_start 109 = .ok (.getfield 25, 3) := by decide +kernel
theorem dX1_start_112 : decode cX1_start 112 = .ok (.iload_n 1, 1) := by decide +kernel
theorem dX1_start_113 : decode cX1_start 113 = .ok (.iaload, 1) := by decide +kernel
theorem dX1_start_114 : decode cX1_start 114 = .ok (.iaload, 1) := by decide +kernel
theorem dX1_start_115 : decode cX1_start 115 = .ok (.iadd, 1) := by decide +kernel
theorem dX1_start_116 : decode cX1_start 116 = .ok (.iastore, 1) := by decide +kernel
theorem dX1_start_117 : decode cX1_start 117 = .ok (.aload_n 0, 1) := by decide +kernel
theorem dX1_start_118 : decode cX1_start 118 = .ok (.getfield 31, 3) := by decide +kernel
theorem dX1_start_121 : decode cX1_start 121 = .ok (.iload_n 1, 1) := by decide +kernel
theorem dX1_start_122 : decode cX1_start 122 = .ok (.iaload, 1) := by decide +kernel
theorem dX1_start_123 : decode cX1_start 123 = .ok (.ireturn, 1) := by decide +kernel
set_option maxRecDepth 20000 in
theorem ggX1_rework_X1_isLot : GoodIn wsX1_rework wsX1_isLot := goodIn_r _ [13, 14, 15, 16, 12, 17, 18, 19, 20, 21, 22, 23, 24, 25, 26, 27, 28, 29, 30, 31, 32, 33, 34, 35, 36, 37] (by decide +kernel) (by decide +kernel)
set_option maxRecDepth 20000 in
theorem gX1_rework_X1_isLot : GoodIn wsX1_rework (wsV RX1 88 RX1 yX1_isLot wsX1_isLot) := goodIn_app (goodIn_of _ (by decide +kernel)) ggX1_rework_X1_isLot
theorem dX1_rework_0 : decode cX1_rework 0 = .ok (.aload_n 0, 1) := by decide +kernel
theorem dX1_rework_1 : decode cX1_rework 1 = .ok (.aload_n 0, 1) := by decide +kernel
theorem dX1_rework_2 : decode cX1_rework 2 = .ok (.iload_n 1, 1) := by decide +kernel
theorem dX1_rework_3 : decode cX1_rework 3 = .ok (.invokevirtual 88, 3) := by decide +kernel
theorem dX1_rework_6 : decode cX1_rework 6 = .ok (.ifCond .ne 7, 3) := by decide +kernel
theorem dX1_rework_9 : decode cX1_rework 9 = .ok (.iconst 1, 1) := by decide +kernel
theorem dX1_rework_10 : decode cX1_rework 10 = .ok (.goto 36, 3) := by decide +kernel
theorem dX1_rework_13 : decode cX1_rework 13 = .ok (.aload_n 0, 1) := by decide +kernel
theorem dX1_rework_14 : decode cX1_rework 14 = .ok (.getfield 22, 3) := by decide +kernel
theorem dX1_rework_17 : decode cX1_rework 17 = .ok (.iload_n 1, 1) := by decide +kernel
theorem dX1_rework_18 : decode cX1_rework 18 = .ok (.iaload, 1) := by decide +kernel
theorem dX1_rework_19 : decode cX1_rework 19 = .ok (.ifCond .ne 22, 3) := by decide +kernel
theorem dX1_rework_22 : decode cX1_rework 22 = .ok (.aload_n 0, 1) := by decide +kernel
theorem dX1_rework_23 : decode cX1_rework 23 = .ok (.getfield 34, 3) := by decide +kernel
theorem dX1_rework_26 : decode cX1_rework 26 = .ok (.iload_n 1, 1) := by decide +kernel
theorem dX1_rework_27 : decode cX1_rework 27 = .ok (.baload, 1) := by decide +kernel
theorem dX1_rework_28 : decode cX1_rework 28 = .ok (.ifCond .ne 13, 3) := by decide +kernel
theorem dX1_rework_31 : decode cX1_rework 31 = .ok (.aload_n 0, 1) := by decide +kernel
theorem dX1_rework_32 : decode cX1_rework 32 = .ok (.getfield 38, 3) := by decide +kernel
theorem dX1_rework_35 : decode cX1_rework 35 = .ok (.iload_n 1, 1) := by decide +kernel
theorem dX1_rework_36 : decode cX1_rework 36 = .ok (.iaload, 1) := by decide +kernel
theorem dX1_rework_37 : decode cX1_rework 37 = .ok (.iconst 2, 1) := by decide +kernel
theorem dX1_rework_38 : decode cX1_rework 38 = .ok (.if_icmp .ne 7, 3) := by decide +kernel
theorem dX1_rework_41 : decode cX1_rework 41 = .ok (.iconst 2, 1) := by decide +kernel
theorem dX1_rework_42 : decode cX1_rework 42 = .ok (.goto 4, 3) := by decide +kernel
theorem dX1_rework_45 : decode cX1_rework 45 = .ok (.iconst 0, 1) := by decide +kernel
theorem dX1_rework_46 : decode cX1_rework 46 = .ok (.putfield 56, 3) := by decide +kernel
theorem dX1_rework_49 : decode cX1_rework 49 = .ok (.aload_n 0, 1) := by decide +kernel
theorem dX1_rework_50 : decode cX1_rework 50 = .ok (.getfield 56, 3) := by decide +kernel
theorem dX1_rework_53 : decode cX1_rework 53 = .ok (.ifCond .le 5, 3) := by decide +kernel
theorem dX1_rework_56 : decode cX1_rework 56 = .ok (.iconst 0, 1) := by decide +kernel
theorem dX1_rework_57 : decode cX1_rework 57 = .ok (.ireturn, 1) := by decide +kernel
theorem dX1_rework_58 : decode cX1_rework 58 = .ok (.aload_n 0, 1) := by decide +kernel
theorem dX1_rework_59 : decode cX1_rework 59 = .ok (.getfield 25, 3) := by decide +kernel
theorem dX1_rework_62 : decode cX1_rework 62 = .ok (.iload_n 1, 1) := by decide +kernel
theorem dX1_rework_63 : decode cX1_rework 63 = .ok (.aload_n 0, 1) := by decide +kernel
theorem dX1_rework_64 : decode cX1_rework 64 = .ok (.getfield 19, 3) := by decide +kernel
theorem dX1_rework_67 : decode cX1_rework 67 = .ok (.aload_n 0, 1) := by decide +kernel
theorem dX1_rework_68 : decode cX1_rework 68 = .ok (.getfield 25, 3) := by decide +kernel
theorem dX1_rework_71 : decode cX1_rework 71 = .ok (.iload_n 1, 1) := by decide +kernel
theorem dX1_rework_72 : decode cX1_rework 72 = .ok (.iaload, 1) := by decide +kernel
theorem dX1_rework_73 : decode cX1_rework 73 = .ok (.iaload, 1) := by decide +kernel
theorem dX1_rework_74 : decode cX1_rework 74 = .ok (.iastore, 1) := by decide +kernel
theorem dX1_rework_75 : decode cX1_rework 75 = .ok (.aload_n 0, 1) := by decide +kernel
theorem dX1_rework_76 : decode cX1_rework 76 = .ok (.getfield 28, 3) := by decide +kernel
theorem dX1_rework_79 : decode cX1_rework 79 = .ok (.iload_n 1, 1) := by decide +kernel
theorem dX1_rework_80 : decode cX1_rework 80 = .ok (.aload_n 0, 1) := by decide +kernel
theorem dX1_rework_81 : decode cX1_rework 81 = .ok (.getfield 77, 3) := by decide +kernel
theorem dX1_rework_84 : decode cX1_rework 84 = .ok (.iastore, 1) := by decide +kernel
theorem dX1_rework_85 : decode cX1_rework 85 = .ok (.aload_n 0, 1) := by decide +kernel
theorem dX1_rework_86 : decode cX1_rework 86 = .ok (.getfield 38, 3) := by decide +kernel
theorem dX1_rework_89 : decode cX1_rework 89 = .ok (.iload_n 1, 1) := by decide +kernel
theorem dX1_rework_90 : decode cX1_rework 90 = .ok (.dup2, 1) := by decide +kernel
theorem dX1_rework_91 : decode cX1_rework 91 = .ok (.iaload, 1) := by decide +kernel
theorem dX1_rework_92 : decode cX1_rework 92 = .ok (.iconst 1, 1) := by decide +kernel
theorem dX1_rework_93 : decode cX1_rework 93 = .ok (.iadd, 1) := by decide +kernel
theorem dX1_rework_94 : decode cX1_rework 94 = .ok (.iastore, 1) := by decide +kernel
theorem dX1_rework_95 : decode cX1_rework 95 = .ok (.aload_n 0, 1) := by decide +kernel
theorem dX1_rework_96 : decode cX1_rework 96 = .ok (.getfield 25, 3) := by decide +kernel
theorem dX1_rework_99 : decode cX1_rework 99 = .ok (.iload_n 1, 1) := by decide +kernel
theorem dX1_rework_100 : decode cX1_rework 100 = .ok (.iaload, 1) := by decide +kernel
theorem dX1_rework_101 : decode cX1_rework 101 = .ok (.ireturn, 1) := by decide +kernel
set_option maxRecDepth 20000 in
theorem ggX1_split_X1_isLot : GoodIn wsX1_split wsX1_isLot := goodIn_r _ [15, 2, 16, 17, 14, 18, 29, 30, 31, 32, 33, 34, 35, 36, 37, 38, 39, 40, 41, 42, 43, 44, 45, 46, 47, 48] (by decide +kernel) (by decide +kernel)
set_option maxRecDepth 20000 in
theorem gX1_split_X1_isLot : GoodIn wsX1_split (wsV RX1 88 RX1 yX1_isLot wsX1_isLot) := goodIn_app (goodIn_of _ (by decide +kernel)) ggX1_split_X1_isLot
set_option maxRecDepth 20000 in
theorem ggX1_split_X1_count : GoodIn wsX1_split wsX1_count := goodIn_r _ [22, 9, 10, 29, 30, 31, 32, 33, 34, 35, 36, 37, 38, 39, 40, 41, 42, 43, 44, 45, 46, 47, 48] (by decide +kernel) (by decide +kernel)
set_option maxRecDepth 20000 in
theorem gX1_split_X1_count : GoodIn wsX1_split (wsV RX1 97 RX1 yX1_count wsX1_count) := goodIn_app (goodIn_of _ (by decide +kernel)) ggX1_split_X1_count
set_option maxRecDepth 20000 in
theorem ggX1_split_X1_in : GoodIn wsX1_split wsX1_in := goodIn_r _ [18] (by decide +kernel) (by decide +kernel)
set_option maxRecDepth 20000 in
theorem gX1_split_X1_in : GoodIn wsX1_split (va_wsS RX1 60 yX1_in wsX1_in) := goodIn_app (goodIn_of _ (by decide +kernel)) ggX1_split_X1_in
set_option maxRecDepth 20000 in
theorem ggX1_split_X1_puts : GoodIn wsX1_split wsX1_puts := goodIn_r _ [26, 10, 27, 28, 29, 30, 31, 32, 33, 34, 35, 36, 37, 38, 39, 40, 41, 42, 43, 44, 45, 46, 47, 48] (by decide +kernel) (by decide +kernel)
set_option maxRecDepth 20000 in
theorem gX1_split_X1_puts : GoodIn wsX1_split (wsV RX1 80 RX1 yX1_puts wsX1_puts) := goodIn_app (goodIn_of _ (by decide +kernel)) ggX1_split_X1_puts
theorem dX1_split_0 : decode cX1_split 0 = .ok (.aload_n 0, 1) := by decide +kernel
theorem dX1_split_1 : decode cX1_split 1 = .ok (.aload_n 0, 1) := by decide +kernel
theorem dX1_split_2 : decode cX1_split 2 = .ok (.iload_n 1, 1) := by decide +kernel
theorem dX1_split_3 : decode cX1_split 3 = .ok (.invokevirtual 88, 3) := by decide +kernel
theorem dX1_split_6 : decode cX1_split 6 = .ok (.ifCond .ne 7, 3) := by decide +kernel
theorem dX1_split_9 : decode cX1_split 9 = .ok (.iconst 1, 1) := by decide +kernel
theorem dX1_split_10 : decode cX1_split 10 = .ok (.goto 45, 3) := by decide +kernel
theorem dX1_split_13 : decode cX1_split 13 = .ok (.iload_n 2, 1) := by decide +kernel
theorem dX1_split_14 : decode cX1_split 14 = .ok (.iconst 1, 1) := by decide +kernel
theorem dX1_split_15 : decode cX1_split 15 = .ok (.aload_n 0, 1) := by decide +kernel
theorem dX1_split_16 : decode cX1_split 16 = .ok (.iload_n 1, 1) := by decide +kernel
theorem dX1_split_17 : decode cX1_split 17 = .ok (.invokevirtual 97, 3) := by decide +kernel
theorem dX1_split_20 : decode cX1_split 20 = .ok (.iconst 1, 1) := by decide +kernel
theorem dX1_split_21 : decode cX1_split 21 = .ok (.isub, 1) := by decide +kernel
theorem dX1_split_22 : decode cX1_split 22 = .ok (.invokestatic 60, 3) := by decide +kernel
theorem dX1_split_25 : decode cX1_split 25 = .ok (.ifCond .ne 7, 3) := by decide +kernel
theorem dX1_split_28 : decode cX1_split 28 = .ok (.iconst 2, 1) := by decide +kernel
theorem dX1_split_29 : decode cX1_split 29 = .ok (.goto 26, 3) := by decide +kernel
theorem dX1_split_32 : decode cX1_split 32 = .ok (.aload_n 0, 1) := by decide +kernel
theorem dX1_split_33 : decode cX1_split 33 = .ok (.getfield 22, 3) := by decide +kernel
theorem dX1_split_36 : decode cX1_split 36 = .ok (.iload_n 1, 1) := by decide +kernel
theorem dX1_split_37 : decode cX1_split 37 = .ok (.iaload, 1) := by decide +kernel
theorem dX1_split_38 : decode cX1_split 38 = .ok (.ifCond .ne 12, 3) := by decide +kernel
theorem dX1_split_41 : decode cX1_split 41 = .ok (.aload_n 0, 1) := by decide +kernel
theorem dX1_split_42 : decode cX1_split 42 = .ok (.getfield 64, 3) := by decide +kernel
theorem dX1_split_45 : decode cX1_split 45 = .ok (.bipush 24, 2) := by decide +kernel
theorem dX1_split_47 : decode cX1_split 47 = .ok (.if_icmp .ne 7, 3) := by decide +kernel
theorem dX1_split_50 : decode cX1_split 50 = .ok (.iconst 3, 1) := by decide +kernel
theorem dX1_split_51 : decode cX1_split 51 = .ok (.goto 4, 3) := by decide +kernel
theorem dX1_split_54 : decode cX1_split 54 = .ok (.iconst 0, 1) := by decide +kernel
theorem dX1_split_55 : decode cX1_split 55 = .ok (.putfield 56, 3) := by decide +kernel
theorem dX1_split_58 : decode cX1_split 58 = .ok (.aload_n 0, 1) := by decide +kernel
theorem dX1_split_59 : decode cX1_split 59 = .ok (.getfield 56, 3) := by decide +kernel
theorem dX1_split_62 : decode cX1_split 62 = .ok (.ifCond .le 5, 3) := by decide +kernel
theorem dX1_split_65 : decode cX1_split 65 = .ok (.iconst 0, 1) := by decide +kernel
theorem dX1_split_66 : decode cX1_split 66 = .ok (.ireturn, 1) := by decide +kernel
theorem dX1_split_67 : decode cX1_split 67 = .ok (.aload_n 0, 1) := by decide +kernel
theorem dX1_split_68 : decode cX1_split 68 = .ok (.getfield 64, 3) := by decide +kernel
theorem dX1_split_71 : decode cX1_split 71 = .ok (.istore_n 3, 1) := by decide +kernel
theorem dX1_split_72 : decode cX1_split 72 = .ok (.aload_n 0, 1) := by decide +kernel
theorem dX1_split_73 : decode cX1_split 73 = .ok (.getfield 22, 3) := by decide +kernel
theorem dX1_split_76 : decode cX1_split 76 = .ok (.iload_n 3, 1) := by decide +kernel
theorem dX1_split_77 : decode cX1_split 77 = .ok (.iconst 0, 1) := by decide +kernel
theorem dX1_split_78 : decode cX1_split 78 = .ok (.iastore, 1) := by decide +kernel
theorem dX1_split_79 : decode cX1_split 79 = .ok (.aload_n 0, 1) := by decide +kernel
theorem dX1_split_80 : decode cX1_split 80 = .ok (.getfield 25, 3) := by decide +kernel
theorem dX1_split_83 : decode cX1_split 83 = .ok (.iload_n 3, 1) := by decide +kernel
theorem dX1_split_84 : decode cX1_split 84 = .ok (.aload_n 0, 1) := by decide +kernel
theorem dX1_split_85 : decode cX1_split 85 = .ok (.getfield 25, 3) := by decide +kernel
theorem dX1_split_88 : decode cX1_split 88 = .ok (.iload_n 1, 1) := by decide +kernel
theorem dX1_split_89 : decode cX1_split 89 = .ok (.iaload, 1) := by decide +kernel
theorem dX1_split_90 : decode cX1_split 90 = .ok (.iastore, 1) := by decide +kernel
theorem dX1_split_91 : decode cX1_split 91 = .ok (.aload_n 0, 1) := by decide +kernel
theorem dX1_split_92 : decode cX1_split 92 = .ok (.getfield 28, 3) := by decide +kernel
theorem dX1_split_95 : decode cX1_split 95 = .ok (.iload_n 3, 1) := by decide +kernel
theorem dX1_split_96 : decode cX1_split 96 = .ok (.aload_n 0, 1) := by decide +kernel
theorem dX1_split_97 : decode cX1_split 97 = .ok (.getfield 28, 3) := by decide +kernel
theorem dX1_split_100 : decode cX1_split 100 = .ok (.iload_n 1, 1) := by decide +kernel
theorem dX1_split_101 : decode cX1_split 101 = .ok (.iaload, 1) := by decide +kernel
theorem dX1_split_102 : decode cX1_split 102 = .ok (.iastore, 1) := by decide +kernel
theorem dX1_split_103 : decode cX1_split 103 = .ok (.aload_n 0, 1) := by decide +kernel
theorem dX1_split_104 : decode cX1_split 104 = .ok (.getfield 34, 3) := by decide +kernel
theorem dX1_split_107 : decode cX1_split 107 = .ok (.iload_n 3, 1) := by decide +kernel
theorem dX1_split_108 : decode cX1_split 108 = .ok (.aload_n 0, 1) := by decide +kernel
theorem dX1_split_109 : decode cX1_split 109 = .ok (.getfield 34, 3) := by decide +kernel
theorem dX1_split_112 : decode cX1_split 112 = .ok (.iload_n 1, 1) := by decide +kernel
theorem dX1_split_113 : decode cX1_split 113 = .ok (.baload, 1) := by decide +kernel
theorem dX1_split_114 : decode cX1_split 114 = .ok (.bastore, 1) := by decide +kernel
theorem dX1_split_115 : decode cX1_split 115 = .ok (.aload_n 0, 1) := by decide +kernel
theorem dX1_split_116 : decode cX1_split 116 = .ok (.getfield 38, 3) := by decide +kernel
theorem dX1_split_119 : decode cX1_split 119 = .ok (.iload_n 3, 1) := by decide +kernel
theorem dX1_split_120 : decode cX1_split 120 = .ok (.aload_n 0, 1) := by decide +kernel
theorem dX1_split_121 : decode cX1_split 121 = .ok (.getfield 38, 3) := by decide +kernel
theorem dX1_split_124 : decode cX1_split 124 = .ok (.iload_n 1, 1) := by decide +kernel
theorem dX1_split_125 : decode cX1_split 125 = .ok (.iaload, 1) := by decide +kernel
theorem dX1_split_126 : decode cX1_split 126 = .ok (.iastore, 1) := by decide +kernel
theorem dX1_split_127 : decode cX1_split 127 = .ok (.aload_n 0, 1) := by decide +kernel
theorem dX1_split_128 : decode cX1_split 128 = .ok (.getfield 41, 3) := by decide +kernel
theorem dX1_split_131 : decode cX1_split 131 = .ok (.iload_n 3, 1) := by decide +kernel
theorem dX1_split_132 : decode cX1_split 132 = .ok (.iload_n 1, 1) := by decide +kernel
theorem dX1_split_133 : decode cX1_split 133 = .ok (.iastore, 1) := by decide +kernel
theorem dX1_split_134 : decode cX1_split 134 = .ok (.aload_n 0, 1) := by decide +kernel
theorem dX1_split_135 : decode cX1_split 135 = .ok (.dup, 1) := by decide +kernel
theorem dX1_split_136 : decode cX1_split 136 = .ok (.getfield 64, 3) := by decide +kernel
theorem dX1_split_139 : decode cX1_split 139 = .ok (.iconst 1, 1) := by decide +kernel
theorem dX1_split_140 : decode cX1_split 140 = .ok (.iadd, 1) := by decide +kernel
theorem dX1_split_141 : decode cX1_split 141 = .ok (.putfield 64, 3) := by decide +kernel
theorem dX1_split_144 : decode cX1_split 144 = .ok (.iload_n 2, 1) := by decide +kernel
theorem dX1_split_145 : decode cX1_split 145 = .ok (.istore 4, 2) := by decide +kernel
theorem dX1_split_147 : decode cX1_split 147 = .ok (.iconst 0, 1) := by decide +kernel
theorem dX1_split_148 : decode cX1_split 148 = .ok (.istore 5, 2) := by decide +kernel
theorem dX1_split_150 : decode cX1_split 150 = .ok (.iload 5, 2) := by decide +kernel
theorem dX1_split_152 : decode cX1_split 152 = .ok (.aload_n 0, 1) := by decide +kernel
theorem dX1_split_153 : decode cX1_split 153 = .ok (.getfield 67, 3) := by decide +kernel
theorem dX1_split_156 : decode cX1_split 156 = .ok (.if_icmp .ge 35, 3) := by decide +kernel
theorem dX1_split_159 : decode cX1_split 159 = .ok (.iload 4, 2) := by decide +kernel
theorem dX1_split_161 : decode cX1_split 161 = .ok (.ifCond .le 24, 3) := by decide +kernel
theorem dX1_split_164 : decode cX1_split 164 = .ok (.aload_n 0, 1) := by decide +kernel
theorem dX1_split_165 : decode cX1_split 165 = .ok (.getfield 44, 3) := by decide +kernel
theorem dX1_split_168 : decode cX1_split 168 = .ok (.iload 5, 2) := by decide +kernel
theorem dX1_split_170 : decode cX1_split 170 = .ok (.iaload, 1) := by decide +kernel
theorem dX1_split_171 : decode cX1_split 171 = .ok (.iload_n 1, 1) := by decide +kernel
theorem dX1_split_172 : decode cX1_split 172 = .ok (.if_icmp .ne 13, 3) := by decide +kernel
theorem dX1_split_175 : decode cX1_split 175 = .ok (.aload_n 0, 1) := by decide +kernel
theorem dX1_split_176 : decode cX1_split 176 = .ok (.iload 5, 2) := by decide +kernel
theorem dX1_split_178 : decode cX1_split 178 = .ok (.iload_n 3, 1) := by decide +kernel
theorem dX1_split_179 : decode cX1_split 179 = .ok (.invokevirtual 80, 3) := by decide +kernel
theorem dX1_split_182 : decode cX1_split 182 = .ok (.iinc 4 (-1), 3) := by decide +kernel
theorem dX1_split_185 : decode cX1_split 185 = .ok (.iinc 5 1, 3) := by decide +kernel
theorem dX1_split_188 : decode cX1_split 188 = .ok (.goto (-38), 3) := by decide +kernel
theorem dX1_split_191 : decode cX1_split 191 = .ok (.iload_n 3, 1) := by decide +kernel
theorem dX1_split_192 : decode cX1_split 192 = .ok (.ireturn, 1) := by decide +kernel
theorem dX1_canMerge_0 : decode cX1_canMerge 0 = .ok (.aload_n 0, 1) := by decide +kernel
theorem dX1_canMerge_1 : decode cX1_canMerge 1 = .ok (.getfield 22, 3) := by decide +kernel
theorem dX1_canMerge_4 : decode cX1_canMerge 4 = .ok (.iload_n 1, 1) := by decide +kernel
theorem dX1_canMerge_5 : decode cX1_canMerge 5 = .ok (.iaload, 1) := by decide +kernel
theorem dX1_canMerge_6 : decode cX1_canMerge 6 = .ok (.ifCond .ne 16, 3) := by decide +kernel
theorem dX1_canMerge_9 : decode cX1_canMerge 9 = .ok (.aload_n 0, 1) := by decide +kernel
theorem dX1_canMerge_10 : decode cX1_canMerge 10 = .ok (.getfield 34, 3) := by decide +kernel
theorem dX1_canMerge_13 : decode cX1_canMerge 13 = .ok (.iload_n 1, 1) := by decide +kernel
theorem dX1_canMerge_14 : decode cX1_canMerge 14 = .ok (.baload, 1) := by decide +kernel
theorem dX1_canMerge_15 : decode cX1_canMerge 15 = .ok (.ifCond .ne 7, 3) := by decide +kernel
theorem dX1_canMerge_18 : decode cX1_canMerge 18 = .ok (.iconst 1, 1) := by decide +kernel
theorem dX1_canMerge_19 : decode cX1_canMerge 19 = .ok (.goto 4, 3) := by decide +kernel
theorem dX1_canMerge_22 : decode cX1_canMerge 22 = .ok (.iconst 0, 1) := by decide +kernel
theorem dX1_canMerge_23 : decode cX1_canMerge 23 = .ok (.ireturn, 1) := by decide +kernel
set_option maxRecDepth 20000 in
theorem ggX1_merge_X1_isLot : GoodIn wsX1_merge wsX1_isLot := goodIn_r _ [12, 13, 14, 15, 11, 16, 32, 33, 34, 35, 36, 37, 38, 39, 40, 41, 42, 43, 44, 45, 46, 47, 48, 49, 50, 51] (by decide +kernel) (by decide +kernel)
set_option maxRecDepth 20000 in
theorem gX1_merge_X1_isLot : GoodIn wsX1_merge (wsV RX1 88 RX1 yX1_isLot wsX1_isLot) := goodIn_app (goodIn_of _ (by decide +kernel)) ggX1_merge_X1_isLot
set_option maxRecDepth 20000 in
theorem ggX1_merge_X1_canMerge : GoodIn wsX1_merge wsX1_canMerge := goodIn_r _ [20, 7, 21, 32, 33, 34, 35, 36, 37, 38, 39, 40, 41, 42, 43, 44, 45, 46, 47, 48, 49, 50, 51] (by decide +kernel) (by decide +kernel)
set_option maxRecDepth 20000 in
theorem gX1_merge_X1_canMerge : GoodIn wsX1_merge (wsV RX1 100 RX1 yX1_canMerge wsX1_canMerge) := goodIn_app (goodIn_of _ (by decide +kernel)) ggX1_merge_X1_canMerge
set_option maxRecDepth 20000 in
theorem ggX1_merge_X1_puts : GoodIn wsX1_merge wsX1_puts := goodIn_r _ [25, 4, 26, 27, 32, 33, 34, 35, 36, 37, 38, 39, 40, 41, 42, 43, 44, 45, 46, 47, 48, 49, 50, 51] (by decide +kernel) (by decide +kernel)
set_option maxRecDepth 20000 in
theorem gX1_merge_X1_puts : GoodIn wsX1_merge (wsV RX1 80 RX1 yX1_puts wsX1_puts) := goodIn_app (goodIn_of _ (by decide +kernel)) ggX1_merge_X1_puts
set_option maxRecDepth 20000 in
theorem ggX1_merge_X1_count : GoodIn wsX1_merge wsX1_count := goodIn_r _ [31, 3, 4, 32, 33, 34, 35, 36, 37, 38, 39, 40, 41, 42, 43, 44, 45, 46, 47, 48, 49, 50, 51] (by decide +kernel) (by decide +kernel)
set_option maxRecDepth 20000 in
theorem gX1_merge_X1_count : GoodIn wsX1_merge (wsV RX1 97 RX1 yX1_count wsX1_count) := goodIn_app (goodIn_of _ (by decide +kernel)) ggX1_merge_X1_count
theorem dX1_merge_0 : decode cX1_merge 0 = .ok (.aload_n 0, 1) := by decide +kernel
theorem dX1_merge_1 : decode cX1_merge 1 = .ok (.aload_n 0, 1) := by decide +kernel
theorem dX1_merge_2 : decode cX1_merge 2 = .ok (.iload_n 1, 1) := by decide +kernel
theorem dX1_merge_3 : decode cX1_merge 3 = .ok (.invokevirtual 88, 3) := by decide +kernel
theorem dX1_merge_6 : decode cX1_merge 6 = .ok (.ifCond .eq 11, 3) := by decide +kernel
theorem dX1_merge_9 : decode cX1_merge 9 = .ok (.aload_n 0, 1) := by decide +kernel
theorem dX1_merge_10 : decode cX1_merge 10 = .ok (.iload_n 2, 1) := by decide +kernel
theorem dX1_merge_11 : decode cX1_merge 11 = .ok (.invokevirtual 88, 3) := by decide +kernel
theorem dX1_merge_14 : decode cX1_merge 14 = .ok (.ifCond .ne 7, 3) := by decide +kernel
theorem dX1_merge_17 : decode cX1_merge 17 = .ok (.iconst 1, 1) := by decide +kernel
theorem dX1_merge_18 : decode cX1_merge 18 = .ok (.goto 48, 3) := by decide +kernel
theorem dX1_merge_21 : decode cX1_merge 21 = .ok (.iload_n 1, 1) := by decide +kernel
theorem dX1_merge_22 : decode cX1_merge 22 = .ok (.iload_n 2, 1) := by decide +kernel
theorem dX1_merge_23 : decode cX1_merge 23 = .ok (.if_icmp .ne 7, 3) := by decide +kernel
theorem dX1_merge_26 : decode cX1_merge 26 = .ok (.iconst 2, 1) := by decide +kernel
theorem dX1_merge_27 : decode cX1_merge 27 = .ok (.goto 39, 3) := by decide +kernel
theorem dX1_merge_30 : decode cX1_merge 30 = .ok (.aload_n 0, 1) := by decide +kernel
theorem dX1_merge_31 : decode cX1_merge 31 = .ok (.iload_n 1, 1) := by decide +kernel
theorem dX1_merge_32 : decode cX1_merge 32 = .ok (.invokevirtual 100, 3) := by decide +kernel
theorem dX1_merge_35 : decode cX1_merge 35 = .ok (.ifCond .eq 26, 3) := by decide +kernel
theorem dX1_merge_38 : decode cX1_merge 38 = .ok (.aload_n 0, 1) := by decide +kernel
theorem dX1_merge_39 : decode cX1_merge 39 = .ok (.iload_n 2, 1) := by decide +kernel
theorem dX1_merge_40 : decode cX1_merge 40 = .ok (.invokevirtual 100, 3) := by decide +kernel
theorem dX1_merge_43 : decode cX1_merge 43 = .ok (.ifCond .eq 18, 3) := by decide +kernel
theorem dX1_merge_46 : decode cX1_merge 46 = .ok (.aload_n 0, 1) := by decide +kernel
theorem dX1_merge_47 : decode cX1_merge 47 = .ok (.getfield 25, 3) := by decide +kernel
theorem dX1_merge_50 : decode cX1_merge 50 = .ok (.iload_n 1, 1) := by decide +kernel
theorem dX1_merge_51 : decode cX1_merge 51 = .ok (.iaload, 1) := by decide +kernel
theorem dX1_merge_52 : decode cX1_merge 52 = .ok (.aload_n 0, 1) := by decide +kernel
theorem dX1_merge_53 : decode cX1_merge 53 = .ok (.getfield 25, 3) := by decide +kernel
theorem dX1_merge_56 : decode cX1_merge 56 = .ok (.iload_n 2, 1) := by decide +kernel
theorem dX1_merge_57 : decode cX1_merge 57 = .ok (.iaload, 1) := by decide +kernel
theorem dX1_merge_58 : decode cX1_merge 58 = .ok (.if_icmp .eq 7, 3) := by decide +kernel
theorem dX1_merge_61 : decode cX1_merge 61 = .ok (.iconst 3, 1) := by decide +kernel
theorem dX1_merge_62 : decode cX1_merge 62 = .ok (.goto 4, 3) := by decide +kernel
theorem dX1_merge_65 : decode cX1_merge 65 = .ok (.iconst 0, 1) := by decide +kernel
theorem dX1_merge_66 : decode cX1_merge 66 = .ok (.putfield 56, 3) := by decide +kernel
theorem dX1_merge_69 : decode cX1_merge 69 = .ok (.aload_n 0, 1) := by decide +kernel
theorem dX1_merge_70 : decode cX1_merge 70 = .ok (.getfield 56, 3) := by decide +kernel
theorem dX1_merge_73 : decode cX1_merge 73 = .ok (.ifCond .le 5, 3) := by decide +kernel
theorem dX1_merge_76 : decode cX1_merge 76 = .ok (.iconst 0, 1) := by decide +kernel
theorem dX1_merge_77 : decode cX1_merge 77 = .ok (.ireturn, 1) := by decide +kernel
theorem dX1_merge_78 : decode cX1_merge 78 = .ok (.iconst 0, 1) := by decide +kernel
theorem dX1_merge_79 : decode cX1_merge 79 = .ok (.istore_n 3, 1) := by decide +kernel
theorem dX1_merge_80 : decode cX1_merge 80 = .ok (.iload_n 3, 1) := by decide +kernel
theorem dX1_merge_81 : decode cX1_merge 81 = .ok (.aload_n 0, 1) := by decide +kernel
theorem dX1_merge_82 : decode cX1_merge 82 = .ok (.getfield 67, 3) := by decide +kernel
theorem dX1_merge_85 : decode cX1_merge 85 = .ok (.if_icmp .ge 25, 3) := by decide +kernel
theorem dX1_merge_88 : decode cX1_merge 88 = .ok (.aload_n 0, 1) := by decide +kernel
theorem dX1_merge_89 : decode cX1_merge 89 = .ok (.getfield 44, 3) := by decide +kernel
theorem dX1_merge_92 : decode cX1_merge 92 = .ok (.iload_n 3, 1) := by decide +kernel
theorem dX1_merge_93 : decode cX1_merge 93 = .ok (.iaload, 1) := by decide +kernel
theorem dX1_merge_94 : decode cX1_merge 94 = .ok (.iload_n 1, 1) := by decide +kernel
theorem dX1_merge_95 : decode cX1_merge 95 = .ok (.if_icmp .ne 9, 3) := by decide +kernel
theorem dX1_merge_98 : decode cX1_merge 98 = .ok (.aload_n 0, 1) := by decide +kernel
theorem dX1_merge_99 : decode cX1_merge 99 = .ok (.iload_n 3, 1) := by decide +kernel
theorem dX1_merge_100 : decode cX1_merge 100 = .ok (.iload_n 2, 1) := by decide +kernel
theorem dX1_merge_101 : decode cX1_merge 101 = .ok (.invokevirtual 80, 3) := by decide +kernel
theorem dX1_merge_104 : decode cX1_merge 104 = .ok (.iinc 3 1, 3) := by decide +kernel
theorem dX1_merge_107 : decode cX1_merge 107 = .ok (.goto (-27), 3) := by decide +kernel
theorem dX1_merge_110 : decode cX1_merge 110 = .ok (.aload_n 0, 1) := by decide +kernel
theorem dX1_merge_111 : decode cX1_merge 111 = .ok (.getfield 28, 3) := by decide +kernel
theorem dX1_merge_114 : decode cX1_merge 114 = .ok (.iload_n 2, 1) := by decide +kernel
theorem dX1_merge_115 : decode cX1_merge 115 = .ok (.aload_n 0, 1) := by decide +kernel
theorem dX1_merge_116 : decode cX1_merge 116 = .ok (.getfield 28, 3) := by decide +kernel
theorem dX1_merge_119 : decode cX1_merge 119 = .ok (.iload_n 1, 1) := by decide +kernel
theorem dX1_merge_120 : decode cX1_merge 120 = .ok (.iaload, 1) := by decide +kernel
theorem dX1_merge_121 : decode cX1_merge 121 = .ok (.aload_n 0, 1) := by decide +kernel
theorem dX1_merge_122 : decode cX1_merge 122 = .ok (.getfield 28, 3) := by decide +kernel
theorem dX1_merge_125 : decode cX1_merge 125 = .ok (.iload_n 2, 1) := by decide +kernel
theorem dX1_merge_126 : decode cX1_merge 126 = .ok (.iaload, 1) := by decide +kernel
theorem dX1_merge_127 : decode cX1_merge 127 = .ok (.if_icmp .ge 12, 3) := by decide +kernel
theorem dX1_merge_130 : decode cX1_merge 130 = .ok (.aload_n 0, 1) := by decide +kernel
theorem dX1_merge_131 : decode cX1_merge 131 = .ok (.getfield 28, 3) := by decide +kernel
theorem dX1_merge_134 : decode cX1_merge 134 = .ok (.iload_n 1, 1) := by decide +kernel
theorem dX1_merge_135 : decode cX1_merge 135 = .ok (.iaload, 1) := by decide +kernel
theorem dX1_merge_136 : decode cX1_merge 136 = .ok (.goto 9, 3) := by decide +kernel
theorem dX1_merge_139 : decode cX1_merge 139 = .ok (.aload_n 0, 1) := by decide +kernel
theorem dX1_merge_140 : decode cX1_merge 140 = .ok (.getfield 28, 3) := by decide +kernel
theorem dX1_merge_143 : decode cX1_merge 143 = .ok (.iload_n 2, 1) := by decide +kernel
theorem dX1_merge_144 : decode cX1_merge 144 = .ok (.iaload, 1) := by decide +kernel
theorem dX1_merge_145 : decode cX1_merge 145 = .ok (.iastore, 1) := by decide +kernel
theorem dX1_merge_146 : decode cX1_merge 146 = .ok (.aload_n 0, 1) := by decide +kernel
theorem dX1_merge_147 : decode cX1_merge 147 = .ok (.getfield 38, 3) := by decide +kernel
theorem dX1_merge_150 : decode cX1_merge 150 = .ok (.iload_n 2, 1) := by decide +kernel
theorem dX1_merge_151 : decode cX1_merge 151 = .ok (.aload_n 0, 1) := by decide +kernel
theorem dX1_merge_152 : decode cX1_merge 152 = .ok (.getfield 38, 3) := by decide +kernel
theorem dX1_merge_155 : decode cX1_merge 155 = .ok (.iload_n 1, 1) := by decide +kernel
theorem dX1_merge_156 : decode cX1_merge 156 = .ok (.iaload, 1) := by decide +kernel
theorem dX1_merge_157 : decode cX1_merge 157 = .ok (.aload_n 0, 1) := by decide +kernel
theorem dX1_merge_158 : decode cX1_merge 158 = .ok (.getfield 38, 3) := by decide +kernel
theorem dX1_merge_161 : decode cX1_merge 161 = .ok (.iload_n 2, 1) := by decide +kernel
theorem dX1_merge_162 : decode cX1_merge 162 = .ok (.iaload, 1) := by decide +kernel
theorem dX1_merge_163 : decode cX1_merge 163 = .ok (.if_icmp .le 12, 3) := by decide +kernel
theorem dX1_merge_166 : decode cX1_merge 166 = .ok (.aload_n 0, 1) := by decide +kernel
theorem dX1_merge_167 : decode cX1_merge 167 = .ok (.getfield 38, 3) := by decide +kernel
theorem dX1_merge_170 : decode cX1_merge 170 = .ok (.iload_n 1, 1) := by decide +kernel
theorem dX1_merge_171 : decode cX1_merge 171 = .ok (.iaload, 1) := by decide +kernel
theorem dX1_merge_172 : decode cX1_merge 172 = .ok (.goto 9, 3) := by decide +kernel
theorem dX1_merge_175 : decode cX1_merge 175 = .ok (.aload_n 0, 1) := by decide +kernel
theorem dX1_merge_176 : decode cX1_merge 176 = .ok (.getfield 38, 3) := by decide +kernel
theorem dX1_merge_179 : decode cX1_merge 179 = .ok (.iload_n 2, 1) := by decide +kernel
theorem dX1_merge_180 : decode cX1_merge 180 = .ok (.iaload, 1) := by decide +kernel
theorem dX1_merge_181 : decode cX1_merge 181 = .ok (.iastore, 1) := by decide +kernel
theorem dX1_merge_182 : decode cX1_merge 182 = .ok (.aload_n 0, 1) := by decide +kernel
theorem dX1_merge_183 : decode cX1_merge 183 = .ok (.getfield 22, 3) := by decide +kernel
theorem dX1_merge_186 : decode cX1_merge 186 = .ok (.iload_n 1, 1) := by decide +kernel
theorem dX1_merge_187 : decode cX1_merge 187 = .ok (.iconst 3, 1) := by decide +kernel
theorem dX1_merge_188 : decode cX1_merge 188 = .ok (.iastore, 1) := by decide +kernel
theorem dX1_merge_189 : decode cX1_merge 189 = .ok (.aload_n 0, 1) := by decide +kernel
theorem dX1_merge_190 : decode cX1_merge 190 = .ok (.iload_n 2, 1) := by decide +kernel
theorem dX1_merge_191 : decode cX1_merge 191 = .ok (.invokevirtual 97, 3) := by decide +kernel
theorem dX1_merge_194 : decode cX1_merge 194 = .ok (.ireturn, 1) := by decide +kernel
set_option maxRecDepth 20000 in
theorem ggX1_hold_X1_isLot : GoodIn wsX1_hold wsX1_isLot := goodIn_r _ [8, 9, 10, 11, 7, 12, 13, 14, 15, 16, 17, 18, 19, 20, 21, 22, 23, 24, 25, 26, 27, 28, 29, 30, 31, 32] (by decide +kernel) (by decide +kernel)
set_option maxRecDepth 20000 in
theorem gX1_hold_X1_isLot : GoodIn wsX1_hold (wsV RX1 88 RX1 yX1_isLot wsX1_isLot) := goodIn_app (goodIn_of _ (by decide +kernel)) ggX1_hold_X1_isLot
theorem dX1_hold_0 : decode cX1_hold 0 = .ok (.aload_n 0, 1) := by decide +kernel
theorem dX1_hold_1 : decode cX1_hold 1 = .ok (.aload_n 0, 1) := by decide +kernel
theorem dX1_hold_2 : decode cX1_hold 2 = .ok (.iload_n 1, 1) := by decide +kernel
theorem dX1_hold_3 : decode cX1_hold 3 = .ok (.invokevirtual 88, 3) := by decide +kernel
theorem dX1_hold_6 : decode cX1_hold 6 = .ok (.ifCond .ne 7, 3) := by decide +kernel
theorem dX1_hold_9 : decode cX1_hold 9 = .ok (.iconst 1, 1) := by decide +kernel
theorem dX1_hold_10 : decode cX1_hold 10 = .ok (.goto 18, 3) := by decide +kernel
theorem dX1_hold_13 : decode cX1_hold 13 = .ok (.aload_n 0, 1) := by decide +kernel
theorem dX1_hold_14 : decode cX1_hold 14 = .ok (.getfield 22, 3) := by decide +kernel
theorem dX1_hold_17 : decode cX1_hold 17 = .ok (.iload_n 1, 1) := by decide +kernel
theorem dX1_hold_18 : decode cX1_hold 18 = .ok (.iaload, 1) := by decide +kernel
theorem dX1_hold_19 : decode cX1_hold 19 = .ok (.iconst 1, 1) := by decide +kernel
theorem dX1_hold_20 : decode cX1_hold 20 = .ok (.if_icmp .le 7, 3) := by decide +kernel
theorem dX1_hold_23 : decode cX1_hold 23 = .ok (.iconst 2, 1) := by decide +kernel
theorem dX1_hold_24 : decode cX1_hold 24 = .ok (.goto 4, 3) := by decide +kernel
theorem dX1_hold_27 : decode cX1_hold 27 = .ok (.iconst 0, 1) := by decide +kernel
theorem dX1_hold_28 : decode cX1_hold 28 = .ok (.putfield 56, 3) := by decide +kernel
theorem dX1_hold_31 : decode cX1_hold 31 = .ok (.aload_n 0, 1) := by decide +kernel
theorem dX1_hold_32 : decode cX1_hold 32 = .ok (.getfield 56, 3) := by decide +kernel
theorem dX1_hold_35 : decode cX1_hold 35 = .ok (.ifCond .le 5, 3) := by decide +kernel
theorem dX1_hold_38 : decode cX1_hold 38 = .ok (.iconst 0, 1) := by decide +kernel
theorem dX1_hold_39 : decode cX1_hold 39 = .ok (.ireturn, 1) := by decide +kernel
theorem dX1_hold_40 : decode cX1_hold 40 = .ok (.aload_n 0, 1) := by decide +kernel
theorem dX1_hold_41 : decode cX1_hold 41 = .ok (.getfield 34, 3) := by decide +kernel
theorem dX1_hold_44 : decode cX1_hold 44 = .ok (.iload_n 1, 1) := by decide +kernel
theorem dX1_hold_45 : decode cX1_hold 45 = .ok (.baload, 1) := by decide +kernel
theorem dX1_hold_46 : decode cX1_hold 46 = .ok (.istore_n 3, 1) := by decide +kernel
theorem dX1_hold_47 : decode cX1_hold 47 = .ok (.aload_n 0, 1) := by decide +kernel
theorem dX1_hold_48 : decode cX1_hold 48 = .ok (.getfield 34, 3) := by decide +kernel
theorem dX1_hold_51 : decode cX1_hold 51 = .ok (.iload_n 1, 1) := by decide +kernel
theorem dX1_hold_52 : decode cX1_hold 52 = .ok (.iload_n 2, 1) := by decide +kernel
theorem dX1_hold_53 : decode cX1_hold 53 = .ok (.bastore, 1) := by decide +kernel
theorem dX1_hold_54 : decode cX1_hold 54 = .ok (.iload_n 3, 1) := by decide +kernel
theorem dX1_hold_55 : decode cX1_hold 55 = .ok (.ireturn, 1) := by decide +kernel
set_option maxRecDepth 20000 in
theorem ggX1_scrap_X1_isWafer : GoodIn wsX1_scrap wsX1_isWafer := goodIn_r _ [8, 9, 10, 11, 7, 12, 17, 18, 19, 20, 21, 22, 23, 24, 25, 26, 27, 28, 29, 30, 31, 32, 33, 34, 35, 36] (by decide +kernel) (by decide +kernel)
set_option maxRecDepth 20000 in
theorem gX1_scrap_X1_isWafer : GoodIn wsX1_scrap (wsV RX1 103 RX1 yX1_isWafer wsX1_isWafer) := goodIn_app (goodIn_of _ (by decide +kernel)) ggX1_scrap_X1_isWafer
set_option maxRecDepth 20000 in
theorem ggX1_scrap_X1_count : GoodIn wsX1_scrap wsX1_count := goodIn_r _ [16, 9, 1, 17, 18, 19, 20, 21, 22, 23, 24, 25, 26, 27, 28, 29, 30, 31, 32, 33, 34, 35, 36] (by decide +kernel) (by decide +kernel)
set_option maxRecDepth 20000 in
theorem gX1_scrap_X1_count : GoodIn wsX1_scrap (wsV RX1 97 RX1 yX1_count wsX1_count) := goodIn_app (goodIn_of _ (by decide +kernel)) ggX1_scrap_X1_count
theorem dX1_scrap_0 : decode cX1_scrap 0 = .ok (.aload_n 0, 1) := by decide +kernel
theorem dX1_scrap_1 : decode cX1_scrap 1 = .ok (.aload_n 0, 1) := by decide +kernel
theorem dX1_scrap_2 : decode cX1_scrap 2 = .ok (.iload_n 1, 1) := by decide +kernel
theorem dX1_scrap_3 : decode cX1_scrap 3 = .ok (.invokevirtual 103, 3) := by decide +kernel
theorem dX1_scrap_6 : decode cX1_scrap 6 = .ok (.ifCond .ne 7, 3) := by decide +kernel
theorem dX1_scrap_9 : decode cX1_scrap 9 = .ok (.iconst 1, 1) := by decide +kernel
theorem dX1_scrap_10 : decode cX1_scrap 10 = .ok (.goto 32, 3) := by decide +kernel
theorem dX1_scrap_13 : decode cX1_scrap 13 = .ok (.aload_n 0, 1) := by decide +kernel
theorem dX1_scrap_14 : decode cX1_scrap 14 = .ok (.getfield 44, 3) := by decide +kernel
theorem dX1_scrap_17 : decode cX1_scrap 17 = .ok (.iload_n 1, 1) := by decide +kernel
theorem dX1_scrap_18 : decode cX1_scrap 18 = .ok (.iaload, 1) := by decide +kernel
theorem dX1_scrap_19 : decode cX1_scrap 19 = .ok (.iconst (-1), 1) := by decide +kernel
theorem dX1_scrap_20 : decode cX1_scrap 20 = .ok (.if_icmp .eq 17, 3) := by decide +kernel
theorem dX1_scrap_23 : decode cX1_scrap 23 = .ok (.aload_n 0, 1) := by decide +kernel
theorem dX1_scrap_24 : decode cX1_scrap 24 = .ok (.getfield 22, 3) := by decide +kernel
theorem dX1_scrap_27 : decode cX1_scrap 27 = .ok (.aload_n 0, 1) := by decide +kernel
theorem dX1_scrap_28 : decode cX1_scrap 28 = .ok (.getfield 44, 3) := by decide +kernel
theorem dX1_scrap_31 : decode cX1_scrap 31 = .ok (.iload_n 1, 1) := by decide +kernel
theorem dX1_scrap_32 : decode cX1_scrap 32 = .ok (.iaload, 1) := by decide +kernel
theorem dX1_scrap_33 : decode cX1_scrap 33 = .ok (.iaload, 1) := by decide +kernel
theorem dX1_scrap_34 : decode cX1_scrap 34 = .ok (.ifCond .eq 7, 3) := by decide +kernel
theorem dX1_scrap_37 : decode cX1_scrap 37 = .ok (.iconst 2, 1) := by decide +kernel
theorem dX1_scrap_38 : decode cX1_scrap 38 = .ok (.goto 4, 3) := by decide +kernel
theorem dX1_scrap_41 : decode cX1_scrap 41 = .ok (.iconst 0, 1) := by decide +kernel
theorem dX1_scrap_42 : decode cX1_scrap 42 = .ok (.putfield 56, 3) := by decide +kernel
theorem dX1_scrap_45 : decode cX1_scrap 45 = .ok (.aload_n 0, 1) := by decide +kernel
theorem dX1_scrap_46 : decode cX1_scrap 46 = .ok (.getfield 56, 3) := by decide +kernel
theorem dX1_scrap_49 : decode cX1_scrap 49 = .ok (.ifCond .le 5, 3) := by decide +kernel
theorem dX1_scrap_52 : decode cX1_scrap 52 = .ok (.iconst 0, 1) := by decide +kernel
theorem dX1_scrap_53 : decode cX1_scrap 53 = .ok (.ireturn, 1) := by decide +kernel
theorem dX1_scrap_54 : decode cX1_scrap 54 = .ok (.aload_n 0, 1) := by decide +kernel
theorem dX1_scrap_55 : decode cX1_scrap 55 = .ok (.getfield 44, 3) := by decide +kernel
theorem dX1_scrap_58 : decode cX1_scrap 58 = .ok (.iload_n 1, 1) := by decide +kernel
theorem dX1_scrap_59 : decode cX1_scrap 59 = .ok (.iaload, 1) := by decide +kernel
theorem dX1_scrap_60 : decode cX1_scrap 60 = .ok (.istore_n 2, 1) := by decide +kernel
theorem dX1_scrap_61 : decode cX1_scrap 61 = .ok (.aload_n 0, 1) := by decide +kernel
theorem dX1_scrap_62 : decode cX1_scrap 62 = .ok (.getfield 44, 3) := by decide +kernel
theorem dX1_scrap_65 : decode cX1_scrap 65 = .ok (.iload_n 1, 1) := by decide +kernel
theorem dX1_scrap_66 : decode cX1_scrap 66 = .ok (.iconst (-1), 1) := by decide +kernel
theorem dX1_scrap_67 : decode cX1_scrap 67 = .ok (.iastore, 1) := by decide +kernel
theorem dX1_scrap_68 : decode cX1_scrap 68 = .ok (.aload_n 0, 1) := by decide +kernel
theorem dX1_scrap_69 : decode cX1_scrap 69 = .ok (.getfield 22, 3) := by decide +kernel
theorem dX1_scrap_72 : decode cX1_scrap 72 = .ok (.iload_n 2, 1) := by decide +kernel
theorem dX1_scrap_73 : decode cX1_scrap 73 = .ok (.aload_n 0, 1) := by decide +kernel
theorem dX1_scrap_74 : decode cX1_scrap 74 = .ok (.iload_n 2, 1) := by decide +kernel
theorem dX1_scrap_75 : decode cX1_scrap 75 = .ok (.invokevirtual 97, 3) := by decide +kernel
theorem dX1_scrap_78 : decode cX1_scrap 78 = .ok (.ifCond .ne 7, 3) := by decide +kernel
theorem dX1_scrap_81 : decode cX1_scrap 81 = .ok (.iconst 3, 1) := by decide +kernel
theorem dX1_scrap_82 : decode cX1_scrap 82 = .ok (.goto 9, 3) := by decide +kernel
theorem dX1_scrap_85 : decode cX1_scrap 85 = .ok (.aload_n 0, 1) := by decide +kernel
theorem dX1_scrap_86 : decode cX1_scrap 86 = .ok (.getfield 22, 3) := by decide +kernel
theorem dX1_scrap_89 : decode cX1_scrap 89 = .ok (.iload_n 2, 1) := by decide +kernel
theorem dX1_scrap_90 : decode cX1_scrap 90 = .ok (.iaload, 1) := by decide +kernel
theorem dX1_scrap_91 : decode cX1_scrap 91 = .ok (.iastore, 1) := by decide +kernel
theorem dX1_scrap_92 : decode cX1_scrap 92 = .ok (.aload_n 0, 1) := by decide +kernel
theorem dX1_scrap_93 : decode cX1_scrap 93 = .ok (.iload_n 2, 1) := by decide +kernel
theorem dX1_scrap_94 : decode cX1_scrap 94 = .ok (.invokevirtual 97, 3) := by decide +kernel
theorem dX1_scrap_97 : decode cX1_scrap 97 = .ok (.ireturn, 1) := by decide +kernel
set_option maxRecDepth 20000 in
theorem ggX1_advance_X1_in : GoodIn wsX1_advance wsX1_in := goodIn_r _ [12] (by decide +kernel) (by decide +kernel)
set_option maxRecDepth 20000 in
theorem gX1_advance_X1_in : GoodIn wsX1_advance (va_wsS RX1 60 yX1_in wsX1_in) := goodIn_app (goodIn_of _ (by decide +kernel)) ggX1_advance_X1_in
theorem dX1_advance_0 : decode cX1_advance 0 = .ok (.aload_n 0, 1) := by decide +kernel
theorem dX1_advance_1 : decode cX1_advance 1 = .ok (.iload_n 1, 1) := by decide +kernel
theorem dX1_advance_2 : decode cX1_advance 2 = .ok (.iconst 1, 1) := by decide +kernel
theorem dX1_advance_3 : decode cX1_advance 3 = .ok (.sipush 10000, 3) := by decide +kernel
theorem dX1_advance_6 : decode cX1_advance 6 = .ok (.invokestatic 60, 3) := by decide +kernel
theorem dX1_advance_9 : decode cX1_advance 9 = .ok (.ifCond .eq 7, 3) := by decide +kernel
theorem dX1_advance_12 : decode cX1_advance 12 = .ok (.iconst 0, 1) := by decide +kernel
theorem dX1_advance_13 : decode cX1_advance 13 = .ok (.goto 4, 3) := by decide +kernel
theorem dX1_advance_16 : decode cX1_advance 16 = .ok (.iconst 1, 1) := by decide +kernel
theorem dX1_advance_17 : decode cX1_advance 17 = .ok (.putfield 56, 3) := by decide +kernel
theorem dX1_advance_20 : decode cX1_advance 20 = .ok (.aload_n 0, 1) := by decide +kernel
theorem dX1_advance_21 : decode cX1_advance 21 = .ok (.getfield 56, 3) := by decide +kernel
theorem dX1_advance_24 : decode cX1_advance 24 = .ok (.ifCond .le 5, 3) := by decide +kernel
theorem dX1_advance_27 : decode cX1_advance 27 = .ok (.iconst 0, 1) := by decide +kernel
theorem dX1_advance_28 : decode cX1_advance 28 = .ok (.ireturn, 1) := by decide +kernel
theorem dX1_advance_29 : decode cX1_advance 29 = .ok (.iconst 0, 1) := by decide +kernel
theorem dX1_advance_30 : decode cX1_advance 30 = .ok (.istore_n 2, 1) := by decide +kernel
theorem dX1_advance_31 : decode cX1_advance 31 = .ok (.aload_n 0, 1) := by decide +kernel
theorem dX1_advance_32 : decode cX1_advance 32 = .ok (.dup, 1) := by decide +kernel
theorem dX1_advance_33 : decode cX1_advance 33 = .ok (.getfield 77, 3) := by decide +kernel
theorem dX1_advance_36 : decode cX1_advance 36 = .ok (.iload_n 1, 1) := by decide +kernel
theorem dX1_advance_37 : decode cX1_advance 37 = .ok (.iadd, 1) := by decide +kernel
theorem dX1_advance_38 : decode cX1_advance 38 = .ok (.putfield 77, 3) := by decide +kernel
theorem dX1_advance_41 : decode cX1_advance 41 = .ok (.iconst 0, 1) := by decide +kernel
theorem dX1_advance_42 : decode cX1_advance 42 = .ok (.istore_n 3, 1) := by decide +kernel
theorem dX1_advance_43 : decode cX1_advance 43 = .ok (.iload_n 3, 1) := by decide +kernel
theorem dX1_advance_44 : decode cX1_advance 44 = .ok (.aload_n 0, 1) := by decide +kernel
theorem dX1_advance_45 : decode cX1_advance 45 = .ok (.getfield 64, 3) := by decide +kernel
theorem dX1_advance_48 : decode cX1_advance 48 = .ok (.if_icmp .ge 81, 3) := by decide +kernel
theorem dX1_advance_51 : decode cX1_advance 51 = .ok (.aload_n 0, 1) := by decide +kernel
theorem dX1_advance_52 : decode cX1_advance 52 = .ok (.getfield 22, 3) := by decide +kernel
theorem dX1_advance_55 : decode cX1_advance 55 = .ok (.iload_n 3, 1) := by decide +kernel
theorem dX1_advance_56 : decode cX1_advance 56 = .ok (.iaload, 1) := by decide +kernel
theorem dX1_advance_57 : decode cX1_advance 57 = .ok (.iconst 1, 1) := by decide +kernel
theorem dX1_advance_58 : decode cX1_advance 58 = .ok (.if_icmp .ne 65, 3) := by decide +kernel
theorem dX1_advance_61 : decode cX1_advance 61 = .ok (.aload_n 0, 1) := by decide +kernel
theorem dX1_advance_62 : decode cX1_advance 62 = .ok (.getfield 31, 3) := by decide +kernel
theorem dX1_advance_65 : decode cX1_advance 65 = .ok (.iload_n 3, 1) := by decide +kernel
theorem dX1_advance_66 : decode cX1_advance 66 = .ok (.iaload, 1) := by decide +kernel
theorem dX1_advance_67 : decode cX1_advance 67 = .ok (.aload_n 0, 1) := by decide +kernel
theorem dX1_advance_68 : decode cX1_advance 68 = .ok (.getfield 77, 3) := by decide +kernel
theorem dX1_advance_71 : decode cX1_advance 71 = .ok (.if_icmp .gt 52, 3) := by decide +kernel
theorem dX1_advance_74 : decode cX1_advance 74 = .ok (.aload_n 0, 1) := by decide +kernel
theorem dX1_advance_75 : decode cX1_advance 75 = .ok (.getfield 25, 3) := by decide +kernel
theorem dX1_advance_78 : decode cX1_advance 78 = .ok (.iload_n 3, 1) := by decide +kernel
theorem dX1_advance_79 : decode cX1_advance 79 = .ok (.dup2, 1) := by decide +kernel
theorem dX1_advance_80 : decode cX1_advance 80 = .ok (.iaload, 1) := by decide +kernel
theorem dX1_advance_81 : decode cX1_advance 81 = .ok (.iconst 1, 1) := by decide +kernel
theorem dX1_advance_82 : decode cX1_advance 82 = .ok (.iadd, 1) := by decide +kernel
theorem dX1_advance_83 : decode cX1_advance 83 = .ok (.iastore, 1) := by decide +kernel
theorem dX1_advance_84 : decode cX1_advance 84 = .ok (.aload_n 0, 1) := by decide +kernel
theorem dX1_advance_85 : decode cX1_advance 85 = .ok (.getfield 28, 3) := by decide +kernel
theorem dX1_advance_88 : decode cX1_advance 88 = .ok (.iload_n 3, 1) := by decide +kernel
theorem dX1_advance_89 : decode cX1_advance 89 = .ok (.aload_n 0, 1) := by decide +kernel
theorem dX1_advance_90 : decode cX1_advance 90 = .ok (.getfield 31, 3) := by decide +kernel
theorem dX1_advance_93 : decode cX1_advance 93 = .ok (.iload_n 3, 1) := by decide +kernel
theorem dX1_advance_94 : decode cX1_advance 94 = .ok (.iaload, 1) := by decide +kernel
theorem dX1_advance_95 : decode cX1_advance 95 = .ok (.iastore, 1) := by decide +kernel
theorem dX1_advance_96 : decode cX1_advance 96 = .ok (.aload_n 0, 1) := by decide +kernel
theorem dX1_advance_97 : decode cX1_advance 97 = .ok (.getfield 22, 3) := by decide +kernel
theorem dX1_advance_100 : decode cX1_advance 100 = .ok (.iload_n 3, 1) := by decide +kernel
theorem dX1_advance_101 : decode cX1_advance 101 = .ok (.aload_n 0, 1) := by decide +kernel
theorem dX1_advance_102 : decode cX1_advance 102 = .ok (.getfield 25, 3) := by decide +kernel
theorem dX1_advance_105 : decode cX1_advance 105 = .ok (.iload_n 3, 1) := by decide +kernel
theorem dX1_advance_106 : decode cX1_advance 106 = .ok (.iaload, 1) := by decide +kernel
theorem dX1_advance_107 : decode cX1_advance 107 = .ok (.aload_n 0, 1) := by decide +kernel
theorem dX1_advance_108 : decode cX1_advance 108 = .ok (.getfield 70, 3) := by decide +kernel
theorem dX1_advance_111 : decode cX1_advance 111 = .ok (.if_icmp .ne 7, 3) := by decide +kernel
theorem dX1_advance_114 : decode cX1_advance 114 = .ok (.iconst 2, 1) := by decide +kernel
theorem dX1_advance_115 : decode cX1_advance 115 = .ok (.goto 4, 3) := by decide +kernel
theorem dX1_advance_118 : decode cX1_advance 118 = .ok (.iconst 0, 1) := by decide +kernel
theorem dX1_advance_119 : decode cX1_advance 119 = .ok (.iastore, 1) := by decide +kernel
theorem dX1_advance_120 : decode cX1_advance 120 = .ok (.iinc 2 1, 3) := by decide +kernel
theorem dX1_advance_123 : decode cX1_advance 123 = .ok (.iinc 3 1, 3) := by decide +kernel
theorem dX1_advance_126 : decode cX1_advance 126 = .ok (.goto (-83), 3) := by decide +kernel
theorem dX1_advance_129 : decode cX1_advance 129 = .ok (.iload_n 2, 1) := by decide +kernel
theorem dX1_advance_130 : decode cX1_advance 130 = .ok (.ireturn, 1) := by decide +kernel
theorem dX1_time_0 : decode cX1_time 0 = .ok (.aload_n 0, 1) := by decide +kernel
theorem dX1_time_1 : decode cX1_time 1 = .ok (.iconst 0, 1) := by decide +kernel
theorem dX1_time_2 : decode cX1_time 2 = .ok (.putfield 56, 3) := by decide +kernel
theorem dX1_time_5 : decode cX1_time 5 = .ok (.aload_n 0, 1) := by decide +kernel
theorem dX1_time_6 : decode cX1_time 6 = .ok (.getfield 77, 3) := by decide +kernel
theorem dX1_time_9 : decode cX1_time 9 = .ok (.ireturn, 1) := by decide +kernel
theorem dX1_lots_0 : decode cX1_lots 0 = .ok (.aload_n 0, 1) := by decide +kernel
theorem dX1_lots_1 : decode cX1_lots 1 = .ok (.iconst 0, 1) := by decide +kernel
theorem dX1_lots_2 : decode cX1_lots 2 = .ok (.putfield 56, 3) := by decide +kernel
theorem dX1_lots_5 : decode cX1_lots 5 = .ok (.aload_n 0, 1) := by decide +kernel
theorem dX1_lots_6 : decode cX1_lots 6 = .ok (.getfield 64, 3) := by decide +kernel
theorem dX1_lots_9 : decode cX1_lots 9 = .ok (.ireturn, 1) := by decide +kernel
theorem dX1_wafers_0 : decode cX1_wafers 0 = .ok (.aload_n 0, 1) := by decide +kernel
theorem dX1_wafers_1 : decode cX1_wafers 1 = .ok (.iconst 0, 1) := by decide +kernel
theorem dX1_wafers_2 : decode cX1_wafers 2 = .ok (.putfield 56, 3) := by decide +kernel
theorem dX1_wafers_5 : decode cX1_wafers 5 = .ok (.aload_n 0, 1) := by decide +kernel
theorem dX1_wafers_6 : decode cX1_wafers 6 = .ok (.getfield 67, 3) := by decide +kernel
theorem dX1_wafers_9 : decode cX1_wafers 9 = .ok (.ireturn, 1) := by decide +kernel
set_option maxRecDepth 20000 in
theorem ggX1_told_X1_isLot : GoodIn wsX1_told wsX1_isLot := goodIn_r _ [6, 7, 8, 9, 5, 10, 15, 16, 17, 18, 19, 20, 21, 22, 23, 24, 25, 26, 27, 28, 29, 30, 31, 32, 33, 34] (by decide +kernel) (by decide +kernel)
set_option maxRecDepth 20000 in
theorem gX1_told_X1_isLot : GoodIn wsX1_told (wsV RX1 88 RX1 yX1_isLot wsX1_isLot) := goodIn_app (goodIn_of _ (by decide +kernel)) ggX1_told_X1_isLot
set_option maxRecDepth 20000 in
theorem ggX1_told_X1_fails : GoodIn wsX1_told wsX1_fails := goodIn_r _ [14, 1, 15, 16, 17, 18, 19, 20, 21, 22, 23, 24, 25, 26, 27, 28, 29, 30, 31, 32, 33, 34] (by decide +kernel) (by decide +kernel)
set_option maxRecDepth 20000 in
theorem gX1_told_X1_fails : GoodIn wsX1_told (wsV RX1 106 RX1 yX1_fails wsX1_fails) := goodIn_app (goodIn_of _ (by decide +kernel)) ggX1_told_X1_fails
theorem dX1_told_0 : decode cX1_told 0 = .ok (.aload_n 0, 1) := by decide +kernel
theorem dX1_told_1 : decode cX1_told 1 = .ok (.iconst 0, 1) := by decide +kernel
theorem dX1_told_2 : decode cX1_told 2 = .ok (.putfield 56, 3) := by decide +kernel
theorem dX1_told_5 : decode cX1_told 5 = .ok (.aload_n 0, 1) := by decide +kernel
theorem dX1_told_6 : decode cX1_told 6 = .ok (.iload_n 2, 1) := by decide +kernel
theorem dX1_told_7 : decode cX1_told 7 = .ok (.invokevirtual 88, 3) := by decide +kernel
theorem dX1_told_10 : decode cX1_told 10 = .ok (.ifCond .eq 9, 3) := by decide +kernel
theorem dX1_told_13 : decode cX1_told 13 = .ok (.aload_n 1, 1) := by decide +kernel
theorem dX1_told_14 : decode cX1_told 14 = .ok (.iload_n 2, 1) := by decide +kernel
theorem dX1_told_15 : decode cX1_told 15 = .ok (.iaload, 1) := by decide +kernel
theorem dX1_told_16 : decode cX1_told 16 = .ok (.goto 8, 3) := by decide +kernel
theorem dX1_told_19 : decode cX1_told 19 = .ok (.aload_n 0, 1) := by decide +kernel
theorem dX1_told_20 : decode cX1_told 20 = .ok (.iconst 1, 1) := by decide +kernel
theorem dX1_told_21 : decode cX1_told 21 = .ok (.invokevirtual 106, 3) := by decide +kernel
theorem dX1_told_24 : decode cX1_told 24 = .ok (.ireturn, 1) := by decide +kernel
set_option maxRecDepth 20000 in
theorem ggX1_state_X1_told : GoodIn wsX1_state wsX1_told := goodIn_r _ [6, 7, 8, 9, 10, 5, 11, 12, 13, 14, 15, 16, 17, 18, 19, 20, 21, 22, 23, 24, 25, 26, 27, 28, 29, 30, 31, 32, 33, 34, 35, 36, 37, 38, 39] (by decide +kernel) (by decide +kernel)
set_option maxRecDepth 20000 in
theorem gX1_state_X1_told : GoodIn wsX1_state (wsV RX1 109 RX1 yX1_told wsX1_told) := goodIn_app (goodIn_of _ (by decide +kernel)) ggX1_state_X1_told
theorem dX1_state_0 : decode cX1_state 0 = .ok (.aload_n 0, 1) := by decide +kernel
theorem dX1_state_1 : decode cX1_state 1 = .ok (.aload_n 0, 1) := by decide +kernel
theorem dX1_state_2 : decode cX1_state 2 = .ok (.getfield 22, 3) := by decide +kernel
theorem dX1_state_5 : decode cX1_state 5 = .ok (.iload_n 1, 1) := by decide +kernel
theorem dX1_state_6 : decode cX1_state 6 = .ok (.invokevirtual 109, 3) := by decide +kernel
theorem dX1_state_9 : decode cX1_state 9 = .ok (.ireturn, 1) := by decide +kernel
set_option maxRecDepth 20000 in
theorem ggX1_stepOf_X1_told : GoodIn wsX1_stepOf wsX1_told := goodIn_r _ [8, 2, 9, 10, 11, 7, 12, 13, 14, 15, 16, 17, 18, 19, 20, 21, 22, 23, 24, 25, 26, 27, 28, 29, 30, 31, 32, 33, 34, 35, 36, 37, 38, 39, 40] (by decide +kernel) (by decide +kernel)
set_option maxRecDepth 20000 in
theorem gX1_stepOf_X1_told : GoodIn wsX1_stepOf (wsV RX1 109 RX1 yX1_told wsX1_told) := goodIn_app (goodIn_of _ (by decide +kernel)) ggX1_stepOf_X1_told
theorem dX1_stepOf_0 : decode cX1_stepOf 0 = .ok (.aload_n 0, 1) := by decide +kernel
theorem dX1_stepOf_1 : decode cX1_stepOf 1 = .ok (.aload_n 0, 1) := by decide +kernel
theorem dX1_stepOf_2 : decode cX1_stepOf 2 = .ok (.getfield 25, 3) := by decide +kernel
theorem dX1_stepOf_5 : decode cX1_stepOf 5 = .ok (.iload_n 1, 1) := by decide +kernel
theorem dX1_stepOf_6 : decode cX1_stepOf 6 = .ok (.invokevirtual 109, 3) := by decide +kernel
theorem dX1_stepOf_9 : decode cX1_stepOf 9 = .ok (.istore_n 2, 1) := by decide +kernel
theorem dX1_stepOf_10 : decode cX1_stepOf 10 = .ok (.aload_n 0, 1) := by decide +kernel
theorem dX1_stepOf_11 : decode cX1_stepOf 11 = .ok (.getfield 56, 3) := by decide +kernel
theorem dX1_stepOf_14 : decode cX1_stepOf 14 = .ok (.ifCond .ne 17, 3) := by decide +kernel
theorem dX1_stepOf_17 : decode cX1_stepOf 17 = .ok (.aload_n 0, 1) := by decide +kernel
theorem dX1_stepOf_18 : decode cX1_stepOf 18 = .ok (.getfield 22, 3) := by decide +kernel
theorem dX1_stepOf_21 : decode cX1_stepOf 21 = .ok (.iload_n 1, 1) := by decide +kernel
theorem dX1_stepOf_22 : decode cX1_stepOf 22 = .ok (.iaload, 1) := by decide +kernel
theorem dX1_stepOf_23 : decode cX1_stepOf 23 = .ok (.iconst 1, 1) := by decide +kernel
theorem dX1_stepOf_24 : decode cX1_stepOf 24 = .ok (.if_icmp .le 7, 3) := by decide +kernel
theorem dX1_stepOf_27 : decode cX1_stepOf 27 = .ok (.iconst (-1), 1) := by decide +kernel
theorem dX1_stepOf_28 : decode cX1_stepOf 28 = .ok (.goto 4, 3) := by decide +kernel
theorem dX1_stepOf_31 : decode cX1_stepOf 31 = .ok (.iload_n 2, 1) := by decide +kernel
theorem dX1_stepOf_32 : decode cX1_stepOf 32 = .ok (.ireturn, 1) := by decide +kernel
set_option maxRecDepth 20000 in
theorem ggX1_size_X1_isLot : GoodIn wsX1_size wsX1_isLot := goodIn_r _ [6, 7, 8, 9, 5, 10, 21, 22, 23, 24, 25, 26, 27, 28, 29, 30, 31, 32, 33, 34, 35, 36, 37, 38, 39, 40] (by decide +kernel) (by decide +kernel)
set_option maxRecDepth 20000 in
theorem gX1_size_X1_isLot : GoodIn wsX1_size (wsV RX1 88 RX1 yX1_isLot wsX1_isLot) := goodIn_app (goodIn_of _ (by decide +kernel)) ggX1_size_X1_isLot
set_option maxRecDepth 20000 in
theorem ggX1_size_X1_count : GoodIn wsX1_size wsX1_count := goodIn_r _ [14, 15, 16, 21, 22, 23, 24, 25, 26, 27, 28, 29, 30, 31, 32, 33, 34, 35, 36, 37, 38, 39, 40] (by decide +kernel) (by decide +kernel)
set_option maxRecDepth 20000 in
theorem gX1_size_X1_count : GoodIn wsX1_size (wsV RX1 97 RX1 yX1_count wsX1_count) := goodIn_app (goodIn_of _ (by decide +kernel)) ggX1_size_X1_count
set_option maxRecDepth 20000 in
theorem ggX1_size_X1_fails : GoodIn wsX1_size wsX1_fails := goodIn_r _ [20, 1, 21, 22, 23, 24, 25, 26, 27, 28, 29, 30, 31, 32, 33, 34, 35, 36, 37, 38, 39, 40] (by decide +kernel) (by decide +kernel)
set_option maxRecDepth 20000 in
theorem gX1_size_X1_fails : GoodIn wsX1_size (wsV RX1 106 RX1 yX1_fails wsX1_fails) := goodIn_app (goodIn_of _ (by decide +kernel)) ggX1_size_X1_fails
theorem dX1_size_0 : decode cX1_size 0 = .ok (.aload_n 0, 1) := by decide +kernel
theorem dX1_size_1 : decode cX1_size 1 = .ok (.iconst 0, 1) := by decide +kernel
theorem dX1_size_2 : decode cX1_size 2 = .ok (.putfield 56, 3) := by decide +kernel
theorem dX1_size_5 : decode cX1_size 5 = .ok (.aload_n 0, 1) := by decide +kernel
theorem dX1_size_6 : decode cX1_size 6 = .ok (.iload_n 1, 1) := by decide +kernel
theorem dX1_size_7 : decode cX1_size 7 = .ok (.invokevirtual 88, 3) := by decide +kernel
theorem dX1_size_10 : decode cX1_size 10 = .ok (.ifCond .eq 11, 3) := by decide +kernel
theorem dX1_size_13 : decode cX1_size 13 = .ok (.aload_n 0, 1) := by decide +kernel
theorem dX1_size_14 : decode cX1_size 14 = .ok (.iload_n 1, 1) := by decide +kernel
theorem dX1_size_15 : decode cX1_size 15 = .ok (.invokevirtual 97, 3) := by decide +kernel
theorem dX1_size_18 : decode cX1_size 18 = .ok (.goto 8, 3) := by decide +kernel
theorem dX1_size_21 : decode cX1_size 21 = .ok (.aload_n 0, 1) := by decide +kernel
theorem dX1_size_22 : decode cX1_size 22 = .ok (.iconst 1, 1) := by decide +kernel
theorem dX1_size_23 : decode cX1_size 23 = .ok (.invokevirtual 106, 3) := by decide +kernel
theorem dX1_size_26 : decode cX1_size 26 = .ok (.ireturn, 1) := by decide +kernel
set_option maxRecDepth 20000 in
theorem ggX1_left_X1_waited : GoodIn wsX1_left wsX1_waited := goodIn_r _ [8, 9, 10, 11, 12, 13, 14, 15, 16, 17, 18, 19, 20, 21, 22, 23, 24, 25, 26, 27, 28, 29, 30] (by decide +kernel) (by decide +kernel)
set_option maxRecDepth 20000 in
theorem gX1_left_X1_waited : GoodIn wsX1_left (wsV RX1 84 RX1 yX1_waited wsX1_waited) := goodIn_app (goodIn_of _ (by decide +kernel)) ggX1_left_X1_waited
theorem dX1_left_0 : decode cX1_left 0 = .ok (.aload_n 0, 1) := by decide +kernel
theorem dX1_left_1 : decode cX1_left 1 = .ok (.getfield 16, 3) := by decide +kernel
theorem dX1_left_4 : decode cX1_left 4 = .ok (.aload_n 0, 1) := by decide +kernel
theorem dX1_left_5 : decode cX1_left 5 = .ok (.getfield 25, 3) := by decide +kernel
theorem dX1_left_8 : decode cX1_left 8 = .ok (.iload_n 1, 1) := by decide +kernel
theorem dX1_left_9 : decode cX1_left 9 = .ok (.iaload, 1) := by decide +kernel
theorem dX1_left_10 : decode cX1_left 10 = .ok (.iaload, 1) := by decide +kernel
theorem dX1_left_11 : decode cX1_left 11 = .ok (.istore_n 2, 1) := by decide +kernel
theorem dX1_left_12 : decode cX1_left 12 = .ok (.iload_n 2, 1) := by decide +kernel
theorem dX1_left_13 : decode cX1_left 13 = .ok (.ifCond .ne 8, 3) := by decide +kernel
theorem dX1_left_16 : decode cX1_left 16 = .ok (.ldc 113, 2) := by decide +kernel
theorem dX1_left_18 : decode cX1_left 18 = .ok (.goto 10, 3) := by decide +kernel
theorem dX1_left_21 : decode cX1_left 21 = .ok (.iload_n 2, 1) := by decide +kernel
theorem dX1_left_22 : decode cX1_left 22 = .ok (.aload_n 0, 1) := by decide +kernel
theorem dX1_left_23 : decode cX1_left 23 = .ok (.iload_n 1, 1) := by decide +kernel
theorem dX1_left_24 : decode cX1_left 24 = .ok (.invokevirtual 84, 3) := by decide +kernel
theorem dX1_left_27 : decode cX1_left 27 = .ok (.isub, 1) := by decide +kernel
theorem dX1_left_28 : decode cX1_left 28 = .ok (.ireturn, 1) := by decide +kernel
set_option maxRecDepth 20000 in
theorem ggX1_slack_X1_isLot : GoodIn wsX1_slack wsX1_isLot := goodIn_r _ [8, 9, 10, 11, 7, 12, 26, 27, 28, 29, 30, 31, 32, 33, 34, 35, 36, 37, 38, 39, 40, 41, 42, 43, 44, 45] (by decide +kernel) (by decide +kernel)
set_option maxRecDepth 20000 in
theorem gX1_slack_X1_isLot : GoodIn wsX1_slack (wsV RX1 88 RX1 yX1_isLot wsX1_isLot) := goodIn_app (goodIn_of _ (by decide +kernel)) ggX1_slack_X1_isLot
set_option maxRecDepth 20000 in
theorem ggX1_slack_X1_left : GoodIn wsX1_slack wsX1_left := goodIn_r _ [16, 17, 18, 19, 20, 21, 22, 7, 23, 24, 25, 26, 27, 28, 29, 30, 31, 32, 33, 34, 35, 36, 37, 38, 39, 40, 41, 42, 43, 44, 45] (by decide +kernel) (by decide +kernel)
set_option maxRecDepth 20000 in
theorem gX1_slack_X1_left : GoodIn wsX1_slack (wsV RX1 114 RX1 yX1_left wsX1_left) := goodIn_app (goodIn_of _ (by decide +kernel)) ggX1_slack_X1_left
theorem dX1_slack_0 : decode cX1_slack 0 = .ok (.aload_n 0, 1) := by decide +kernel
theorem dX1_slack_1 : decode cX1_slack 1 = .ok (.aload_n 0, 1) := by decide +kernel
theorem dX1_slack_2 : decode cX1_slack 2 = .ok (.iload_n 1, 1) := by decide +kernel
theorem dX1_slack_3 : decode cX1_slack 3 = .ok (.invokevirtual 88, 3) := by decide +kernel
theorem dX1_slack_6 : decode cX1_slack 6 = .ok (.ifCond .eq 7, 3) := by decide +kernel
theorem dX1_slack_9 : decode cX1_slack 9 = .ok (.iconst 0, 1) := by decide +kernel
theorem dX1_slack_10 : decode cX1_slack 10 = .ok (.goto 4, 3) := by decide +kernel
theorem dX1_slack_13 : decode cX1_slack 13 = .ok (.iconst 1, 1) := by decide +kernel
theorem dX1_slack_14 : decode cX1_slack 14 = .ok (.putfield 56, 3) := by decide +kernel
theorem dX1_slack_17 : decode cX1_slack 17 = .ok (.aload_n 0, 1) := by decide +kernel
theorem dX1_slack_18 : decode cX1_slack 18 = .ok (.getfield 56, 3) := by decide +kernel
theorem dX1_slack_21 : decode cX1_slack 21 = .ok (.ifCond .le 7, 3) := by decide +kernel
theorem dX1_slack_24 : decode cX1_slack 24 = .ok (.iconst 0, 1) := by decide +kernel
theorem dX1_slack_25 : decode cX1_slack 25 = .ok (.goto 22, 3) := by decide +kernel
theorem dX1_slack_28 : decode cX1_slack 28 = .ok (.aload_n 0, 1) := by decide +kernel
theorem dX1_slack_29 : decode cX1_slack 29 = .ok (.getfield 22, 3) := by decide +kernel
theorem dX1_slack_32 : decode cX1_slack 32 = .ok (.iload_n 1, 1) := by decide +kernel
theorem dX1_slack_33 : decode cX1_slack 33 = .ok (.iaload, 1) := by decide +kernel
theorem dX1_slack_34 : decode cX1_slack 34 = .ok (.ifCond .ne 11, 3) := by decide +kernel
theorem dX1_slack_37 : decode cX1_slack 37 = .ok (.aload_n 0, 1) := by decide +kernel
theorem dX1_slack_38 : decode cX1_slack 38 = .ok (.iload_n 1, 1) := by decide +kernel
theorem dX1_slack_39 : decode cX1_slack 39 = .ok (.invokevirtual 114, 3) := by decide +kernel
theorem dX1_slack_42 : decode cX1_slack 42 = .ok (.goto 5, 3) := by decide +kernel
theorem dX1_slack_45 : decode cX1_slack 45 = .ok (.ldc 117, 2) := by decide +kernel
theorem dX1_slack_47 : decode cX1_slack 47 = .ok (.ireturn, 1) := by decide +kernel
set_option maxRecDepth 20000 in
theorem ggX1_isLate_X1_isLot : GoodIn wsX1_isLate wsX1_isLot := goodIn_r _ [6, 7, 8, 9, 5, 10, 24, 25, 26, 27, 28, 29, 30, 31, 32, 33, 34, 35, 36, 37, 38, 39, 40, 41, 42, 43] (by decide +kernel) (by decide +kernel)
set_option maxRecDepth 20000 in
theorem gX1_isLate_X1_isLot : GoodIn wsX1_isLate (wsV RX1 88 RX1 yX1_isLot wsX1_isLot) := goodIn_app (goodIn_of _ (by decide +kernel)) ggX1_isLate_X1_isLot
set_option maxRecDepth 20000 in
theorem ggX1_isLate_X1_tooLate : GoodIn wsX1_isLate wsX1_tooLate := goodIn_r _ [14, 15, 16, 17, 18, 19, 20, 5, 21, 22, 23, 24, 25, 26, 27, 28, 29, 30, 31, 32, 33, 34, 35, 36, 37, 38, 39, 40, 41, 42, 43] (by decide +kernel) (by decide +kernel)
set_option maxRecDepth 20000 in
theorem gX1_isLate_X1_tooLate : GoodIn wsX1_isLate (wsV RX1 91 RX1 yX1_tooLate wsX1_tooLate) := goodIn_app (goodIn_of _ (by decide +kernel)) ggX1_isLate_X1_tooLate
theorem dX1_isLate_0 : decode cX1_isLate 0 = .ok (.aload_n 0, 1) := by decide +kernel
theorem dX1_isLate_1 : decode cX1_isLate 1 = .ok (.aload_n 0, 1) := by decide +kernel
theorem dX1_isLate_2 : decode cX1_isLate 2 = .ok (.iload_n 1, 1) := by decide +kernel
theorem dX1_isLate_3 : decode cX1_isLate 3 = .ok (.invokevirtual 88, 3) := by decide +kernel
theorem dX1_isLate_6 : decode cX1_isLate 6 = .ok (.ifCond .eq 7, 3) := by decide +kernel
theorem dX1_isLate_9 : decode cX1_isLate 9 = .ok (.iconst 0, 1) := by decide +kernel
theorem dX1_isLate_10 : decode cX1_isLate 10 = .ok (.goto 4, 3) := by decide +kernel
theorem dX1_isLate_13 : decode cX1_isLate 13 = .ok (.iconst 1, 1) := by decide +kernel
theorem dX1_isLate_14 : decode cX1_isLate 14 = .ok (.putfield 56, 3) := by decide +kernel
theorem dX1_isLate_17 : decode cX1_isLate 17 = .ok (.aload_n 0, 1) := by decide +kernel
theorem dX1_isLate_18 : decode cX1_isLate 18 = .ok (.getfield 56, 3) := by decide +kernel
theorem dX1_isLate_21 : decode cX1_isLate 21 = .ok (.ifCond .ne 15, 3) := by decide +kernel
theorem dX1_isLate_24 : decode cX1_isLate 24 = .ok (.aload_n 0, 1) := by decide +kernel
theorem dX1_isLate_25 : decode cX1_isLate 25 = .ok (.iload_n 1, 1) := by decide +kernel
theorem dX1_isLate_26 : decode cX1_isLate 26 = .ok (.invokevirtual 91, 3) := by decide +kernel
theorem dX1_isLate_29 : decode cX1_isLate 29 = .ok (.ifCond .eq 7, 3) := by decide +kernel
theorem dX1_isLate_32 : decode cX1_isLate 32 = .ok (.iconst 1, 1) := by decide +kernel
theorem dX1_isLate_33 : decode cX1_isLate 33 = .ok (.goto 4, 3) := by decide +kernel
theorem dX1_isLate_36 : decode cX1_isLate 36 = .ok (.iconst 0, 1) := by decide +kernel
theorem dX1_isLate_37 : decode cX1_isLate 37 = .ok (.ireturn, 1) := by decide +kernel
set_option maxRecDepth 20000 in
theorem ggX1_reworks_X1_told : GoodIn wsX1_reworks wsX1_told := goodIn_r _ [6, 7, 8, 9, 10, 5, 11, 12, 13, 14, 15, 16, 17, 18, 19, 20, 21, 22, 23, 24, 25, 26, 27, 28, 29, 30, 31, 32, 33, 34, 35, 36, 37, 38, 39] (by decide +kernel) (by decide +kernel)
set_option maxRecDepth 20000 in
theorem gX1_reworks_X1_told : GoodIn wsX1_reworks (wsV RX1 109 RX1 yX1_told wsX1_told) := goodIn_app (goodIn_of _ (by decide +kernel)) ggX1_reworks_X1_told
theorem dX1_reworks_0 : decode cX1_reworks 0 = .ok (.aload_n 0, 1) := by decide +kernel
theorem dX1_reworks_1 : decode cX1_reworks 1 = .ok (.aload_n 0, 1) := by decide +kernel
theorem dX1_reworks_2 : decode cX1_reworks 2 = .ok (.getfield 38, 3) := by decide +kernel
theorem dX1_reworks_5 : decode cX1_reworks 5 = .ok (.iload_n 1, 1) := by decide +kernel
theorem dX1_reworks_6 : decode cX1_reworks 6 = .ok (.invokevirtual 109, 3) := by decide +kernel
theorem dX1_reworks_9 : decode cX1_reworks 9 = .ok (.ireturn, 1) := by decide +kernel
set_option maxRecDepth 20000 in
theorem ggX1_nextFor_X1_isTool : GoodIn wsX1_nextFor wsX1_isTool := goodIn_r _ [10, 11, 12, 9, 13] (by decide +kernel) (by decide +kernel)
set_option maxRecDepth 20000 in
theorem gX1_nextFor_X1_isTool : GoodIn wsX1_nextFor (va_wsS RX1 73 yX1_isTool wsX1_isTool) := goodIn_app (goodIn_of _ (by decide +kernel)) ggX1_nextFor_X1_isTool
set_option maxRecDepth 20000 in
theorem ggX1_nextFor_X1_isBusy : GoodIn wsX1_nextFor wsX1_isBusy := goodIn_r _ [17, 2, 3, 5, 6, 34, 35, 36, 37, 38, 39, 40, 41, 42, 43, 44, 45, 46, 47, 48, 49, 50, 51, 52, 53] (by decide +kernel) (by decide +kernel)
set_option maxRecDepth 20000 in
theorem gX1_nextFor_X1_isBusy : GoodIn wsX1_nextFor (wsV RX1 94 RX1 yX1_isBusy wsX1_isBusy) := goodIn_app (goodIn_of _ (by decide +kernel)) ggX1_nextFor_X1_isBusy
set_option maxRecDepth 20000 in
theorem ggX1_nextFor_X1_tooLate : GoodIn wsX1_nextFor wsX1_tooLate := goodIn_r _ [21, 3, 22, 6, 23, 24, 25, 9, 26, 27, 28, 34, 35, 36, 37, 38, 39, 40, 41, 42, 43, 44, 45, 46, 47, 48, 49, 50, 51, 52, 53] (by decide +kernel) (by decide +kernel)
set_option maxRecDepth 20000 in
theorem gX1_nextFor_X1_tooLate : GoodIn wsX1_nextFor (wsV RX1 91 RX1 yX1_tooLate wsX1_tooLate) := goodIn_app (goodIn_of _ (by decide +kernel)) ggX1_nextFor_X1_tooLate
set_option maxRecDepth 20000 in
theorem ggX1_nextFor_X1_left : GoodIn wsX1_nextFor wsX1_left := goodIn_r _ [32, 22, 6, 33, 23, 24, 25, 9, 26, 27, 28, 34, 35, 36, 37, 38, 39, 40, 41, 42, 43, 44, 45, 46, 47, 48, 49, 50, 51, 52, 53] (by decide +kernel) (by decide +kernel)
set_option maxRecDepth 20000 in
theorem gX1_nextFor_X1_left : GoodIn wsX1_nextFor (wsV RX1 114 RX1 yX1_left wsX1_left) := goodIn_app (goodIn_of _ (by decide +kernel)) ggX1_nextFor_X1_left
theorem dX1_nextFor_0 : decode cX1_nextFor 0 = .ok (.aload_n 0, 1) := by decide +kernel
theorem dX1_nextFor_1 : decode cX1_nextFor 1 = .ok (.iload_n 1, 1) := by decide +kernel
theorem dX1_nextFor_2 : decode cX1_nextFor 2 = .ok (.invokestatic 73, 3) := by decide +kernel
theorem dX1_nextFor_5 : decode cX1_nextFor 5 = .ok (.ifCond .eq 7, 3) := by decide +kernel
theorem dX1_nextFor_8 : decode cX1_nextFor 8 = .ok (.iconst 0, 1) := by decide +kernel
theorem dX1_nextFor_9 : decode cX1_nextFor 9 = .ok (.goto 4, 3) := by decide +kernel
theorem dX1_nextFor_12 : decode cX1_nextFor 12 = .ok (.iconst 1, 1) := by decide +kernel
theorem dX1_nextFor_13 : decode cX1_nextFor 13 = .ok (.putfield 56, 3) := by decide +kernel
theorem dX1_nextFor_16 : decode cX1_nextFor 16 = .ok (.aload_n 0, 1) := by decide +kernel
theorem dX1_nextFor_17 : decode cX1_nextFor 17 = .ok (.getfield 56, 3) := by decide +kernel
theorem dX1_nextFor_20 : decode cX1_nextFor 20 = .ok (.ifCond .le 5, 3) := by decide +kernel
theorem dX1_nextFor_23 : decode cX1_nextFor 23 = .ok (.iconst 0, 1) := by decide +kernel
theorem dX1_nextFor_24 : decode cX1_nextFor 24 = .ok (.ireturn, 1) := by decide +kernel
theorem dX1_nextFor_25 : decode cX1_nextFor 25 = .ok (.iconst (-1), 1) := by decide +kernel
theorem dX1_nextFor_26 : decode cX1_nextFor 26 = .ok (.istore_n 2, 1) := by decide +kernel
theorem dX1_nextFor_27 : decode cX1_nextFor 27 = .ok (.iconst 0, 1) := by decide +kernel
theorem dX1_nextFor_28 : decode cX1_nextFor 28 = .ok (.istore_n 3, 1) := by decide +kernel
theorem dX1_nextFor_29 : decode cX1_nextFor 29 = .ok (.iload_n 3, 1) := by decide +kernel
theorem dX1_nextFor_30 : decode cX1_nextFor 30 = .ok (.aload_n 0, 1) := by decide +kernel
theorem dX1_nextFor_31 : decode cX1_nextFor 31 = .ok (.getfield 64, 3) := by decide +kernel
theorem dX1_nextFor_34 : decode cX1_nextFor 34 = .ok (.if_icmp .ge 94, 3) := by decide +kernel
theorem dX1_nextFor_37 : decode cX1_nextFor 37 = .ok (.aload_n 0, 1) := by decide +kernel
theorem dX1_nextFor_38 : decode cX1_nextFor 38 = .ok (.iload_n 1, 1) := by decide +kernel
theorem dX1_nextFor_39 : decode cX1_nextFor 39 = .ok (.invokevirtual 94, 3) := by decide +kernel
theorem dX1_nextFor_42 : decode cX1_nextFor 42 = .ok (.ifCond .ne 86, 3) := by decide +kernel
theorem dX1_nextFor_45 : decode cX1_nextFor 45 = .ok (.aload_n 0, 1) := by decide +kernel
theorem dX1_nextFor_46 : decode cX1_nextFor 46 = .ok (.getfield 22, 3) := by decide +kernel
theorem dX1_nextFor_49 : decode cX1_nextFor 49 = .ok (.iload_n 3, 1) := by decide +kernel
theorem dX1_nextFor_50 : decode cX1_nextFor 50 = .ok (.iaload, 1) := by decide +kernel
theorem dX1_nextFor_51 : decode cX1_nextFor 51 = .ok (.ifCond .ne 39, 3) := by decide +kernel
theorem dX1_nextFor_54 : decode cX1_nextFor 54 = .ok (.aload_n 0, 1) := by decide +kernel
theorem dX1_nextFor_55 : decode cX1_nextFor 55 = .ok (.getfield 34, 3) := by decide +kernel
theorem dX1_nextFor_58 : decode cX1_nextFor 58 = .ok (.iload_n 3, 1) := by decide +kernel
theorem dX1_nextFor_59 : decode cX1_nextFor 59 = .ok (.baload, 1) := by decide +kernel
theorem dX1_nextFor_60 : decode cX1_nextFor 60 = .ok (.ifCond .ne 30, 3) := by decide +kernel
theorem dX1_nextFor_63 : decode cX1_nextFor 63 = .ok (.aload_n 0, 1) := by decide +kernel
theorem dX1_nextFor_64 : decode cX1_nextFor 64 = .ok (.iload_n 3, 1) := by decide +kernel
theorem dX1_nextFor_65 : decode cX1_nextFor 65 = .ok (.invokevirtual 91, 3) := by decide +kernel
theorem dX1_nextFor_68 : decode cX1_nextFor 68 = .ok (.ifCond .ne 22, 3) := by decide +kernel
theorem dX1_nextFor_71 : decode cX1_nextFor 71 = .ok (.aload_n 0, 1) := by decide +kernel
theorem dX1_nextFor_72 : decode cX1_nextFor 72 = .ok (.getfield 7, 3) := by decide +kernel
theorem dX1_nextFor_75 : decode cX1_nextFor 75 = .ok (.aload_n 0, 1) := by decide +kernel
theorem dX1_nextFor_76 : decode cX1_nextFor 76 = .ok (.getfield 25, 3) := by decide +kernel
theorem dX1_nextFor_79 : decode cX1_nextFor 79 = .ok (.iload_n 3, 1) := by decide +kernel
theorem dX1_nextFor_80 : decode cX1_nextFor 80 = .ok (.iaload, 1) := by decide +kernel
theorem dX1_nextFor_81 : decode cX1_nextFor 81 = .ok (.iaload, 1) := by decide +kernel
theorem dX1_nextFor_82 : decode cX1_nextFor 82 = .ok (.iload_n 1, 1) := by decide +kernel
theorem dX1_nextFor_83 : decode cX1_nextFor 83 = .ok (.if_icmp .ne 7, 3) := by decide +kernel
theorem dX1_nextFor_86 : decode cX1_nextFor 86 = .ok (.iconst 1, 1) := by decide +kernel
theorem dX1_nextFor_87 : decode cX1_nextFor 87 = .ok (.goto 4, 3) := by decide +kernel
theorem dX1_nextFor_90 : decode cX1_nextFor 90 = .ok (.iconst 0, 1) := by decide +kernel
theorem dX1_nextFor_91 : decode cX1_nextFor 91 = .ok (.istore 4, 2) := by decide +kernel
theorem dX1_nextFor_93 : decode cX1_nextFor 93 = .ok (.iload 4, 2) := by decide +kernel
theorem dX1_nextFor_95 : decode cX1_nextFor 95 = .ok (.ifCond .eq 25, 3) := by decide +kernel
theorem dX1_nextFor_98 : decode cX1_nextFor 98 = .ok (.iload_n 2, 1) := by decide +kernel
theorem dX1_nextFor_99 : decode cX1_nextFor 99 = .ok (.iconst (-1), 1) := by decide +kernel
theorem dX1_nextFor_100 : decode cX1_nextFor 100 = .ok (.if_icmp .eq 16, 3) := by decide +kernel
theorem dX1_nextFor_103 : decode cX1_nextFor 103 = .ok (.aload_n 0, 1) := by decide +kernel
theorem dX1_nextFor_104 : decode cX1_nextFor 104 = .ok (.iload_n 3, 1) := by decide +kernel
theorem dX1_nextFor_105 : decode cX1_nextFor 105 = .ok (.invokevirtual 114, 3) := by decide +kernel
theorem dX1_nextFor_108 : decode cX1_nextFor 108 = .ok (.aload_n 0, 1) := by decide +kernel
theorem dX1_nextFor_109 : decode cX1_nextFor 109 = .ok (.iload_n 2, 1) := by decide +kernel
theorem dX1_nextFor_110 : decode cX1_nextFor 110 = .ok (.invokevirtual 114, 3) := by decide +kernel
theorem dX1_nextFor_113 : decode cX1_nextFor 113 = .ok (.if_icmp .ge 7, 3) := by decide +kernel
theorem dX1_nextFor_116 : decode cX1_nextFor 116 = .ok (.iload_n 3, 1) := by decide +kernel
theorem dX1_nextFor_117 : decode cX1_nextFor 117 = .ok (.goto 4, 3) := by decide +kernel
theorem dX1_nextFor_120 : decode cX1_nextFor 120 = .ok (.iload_n 2, 1) := by decide +kernel
theorem dX1_nextFor_121 : decode cX1_nextFor 121 = .ok (.istore_n 2, 1) := by decide +kernel
theorem dX1_nextFor_122 : decode cX1_nextFor 122 = .ok (.iinc 3 1, 3) := by decide +kernel
theorem dX1_nextFor_125 : decode cX1_nextFor 125 = .ok (.goto (-96), 3) := by decide +kernel
theorem dX1_nextFor_128 : decode cX1_nextFor 128 = .ok (.iload_n 2, 1) := by decide +kernel
theorem dX1_nextFor_129 : decode cX1_nextFor 129 = .ok (.ireturn, 1) := by decide +kernel
set_option maxRecDepth 20000 in
theorem ggX1_at_X1_in : GoodIn wsX1_at wsX1_in := goodIn_r _ [9] (by decide +kernel) (by decide +kernel)
set_option maxRecDepth 20000 in
theorem gX1_at_X1_in : GoodIn wsX1_at (va_wsS RX1 60 yX1_in wsX1_in) := goodIn_app (goodIn_of _ (by decide +kernel)) ggX1_at_X1_in
set_option maxRecDepth 20000 in
theorem ggX1_at_X1_count : GoodIn wsX1_at wsX1_count := goodIn_r _ [13, 14, 15, 16, 17, 18, 19, 20, 21, 22, 23, 24, 25, 26, 27, 28, 29, 30, 31, 32, 33, 34, 35] (by decide +kernel) (by decide +kernel)
set_option maxRecDepth 20000 in
theorem gX1_at_X1_count : GoodIn wsX1_at (wsV RX1 97 RX1 yX1_count wsX1_count) := goodIn_app (goodIn_of _ (by decide +kernel)) ggX1_at_X1_count
theorem dX1_at_0 : decode cX1_at 0 = .ok (.aload_n 0, 1) := by decide +kernel
theorem dX1_at_1 : decode cX1_at 1 = .ok (.iload_n 1, 1) := by decide +kernel
theorem dX1_at_2 : decode cX1_at 2 = .ok (.iconst 0, 1) := by decide +kernel
theorem dX1_at_3 : decode cX1_at 3 = .ok (.aload_n 0, 1) := by decide +kernel
theorem dX1_at_4 : decode cX1_at 4 = .ok (.getfield 70, 3) := by decide +kernel
theorem dX1_at_7 : decode cX1_at 7 = .ok (.iconst 1, 1) := by decide +kernel
theorem dX1_at_8 : decode cX1_at 8 = .ok (.isub, 1) := by decide +kernel
theorem dX1_at_9 : decode cX1_at 9 = .ok (.invokestatic 60, 3) := by decide +kernel
theorem dX1_at_12 : decode cX1_at 12 = .ok (.ifCond .eq 7, 3) := by decide +kernel
theorem dX1_at_15 : decode cX1_at 15 = .ok (.iconst 0, 1) := by decide +kernel
theorem dX1_at_16 : decode cX1_at 16 = .ok (.goto 4, 3) := by decide +kernel
theorem dX1_at_19 : decode cX1_at 19 = .ok (.iconst 1, 1) := by decide +kernel
theorem dX1_at_20 : decode cX1_at 20 = .ok (.putfield 56, 3) := by decide +kernel
theorem dX1_at_23 : decode cX1_at 23 = .ok (.iconst 0, 1) := by decide +kernel
theorem dX1_at_24 : decode cX1_at 24 = .ok (.istore_n 2, 1) := by decide +kernel
theorem dX1_at_25 : decode cX1_at 25 = .ok (.iconst 0, 1) := by decide +kernel
theorem dX1_at_26 : decode cX1_at 26 = .ok (.istore_n 3, 1) := by decide +kernel
theorem dX1_at_27 : decode cX1_at 27 = .ok (.iload_n 3, 1) := by decide +kernel
theorem dX1_at_28 : decode cX1_at 28 = .ok (.aload_n 0, 1) := by decide +kernel
theorem dX1_at_29 : decode cX1_at 29 = .ok (.getfield 64, 3) := by decide +kernel
theorem dX1_at_32 : decode cX1_at 32 = .ok (.if_icmp .ge 48, 3) := by decide +kernel
theorem dX1_at_35 : decode cX1_at 35 = .ok (.aload_n 0, 1) := by decide +kernel
theorem dX1_at_36 : decode cX1_at 36 = .ok (.getfield 56, 3) := by decide +kernel
theorem dX1_at_39 : decode cX1_at 39 = .ok (.ifCond .ne 41, 3) := by decide +kernel
theorem dX1_at_42 : decode cX1_at 42 = .ok (.iload_n 2, 1) := by decide +kernel
theorem dX1_at_43 : decode cX1_at 43 = .ok (.aload_n 0, 1) := by decide +kernel
theorem dX1_at_44 : decode cX1_at 44 = .ok (.getfield 22, 3) := by decide +kernel
theorem dX1_at_47 : decode cX1_at 47 = .ok (.iload_n 3, 1) := by decide +kernel
theorem dX1_at_48 : decode cX1_at 48 = .ok (.iaload, 1) := by decide +kernel
theorem dX1_at_49 : decode cX1_at 49 = .ok (.iconst 1, 1) := by decide +kernel
theorem dX1_at_50 : decode cX1_at 50 = .ok (.if_icmp .gt 21, 3) := by decide +kernel
theorem dX1_at_53 : decode cX1_at 53 = .ok (.aload_n 0, 1) := by decide +kernel
theorem dX1_at_54 : decode cX1_at 54 = .ok (.getfield 25, 3) := by decide +kernel
theorem dX1_at_57 : decode cX1_at 57 = .ok (.iload_n 3, 1) := by decide +kernel
theorem dX1_at_58 : decode cX1_at 58 = .ok (.iaload, 1) := by decide +kernel
theorem dX1_at_59 : decode cX1_at 59 = .ok (.iload_n 1, 1) := by decide +kernel
theorem dX1_at_60 : decode cX1_at 60 = .ok (.if_icmp .ne 11, 3) := by decide +kernel
theorem dX1_at_63 : decode cX1_at 63 = .ok (.aload_n 0, 1) := by decide +kernel
theorem dX1_at_64 : decode cX1_at 64 = .ok (.iload_n 3, 1) := by decide +kernel
theorem dX1_at_65 : decode cX1_at 65 = .ok (.invokevirtual 97, 3) := by decide +kernel
theorem dX1_at_68 : decode cX1_at 68 = .ok (.goto 4, 3) := by decide +kernel
theorem dX1_at_71 : decode cX1_at 71 = .ok (.iconst 0, 1) := by decide +kernel
theorem dX1_at_72 : decode cX1_at 72 = .ok (.iadd, 1) := by decide +kernel
theorem dX1_at_73 : decode cX1_at 73 = .ok (.istore_n 2, 1) := by decide +kernel
theorem dX1_at_74 : decode cX1_at 74 = .ok (.iinc 3 1, 3) := by decide +kernel
theorem dX1_at_77 : decode cX1_at 77 = .ok (.goto (-50), 3) := by decide +kernel
theorem dX1_at_80 : decode cX1_at 80 = .ok (.iload_n 2, 1) := by decide +kernel
theorem dX1_at_81 : decode cX1_at 81 = .ok (.ireturn, 1) := by decide +kernel
set_option maxRecDepth 20000 in
theorem ggX1_wafersAt_X1_at : GoodIn wsX1_wafersAt wsX1_at := goodIn_r _ [5, 6, 7, 8, 9, 10, 11, 12, 4, 13, 14, 15, 16, 17, 18, 19, 20, 21, 22, 23, 24, 25, 26, 27, 28, 29, 30, 31, 32, 33, 34, 35, 36, 37, 38, 39] (by decide +kernel) (by decide +kernel)
set_option maxRecDepth 20000 in
theorem gX1_wafersAt_X1_at : GoodIn wsX1_wafersAt (wsV RX1 118 RX1 yX1_at wsX1_at) := goodIn_app (goodIn_of _ (by decide +kernel)) ggX1_wafersAt_X1_at
theorem dX1_wafersAt_0 : decode cX1_wafersAt 0 = .ok (.aload_n 0, 1) := by decide +kernel
theorem dX1_wafersAt_1 : decode cX1_wafersAt 1 = .ok (.iload_n 1, 1) := by decide +kernel
theorem dX1_wafersAt_2 : decode cX1_wafersAt 2 = .ok (.invokevirtual 118, 3) := by decide +kernel
theorem dX1_wafersAt_5 : decode cX1_wafersAt 5 = .ok (.ireturn, 1) := by decide +kernel
set_option maxRecDepth 20000 in
theorem ggX1_wafersAtByWafers_X1_at : GoodIn wsX1_wafersAtByWafers wsX1_at := goodIn_r _ [5, 6, 7, 8, 9, 10, 11, 12, 4, 13, 14, 15, 16, 17, 18, 19, 20, 21, 22, 23, 24, 25, 26, 27, 28, 29, 30, 31, 32, 33, 34, 35, 36, 37, 38, 39] (by decide +kernel) (by decide +kernel)
set_option maxRecDepth 20000 in
theorem gX1_wafersAtByWafers_X1_at : GoodIn wsX1_wafersAtByWafers (wsV RX1 118 RX1 yX1_at wsX1_at) := goodIn_app (goodIn_of _ (by decide +kernel)) ggX1_wafersAtByWafers_X1_at
theorem dX1_wafersAtByWafers_0 : decode cX1_wafersAtByWafers 0 = .ok (.aload_n 0, 1) := by decide +kernel
theorem dX1_wafersAtByWafers_1 : decode cX1_wafersAtByWafers 1 = .ok (.iload_n 1, 1) := by decide +kernel
theorem dX1_wafersAtByWafers_2 : decode cX1_wafersAtByWafers 2 = .ok (.invokevirtual 118, 3) := by decide +kernel
theorem dX1_wafersAtByWafers_5 : decode cX1_wafersAtByWafers 5 = .ok (.ireturn, 1) := by decide +kernel
set_option maxRecDepth 20000 in
theorem ggX1_lotOf_X1_isWafer : GoodIn wsX1_lotOf wsX1_isWafer := goodIn_r _ [7, 8, 9, 10, 6, 11, 16, 17, 18, 19, 20, 21, 22, 23, 24, 25, 26, 27, 28, 29, 30, 31, 32, 33, 34, 35] (by decide +kernel) (by decide +kernel)
set_option maxRecDepth 20000 in
theorem gX1_lotOf_X1_isWafer : GoodIn wsX1_lotOf (wsV RX1 103 RX1 yX1_isWafer wsX1_isWafer) := goodIn_app (goodIn_of _ (by decide +kernel)) ggX1_lotOf_X1_isWafer
set_option maxRecDepth 20000 in
theorem ggX1_lotOf_X1_fails : GoodIn wsX1_lotOf wsX1_fails := goodIn_r _ [15, 1, 16, 17, 18, 19, 20, 21, 22, 23, 24, 25, 26, 27, 28, 29, 30, 31, 32, 33, 34, 35] (by decide +kernel) (by decide +kernel)
set_option maxRecDepth 20000 in
theorem gX1_lotOf_X1_fails : GoodIn wsX1_lotOf (wsV RX1 106 RX1 yX1_fails wsX1_fails) := goodIn_app (goodIn_of _ (by decide +kernel)) ggX1_lotOf_X1_fails
theorem dX1_lotOf_0 : decode cX1_lotOf 0 = .ok (.aload_n 0, 1) := by decide +kernel
theorem dX1_lotOf_1 : decode cX1_lotOf 1 = .ok (.iconst 0, 1) := by decide +kernel
theorem dX1_lotOf_2 : decode cX1_lotOf 2 = .ok (.putfield 56, 3) := by decide +kernel
theorem dX1_lotOf_5 : decode cX1_lotOf 5 = .ok (.aload_n 0, 1) := by decide +kernel
theorem dX1_lotOf_6 : decode cX1_lotOf 6 = .ok (.iload_n 1, 1) := by decide +kernel
theorem dX1_lotOf_7 : decode cX1_lotOf 7 = .ok (.invokevirtual 103, 3) := by decide +kernel
theorem dX1_lotOf_10 : decode cX1_lotOf 10 = .ok (.ifCond .eq 12, 3) := by decide +kernel
theorem dX1_lotOf_13 : decode cX1_lotOf 13 = .ok (.aload_n 0, 1) := by decide +kernel
theorem dX1_lotOf_14 : decode cX1_lotOf 14 = .ok (.getfield 44, 3) := by decide +kernel
theorem dX1_lotOf_17 : decode cX1_lotOf 17 = .ok (.iload_n 1, 1) := by decide +kernel
theorem dX1_lotOf_18 : decode cX1_lotOf 18 = .ok (.iaload, 1) := by decide +kernel
theorem dX1_lotOf_19 : decode cX1_lotOf 19 = .ok (.goto 8, 3) := by decide +kernel
theorem dX1_lotOf_22 : decode cX1_lotOf 22 = .ok (.aload_n 0, 1) := by decide +kernel
theorem dX1_lotOf_23 : decode cX1_lotOf 23 = .ok (.iconst 1, 1) := by decide +kernel
theorem dX1_lotOf_24 : decode cX1_lotOf 24 = .ok (.invokevirtual 106, 3) := by decide +kernel
theorem dX1_lotOf_27 : decode cX1_lotOf 27 = .ok (.ireturn, 1) := by decide +kernel
set_option maxRecDepth 20000 in
theorem ggX1_parentOf_X1_told : GoodIn wsX1_parentOf wsX1_told := goodIn_r _ [6, 7, 8, 9, 10, 5, 11, 12, 13, 14, 15, 16, 17, 18, 19, 20, 21, 22, 23, 24, 25, 26, 27, 28, 29, 30, 31, 32, 33, 34, 35, 36, 37, 38, 39] (by decide +kernel) (by decide +kernel)
set_option maxRecDepth 20000 in
theorem gX1_parentOf_X1_told : GoodIn wsX1_parentOf (wsV RX1 109 RX1 yX1_told wsX1_told) := goodIn_app (goodIn_of _ (by decide +kernel)) ggX1_parentOf_X1_told
theorem dX1_parentOf_0 : decode cX1_parentOf 0 = .ok (.aload_n 0, 1) := by decide +kernel
theorem dX1_parentOf_1 : decode cX1_parentOf 1 = .ok (.aload_n 0, 1) := by decide +kernel
theorem dX1_parentOf_2 : decode cX1_parentOf 2 = .ok (.getfield 41, 3) := by decide +kernel
theorem dX1_parentOf_5 : decode cX1_parentOf 5 = .ok (.iload_n 1, 1) := by decide +kernel
theorem dX1_parentOf_6 : decode cX1_parentOf 6 = .ok (.invokevirtual 109, 3) := by decide +kernel
theorem dX1_parentOf_9 : decode cX1_parentOf 9 = .ok (.ireturn, 1) := by decide +kernel
set_option maxRecDepth 20000 in
theorem ggX1_common_X1_isLot : GoodIn wsX1_common wsX1_isLot := goodIn_r _ [8, 9, 10, 11, 7, 12, 13, 14, 15, 16, 17, 18, 19, 20, 21, 22, 23, 24, 25, 26, 27, 28, 29, 30, 31, 32] (by decide +kernel) (by decide +kernel)
set_option maxRecDepth 20000 in
theorem gX1_common_X1_isLot : GoodIn wsX1_common (wsV RX1 88 RX1 yX1_isLot wsX1_isLot) := goodIn_app (goodIn_of _ (by decide +kernel)) ggX1_common_X1_isLot
theorem dX1_common_0 : decode cX1_common 0 = .ok (.aload_n 0, 1) := by decide +kernel
theorem dX1_common_1 : decode cX1_common 1 = .ok (.aload_n 0, 1) := by decide +kernel
theorem dX1_common_2 : decode cX1_common 2 = .ok (.iload_n 1, 1) := by decide +kernel
theorem dX1_common_3 : decode cX1_common 3 = .ok (.invokevirtual 88, 3) := by decide +kernel
theorem dX1_common_6 : decode cX1_common 6 = .ok (.ifCond .eq 15, 3) := by decide +kernel
theorem dX1_common_9 : decode cX1_common 9 = .ok (.aload_n 0, 1) := by decide +kernel
theorem dX1_common_10 : decode cX1_common 10 = .ok (.iload_n 2, 1) := by decide +kernel
theorem dX1_common_11 : decode cX1_common 11 = .ok (.invokevirtual 88, 3) := by decide +kernel
theorem dX1_common_14 : decode cX1_common 14 = .ok (.ifCond .eq 7, 3) := by decide +kernel
theorem dX1_common_17 : decode cX1_common 17 = .ok (.iconst 0, 1) := by decide +kernel
theorem dX1_common_18 : decode cX1_common 18 = .ok (.goto 4, 3) := by decide +kernel
theorem dX1_common_21 : decode cX1_common 21 = .ok (.iconst 1, 1) := by decide +kernel
theorem dX1_common_22 : decode cX1_common 22 = .ok (.putfield 56, 3) := by decide +kernel
theorem dX1_common_25 : decode cX1_common 25 = .ok (.aload_n 0, 1) := by decide +kernel
theorem dX1_common_26 : decode cX1_common 26 = .ok (.getfield 56, 3) := by decide +kernel
theorem dX1_common_29 : decode cX1_common 29 = .ok (.ifCond .le 5, 3) := by decide +kernel
theorem dX1_common_32 : decode cX1_common 32 = .ok (.iconst 0, 1) := by decide +kernel
theorem dX1_common_33 : decode cX1_common 33 = .ok (.ireturn, 1) := by decide +kernel
theorem dX1_common_34 : decode cX1_common 34 = .ok (.iconst 0, 1) := by decide +kernel
theorem dX1_common_35 : decode cX1_common 35 = .ok (.istore_n 3, 1) := by decide +kernel
theorem dX1_common_36 : decode cX1_common 36 = .ok (.iload_n 3, 1) := by decide +kernel
theorem dX1_common_37 : decode cX1_common 37 = .ok (.bipush 24, 2) := by decide +kernel
theorem dX1_common_39 : decode cX1_common 39 = .ok (.if_icmp .ge 16, 3) := by decide +kernel
theorem dX1_common_42 : decode cX1_common 42 = .ok (.aload_n 0, 1) := by decide +kernel
theorem dX1_common_43 : decode cX1_common 43 = .ok (.getfield 53, 3) := by decide +kernel
theorem dX1_common_46 : decode cX1_common 46 = .ok (.iload_n 3, 1) := by decide +kernel
theorem dX1_common_47 : decode cX1_common 47 = .ok (.iconst 0, 1) := by decide +kernel
theorem dX1_common_48 : decode cX1_common 48 = .ok (.bastore, 1) := by decide +kernel
theorem dX1_common_49 : decode cX1_common 49 = .ok (.iinc 3 1, 3) := by decide +kernel
theorem dX1_common_52 : decode cX1_common 52 = .ok (.goto (-16), 3) := by decide +kernel
theorem dX1_common_55 : decode cX1_common 55 = .ok (.iload_n 2, 1) := by decide +kernel
theorem dX1_common_56 : decode cX1_common 56 = .ok (.istore_n 3, 1) := by decide +kernel
theorem dX1_common_57 : decode cX1_common 57 = .ok (.iload_n 3, 1) := by decide +kernel
theorem dX1_common_58 : decode cX1_common 58 = .ok (.iconst (-1), 1) := by decide +kernel
theorem dX1_common_59 : decode cX1_common 59 = .ok (.if_icmp .eq 20, 3) := by decide +kernel
theorem dX1_common_62 : decode cX1_common 62 = .ok (.aload_n 0, 1) := by decide +kernel
theorem dX1_common_63 : decode cX1_common 63 = .ok (.getfield 53, 3) := by decide +kernel
theorem dX1_common_66 : decode cX1_common 66 = .ok (.iload_n 3, 1) := by decide +kernel
theorem dX1_common_67 : decode cX1_common 67 = .ok (.iconst 1, 1) := by decide +kernel
theorem dX1_common_68 : decode cX1_common 68 = .ok (.bastore, 1) := by decide +kernel
theorem dX1_common_69 : decode cX1_common 69 = .ok (.aload_n 0, 1) := by decide +kernel
theorem dX1_common_70 : decode cX1_common 70 = .ok (.getfield 41, 3) := by decide +kernel
theorem dX1_common_73 : decode cX1_common 73 = .ok (.iload_n 3, 1) := by decide +kernel
theorem dX1_common_74 : decode cX1_common 74 = .ok (.iaload, 1) := by decide +kernel
theorem dX1_common_75 : decode cX1_common 75 = .ok (.istore_n 3, 1) := by decide +kernel
theorem dX1_common_76 : decode cX1_common 76 = .ok (.goto (-19), 3) := by decide +kernel
theorem dX1_common_79 : decode cX1_common 79 = .ok (.iload_n 1, 1) := by decide +kernel
theorem dX1_common_80 : decode cX1_common 80 = .ok (.istore_n 3, 1) := by decide +kernel
theorem dX1_common_81 : decode cX1_common 81 = .ok (.iload_n 3, 1) := by decide +kernel
theorem dX1_common_82 : decode cX1_common 82 = .ok (.iconst (-1), 1) := by decide +kernel
theorem dX1_common_83 : decode cX1_common 83 = .ok (.if_icmp .eq 22, 3) := by decide +kernel
theorem dX1_common_86 : decode cX1_common 86 = .ok (.aload_n 0, 1) := by decide +kernel
theorem dX1_common_87 : decode cX1_common 87 = .ok (.getfield 53, 3) := by decide +kernel
theorem dX1_common_90 : decode cX1_common 90 = .ok (.iload_n 3, 1) := by decide +kernel
theorem dX1_common_91 : decode cX1_common 91 = .ok (.baload, 1) := by decide +kernel
theorem dX1_common_92 : decode cX1_common 92 = .ok (.ifCond .ne 13, 3) := by decide +kernel
theorem dX1_common_95 : decode cX1_common 95 = .ok (.aload_n 0, 1) := by decide +kernel
theorem dX1_common_96 : decode cX1_common 96 = .ok (.getfield 41, 3) := by decide +kernel
theorem dX1_common_99 : decode cX1_common 99 = .ok (.iload_n 3, 1) := by decide +kernel
theorem dX1_common_100 : decode cX1_common 100 = .ok (.iaload, 1) := by decide +kernel
theorem dX1_common_101 : decode cX1_common 101 = .ok (.istore_n 3, 1) := by decide +kernel
theorem dX1_common_102 : decode cX1_common 102 = .ok (.goto (-21), 3) := by decide +kernel
theorem dX1_common_105 : decode cX1_common 105 = .ok (.iload_n 3, 1) := by decide +kernel
theorem dX1_common_106 : decode cX1_common 106 = .ok (.ireturn, 1) := by decide +kernel
set_option maxRecDepth 20000 in
theorem ggX1_path_X1_isWafer : GoodIn wsX1_path wsX1_isWafer := goodIn_r _ [7, 8, 9, 10, 6, 11, 16, 17, 18, 19, 20, 21, 22, 23, 24, 25, 26, 27, 28, 29, 30, 31, 32, 33, 34, 35] (by decide +kernel) (by decide +kernel)
set_option maxRecDepth 20000 in
theorem gX1_path_X1_isWafer : GoodIn wsX1_path (wsV RX1 103 RX1 yX1_isWafer wsX1_isWafer) := goodIn_app (goodIn_of _ (by decide +kernel)) ggX1_path_X1_isWafer
set_option maxRecDepth 20000 in
theorem ggX1_path_X1_fails : GoodIn wsX1_path wsX1_fails := goodIn_r _ [15, 1, 16, 17, 18, 19, 20, 21, 22, 23, 24, 25, 26, 27, 28, 29, 30, 31, 32, 33, 34, 35] (by decide +kernel) (by decide +kernel)
set_option maxRecDepth 20000 in
theorem gX1_path_X1_fails : GoodIn wsX1_path (wsV RX1 106 RX1 yX1_fails wsX1_fails) := goodIn_app (goodIn_of _ (by decide +kernel)) ggX1_path_X1_fails
theorem dX1_path_0 : decode cX1_path 0 = .ok (.aload_n 0, 1) := by decide +kernel
theorem dX1_path_1 : decode cX1_path 1 = .ok (.iconst 0, 1) := by decide +kernel
theorem dX1_path_2 : decode cX1_path 2 = .ok (.putfield 56, 3) := by decide +kernel
theorem dX1_path_5 : decode cX1_path 5 = .ok (.aload_n 0, 1) := by decide +kernel
theorem dX1_path_6 : decode cX1_path 6 = .ok (.iload_n 1, 1) := by decide +kernel
theorem dX1_path_7 : decode cX1_path 7 = .ok (.invokevirtual 103, 3) := by decide +kernel
theorem dX1_path_10 : decode cX1_path 10 = .ok (.ifCond .eq 12, 3) := by decide +kernel
theorem dX1_path_13 : decode cX1_path 13 = .ok (.aload_n 0, 1) := by decide +kernel
theorem dX1_path_14 : decode cX1_path 14 = .ok (.getfield 47, 3) := by decide +kernel
theorem dX1_path_17 : decode cX1_path 17 = .ok (.iload_n 1, 1) := by decide +kernel
theorem dX1_path_18 : decode cX1_path 18 = .ok (.iaload, 1) := by decide +kernel
theorem dX1_path_19 : decode cX1_path 19 = .ok (.goto 8, 3) := by decide +kernel
theorem dX1_path_22 : decode cX1_path 22 = .ok (.aload_n 0, 1) := by decide +kernel
theorem dX1_path_23 : decode cX1_path 23 = .ok (.iconst 1, 1) := by decide +kernel
theorem dX1_path_24 : decode cX1_path 24 = .ok (.invokevirtual 106, 3) := by decide +kernel
theorem dX1_path_27 : decode cX1_path 27 = .ok (.ireturn, 1) := by decide +kernel
set_option maxRecDepth 20000 in
theorem ggX1_pathAt_X1_isWafer : GoodIn wsX1_pathAt wsX1_isWafer := goodIn_r _ [8, 9, 10, 11, 7, 12, 13, 14, 15, 16, 17, 18, 19, 20, 21, 22, 23, 24, 25, 26, 27, 28, 29, 30, 31, 32] (by decide +kernel) (by decide +kernel)
set_option maxRecDepth 20000 in
theorem gX1_pathAt_X1_isWafer : GoodIn wsX1_pathAt (wsV RX1 103 RX1 yX1_isWafer wsX1_isWafer) := goodIn_app (goodIn_of _ (by decide +kernel)) ggX1_pathAt_X1_isWafer
set_option maxRecDepth 20000 in
theorem ggX1_pathAt_X1_in : GoodIn wsX1_pathAt wsX1_in := goodIn_r _ [12] (by decide +kernel) (by decide +kernel)
set_option maxRecDepth 20000 in
theorem gX1_pathAt_X1_in : GoodIn wsX1_pathAt (va_wsS RX1 60 yX1_in wsX1_in) := goodIn_app (goodIn_of _ (by decide +kernel)) ggX1_pathAt_X1_in
theorem dX1_pathAt_0 : decode cX1_pathAt 0 = .ok (.aload_n 0, 1) := by decide +kernel
theorem dX1_pathAt_1 : decode cX1_pathAt 1 = .ok (.aload_n 0, 1) := by decide +kernel
theorem dX1_pathAt_2 : decode cX1_pathAt 2 = .ok (.iload_n 1, 1) := by decide +kernel
theorem dX1_pathAt_3 : decode cX1_pathAt 3 = .ok (.invokevirtual 103, 3) := by decide +kernel
theorem dX1_pathAt_6 : decode cX1_pathAt 6 = .ok (.ifCond .eq 23, 3) := by decide +kernel
theorem dX1_pathAt_9 : decode cX1_pathAt 9 = .ok (.iload_n 2, 1) := by decide +kernel
theorem dX1_pathAt_10 : decode cX1_pathAt 10 = .ok (.iconst 0, 1) := by decide +kernel
theorem dX1_pathAt_11 : decode cX1_pathAt 11 = .ok (.aload_n 0, 1) := by decide +kernel
theorem dX1_pathAt_12 : decode cX1_pathAt 12 = .ok (.getfield 47, 3) := by decide +kernel
theorem dX1_pathAt_15 : decode cX1_pathAt 15 = .ok (.iload_n 1, 1) := by decide +kernel
theorem dX1_pathAt_16 : decode cX1_pathAt 16 = .ok (.iaload, 1) := by decide +kernel
theorem dX1_pathAt_17 : decode cX1_pathAt 17 = .ok (.iconst 1, 1) := by decide +kernel
theorem dX1_pathAt_18 : decode cX1_pathAt 18 = .ok (.isub, 1) := by decide +kernel
theorem dX1_pathAt_19 : decode cX1_pathAt 19 = .ok (.invokestatic 60, 3) := by decide +kernel
theorem dX1_pathAt_22 : decode cX1_pathAt 22 = .ok (.ifCond .eq 7, 3) := by decide +kernel
theorem dX1_pathAt_25 : decode cX1_pathAt 25 = .ok (.iconst 0, 1) := by decide +kernel
theorem dX1_pathAt_26 : decode cX1_pathAt 26 = .ok (.goto 4, 3) := by decide +kernel
theorem dX1_pathAt_29 : decode cX1_pathAt 29 = .ok (.iconst 1, 1) := by decide +kernel
theorem dX1_pathAt_30 : decode cX1_pathAt 30 = .ok (.putfield 56, 3) := by decide +kernel
theorem dX1_pathAt_33 : decode cX1_pathAt 33 = .ok (.aload_n 0, 1) := by decide +kernel
theorem dX1_pathAt_34 : decode cX1_pathAt 34 = .ok (.getfield 56, 3) := by decide +kernel
theorem dX1_pathAt_37 : decode cX1_pathAt 37 = .ok (.ifCond .le 7, 3) := by decide +kernel
theorem dX1_pathAt_40 : decode cX1_pathAt 40 = .ok (.iconst 0, 1) := by decide +kernel
theorem dX1_pathAt_41 : decode cX1_pathAt 41 = .ok (.goto 14, 3) := by decide +kernel
theorem dX1_pathAt_44 : decode cX1_pathAt 44 = .ok (.aload_n 0, 1) := by decide +kernel
theorem dX1_pathAt_45 : decode cX1_pathAt 45 = .ok (.getfield 50, 3) := by decide +kernel
theorem dX1_pathAt_48 : decode cX1_pathAt 48 = .ok (.bipush 48, 2) := by decide +kernel
theorem dX1_pathAt_50 : decode cX1_pathAt 50 = .ok (.iload_n 1, 1) := by decide +kernel
theorem dX1_pathAt_51 : decode cX1_pathAt 51 = .ok (.imul, 1) := by decide +kernel
theorem dX1_pathAt_52 : decode cX1_pathAt 52 = .ok (.iload_n 2, 1) := by decide +kernel
theorem dX1_pathAt_53 : decode cX1_pathAt 53 = .ok (.iadd, 1) := by decide +kernel
theorem dX1_pathAt_54 : decode cX1_pathAt 54 = .ok (.iaload, 1) := by decide +kernel
theorem dX1_pathAt_55 : decode cX1_pathAt 55 = .ok (.ireturn, 1) := by decide +kernel
end
section
set_option maxRecDepth 20000 in
theorem ggL_law_X0_init : GoodIn wsL_law wsX0_init := goodIn_r _ [9, 10, 11, 12, 13, 14, 15, 16, 17, 18, 19, 20, 21, 22, 23, 24, 25, 26, 27, 28, 29, 30, 31, 32, 33, 488, 489, 490, 491, 492, 493, 494, 495, 496, 497, 498, 499, 500, 501, 502, 503, 504, 505] (by decide +kernel) (by decide +kernel)
set_option maxRecDepth 20000 in
theorem gL_law_X0_init : GoodIn wsL_law (wsX0_init) := ggL_law_X0_init
set_option maxRecDepth 20000 in
theorem ggL_law_X1_init : GoodIn wsL_law wsX1_init := goodIn_r _ [36, 37, 11, 12, 13, 38, 39, 40, 41, 42, 43, 44, 45, 22, 46, 47, 48, 49, 50, 51, 52, 53, 506, 507, 508, 509, 510, 511, 512, 513, 514, 515, 516, 517, 518, 519, 520, 521, 522, 523, 524, 525] (by decide +kernel) (by decide +kernel)
set_option maxRecDepth 20000 in
theorem gL_law_X1_init : GoodIn wsL_law (wsX1_init) := ggL_law_X1_init
set_option maxRecDepth 20000 in
theorem ggL_law_L_addStep : GoodIn wsL_law wsL_addStep := goodIn_ca (goodIn_ca (goodIn_ca (goodIn_r _ [57, 58, 59, 60, 61, 62, 63, 2, 64, 65, 66, 67, 68, 18, 27, 14, 15, 16, 17, 69, 70, 71, 72, 73, 74, 75, 76, 488, 489, 490, 491, 492, 493, 494, 495, 496, 497, 498, 499, 500, 501, 502, 503, 504, 505] (by decide +kernel) (by decide +kernel)) (goodIn_sub (fun _ h => List.mem_append_left _ (List.mem_append_left _ (List.mem_append_right _ h))) (by decide +kernel))) (goodIn_sub (fun _ h => List.mem_append_left _ (List.mem_append_right _ h)) (by decide +kernel))) (goodIn_sub (fun _ h => List.mem_append_right _ h) (by decide +kernel))
set_option maxRecDepth 20000 in
theorem gL_law_L_addStep : GoodIn wsL_law (va_wsS RL 93 yL_addStep wsL_addStep) := goodIn_app (goodIn_of _ (by decide +kernel)) ggL_law_L_addStep
set_option maxRecDepth 20000 in
theorem ggL_law_X1_addStep : GoodIn wsL_law wsX1_addStep := goodIn_r _ [80, 81, 82, 53, 38, 39, 40, 41, 83, 84, 5, 85, 86, 87, 88, 506, 507, 508, 509, 510, 511, 512, 513, 514, 515, 516, 517, 518, 519, 520, 521, 522, 523, 524, 525] (by decide +kernel) (by decide +kernel)
set_option maxRecDepth 20000 in
theorem gL_law_X1_addStep : GoodIn wsL_law (wsV RL 98 RX1 yX1_addStep wsX1_addStep) := goodIn_app (goodIn_of _ (by decide +kernel)) ggL_law_X1_addStep
set_option maxRecDepth 20000 in
theorem ggL_law_X1_thrown : GoodIn wsL_law wsX1_thrown := goodIn_r _ [92, 53, 506, 507, 508, 509, 510, 511, 512, 513, 514, 515, 516, 517, 518, 519, 520, 521, 522, 523, 524, 525] (by decide +kernel) (by decide +kernel)
set_option maxRecDepth 20000 in
theorem gL_law_X1_thrown : GoodIn wsL_law (wsV RL 99 RX1 yX1_thrown wsX1_thrown) := goodIn_app (goodIn_of _ (by decide +kernel)) ggL_law_X1_thrown
set_option maxRecDepth 20000 in
theorem ggL_law_L_enter : GoodIn wsL_law wsL_enter := goodIn_ca (goodIn_ca (goodIn_r _ [95, 59, 60, 96, 97, 98, 2, 99, 65, 66, 67, 68, 18, 27, 32, 33, 74, 75, 76, 100, 101, 102, 103, 19, 20, 21, 23, 24, 25, 26, 104, 105, 106, 107, 31, 108, 109, 110, 111, 28, 30, 488, 489, 490, 491, 492, 493, 494, 495, 496, 497, 498, 499, 500, 501, 502, 503, 504, 505] (by decide +kernel) (by decide +kernel)) (goodIn_sub (fun _ h => List.mem_append_left _ (List.mem_append_left _ (List.mem_append_right _ h))) (by decide +kernel))) (goodIn_sub (fun _ h => List.mem_append_left _ (List.mem_append_right _ h)) (by decide +kernel))
set_option maxRecDepth 20000 in
theorem gL_law_L_enter : GoodIn wsL_law (va_wsS RL 103 yL_enter wsL_enter) := goodIn_app (goodIn_of _ (by decide +kernel)) ggL_law_L_enter
set_option maxRecDepth 20000 in
theorem ggL_law_X1_enter : GoodIn wsL_law wsX1_enter := goodIn_r _ [115, 81, 82, 116, 53, 48, 44, 117, 83, 84, 5, 85, 118, 119, 120, 121, 49, 51, 50, 506, 507, 508, 509, 510, 511, 512, 513, 514, 515, 516, 517, 518, 519, 520, 521, 522, 523, 524, 525] (by decide +kernel) (by decide +kernel)
set_option maxRecDepth 20000 in
theorem gL_law_X1_enter : GoodIn wsL_law (wsV RL 106 RX1 yX1_enter wsX1_enter) := goodIn_app (goodIn_of _ (by decide +kernel)) ggL_law_X1_enter
set_option maxRecDepth 20000 in
theorem ggL_law_L_start : GoodIn wsL_law wsL_start := goodIn_ca (goodIn_ca (goodIn_r _ [124, 58, 60, 125, 126, 127, 2, 128, 67, 68, 20, 14, 19, 21, 33, 15, 129, 130, 131, 132, 72, 73, 133, 134, 135, 136, 27, 137, 138, 139, 140, 141, 142, 143, 144, 23, 145, 146, 147, 148, 149, 16, 150, 151, 152, 153, 154, 18, 155, 156, 157, 158, 159, 160, 161, 162, 488, 489, 490, 491, 492, 493, 494, 495, 496, 497, 498, 499, 500, 501, 502, 503, 504, 505] (by decide +kernel) (by decide +kernel)) (goodIn_sub (fun _ h => List.mem_append_left _ (List.mem_append_right _ h)) (by decide +kernel))) (goodIn_sub (fun _ h => List.mem_append_right _ h) (by decide +kernel))
set_option maxRecDepth 20000 in
theorem gL_law_L_start : GoodIn wsL_law (va_wsS RL 107 yL_start wsL_start) := goodIn_app (goodIn_of _ (by decide +kernel)) ggL_law_L_start
set_option maxRecDepth 20000 in
theorem ggL_law_X1_start : GoodIn wsL_law wsX1_start := goodIn_r _ [166, 53, 42, 46, 38, 43, 45, 117, 39, 167, 168, 169, 5, 170, 82, 83, 84, 85, 171, 172, 173, 174, 40, 175, 176, 177, 178, 44, 179, 180, 181, 182, 506, 507, 508, 509, 510, 511, 512, 513, 514, 515, 516, 517, 518, 519, 520, 521, 522, 523, 524, 525] (by decide +kernel) (by decide +kernel)
set_option maxRecDepth 20000 in
theorem gL_law_X1_start : GoodIn wsL_law (wsV RL 109 RX1 yX1_start wsX1_start) := goodIn_app (goodIn_of _ (by decide +kernel)) ggL_law_X1_start
set_option maxRecDepth 20000 in
theorem ggL_law_L_rework : GoodIn wsL_law wsL_rework := goodIn_ca (goodIn_ca (goodIn_r _ [185, 58, 60, 186, 187, 188, 2, 189, 67, 68, 20, 24, 17, 21, 33, 129, 130, 131, 132, 72, 73, 133, 134, 135, 136, 27, 141, 142, 143, 144, 19, 23, 151, 152, 153, 154, 18, 488, 489, 490, 491, 492, 493, 494, 495, 496, 497, 498, 499, 500, 501, 502, 503, 504, 505] (by decide +kernel) (by decide +kernel)) (goodIn_sub (fun _ h => List.mem_append_left _ (List.mem_append_right _ h)) (by decide +kernel))) (goodIn_sub (fun _ h => List.mem_append_right _ h) (by decide +kernel))
set_option maxRecDepth 20000 in
theorem gL_law_L_rework : GoodIn wsL_law (va_wsS RL 110 yL_rework wsL_rework) := goodIn_app (goodIn_of _ (by decide +kernel)) ggL_law_L_rework
set_option maxRecDepth 20000 in
theorem ggL_law_X1_rework : GoodIn wsL_law wsX1_rework := goodIn_r _ [193, 42, 46, 47, 53, 43, 41, 44, 117, 167, 168, 169, 5, 170, 82, 83, 84, 85, 506, 507, 508, 509, 510, 511, 512, 513, 514, 515, 516, 517, 518, 519, 520, 521, 522, 523, 524, 525] (by decide +kernel) (by decide +kernel)
set_option maxRecDepth 20000 in
theorem gL_law_X1_rework : GoodIn wsL_law (wsV RL 112 RX1 yX1_rework wsX1_rework) := goodIn_app (goodIn_of _ (by decide +kernel)) ggL_law_X1_rework
set_option maxRecDepth 20000 in
theorem ggL_law_L_split : GoodIn wsL_law wsL_split := goodIn_ca (goodIn_ca (goodIn_ca (goodIn_r _ [196, 58, 59, 60, 197, 198, 199, 2, 200, 65, 66, 67, 68, 26, 19, 27, 20, 21, 23, 24, 129, 130, 131, 132, 72, 73, 133, 134, 135, 136, 74, 75, 76, 100, 101, 102, 103, 25, 201, 202, 203, 204, 32, 28, 108, 109, 110, 111, 31, 30, 488, 489, 490, 491, 492, 493, 494, 495, 496, 497, 498, 499, 500, 501, 502, 503, 504, 505] (by decide +kernel) (by decide +kernel)) (goodIn_sub (fun _ h => List.mem_append_left _ (List.mem_append_left _ (List.mem_append_right _ h))) (by decide +kernel))) (goodIn_sub (fun _ h => List.mem_append_left _ (List.mem_append_right _ h)) (by decide +kernel))) (goodIn_sub (fun _ h => List.mem_append_right _ h) (by decide +kernel))
set_option maxRecDepth 20000 in
theorem gL_law_L_split : GoodIn wsL_law (va_wsS RL 113 yL_split wsL_split) := goodIn_app (goodIn_of _ (by decide +kernel)) ggL_law_L_split
set_option maxRecDepth 20000 in
theorem ggL_law_X1_split : GoodIn wsL_law wsX1_split := goodIn_r _ [208, 42, 82, 53, 43, 44, 46, 47, 48, 116, 49, 167, 168, 169, 5, 170, 83, 84, 85, 209, 210, 211, 212, 118, 119, 120, 121, 51, 50, 506, 507, 508, 509, 510, 511, 512, 513, 514, 515, 516, 517, 518, 519, 520, 521, 522, 523, 524, 525] (by decide +kernel) (by decide +kernel)
set_option maxRecDepth 20000 in
theorem gL_law_X1_split : GoodIn wsL_law (wsV RL 116 RX1 yX1_split wsX1_split) := goodIn_app (goodIn_of _ (by decide +kernel)) ggL_law_X1_split
set_option maxRecDepth 20000 in
theorem ggL_law_L_merge : GoodIn wsL_law wsL_merge := goodIn_ca (goodIn_ca (goodIn_ca (goodIn_r _ [215, 58, 59, 60, 216, 217, 218, 2, 219, 65, 66, 67, 68, 20, 21, 220, 221, 222, 223, 24, 224, 225, 226, 26, 129, 130, 131, 132, 72, 73, 133, 134, 135, 136, 27, 141, 142, 143, 144, 19, 23, 201, 202, 203, 204, 32, 28, 108, 109, 110, 111, 31, 30, 227, 228, 229, 230, 488, 489, 490, 491, 492, 493, 494, 495, 496, 497, 498, 499, 500, 501, 502, 503, 504, 505] (by decide +kernel) (by decide +kernel)) (goodIn_sub (fun _ h => List.mem_append_left _ (List.mem_append_left _ (List.mem_append_right _ h))) (by decide +kernel))) (goodIn_sub (fun _ h => List.mem_append_left _ (List.mem_append_right _ h)) (by decide +kernel))) (goodIn_sub (fun _ h => List.mem_append_right _ h) (by decide +kernel))
set_option maxRecDepth 20000 in
theorem gL_law_L_merge : GoodIn wsL_law (va_wsS RL 117 yL_merge wsL_merge) := goodIn_app (goodIn_of _ (by decide +kernel)) ggL_law_L_merge
set_option maxRecDepth 20000 in
theorem ggL_law_X1_merge : GoodIn wsL_law wsX1_merge := goodIn_r _ [234, 43, 53, 116, 49, 44, 47, 42, 167, 168, 169, 5, 170, 82, 83, 84, 85, 235, 236, 237, 238, 46, 118, 119, 120, 121, 51, 50, 209, 210, 211, 212, 506, 507, 508, 509, 510, 511, 512, 513, 514, 515, 516, 517, 518, 519, 520, 521, 522, 523, 524, 525] (by decide +kernel) (by decide +kernel)
set_option maxRecDepth 20000 in
theorem gL_law_X1_merge : GoodIn wsL_law (wsV RL 119 RX1 yX1_merge wsX1_merge) := goodIn_app (goodIn_of _ (by decide +kernel)) ggL_law_X1_merge
set_option maxRecDepth 20000 in
theorem ggL_law_L_hold : GoodIn wsL_law wsL_hold := goodIn_ca (goodIn_ca (goodIn_r _ [241, 58, 60, 242, 243, 244, 2, 245, 67, 68, 19, 23, 129, 130, 131, 132, 72, 73, 133, 134, 135, 136, 27, 488, 489, 490, 491, 492, 493, 494, 495, 496, 497, 498, 499, 500, 501, 502, 503, 504, 505] (by decide +kernel) (by decide +kernel)) (goodIn_sub (fun _ h => List.mem_append_left _ (List.mem_append_right _ h)) (by decide +kernel))) (goodIn_sub (fun _ h => List.mem_append_right _ h) (by decide +kernel))
set_option maxRecDepth 20000 in
theorem gL_law_L_hold : GoodIn wsL_law (va_wsS RL 120 yL_hold wsL_hold) := goodIn_app (goodIn_of _ (by decide +kernel)) ggL_law_L_hold
set_option maxRecDepth 20000 in
theorem ggL_law_X1_hold : GoodIn wsL_law wsX1_hold := goodIn_r _ [249, 42, 53, 46, 167, 168, 169, 5, 170, 82, 83, 84, 85, 506, 507, 508, 509, 510, 511, 512, 513, 514, 515, 516, 517, 518, 519, 520, 521, 522, 523, 524, 525] (by decide +kernel) (by decide +kernel)
set_option maxRecDepth 20000 in
theorem gL_law_X1_hold : GoodIn wsL_law (wsV RL 123 RX1 yX1_hold wsX1_hold) := goodIn_app (goodIn_of _ (by decide +kernel)) ggL_law_X1_hold
set_option maxRecDepth 20000 in
theorem ggL_law_L_scrap : GoodIn wsL_law wsL_scrap := goodIn_ca (goodIn_ca (goodIn_r _ [252, 58, 60, 253, 254, 255, 2, 256, 67, 68, 28, 19, 26, 257, 258, 259, 260, 72, 73, 32, 133, 134, 135, 136, 27, 227, 228, 229, 230, 20, 488, 489, 490, 491, 492, 493, 494, 495, 496, 497, 498, 499, 500, 501, 502, 503, 504, 505] (by decide +kernel) (by decide +kernel)) (goodIn_sub (fun _ h => List.mem_append_left _ (List.mem_append_right _ h)) (by decide +kernel))) (goodIn_sub (fun _ h => List.mem_append_right _ h) (by decide +kernel))
set_option maxRecDepth 20000 in
theorem gL_law_L_scrap : GoodIn wsL_law (va_wsS RL 124 yL_scrap wsL_scrap) := goodIn_app (goodIn_of _ (by decide +kernel)) ggL_law_L_scrap
set_option maxRecDepth 20000 in
theorem ggL_law_X1_scrap : GoodIn wsL_law wsX1_scrap := goodIn_r _ [264, 49, 42, 53, 265, 266, 267, 5, 268, 116, 83, 84, 85, 209, 210, 211, 212, 506, 507, 508, 509, 510, 511, 512, 513, 514, 515, 516, 517, 518, 519, 520, 521, 522, 523, 524, 525] (by decide +kernel) (by decide +kernel)
set_option maxRecDepth 20000 in
theorem gL_law_X1_scrap : GoodIn wsL_law (wsV RL 126 RX1 yX1_scrap wsX1_scrap) := goodIn_app (goodIn_of _ (by decide +kernel)) ggL_law_X1_scrap
set_option maxRecDepth 20000 in
theorem ggL_law_L_advance : GoodIn wsL_law wsL_advance := goodIn_ca (goodIn_r _ [271, 59, 272, 273, 274, 2, 275, 65, 66, 33, 27, 19, 21, 74, 75, 76, 276, 277, 278, 279, 20, 151, 152, 153, 154, 18, 227, 228, 229, 230, 488, 489, 490, 491, 492, 493, 494, 495, 496, 497, 498, 499, 500, 501, 502, 503, 504, 505] (by decide +kernel) (by decide +kernel)) (goodIn_sub (fun _ h => List.mem_append_left _ (List.mem_append_left _ (List.mem_append_right _ h))) (by decide +kernel))
set_option maxRecDepth 20000 in
theorem gL_law_L_advance : GoodIn wsL_law (va_wsS RL 127 yL_advance wsL_advance) := goodIn_app (goodIn_of _ (by decide +kernel)) ggL_law_L_advance
set_option maxRecDepth 20000 in
theorem ggL_law_X1_advance : GoodIn wsL_law wsX1_advance := goodIn_r _ [283, 53, 117, 82, 42, 45, 43, 44, 81, 83, 84, 5, 85, 506, 507, 508, 509, 510, 511, 512, 513, 514, 515, 516, 517, 518, 519, 520, 521, 522, 523, 524, 525] (by decide +kernel) (by decide +kernel)
set_option maxRecDepth 20000 in
theorem gL_law_X1_advance : GoodIn wsL_law (wsV RL 129 RX1 yX1_advance wsX1_advance) := goodIn_app (goodIn_of _ (by decide +kernel)) ggL_law_X1_advance
set_option maxRecDepth 20000 in
theorem ggL_law_X0_time : GoodIn wsL_law wsX0_time := goodIn_r _ [287, 33, 488, 489, 490, 491, 492, 493, 494, 495, 496, 497, 498, 499, 500, 501, 502, 503, 504, 505] (by decide +kernel) (by decide +kernel)
set_option maxRecDepth 20000 in
theorem gL_law_X0_time : GoodIn wsL_law (wsV RL 130 RX0 yX0_time wsX0_time) := goodIn_app (goodIn_of _ (by decide +kernel)) ggL_law_X0_time
set_option maxRecDepth 20000 in
theorem ggL_law_X1_time : GoodIn wsL_law wsX1_time := goodIn_r _ [291, 53, 117, 506, 507, 508, 509, 510, 511, 512, 513, 514, 515, 516, 517, 518, 519, 520, 521, 522, 523, 524, 525] (by decide +kernel) (by decide +kernel)
set_option maxRecDepth 20000 in
theorem gL_law_X1_time : GoodIn wsL_law (wsV RL 133 RX1 yX1_time wsX1_time) := goodIn_app (goodIn_of _ (by decide +kernel)) ggL_law_X1_time
set_option maxRecDepth 20000 in
theorem ggL_law_X0_lots : GoodIn wsL_law wsX0_lots := goodIn_r _ [295, 27, 488, 489, 490, 491, 492, 493, 494, 495, 496, 497, 498, 499, 500, 501, 502, 503, 504, 505] (by decide +kernel) (by decide +kernel)
set_option maxRecDepth 20000 in
theorem gL_law_X0_lots : GoodIn wsL_law (wsV RL 134 RX0 yX0_lots wsX0_lots) := goodIn_app (goodIn_of _ (by decide +kernel)) ggL_law_X0_lots
set_option maxRecDepth 20000 in
theorem ggL_law_X1_lots : GoodIn wsL_law wsX1_lots := goodIn_r _ [299, 53, 82, 506, 507, 508, 509, 510, 511, 512, 513, 514, 515, 516, 517, 518, 519, 520, 521, 522, 523, 524, 525] (by decide +kernel) (by decide +kernel)
set_option maxRecDepth 20000 in
theorem gL_law_X1_lots : GoodIn wsL_law (wsV RL 137 RX1 yX1_lots wsX1_lots) := goodIn_app (goodIn_of _ (by decide +kernel)) ggL_law_X1_lots
set_option maxRecDepth 20000 in
theorem ggL_law_X0_wafers : GoodIn wsL_law wsX0_wafers := goodIn_r _ [303, 32, 488, 489, 490, 491, 492, 493, 494, 495, 496, 497, 498, 499, 500, 501, 502, 503, 504, 505] (by decide +kernel) (by decide +kernel)
set_option maxRecDepth 20000 in
theorem gL_law_X0_wafers : GoodIn wsL_law (wsV RL 138 RX0 yX0_wafers wsX0_wafers) := goodIn_app (goodIn_of _ (by decide +kernel)) ggL_law_X0_wafers
set_option maxRecDepth 20000 in
theorem ggL_law_X1_wafers : GoodIn wsL_law wsX1_wafers := goodIn_r _ [307, 53, 116, 506, 507, 508, 509, 510, 511, 512, 513, 514, 515, 516, 517, 518, 519, 520, 521, 522, 523, 524, 525] (by decide +kernel) (by decide +kernel)
set_option maxRecDepth 20000 in
theorem gL_law_X1_wafers : GoodIn wsL_law (wsV RL 141 RX1 yX1_wafers wsX1_wafers) := goodIn_app (goodIn_of _ (by decide +kernel)) ggL_law_X1_wafers
set_option maxRecDepth 20000 in
theorem ggL_law_L_state : GoodIn wsL_law wsL_state := goodIn_ca (goodIn_r _ [310, 58, 311, 312, 313, 2, 314, 19, 129, 130, 131, 132, 72, 73, 133, 134, 135, 136, 27, 488, 489, 490, 491, 492, 493, 494, 495, 496, 497, 498, 499, 500, 501, 502, 503, 504, 505] (by decide +kernel) (by decide +kernel)) (goodIn_sub (fun _ h => List.mem_append_right _ h) (by decide +kernel))
set_option maxRecDepth 20000 in
theorem gL_law_L_state : GoodIn wsL_law (va_wsS RL 142 yL_state wsL_state) := goodIn_app (goodIn_of _ (by decide +kernel)) ggL_law_L_state
set_option maxRecDepth 20000 in
theorem ggL_law_X1_state : GoodIn wsL_law wsX1_state := goodIn_r _ [318, 42, 319, 320, 321, 5, 322, 53, 167, 168, 169, 170, 82, 83, 84, 85, 323, 324, 325, 326, 506, 507, 508, 509, 510, 511, 512, 513, 514, 515, 516, 517, 518, 519, 520, 521, 522, 523, 524, 525] (by decide +kernel) (by decide +kernel)
set_option maxRecDepth 20000 in
theorem gL_law_X1_state : GoodIn wsL_law (wsV RL 144 RX1 yX1_state wsX1_state) := goodIn_app (goodIn_of _ (by decide +kernel)) ggL_law_X1_state
set_option maxRecDepth 20000 in
theorem ggL_law_L_stepOf : GoodIn wsL_law wsL_stepOf := goodIn_ca (goodIn_r _ [329, 58, 330, 331, 332, 2, 333, 20, 129, 130, 131, 132, 72, 73, 133, 134, 135, 136, 27, 488, 489, 490, 491, 492, 493, 494, 495, 496, 497, 498, 499, 500, 501, 502, 503, 504, 505] (by decide +kernel) (by decide +kernel)) (goodIn_sub (fun _ h => List.mem_append_right _ h) (by decide +kernel))
set_option maxRecDepth 20000 in
theorem gL_law_L_stepOf : GoodIn wsL_law (va_wsS RL 145 yL_stepOf wsL_stepOf) := goodIn_app (goodIn_of _ (by decide +kernel)) ggL_law_L_stepOf
set_option maxRecDepth 20000 in
theorem ggL_law_X1_stepOf : GoodIn wsL_law wsX1_stepOf := goodIn_r _ [337, 43, 53, 42, 319, 320, 321, 5, 322, 167, 168, 169, 170, 82, 83, 84, 85, 323, 324, 325, 326, 506, 507, 508, 509, 510, 511, 512, 513, 514, 515, 516, 517, 518, 519, 520, 521, 522, 523, 524, 525] (by decide +kernel) (by decide +kernel)
set_option maxRecDepth 20000 in
theorem gL_law_X1_stepOf : GoodIn wsL_law (wsV RL 147 RX1 yX1_stepOf wsX1_stepOf) := goodIn_app (goodIn_of _ (by decide +kernel)) ggL_law_X1_stepOf
set_option maxRecDepth 20000 in
theorem ggL_law_L_size : GoodIn wsL_law wsL_size := goodIn_ca (goodIn_r _ [340, 58, 341, 342, 343, 2, 344, 26, 129, 130, 131, 132, 72, 73, 133, 134, 135, 136, 27, 488, 489, 490, 491, 492, 493, 494, 495, 496, 497, 498, 499, 500, 501, 502, 503, 504, 505] (by decide +kernel) (by decide +kernel)) (goodIn_sub (fun _ h => List.mem_append_right _ h) (by decide +kernel))
set_option maxRecDepth 20000 in
theorem gL_law_L_size : GoodIn wsL_law (va_wsS RL 148 yL_size wsL_size) := goodIn_app (goodIn_of _ (by decide +kernel)) ggL_law_L_size
set_option maxRecDepth 20000 in
theorem ggL_law_X1_size : GoodIn wsL_law wsX1_size := goodIn_r _ [348, 53, 167, 168, 169, 5, 170, 82, 83, 84, 85, 209, 210, 211, 212, 116, 49, 323, 324, 325, 326, 506, 507, 508, 509, 510, 511, 512, 513, 514, 515, 516, 517, 518, 519, 520, 521, 522, 523, 524, 525] (by decide +kernel) (by decide +kernel)
set_option maxRecDepth 20000 in
theorem gL_law_X1_size : GoodIn wsL_law (wsV RL 150 RX1 yX1_size wsX1_size) := goodIn_app (goodIn_of _ (by decide +kernel)) ggL_law_X1_size
set_option maxRecDepth 20000 in
theorem ggL_law_L_slack : GoodIn wsL_law wsL_slack := goodIn_ca (goodIn_r _ [351, 58, 352, 353, 354, 2, 355, 129, 130, 131, 132, 72, 73, 133, 134, 135, 136, 27, 145, 146, 147, 148, 20, 19, 149, 16, 150, 33, 21, 151, 152, 153, 154, 18, 488, 489, 490, 491, 492, 493, 494, 495, 496, 497, 498, 499, 500, 501, 502, 503, 504, 505] (by decide +kernel) (by decide +kernel)) (goodIn_sub (fun _ h => List.mem_append_right _ h) (by decide +kernel))
set_option maxRecDepth 20000 in
theorem gL_law_L_slack : GoodIn wsL_law (va_wsS RL 151 yL_slack wsL_slack) := goodIn_app (goodIn_of _ (by decide +kernel)) ggL_law_L_slack
set_option maxRecDepth 20000 in
theorem ggL_law_X1_slack : GoodIn wsL_law wsX1_slack := goodIn_r _ [359, 53, 42, 360, 167, 168, 169, 5, 170, 82, 83, 84, 85, 361, 362, 363, 364, 40, 43, 365, 175, 176, 177, 178, 117, 44, 506, 507, 508, 509, 510, 511, 512, 513, 514, 515, 516, 517, 518, 519, 520, 521, 522, 523, 524, 525] (by decide +kernel) (by decide +kernel)
set_option maxRecDepth 20000 in
theorem gL_law_X1_slack : GoodIn wsL_law (wsV RL 153 RX1 yX1_slack wsX1_slack) := goodIn_app (goodIn_of _ (by decide +kernel)) ggL_law_X1_slack
set_option maxRecDepth 20000 in
theorem ggL_law_L_isLate : GoodIn wsL_law wsL_isLate := goodIn_ca (goodIn_r _ [368, 58, 369, 370, 371, 2, 372, 129, 130, 131, 132, 72, 73, 133, 134, 135, 136, 27, 145, 146, 147, 148, 20, 19, 149, 16, 150, 33, 21, 151, 152, 153, 154, 18, 488, 489, 490, 491, 492, 493, 494, 495, 496, 497, 498, 499, 500, 501, 502, 503, 504, 505] (by decide +kernel) (by decide +kernel)) (goodIn_sub (fun _ h => List.mem_append_right _ h) (by decide +kernel))
set_option maxRecDepth 20000 in
theorem gL_law_L_isLate : GoodIn wsL_law (va_wsS RL 154 yL_isLate wsL_isLate) := goodIn_app (goodIn_of _ (by decide +kernel)) ggL_law_L_isLate
set_option maxRecDepth 20000 in
theorem ggL_law_X1_isLate : GoodIn wsL_law wsX1_isLate := goodIn_r _ [376, 53, 167, 168, 169, 5, 170, 82, 83, 84, 85, 171, 172, 173, 174, 42, 40, 43, 175, 176, 177, 178, 117, 44, 506, 507, 508, 509, 510, 511, 512, 513, 514, 515, 516, 517, 518, 519, 520, 521, 522, 523, 524, 525] (by decide +kernel) (by decide +kernel)
set_option maxRecDepth 20000 in
theorem gL_law_X1_isLate : GoodIn wsL_law (wsV RL 156 RX1 yX1_isLate wsX1_isLate) := goodIn_app (goodIn_of _ (by decide +kernel)) ggL_law_X1_isLate
set_option maxRecDepth 20000 in
theorem ggL_law_L_reworks : GoodIn wsL_law wsL_reworks := goodIn_ca (goodIn_r _ [379, 58, 380, 381, 382, 2, 383, 24, 129, 130, 131, 132, 72, 73, 133, 134, 135, 136, 27, 488, 489, 490, 491, 492, 493, 494, 495, 496, 497, 498, 499, 500, 501, 502, 503, 504, 505] (by decide +kernel) (by decide +kernel)) (goodIn_sub (fun _ h => List.mem_append_right _ h) (by decide +kernel))
set_option maxRecDepth 20000 in
theorem gL_law_L_reworks : GoodIn wsL_law (va_wsS RL 157 yL_reworks wsL_reworks) := goodIn_app (goodIn_of _ (by decide +kernel)) ggL_law_L_reworks
set_option maxRecDepth 20000 in
theorem ggL_law_X1_reworks : GoodIn wsL_law wsX1_reworks := goodIn_r _ [387, 47, 319, 320, 321, 5, 322, 53, 167, 168, 169, 170, 82, 83, 84, 85, 323, 324, 325, 326, 506, 507, 508, 509, 510, 511, 512, 513, 514, 515, 516, 517, 518, 519, 520, 521, 522, 523, 524, 525] (by decide +kernel) (by decide +kernel)
set_option maxRecDepth 20000 in
theorem gL_law_X1_reworks : GoodIn wsL_law (wsV RL 159 RX1 yX1_reworks wsX1_reworks) := goodIn_app (goodIn_of _ (by decide +kernel)) ggL_law_X1_reworks
set_option maxRecDepth 20000 in
theorem ggL_law_L_nextFor : GoodIn wsL_law wsL_nextFor := goodIn_ca (goodIn_r _ [390, 58, 391, 392, 393, 2, 394, 149, 27, 69, 70, 71, 72, 73, 74, 75, 76, 155, 156, 157, 158, 19, 159, 160, 161, 162, 20, 14, 151, 152, 153, 154, 18, 137, 138, 139, 140, 141, 142, 143, 144, 23, 145, 146, 147, 148, 16, 150, 33, 21, 488, 489, 490, 491, 492, 493, 494, 495, 496, 497, 498, 499, 500, 501, 502, 503, 504, 505] (by decide +kernel) (by decide +kernel)) (goodIn_sub (fun _ h => List.mem_append_right _ h) (by decide +kernel))
set_option maxRecDepth 20000 in
theorem gL_law_L_nextFor : GoodIn wsL_law (va_wsS RL 160 yL_nextFor wsL_nextFor) := goodIn_app (goodIn_of _ (by decide +kernel)) ggL_law_L_nextFor
set_option maxRecDepth 20000 in
theorem ggL_law_X1_nextFor : GoodIn wsL_law wsX1_nextFor := goodIn_r _ [398, 53, 82, 42, 46, 38, 43, 86, 87, 5, 88, 83, 84, 85, 179, 180, 181, 182, 171, 172, 173, 174, 40, 175, 176, 177, 178, 117, 44, 361, 362, 363, 364, 365, 506, 507, 508, 509, 510, 511, 512, 513, 514, 515, 516, 517, 518, 519, 520, 521, 522, 523, 524, 525] (by decide +kernel) (by decide +kernel)
set_option maxRecDepth 20000 in
theorem gL_law_X1_nextFor : GoodIn wsL_law (wsV RL 162 RX1 yX1_nextFor wsX1_nextFor) := goodIn_app (goodIn_of _ (by decide +kernel)) ggL_law_X1_nextFor
set_option maxRecDepth 20000 in
theorem ggL_law_L_wafersAt : GoodIn wsL_law wsL_wafersAt := goodIn_ca (goodIn_r _ [401, 58, 402, 403, 404, 2, 405, 27, 20, 26, 406, 407, 408, 409, 72, 73, 151, 152, 153, 154, 18, 488, 489, 490, 491, 492, 493, 494, 495, 496, 497, 498, 499, 500, 501, 502, 503, 504, 505] (by decide +kernel) (by decide +kernel)) (goodIn_sub (fun _ h => List.mem_append_right _ h) (by decide +kernel))
set_option maxRecDepth 20000 in
theorem gL_law_L_wafersAt : GoodIn wsL_law (va_wsS RL 163 yL_wafersAt wsL_wafersAt) := goodIn_app (goodIn_of _ (by decide +kernel)) ggL_law_L_wafersAt
set_option maxRecDepth 20000 in
theorem ggL_law_X1_wafersAt : GoodIn wsL_law wsX1_wafersAt := goodIn_r _ [413, 414, 415, 416, 5, 417, 81, 53, 82, 42, 43, 83, 84, 85, 209, 210, 211, 212, 116, 49, 506, 507, 508, 509, 510, 511, 512, 513, 514, 515, 516, 517, 518, 519, 520, 521, 522, 523, 524, 525] (by decide +kernel) (by decide +kernel)
set_option maxRecDepth 20000 in
theorem gL_law_X1_wafersAt : GoodIn wsL_law (wsV RL 165 RX1 yX1_wafersAt wsX1_wafersAt) := goodIn_app (goodIn_of _ (by decide +kernel)) ggL_law_X1_wafersAt
set_option maxRecDepth 20000 in
theorem ggL_law_L_wafersAtByWafers : GoodIn wsL_law wsL_wafersAtByWafers := goodIn_ca (goodIn_r _ [420, 58, 421, 422, 423, 2, 424, 32, 28, 20, 406, 407, 408, 409, 72, 73, 151, 152, 153, 154, 18, 133, 134, 135, 136, 27, 488, 489, 490, 491, 492, 493, 494, 495, 496, 497, 498, 499, 500, 501, 502, 503, 504, 505] (by decide +kernel) (by decide +kernel)) (goodIn_sub (fun _ h => List.mem_append_right _ h) (by decide +kernel))
set_option maxRecDepth 20000 in
theorem gL_law_L_wafersAtByWafers : GoodIn wsL_law (va_wsS RL 166 yL_wafersAtByWafers wsL_wafersAtByWafers) := goodIn_app (goodIn_of _ (by decide +kernel)) ggL_law_L_wafersAtByWafers
set_option maxRecDepth 20000 in
theorem ggL_law_X1_wafersAtByWafers : GoodIn wsL_law wsX1_wafersAtByWafers := goodIn_r _ [428, 414, 415, 416, 5, 417, 81, 53, 82, 42, 43, 83, 84, 85, 209, 210, 211, 212, 116, 49, 506, 507, 508, 509, 510, 511, 512, 513, 514, 515, 516, 517, 518, 519, 520, 521, 522, 523, 524, 525] (by decide +kernel) (by decide +kernel)
set_option maxRecDepth 20000 in
theorem gL_law_X1_wafersAtByWafers : GoodIn wsL_law (wsV RL 168 RX1 yX1_wafersAtByWafers wsX1_wafersAtByWafers) := goodIn_app (goodIn_of _ (by decide +kernel)) ggL_law_X1_wafersAtByWafers
set_option maxRecDepth 20000 in
theorem ggL_law_L_lotOf : GoodIn wsL_law wsL_lotOf := goodIn_ca (goodIn_r _ [431, 58, 432, 433, 434, 2, 435, 28, 257, 258, 259, 260, 72, 73, 32, 488, 489, 490, 491, 492, 493, 494, 495, 496, 497, 498, 499, 500, 501, 502, 503, 504, 505] (by decide +kernel) (by decide +kernel)) (goodIn_sub (fun _ h => List.mem_append_right _ h) (by decide +kernel))
set_option maxRecDepth 20000 in
theorem gL_law_L_lotOf : GoodIn wsL_law (va_wsS RL 169 yL_lotOf wsL_lotOf) := goodIn_app (goodIn_of _ (by decide +kernel)) ggL_law_L_lotOf
set_option maxRecDepth 20000 in
theorem ggL_law_X1_lotOf : GoodIn wsL_law wsX1_lotOf := goodIn_r _ [439, 53, 49, 265, 266, 267, 5, 268, 116, 83, 84, 85, 323, 324, 325, 326, 506, 507, 508, 509, 510, 511, 512, 513, 514, 515, 516, 517, 518, 519, 520, 521, 522, 523, 524, 525] (by decide +kernel) (by decide +kernel)
set_option maxRecDepth 20000 in
theorem gL_law_X1_lotOf : GoodIn wsL_law (wsV RL 171 RX1 yX1_lotOf wsX1_lotOf) := goodIn_app (goodIn_of _ (by decide +kernel)) ggL_law_X1_lotOf
set_option maxRecDepth 20000 in
theorem ggL_law_L_parentOf : GoodIn wsL_law wsL_parentOf := goodIn_ca (goodIn_r _ [442, 58, 443, 444, 445, 2, 446, 25, 129, 130, 131, 132, 72, 73, 133, 134, 135, 136, 27, 488, 489, 490, 491, 492, 493, 494, 495, 496, 497, 498, 499, 500, 501, 502, 503, 504, 505] (by decide +kernel) (by decide +kernel)) (goodIn_sub (fun _ h => List.mem_append_right _ h) (by decide +kernel))
set_option maxRecDepth 20000 in
theorem gL_law_L_parentOf : GoodIn wsL_law (va_wsS RL 172 yL_parentOf wsL_parentOf) := goodIn_app (goodIn_of _ (by decide +kernel)) ggL_law_L_parentOf
set_option maxRecDepth 20000 in
theorem ggL_law_X1_parentOf : GoodIn wsL_law wsX1_parentOf := goodIn_r _ [450, 48, 319, 320, 321, 5, 322, 53, 167, 168, 169, 170, 82, 83, 84, 85, 323, 324, 325, 326, 506, 507, 508, 509, 510, 511, 512, 513, 514, 515, 516, 517, 518, 519, 520, 521, 522, 523, 524, 525] (by decide +kernel) (by decide +kernel)
set_option maxRecDepth 20000 in
theorem gL_law_X1_parentOf : GoodIn wsL_law (wsV RL 174 RX1 yX1_parentOf wsX1_parentOf) := goodIn_app (goodIn_of _ (by decide +kernel)) ggL_law_X1_parentOf
set_option maxRecDepth 20000 in
theorem ggL_law_L_common : GoodIn wsL_law wsL_common := goodIn_ca (goodIn_r _ [453, 58, 454, 455, 456, 2, 457, 129, 130, 131, 132, 72, 73, 133, 134, 135, 136, 27, 458, 459, 460, 461, 25, 488, 489, 490, 491, 492, 493, 494, 495, 496, 497, 498, 499, 500, 501, 502, 503, 504, 505] (by decide +kernel) (by decide +kernel)) (goodIn_sub (fun _ h => List.mem_append_right _ h) (by decide +kernel))
set_option maxRecDepth 20000 in
theorem gL_law_L_common : GoodIn wsL_law (va_wsS RL 175 yL_common wsL_common) := goodIn_app (goodIn_of _ (by decide +kernel)) ggL_law_L_common
set_option maxRecDepth 20000 in
theorem ggL_law_X1_common : GoodIn wsL_law wsX1_common := goodIn_r _ [465, 53, 52, 48, 167, 168, 169, 5, 170, 82, 83, 84, 85, 506, 507, 508, 509, 510, 511, 512, 513, 514, 515, 516, 517, 518, 519, 520, 521, 522, 523, 524, 525] (by decide +kernel) (by decide +kernel)
set_option maxRecDepth 20000 in
theorem gL_law_X1_common : GoodIn wsL_law (wsV RL 177 RX1 yX1_common wsX1_common) := goodIn_app (goodIn_of _ (by decide +kernel)) ggL_law_X1_common
set_option maxRecDepth 20000 in
theorem ggL_law_L_path : GoodIn wsL_law wsL_path := goodIn_ca (goodIn_r _ [468, 58, 469, 470, 471, 2, 472, 31, 257, 258, 259, 260, 72, 73, 32, 488, 489, 490, 491, 492, 493, 494, 495, 496, 497, 498, 499, 500, 501, 502, 503, 504, 505] (by decide +kernel) (by decide +kernel)) (goodIn_sub (fun _ h => List.mem_append_right _ h) (by decide +kernel))
set_option maxRecDepth 20000 in
theorem gL_law_L_path : GoodIn wsL_law (va_wsS RL 178 yL_path wsL_path) := goodIn_app (goodIn_of _ (by decide +kernel)) ggL_law_L_path
set_option maxRecDepth 20000 in
theorem ggL_law_X1_path : GoodIn wsL_law wsX1_path := goodIn_r _ [476, 53, 50, 265, 266, 267, 5, 268, 116, 83, 84, 85, 323, 324, 325, 326, 506, 507, 508, 509, 510, 511, 512, 513, 514, 515, 516, 517, 518, 519, 520, 521, 522, 523, 524, 525] (by decide +kernel) (by decide +kernel)
set_option maxRecDepth 20000 in
theorem gL_law_X1_path : GoodIn wsL_law (wsV RL 180 RX1 yX1_path wsX1_path) := goodIn_app (goodIn_of _ (by decide +kernel)) ggL_law_X1_path
set_option maxRecDepth 20000 in
theorem ggL_law_L_pathAt : GoodIn wsL_law wsL_pathAt := goodIn_ca (goodIn_r _ [479, 58, 480, 481, 482, 2, 483, 72, 73, 31, 30, 257, 258, 259, 260, 32, 74, 75, 76, 488, 489, 490, 491, 492, 493, 494, 495, 496, 497, 498, 499, 500, 501, 502, 503, 504, 505] (by decide +kernel) (by decide +kernel)) (goodIn_sub (fun _ h => List.mem_append_right _ h) (by decide +kernel))
set_option maxRecDepth 20000 in
theorem gL_law_L_pathAt : GoodIn wsL_law (va_wsS RL 181 yL_pathAt wsL_pathAt) := goodIn_app (goodIn_of _ (by decide +kernel)) ggL_law_L_pathAt
set_option maxRecDepth 20000 in
theorem ggL_law_X1_pathAt : GoodIn wsL_law wsX1_pathAt := goodIn_r _ [487, 50, 53, 51, 265, 266, 267, 5, 268, 116, 83, 84, 85, 506, 507, 508, 509, 510, 511, 512, 513, 514, 515, 516, 517, 518, 519, 520, 521, 522, 523, 524, 525] (by decide +kernel) (by decide +kernel)
set_option maxRecDepth 20000 in
theorem gL_law_X1_pathAt : GoodIn wsL_law (wsV RL 183 RX1 yX1_pathAt wsX1_pathAt) := goodIn_app (goodIn_of _ (by decide +kernel)) ggL_law_X1_pathAt
theorem dL_law_0 : decode cL_law 0 = .ok (.new 8, 3) := by decide +kernel
theorem dL_law_3 : decode cL_law 3 = .ok (.dup, 1) := by decide +kernel
theorem dL_law_4 : decode cL_law 4 = .ok (.invokespecial 89, 3) := by decide +kernel
theorem dL_law_7 : decode cL_law 7 = .ok (.astore_n 1, 1) := by decide +kernel
theorem dL_law_8 : decode cL_law 8 = .ok (.new 90, 3) := by decide +kernel
theorem dL_law_11 : decode cL_law 11 = .ok (.dup, 1) := by decide +kernel
theorem dL_law_12 : decode cL_law 12 = .ok (.invokespecial 92, 3) := by decide +kernel
theorem dL_law_15 : decode cL_law 15 = .ok (.astore_n 2, 1) := by decide +kernel
theorem dL_law_16 : decode cL_law 16 = .ok (.iconst 1, 1) := by decide +kernel
theorem dL_law_17 : decode cL_law 17 = .ok (.newarray .long, 2) := by decide +kernel
theorem dL_law_19 : decode cL_law 19 = .ok (.astore_n 3, 1) := by decide +kernel
theorem dL_law_20 : decode cL_law 20 = .ok (.iconst 0, 1) := by decide +kernel
theorem dL_law_21 : decode cL_law 21 = .ok (.istore 4, 2) := by decide +kernel
theorem dL_law_23 : decode cL_law 23 = .ok (.iload 4, 2) := by decide +kernel
theorem dL_law_25 : decode cL_law 25 = .ok (.aload_n 0, 1) := by decide +kernel
theorem dL_law_26 : decode cL_law 26 = .ok (.arraylength, 1) := by decide +kernel
theorem dL_law_27 : decode cL_law 27 = .ok (.iconst 5, 1) := by decide +kernel
theorem dL_law_28 : decode cL_law 28 = .ok (.isub, 1) := by decide +kernel
theorem dL_law_29 : decode cL_law 29 = .ok (.if_icmp .gt 1586, 3) := by decide +kernel
theorem dL_law_32 : decode cL_law 32 = .ok (.aload_n 0, 1) := by decide +kernel
theorem dL_law_33 : decode cL_law 33 = .ok (.iload 4, 2) := by decide +kernel
theorem dL_law_35 : decode cL_law 35 = .ok (.iaload, 1) := by decide +kernel
theorem dL_law_36 : decode cL_law 36 = .ok (.bipush 31, 2) := by decide +kernel
theorem dL_law_38 : decode cL_law 38 = .ok (.iand, 1) := by decide +kernel
theorem dL_law_39 : decode cL_law 39 = .ok (.tableswitch 1570 0 25 #[117, 209, 265, 321, 377, 445, 513, 604, 660, 716, 729, 742, 755, 811, 867, 923, 979, 1042, 1098, 1154, 1210, 1266, 1322, 1378, 1446, 1502], 117) := by decide +kernel
theorem dL_law_156 : decode cL_law 156 = .ok (.aload_n 1, 1) := by decide +kernel
theorem dL_law_157 : decode cL_law 157 = .ok (.aload_n 0, 1) := by decide +kernel
theorem dL_law_158 : decode cL_law 158 = .ok (.iload 4, 2) := by decide +kernel
theorem dL_law_160 : decode cL_law 160 = .ok (.iconst 1, 1) := by decide +kernel
theorem dL_law_161 : decode cL_law 161 = .ok (.iadd, 1) := by decide +kernel
theorem dL_law_162 : decode cL_law 162 = .ok (.iaload, 1) := by decide +kernel
theorem dL_law_163 : decode cL_law 163 = .ok (.aload_n 0, 1) := by decide +kernel
theorem dL_law_164 : decode cL_law 164 = .ok (.iload 4, 2) := by decide +kernel
theorem dL_law_166 : decode cL_law 166 = .ok (.iconst 2, 1) := by decide +kernel
theorem dL_law_167 : decode cL_law 167 = .ok (.iadd, 1) := by decide +kernel
theorem dL_law_168 : decode cL_law 168 = .ok (.iaload, 1) := by decide +kernel
theorem dL_law_169 : decode cL_law 169 = .ok (.aload_n 0, 1) := by decide +kernel
theorem dL_law_170 : decode cL_law 170 = .ok (.iload 4, 2) := by decide +kernel
theorem dL_law_172 : decode cL_law 172 = .ok (.iconst 3, 1) := by decide +kernel
theorem dL_law_173 : decode cL_law 173 = .ok (.iadd, 1) := by decide +kernel
theorem dL_law_174 : decode cL_law 174 = .ok (.iaload, 1) := by decide +kernel
theorem dL_law_175 : decode cL_law 175 = .ok (.aload_n 0, 1) := by decide +kernel
theorem dL_law_176 : decode cL_law 176 = .ok (.iload 4, 2) := by decide +kernel
theorem dL_law_178 : decode cL_law 178 = .ok (.iconst 4, 1) := by decide +kernel
theorem dL_law_179 : decode cL_law 179 = .ok (.iadd, 1) := by decide +kernel
theorem dL_law_180 : decode cL_law 180 = .ok (.iaload, 1) := by decide +kernel
theorem dL_law_181 : decode cL_law 181 = .ok (.aload_n 3, 1) := by decide +kernel
theorem dL_law_182 : decode cL_law 182 = .ok (.invokestatic 93, 3) := by decide +kernel
theorem dL_law_185 : decode cL_law 185 = .ok (.istore 5, 2) := by decide +kernel
theorem dL_law_187 : decode cL_law 187 = .ok (.aload_n 2, 1) := by decide +kernel
theorem dL_law_188 : decode cL_law 188 = .ok (.aload_n 0, 1) := by decide +kernel
theorem dL_law_189 : decode cL_law 189 = .ok (.iload 4, 2) := by decide +kernel
theorem dL_law_191 : decode cL_law 191 = .ok (.iconst 1, 1) := by decide +kernel
theorem dL_law_192 : decode cL_law 192 = .ok (.iadd, 1) := by decide +kernel
theorem dL_law_193 : decode cL_law 193 = .ok (.iaload, 1) := by decide +kernel
theorem dL_law_194 : decode cL_law 194 = .ok (.aload_n 0, 1) := by decide +kernel
theorem dL_law_195 : decode cL_law 195 = .ok (.iload 4, 2) := by decide +kernel
theorem dL_law_197 : decode cL_law 197 = .ok (.iconst 2, 1) := by decide +kernel
theorem dL_law_198 : decode cL_law 198 = .ok (.iadd, 1) := by decide +kernel
theorem dL_law_199 : decode cL_law 199 = .ok (.iaload, 1) := by decide +kernel
theorem dL_law_200 : decode cL_law 200 = .ok (.aload_n 0, 1) := by decide +kernel
theorem dL_law_201 : decode cL_law 201 = .ok (.iload 4, 2) := by decide +kernel
theorem dL_law_203 : decode cL_law 203 = .ok (.iconst 3, 1) := by decide +kernel
theorem dL_law_204 : decode cL_law 204 = .ok (.iadd, 1) := by decide +kernel
theorem dL_law_205 : decode cL_law 205 = .ok (.iaload, 1) := by decide +kernel
theorem dL_law_206 : decode cL_law 206 = .ok (.aload_n 0, 1) := by decide +kernel
theorem dL_law_207 : decode cL_law 207 = .ok (.iload 4, 2) := by decide +kernel
theorem dL_law_209 : decode cL_law 209 = .ok (.iconst 4, 1) := by decide +kernel
theorem dL_law_210 : decode cL_law 210 = .ok (.iadd, 1) := by decide +kernel
theorem dL_law_211 : decode cL_law 211 = .ok (.iaload, 1) := by decide +kernel
theorem dL_law_212 : decode cL_law 212 = .ok (.invokevirtual 98, 3) := by decide +kernel
theorem dL_law_215 : decode cL_law 215 = .ok (.istore 6, 2) := by decide +kernel
theorem dL_law_217 : decode cL_law 217 = .ok (.aload_n 2, 1) := by decide +kernel
theorem dL_law_218 : decode cL_law 218 = .ok (.invokevirtual 99, 3) := by decide +kernel
theorem dL_law_221 : decode cL_law 221 = .ok (.iload 5, 2) := by decide +kernel
theorem dL_law_223 : decode cL_law 223 = .ok (.if_icmp .eq 5, 3) := by decide +kernel
theorem dL_law_226 : decode cL_law 226 = .ok (.iconst 0, 1) := by decide +kernel
theorem dL_law_227 : decode cL_law 227 = .ok (.ireturn, 1) := by decide +kernel
theorem dL_law_228 : decode cL_law 228 = .ok (.iload 5, 2) := by decide +kernel
theorem dL_law_230 : decode cL_law 230 = .ok (.ifCond .ne 15, 3) := by decide +kernel
theorem dL_law_233 : decode cL_law 233 = .ok (.aload_n 3, 1) := by decide +kernel
theorem dL_law_234 : decode cL_law 234 = .ok (.iconst 0, 1) := by decide +kernel
theorem dL_law_235 : decode cL_law 235 = .ok (.laload, 1) := by decide +kernel
theorem dL_law_236 : decode cL_law 236 = .ok (.iload 6, 2) := by decide +kernel
theorem dL_law_238 : decode cL_law 238 = .ok (.i2l, 1) := by decide +kernel
theorem dL_law_239 : decode cL_law 239 = .ok (.lcmp, 1) := by decide +kernel
theorem dL_law_240 : decode cL_law 240 = .ok (.ifCond .eq 5, 3) := by decide +kernel
theorem dL_law_243 : decode cL_law 243 = .ok (.iconst 0, 1) := by decide +kernel
theorem dL_law_244 : decode cL_law 244 = .ok (.ireturn, 1) := by decide +kernel
theorem dL_law_245 : decode cL_law 245 = .ok (.goto 1364, 3) := by decide +kernel
theorem dL_law_248 : decode cL_law 248 = .ok (.aload_n 1, 1) := by decide +kernel
theorem dL_law_249 : decode cL_law 249 = .ok (.aload_n 0, 1) := by decide +kernel
theorem dL_law_250 : decode cL_law 250 = .ok (.iload 4, 2) := by decide +kernel
theorem dL_law_252 : decode cL_law 252 = .ok (.iconst 1, 1) := by decide +kernel
theorem dL_law_253 : decode cL_law 253 = .ok (.iadd, 1) := by decide +kernel
theorem dL_law_254 : decode cL_law 254 = .ok (.iaload, 1) := by decide +kernel
theorem dL_law_255 : decode cL_law 255 = .ok (.aload_n 3, 1) := by decide +kernel
theorem dL_law_256 : decode cL_law 256 = .ok (.invokestatic 103, 3) := by decide +kernel
theorem dL_law_259 : decode cL_law 259 = .ok (.istore 5, 2) := by decide +kernel
theorem dL_law_261 : decode cL_law 261 = .ok (.aload_n 2, 1) := by decide +kernel
theorem dL_law_262 : decode cL_law 262 = .ok (.aload_n 0, 1) := by decide +kernel
theorem dL_law_263 : decode cL_law 263 = .ok (.iload 4, 2) := by decide +kernel
theorem dL_law_265 : decode cL_law 265 = .ok (.iconst 1, 1) := by decide +kernel
theorem dL_law_266 : decode cL_law 266 = .ok (.iadd, 1) := by decide +kernel
theorem dL_law_267 : decode cL_law 267 = .ok (.iaload, 1) := by decide +kernel
theorem dL_law_268 : decode cL_law 268 = .ok (.invokevirtual 106, 3) := by decide +kernel
theorem dL_law_271 : decode cL_law 271 = .ok (.istore 6, 2) := by decide +kernel
theorem dL_law_273 : decode cL_law 273 = .ok (.aload_n 2, 1) := by decide +kernel
theorem dL_law_274 : decode cL_law 274 = .ok (.invokevirtual 99, 3) := by decide +kernel
theorem dL_law_277 : decode cL_law 277 = .ok (.iload 5, 2) := by decide +kernel
theorem dL_law_279 : decode cL_law 279 = .ok (.if_icmp .eq 5, 3) := by decide +kernel
theorem dL_law_282 : decode cL_law 282 = .ok (.iconst 0, 1) := by decide +kernel
theorem dL_law_283 : decode cL_law 283 = .ok (.ireturn, 1) := by decide +kernel
theorem dL_law_284 : decode cL_law 284 = .ok (.iload 5, 2) := by decide +kernel
theorem dL_law_286 : decode cL_law 286 = .ok (.ifCond .ne 15, 3) := by decide +kernel
theorem dL_law_289 : decode cL_law 289 = .ok (.aload_n 3, 1) := by decide +kernel
theorem dL_law_290 : decode cL_law 290 = .ok (.iconst 0, 1) := by decide +kernel
theorem dL_law_291 : decode cL_law 291 = .ok (.laload, 1) := by decide +kernel
theorem dL_law_292 : decode cL_law 292 = .ok (.iload 6, 2) := by decide +kernel
theorem dL_law_294 : decode cL_law 294 = .ok (.i2l, 1) := by decide +kernel
theorem dL_law_295 : decode cL_law 295 = .ok (.lcmp, 1) := by decide +kernel
theorem dL_law_296 : decode cL_law 296 = .ok (.ifCond .eq 5, 3) := by decide +kernel
theorem dL_law_299 : decode cL_law 299 = .ok (.iconst 0, 1) := by decide +kernel
theorem dL_law_300 : decode cL_law 300 = .ok (.ireturn, 1) := by decide +kernel
theorem dL_law_301 : decode cL_law 301 = .ok (.goto 1308, 3) := by decide +kernel
theorem dL_law_304 : decode cL_law 304 = .ok (.aload_n 1, 1) := by decide +kernel
theorem dL_law_305 : decode cL_law 305 = .ok (.aload_n 0, 1) := by decide +kernel
theorem dL_law_306 : decode cL_law 306 = .ok (.iload 4, 2) := by decide +kernel
theorem dL_law_308 : decode cL_law 308 = .ok (.iconst 1, 1) := by decide +kernel
theorem dL_law_309 : decode cL_law 309 = .ok (.iadd, 1) := by decide +kernel
theorem dL_law_310 : decode cL_law 310 = .ok (.iaload, 1) := by decide +kernel
theorem dL_law_311 : decode cL_law 311 = .ok (.aload_n 3, 1) := by decide +kernel
theorem dL_law_312 : decode cL_law 312 = .ok (.invokestatic 107, 3) := by decide +kernel
theorem dL_law_315 : decode cL_law 315 = .ok (.istore 5, 2) := by decide +kernel
theorem dL_law_317 : decode cL_law 317 = .ok (.aload_n 2, 1) := by decide +kernel
theorem dL_law_318 : decode cL_law 318 = .ok (.aload_n 0, 1) := by decide +kernel
theorem dL_law_319 : decode cL_law 319 = .ok (.iload 4, 2) := by decide +kernel
theorem dL_law_321 : decode cL_law 321 = .ok (.iconst 1, 1) := by decide +kernel
theorem dL_law_322 : decode cL_law 322 = .ok (.iadd, 1) := by decide +kernel
theorem dL_law_323 : decode cL_law 323 = .ok (.iaload, 1) := by decide +kernel
theorem dL_law_324 : decode cL_law 324 = .ok (.invokevirtual 109, 3) := by decide +kernel
theorem dL_law_327 : decode cL_law 327 = .ok (.istore 6, 2) := by decide +kernel
theorem dL_law_329 : decode cL_law 329 = .ok (.aload_n 2, 1) := by decide +kernel
theorem dL_law_330 : decode cL_law 330 = .ok (.invokevirtual 99, 3) := by decide +kernel
theorem dL_law_333 : decode cL_law 333 = .ok (.iload 5, 2) := by decide +kernel
theorem dL_law_335 : decode cL_law 335 = .ok (.if_icmp .eq 5, 3) := by decide +kernel
theorem dL_law_338 : decode cL_law 338 = .ok (.iconst 0, 1) := by decide +kernel
theorem dL_law_339 : decode cL_law 339 = .ok (.ireturn, 1) := by decide +kernel
theorem dL_law_340 : decode cL_law 340 = .ok (.iload 5, 2) := by decide +kernel
theorem dL_law_342 : decode cL_law 342 = .ok (.ifCond .ne 15, 3) := by decide +kernel
theorem dL_law_345 : decode cL_law 345 = .ok (.aload_n 3, 1) := by decide +kernel
theorem dL_law_346 : decode cL_law 346 = .ok (.iconst 0, 1) := by decide +kernel
theorem dL_law_347 : decode cL_law 347 = .ok (.laload, 1) := by decide +kernel
theorem dL_law_348 : decode cL_law 348 = .ok (.iload 6, 2) := by decide +kernel
theorem dL_law_350 : decode cL_law 350 = .ok (.i2l, 1) := by decide +kernel
theorem dL_law_351 : decode cL_law 351 = .ok (.lcmp, 1) := by decide +kernel
theorem dL_law_352 : decode cL_law 352 = .ok (.ifCond .eq 5, 3) := by decide +kernel
theorem dL_law_355 : decode cL_law 355 = .ok (.iconst 0, 1) := by decide +kernel
theorem dL_law_356 : decode cL_law 356 = .ok (.ireturn, 1) := by decide +kernel
theorem dL_law_357 : decode cL_law 357 = .ok (.goto 1252, 3) := by decide +kernel
theorem dL_law_360 : decode cL_law 360 = .ok (.aload_n 1, 1) := by decide +kernel
theorem dL_law_361 : decode cL_law 361 = .ok (.aload_n 0, 1) := by decide +kernel
theorem dL_law_362 : decode cL_law 362 = .ok (.iload 4, 2) := by decide +kernel
theorem dL_law_364 : decode cL_law 364 = .ok (.iconst 1, 1) := by decide +kernel
theorem dL_law_365 : decode cL_law 365 = .ok (.iadd, 1) := by decide +kernel
theorem dL_law_366 : decode cL_law 366 = .ok (.iaload, 1) := by decide +kernel
theorem dL_law_367 : decode cL_law 367 = .ok (.aload_n 3, 1) := by decide +kernel
theorem dL_law_368 : decode cL_law 368 = .ok (.invokestatic 110, 3) := by decide +kernel
theorem dL_law_371 : decode cL_law 371 = .ok (.istore 5, 2) := by decide +kernel
theorem dL_law_373 : decode cL_law 373 = .ok (.aload_n 2, 1) := by decide +kernel
theorem dL_law_374 : decode cL_law 374 = .ok (.aload_n 0, 1) := by decide +kernel
theorem dL_law_375 : decode cL_law 375 = .ok (.iload 4, 2) := by decide +kernel
theorem dL_law_377 : decode cL_law 377 = .ok (.iconst 1, 1) := by decide +kernel
theorem dL_law_378 : decode cL_law 378 = .ok (.iadd, 1) := by decide +kernel
theorem dL_law_379 : decode cL_law 379 = .ok (.iaload, 1) := by decide +kernel
theorem dL_law_380 : decode cL_law 380 = .ok (.invokevirtual 112, 3) := by decide +kernel
theorem dL_law_383 : decode cL_law 383 = .ok (.istore 6, 2) := by decide +kernel
theorem dL_law_385 : decode cL_law 385 = .ok (.aload_n 2, 1) := by decide +kernel
theorem dL_law_386 : decode cL_law 386 = .ok (.invokevirtual 99, 3) := by decide +kernel
theorem dL_law_389 : decode cL_law 389 = .ok (.iload 5, 2) := by decide +kernel
theorem dL_law_391 : decode cL_law 391 = .ok (.if_icmp .eq 5, 3) := by decide +kernel
theorem dL_law_394 : decode cL_law 394 = .ok (.iconst 0, 1) := by decide +kernel
theorem dL_law_395 : decode cL_law 395 = .ok (.ireturn, 1) := by decide +kernel
theorem dL_law_396 : decode cL_law 396 = .ok (.iload 5, 2) := by decide +kernel
theorem dL_law_398 : decode cL_law 398 = .ok (.ifCond .ne 15, 3) := by decide +kernel
theorem dL_law_401 : decode cL_law 401 = .ok (.aload_n 3, 1) := by decide +kernel
theorem dL_law_402 : decode cL_law 402 = .ok (.iconst 0, 1) := by decide +kernel
theorem dL_law_403 : decode cL_law 403 = .ok (.laload, 1) := by decide +kernel
theorem dL_law_404 : decode cL_law 404 = .ok (.iload 6, 2) := by decide +kernel
theorem dL_law_406 : decode cL_law 406 = .ok (.i2l, 1) := by decide +kernel
theorem dL_law_407 : decode cL_law 407 = .ok (.lcmp, 1) := by decide +kernel
theorem dL_law_408 : decode cL_law 408 = .ok (.ifCond .eq 5, 3) := by decide +kernel
theorem dL_law_411 : decode cL_law 411 = .ok (.iconst 0, 1) := by decide +kernel
theorem dL_law_412 : decode cL_law 412 = .ok (.ireturn, 1) := by decide +kernel
theorem dL_law_413 : decode cL_law 413 = .ok (.goto 1196, 3) := by decide +kernel
theorem dL_law_416 : decode cL_law 416 = .ok (.aload_n 1, 1) := by decide +kernel
theorem dL_law_417 : decode cL_law 417 = .ok (.aload_n 0, 1) := by decide +kernel
theorem dL_law_418 : decode cL_law 418 = .ok (.iload 4, 2) := by decide +kernel
theorem dL_law_420 : decode cL_law 420 = .ok (.iconst 1, 1) := by decide +kernel
theorem dL_law_421 : decode cL_law 421 = .ok (.iadd, 1) := by decide +kernel
theorem dL_law_422 : decode cL_law 422 = .ok (.iaload, 1) := by decide +kernel
theorem dL_law_423 : decode cL_law 423 = .ok (.aload_n 0, 1) := by decide +kernel
theorem dL_law_424 : decode cL_law 424 = .ok (.iload 4, 2) := by decide +kernel
theorem dL_law_426 : decode cL_law 426 = .ok (.iconst 2, 1) := by decide +kernel
theorem dL_law_427 : decode cL_law 427 = .ok (.iadd, 1) := by decide +kernel
theorem dL_law_428 : decode cL_law 428 = .ok (.iaload, 1) := by decide +kernel
theorem dL_law_429 : decode cL_law 429 = .ok (.aload_n 3, 1) := by decide +kernel
theorem dL_law_430 : decode cL_law 430 = .ok (.invokestatic 113, 3) := by decide +kernel
theorem dL_law_433 : decode cL_law 433 = .ok (.istore 5, 2) := by decide +kernel
theorem dL_law_435 : decode cL_law 435 = .ok (.aload_n 2, 1) := by decide +kernel
theorem dL_law_436 : decode cL_law 436 = .ok (.aload_n 0, 1) := by decide +kernel
theorem dL_law_437 : decode cL_law 437 = .ok (.iload 4, 2) := by decide +kernel
theorem dL_law_439 : decode cL_law 439 = .ok (.iconst 1, 1) := by decide +kernel
theorem dL_law_440 : decode cL_law 440 = .ok (.iadd, 1) := by decide +kernel
theorem dL_law_441 : decode cL_law 441 = .ok (.iaload, 1) := by decide +kernel
theorem dL_law_442 : decode cL_law 442 = .ok (.aload_n 0, 1) := by decide +kernel
theorem dL_law_443 : decode cL_law 443 = .ok (.iload 4, 2) := by decide +kernel
theorem dL_law_445 : decode cL_law 445 = .ok (.iconst 2, 1) := by decide +kernel
theorem dL_law_446 : decode cL_law 446 = .ok (.iadd, 1) := by decide +kernel
theorem dL_law_447 : decode cL_law 447 = .ok (.iaload, 1) := by decide +kernel
theorem dL_law_448 : decode cL_law 448 = .ok (.invokevirtual 116, 3) := by decide +kernel
theorem dL_law_451 : decode cL_law 451 = .ok (.istore 6, 2) := by decide +kernel
theorem dL_law_453 : decode cL_law 453 = .ok (.aload_n 2, 1) := by decide +kernel
theorem dL_law_454 : decode cL_law 454 = .ok (.invokevirtual 99, 3) := by decide +kernel
theorem dL_law_457 : decode cL_law 457 = .ok (.iload 5, 2) := by decide +kernel
theorem dL_law_459 : decode cL_law 459 = .ok (.if_icmp .eq 5, 3) := by decide +kernel
theorem dL_law_462 : decode cL_law 462 = .ok (.iconst 0, 1) := by decide +kernel
theorem dL_law_463 : decode cL_law 463 = .ok (.ireturn, 1) := by decide +kernel
theorem dL_law_464 : decode cL_law 464 = .ok (.iload 5, 2) := by decide +kernel
theorem dL_law_466 : decode cL_law 466 = .ok (.ifCond .ne 15, 3) := by decide +kernel
theorem dL_law_469 : decode cL_law 469 = .ok (.aload_n 3, 1) := by decide +kernel
theorem dL_law_470 : decode cL_law 470 = .ok (.iconst 0, 1) := by decide +kernel
theorem dL_law_471 : decode cL_law 471 = .ok (.laload, 1) := by decide +kernel
theorem dL_law_472 : decode cL_law 472 = .ok (.iload 6, 2) := by decide +kernel
theorem dL_law_474 : decode cL_law 474 = .ok (.i2l, 1) := by decide +kernel
theorem dL_law_475 : decode cL_law 475 = .ok (.lcmp, 1) := by decide +kernel
theorem dL_law_476 : decode cL_law 476 = .ok (.ifCond .eq 5, 3) := by decide +kernel
theorem dL_law_479 : decode cL_law 479 = .ok (.iconst 0, 1) := by decide +kernel
theorem dL_law_480 : decode cL_law 480 = .ok (.ireturn, 1) := by decide +kernel
theorem dL_law_481 : decode cL_law 481 = .ok (.goto 1128, 3) := by decide +kernel
theorem dL_law_484 : decode cL_law 484 = .ok (.aload_n 1, 1) := by decide +kernel
theorem dL_law_485 : decode cL_law 485 = .ok (.aload_n 0, 1) := by decide +kernel
theorem dL_law_486 : decode cL_law 486 = .ok (.iload 4, 2) := by decide +kernel
theorem dL_law_488 : decode cL_law 488 = .ok (.iconst 1, 1) := by decide +kernel
theorem dL_law_489 : decode cL_law 489 = .ok (.iadd, 1) := by decide +kernel
theorem dL_law_490 : decode cL_law 490 = .ok (.iaload, 1) := by decide +kernel
theorem dL_law_491 : decode cL_law 491 = .ok (.aload_n 0, 1) := by decide +kernel
theorem dL_law_492 : decode cL_law 492 = .ok (.iload 4, 2) := by decide +kernel
theorem dL_law_494 : decode cL_law 494 = .ok (.iconst 2, 1) := by decide +kernel
end
section
theorem dL_law_495 : decode cL_law 495 = .ok (.iadd, 1) := by decide +kernel
theorem dL_law_496 : decode cL_law 496 = .ok (.iaload, 1) := by decide +kernel
theorem dL_law_497 : decode cL_law 497 = .ok (.aload_n 3, 1) := by decide +kernel
theorem dL_law_498 : decode cL_law 498 = .ok (.invokestatic 117, 3) := by decide +kernel
theorem dL_law_501 : decode cL_law 501 = .ok (.istore 5, 2) := by decide +kernel
theorem dL_law_503 : decode cL_law 503 = .ok (.aload_n 2, 1) := by decide +kernel
theorem dL_law_504 : decode cL_law 504 = .ok (.aload_n 0, 1) := by decide +kernel
theorem dL_law_505 : decode cL_law 505 = .ok (.iload 4, 2) := by decide +kernel
theorem dL_law_507 : decode cL_law 507 = .ok (.iconst 1, 1) := by decide +kernel
theorem dL_law_508 : decode cL_law 508 = .ok (.iadd, 1) := by decide +kernel
theorem dL_law_509 : decode cL_law 509 = .ok (.iaload, 1) := by decide +kernel
theorem dL_law_510 : decode cL_law 510 = .ok (.aload_n 0, 1) := by decide +kernel
theorem dL_law_511 : decode cL_law 511 = .ok (.iload 4, 2) := by decide +kernel
theorem dL_law_513 : decode cL_law 513 = .ok (.iconst 2, 1) := by decide +kernel
theorem dL_law_514 : decode cL_law 514 = .ok (.iadd, 1) := by decide +kernel
theorem dL_law_515 : decode cL_law 515 = .ok (.iaload, 1) := by decide +kernel
theorem dL_law_516 : decode cL_law 516 = .ok (.invokevirtual 119, 3) := by decide +kernel
theorem dL_law_519 : decode cL_law 519 = .ok (.istore 6, 2) := by decide +kernel
theorem dL_law_521 : decode cL_law 521 = .ok (.aload_n 2, 1) := by decide +kernel
theorem dL_law_522 : decode cL_law 522 = .ok (.invokevirtual 99, 3) := by decide +kernel
theorem dL_law_525 : decode cL_law 525 = .ok (.iload 5, 2) := by decide +kernel
theorem dL_law_527 : decode cL_law 527 = .ok (.if_icmp .eq 5, 3) := by decide +kernel
theorem dL_law_530 : decode cL_law 530 = .ok (.iconst 0, 1) := by decide +kernel
theorem dL_law_531 : decode cL_law 531 = .ok (.ireturn, 1) := by decide +kernel
theorem dL_law_532 : decode cL_law 532 = .ok (.iload 5, 2) := by decide +kernel
theorem dL_law_534 : decode cL_law 534 = .ok (.ifCond .ne 15, 3) := by decide +kernel
theorem dL_law_537 : decode cL_law 537 = .ok (.aload_n 3, 1) := by decide +kernel
theorem dL_law_538 : decode cL_law 538 = .ok (.iconst 0, 1) := by decide +kernel
theorem dL_law_539 : decode cL_law 539 = .ok (.laload, 1) := by decide +kernel
theorem dL_law_540 : decode cL_law 540 = .ok (.iload 6, 2) := by decide +kernel
theorem dL_law_542 : decode cL_law 542 = .ok (.i2l, 1) := by decide +kernel
theorem dL_law_543 : decode cL_law 543 = .ok (.lcmp, 1) := by decide +kernel
theorem dL_law_544 : decode cL_law 544 = .ok (.ifCond .eq 5, 3) := by decide +kernel
theorem dL_law_547 : decode cL_law 547 = .ok (.iconst 0, 1) := by decide +kernel
theorem dL_law_548 : decode cL_law 548 = .ok (.ireturn, 1) := by decide +kernel
theorem dL_law_549 : decode cL_law 549 = .ok (.goto 1060, 3) := by decide +kernel
theorem dL_law_552 : decode cL_law 552 = .ok (.aload_n 1, 1) := by decide +kernel
theorem dL_law_553 : decode cL_law 553 = .ok (.aload_n 0, 1) := by decide +kernel
theorem dL_law_554 : decode cL_law 554 = .ok (.iload 4, 2) := by decide +kernel
theorem dL_law_556 : decode cL_law 556 = .ok (.iconst 1, 1) := by decide +kernel
theorem dL_law_557 : decode cL_law 557 = .ok (.iadd, 1) := by decide +kernel
theorem dL_law_558 : decode cL_law 558 = .ok (.iaload, 1) := by decide +kernel
theorem dL_law_559 : decode cL_law 559 = .ok (.aload_n 0, 1) := by decide +kernel
theorem dL_law_560 : decode cL_law 560 = .ok (.iload 4, 2) := by decide +kernel
theorem dL_law_562 : decode cL_law 562 = .ok (.iconst 2, 1) := by decide +kernel
theorem dL_law_563 : decode cL_law 563 = .ok (.iadd, 1) := by decide +kernel
theorem dL_law_564 : decode cL_law 564 = .ok (.iaload, 1) := by decide +kernel
theorem dL_law_565 : decode cL_law 565 = .ok (.ifCond .eq 7, 3) := by decide +kernel
theorem dL_law_568 : decode cL_law 568 = .ok (.iconst 1, 1) := by decide +kernel
theorem dL_law_569 : decode cL_law 569 = .ok (.goto 4, 3) := by decide +kernel
theorem dL_law_572 : decode cL_law 572 = .ok (.iconst 0, 1) := by decide +kernel
theorem dL_law_573 : decode cL_law 573 = .ok (.aload_n 3, 1) := by decide +kernel
theorem dL_law_574 : decode cL_law 574 = .ok (.invokestatic 120, 3) := by decide +kernel
theorem dL_law_577 : decode cL_law 577 = .ok (.istore 5, 2) := by decide +kernel
theorem dL_law_579 : decode cL_law 579 = .ok (.aload_n 2, 1) := by decide +kernel
theorem dL_law_580 : decode cL_law 580 = .ok (.aload_n 0, 1) := by decide +kernel
theorem dL_law_581 : decode cL_law 581 = .ok (.iload 4, 2) := by decide +kernel
theorem dL_law_583 : decode cL_law 583 = .ok (.iconst 1, 1) := by decide +kernel
theorem dL_law_584 : decode cL_law 584 = .ok (.iadd, 1) := by decide +kernel
theorem dL_law_585 : decode cL_law 585 = .ok (.iaload, 1) := by decide +kernel
theorem dL_law_586 : decode cL_law 586 = .ok (.aload_n 0, 1) := by decide +kernel
theorem dL_law_587 : decode cL_law 587 = .ok (.iload 4, 2) := by decide +kernel
theorem dL_law_589 : decode cL_law 589 = .ok (.iconst 2, 1) := by decide +kernel
theorem dL_law_590 : decode cL_law 590 = .ok (.iadd, 1) := by decide +kernel
theorem dL_law_591 : decode cL_law 591 = .ok (.iaload, 1) := by decide +kernel
theorem dL_law_592 : decode cL_law 592 = .ok (.ifCond .eq 7, 3) := by decide +kernel
theorem dL_law_595 : decode cL_law 595 = .ok (.iconst 1, 1) := by decide +kernel
theorem dL_law_596 : decode cL_law 596 = .ok (.goto 4, 3) := by decide +kernel
theorem dL_law_599 : decode cL_law 599 = .ok (.iconst 0, 1) := by decide +kernel
theorem dL_law_600 : decode cL_law 600 = .ok (.invokevirtual 123, 3) := by decide +kernel
theorem dL_law_603 : decode cL_law 603 = .ok (.istore 6, 2) := by decide +kernel
theorem dL_law_605 : decode cL_law 605 = .ok (.aload_n 2, 1) := by decide +kernel
theorem dL_law_606 : decode cL_law 606 = .ok (.invokevirtual 99, 3) := by decide +kernel
theorem dL_law_609 : decode cL_law 609 = .ok (.iload 5, 2) := by decide +kernel
theorem dL_law_611 : decode cL_law 611 = .ok (.if_icmp .eq 5, 3) := by decide +kernel
theorem dL_law_614 : decode cL_law 614 = .ok (.iconst 0, 1) := by decide +kernel
theorem dL_law_615 : decode cL_law 615 = .ok (.ireturn, 1) := by decide +kernel
theorem dL_law_616 : decode cL_law 616 = .ok (.iload 5, 2) := by decide +kernel
theorem dL_law_618 : decode cL_law 618 = .ok (.ifCond .ne 22, 3) := by decide +kernel
theorem dL_law_621 : decode cL_law 621 = .ok (.aload_n 3, 1) := by decide +kernel
theorem dL_law_622 : decode cL_law 622 = .ok (.iconst 0, 1) := by decide +kernel
theorem dL_law_623 : decode cL_law 623 = .ok (.laload, 1) := by decide +kernel
theorem dL_law_624 : decode cL_law 624 = .ok (.iload 6, 2) := by decide +kernel
theorem dL_law_626 : decode cL_law 626 = .ok (.ifCond .eq 7, 3) := by decide +kernel
theorem dL_law_629 : decode cL_law 629 = .ok (.lconst 1, 1) := by decide +kernel
theorem dL_law_630 : decode cL_law 630 = .ok (.goto 4, 3) := by decide +kernel
theorem dL_law_633 : decode cL_law 633 = .ok (.lconst 0, 1) := by decide +kernel
theorem dL_law_634 : decode cL_law 634 = .ok (.lcmp, 1) := by decide +kernel
theorem dL_law_635 : decode cL_law 635 = .ok (.ifCond .eq 5, 3) := by decide +kernel
theorem dL_law_638 : decode cL_law 638 = .ok (.iconst 0, 1) := by decide +kernel
theorem dL_law_639 : decode cL_law 639 = .ok (.ireturn, 1) := by decide +kernel
theorem dL_law_640 : decode cL_law 640 = .ok (.goto 969, 3) := by decide +kernel
theorem dL_law_643 : decode cL_law 643 = .ok (.aload_n 1, 1) := by decide +kernel
theorem dL_law_644 : decode cL_law 644 = .ok (.aload_n 0, 1) := by decide +kernel
theorem dL_law_645 : decode cL_law 645 = .ok (.iload 4, 2) := by decide +kernel
theorem dL_law_647 : decode cL_law 647 = .ok (.iconst 1, 1) := by decide +kernel
theorem dL_law_648 : decode cL_law 648 = .ok (.iadd, 1) := by decide +kernel
theorem dL_law_649 : decode cL_law 649 = .ok (.iaload, 1) := by decide +kernel
theorem dL_law_650 : decode cL_law 650 = .ok (.aload_n 3, 1) := by decide +kernel
theorem dL_law_651 : decode cL_law 651 = .ok (.invokestatic 124, 3) := by decide +kernel
theorem dL_law_654 : decode cL_law 654 = .ok (.istore 5, 2) := by decide +kernel
theorem dL_law_656 : decode cL_law 656 = .ok (.aload_n 2, 1) := by decide +kernel
theorem dL_law_657 : decode cL_law 657 = .ok (.aload_n 0, 1) := by decide +kernel
theorem dL_law_658 : decode cL_law 658 = .ok (.iload 4, 2) := by decide +kernel
theorem dL_law_660 : decode cL_law 660 = .ok (.iconst 1, 1) := by decide +kernel
theorem dL_law_661 : decode cL_law 661 = .ok (.iadd, 1) := by decide +kernel
theorem dL_law_662 : decode cL_law 662 = .ok (.iaload, 1) := by decide +kernel
theorem dL_law_663 : decode cL_law 663 = .ok (.invokevirtual 126, 3) := by decide +kernel
theorem dL_law_666 : decode cL_law 666 = .ok (.istore 6, 2) := by decide +kernel
theorem dL_law_668 : decode cL_law 668 = .ok (.aload_n 2, 1) := by decide +kernel
theorem dL_law_669 : decode cL_law 669 = .ok (.invokevirtual 99, 3) := by decide +kernel
theorem dL_law_672 : decode cL_law 672 = .ok (.iload 5, 2) := by decide +kernel
theorem dL_law_674 : decode cL_law 674 = .ok (.if_icmp .eq 5, 3) := by decide +kernel
theorem dL_law_677 : decode cL_law 677 = .ok (.iconst 0, 1) := by decide +kernel
theorem dL_law_678 : decode cL_law 678 = .ok (.ireturn, 1) := by decide +kernel
theorem dL_law_679 : decode cL_law 679 = .ok (.iload 5, 2) := by decide +kernel
theorem dL_law_681 : decode cL_law 681 = .ok (.ifCond .ne 15, 3) := by decide +kernel
theorem dL_law_684 : decode cL_law 684 = .ok (.aload_n 3, 1) := by decide +kernel
theorem dL_law_685 : decode cL_law 685 = .ok (.iconst 0, 1) := by decide +kernel
theorem dL_law_686 : decode cL_law 686 = .ok (.laload, 1) := by decide +kernel
theorem dL_law_687 : decode cL_law 687 = .ok (.iload 6, 2) := by decide +kernel
theorem dL_law_689 : decode cL_law 689 = .ok (.i2l, 1) := by decide +kernel
theorem dL_law_690 : decode cL_law 690 = .ok (.lcmp, 1) := by decide +kernel
theorem dL_law_691 : decode cL_law 691 = .ok (.ifCond .eq 5, 3) := by decide +kernel
theorem dL_law_694 : decode cL_law 694 = .ok (.iconst 0, 1) := by decide +kernel
theorem dL_law_695 : decode cL_law 695 = .ok (.ireturn, 1) := by decide +kernel
theorem dL_law_696 : decode cL_law 696 = .ok (.goto 913, 3) := by decide +kernel
theorem dL_law_699 : decode cL_law 699 = .ok (.aload_n 1, 1) := by decide +kernel
theorem dL_law_700 : decode cL_law 700 = .ok (.aload_n 0, 1) := by decide +kernel
theorem dL_law_701 : decode cL_law 701 = .ok (.iload 4, 2) := by decide +kernel
theorem dL_law_703 : decode cL_law 703 = .ok (.iconst 1, 1) := by decide +kernel
theorem dL_law_704 : decode cL_law 704 = .ok (.iadd, 1) := by decide +kernel
theorem dL_law_705 : decode cL_law 705 = .ok (.iaload, 1) := by decide +kernel
theorem dL_law_706 : decode cL_law 706 = .ok (.aload_n 3, 1) := by decide +kernel
theorem dL_law_707 : decode cL_law 707 = .ok (.invokestatic 127, 3) := by decide +kernel
theorem dL_law_710 : decode cL_law 710 = .ok (.istore 5, 2) := by decide +kernel
theorem dL_law_712 : decode cL_law 712 = .ok (.aload_n 2, 1) := by decide +kernel
theorem dL_law_713 : decode cL_law 713 = .ok (.aload_n 0, 1) := by decide +kernel
theorem dL_law_714 : decode cL_law 714 = .ok (.iload 4, 2) := by decide +kernel
theorem dL_law_716 : decode cL_law 716 = .ok (.iconst 1, 1) := by decide +kernel
theorem dL_law_717 : decode cL_law 717 = .ok (.iadd, 1) := by decide +kernel
theorem dL_law_718 : decode cL_law 718 = .ok (.iaload, 1) := by decide +kernel
theorem dL_law_719 : decode cL_law 719 = .ok (.invokevirtual 129, 3) := by decide +kernel
theorem dL_law_722 : decode cL_law 722 = .ok (.istore 6, 2) := by decide +kernel
theorem dL_law_724 : decode cL_law 724 = .ok (.aload_n 2, 1) := by decide +kernel
theorem dL_law_725 : decode cL_law 725 = .ok (.invokevirtual 99, 3) := by decide +kernel
theorem dL_law_728 : decode cL_law 728 = .ok (.iload 5, 2) := by decide +kernel
theorem dL_law_730 : decode cL_law 730 = .ok (.if_icmp .eq 5, 3) := by decide +kernel
theorem dL_law_733 : decode cL_law 733 = .ok (.iconst 0, 1) := by decide +kernel
theorem dL_law_734 : decode cL_law 734 = .ok (.ireturn, 1) := by decide +kernel
theorem dL_law_735 : decode cL_law 735 = .ok (.iload 5, 2) := by decide +kernel
theorem dL_law_737 : decode cL_law 737 = .ok (.ifCond .ne 15, 3) := by decide +kernel
theorem dL_law_740 : decode cL_law 740 = .ok (.aload_n 3, 1) := by decide +kernel
theorem dL_law_741 : decode cL_law 741 = .ok (.iconst 0, 1) := by decide +kernel
theorem dL_law_742 : decode cL_law 742 = .ok (.laload, 1) := by decide +kernel
theorem dL_law_743 : decode cL_law 743 = .ok (.iload 6, 2) := by decide +kernel
theorem dL_law_745 : decode cL_law 745 = .ok (.i2l, 1) := by decide +kernel
theorem dL_law_746 : decode cL_law 746 = .ok (.lcmp, 1) := by decide +kernel
theorem dL_law_747 : decode cL_law 747 = .ok (.ifCond .eq 5, 3) := by decide +kernel
theorem dL_law_750 : decode cL_law 750 = .ok (.iconst 0, 1) := by decide +kernel
theorem dL_law_751 : decode cL_law 751 = .ok (.ireturn, 1) := by decide +kernel
theorem dL_law_752 : decode cL_law 752 = .ok (.goto 857, 3) := by decide +kernel
theorem dL_law_755 : decode cL_law 755 = .ok (.aload_n 1, 1) := by decide +kernel
theorem dL_law_756 : decode cL_law 756 = .ok (.invokevirtual 130, 3) := by decide +kernel
theorem dL_law_759 : decode cL_law 759 = .ok (.aload_n 2, 1) := by decide +kernel
theorem dL_law_760 : decode cL_law 760 = .ok (.invokevirtual 133, 3) := by decide +kernel
theorem dL_law_763 : decode cL_law 763 = .ok (.if_icmp .eq 846, 3) := by decide +kernel
theorem dL_law_766 : decode cL_law 766 = .ok (.iconst 0, 1) := by decide +kernel
theorem dL_law_767 : decode cL_law 767 = .ok (.ireturn, 1) := by decide +kernel
theorem dL_law_768 : decode cL_law 768 = .ok (.aload_n 1, 1) := by decide +kernel
theorem dL_law_769 : decode cL_law 769 = .ok (.invokevirtual 134, 3) := by decide +kernel
theorem dL_law_772 : decode cL_law 772 = .ok (.aload_n 2, 1) := by decide +kernel
theorem dL_law_773 : decode cL_law 773 = .ok (.invokevirtual 137, 3) := by decide +kernel
theorem dL_law_776 : decode cL_law 776 = .ok (.if_icmp .eq 833, 3) := by decide +kernel
theorem dL_law_779 : decode cL_law 779 = .ok (.iconst 0, 1) := by decide +kernel
theorem dL_law_780 : decode cL_law 780 = .ok (.ireturn, 1) := by decide +kernel
theorem dL_law_781 : decode cL_law 781 = .ok (.aload_n 1, 1) := by decide +kernel
theorem dL_law_782 : decode cL_law 782 = .ok (.invokevirtual 138, 3) := by decide +kernel
theorem dL_law_785 : decode cL_law 785 = .ok (.aload_n 2, 1) := by decide +kernel
theorem dL_law_786 : decode cL_law 786 = .ok (.invokevirtual 141, 3) := by decide +kernel
theorem dL_law_789 : decode cL_law 789 = .ok (.if_icmp .eq 820, 3) := by decide +kernel
theorem dL_law_792 : decode cL_law 792 = .ok (.iconst 0, 1) := by decide +kernel
theorem dL_law_793 : decode cL_law 793 = .ok (.ireturn, 1) := by decide +kernel
theorem dL_law_794 : decode cL_law 794 = .ok (.aload_n 1, 1) := by decide +kernel
theorem dL_law_795 : decode cL_law 795 = .ok (.aload_n 0, 1) := by decide +kernel
theorem dL_law_796 : decode cL_law 796 = .ok (.iload 4, 2) := by decide +kernel
theorem dL_law_798 : decode cL_law 798 = .ok (.iconst 1, 1) := by decide +kernel
theorem dL_law_799 : decode cL_law 799 = .ok (.iadd, 1) := by decide +kernel
theorem dL_law_800 : decode cL_law 800 = .ok (.iaload, 1) := by decide +kernel
theorem dL_law_801 : decode cL_law 801 = .ok (.aload_n 3, 1) := by decide +kernel
theorem dL_law_802 : decode cL_law 802 = .ok (.invokestatic 142, 3) := by decide +kernel
theorem dL_law_805 : decode cL_law 805 = .ok (.istore 5, 2) := by decide +kernel
theorem dL_law_807 : decode cL_law 807 = .ok (.aload_n 2, 1) := by decide +kernel
theorem dL_law_808 : decode cL_law 808 = .ok (.aload_n 0, 1) := by decide +kernel
theorem dL_law_809 : decode cL_law 809 = .ok (.iload 4, 2) := by decide +kernel
theorem dL_law_811 : decode cL_law 811 = .ok (.iconst 1, 1) := by decide +kernel
theorem dL_law_812 : decode cL_law 812 = .ok (.iadd, 1) := by decide +kernel
theorem dL_law_813 : decode cL_law 813 = .ok (.iaload, 1) := by decide +kernel
theorem dL_law_814 : decode cL_law 814 = .ok (.invokevirtual 144, 3) := by decide +kernel
theorem dL_law_817 : decode cL_law 817 = .ok (.istore 6, 2) := by decide +kernel
theorem dL_law_819 : decode cL_law 819 = .ok (.aload_n 2, 1) := by decide +kernel
theorem dL_law_820 : decode cL_law 820 = .ok (.invokevirtual 99, 3) := by decide +kernel
theorem dL_law_823 : decode cL_law 823 = .ok (.iload 5, 2) := by decide +kernel
theorem dL_law_825 : decode cL_law 825 = .ok (.if_icmp .eq 5, 3) := by decide +kernel
theorem dL_law_828 : decode cL_law 828 = .ok (.iconst 0, 1) := by decide +kernel
theorem dL_law_829 : decode cL_law 829 = .ok (.ireturn, 1) := by decide +kernel
theorem dL_law_830 : decode cL_law 830 = .ok (.iload 5, 2) := by decide +kernel
theorem dL_law_832 : decode cL_law 832 = .ok (.ifCond .ne 15, 3) := by decide +kernel
theorem dL_law_835 : decode cL_law 835 = .ok (.aload_n 3, 1) := by decide +kernel
theorem dL_law_836 : decode cL_law 836 = .ok (.iconst 0, 1) := by decide +kernel
theorem dL_law_837 : decode cL_law 837 = .ok (.laload, 1) := by decide +kernel
theorem dL_law_838 : decode cL_law 838 = .ok (.iload 6, 2) := by decide +kernel
theorem dL_law_840 : decode cL_law 840 = .ok (.i2l, 1) := by decide +kernel
theorem dL_law_841 : decode cL_law 841 = .ok (.lcmp, 1) := by decide +kernel
theorem dL_law_842 : decode cL_law 842 = .ok (.ifCond .eq 5, 3) := by decide +kernel
theorem dL_law_845 : decode cL_law 845 = .ok (.iconst 0, 1) := by decide +kernel
theorem dL_law_846 : decode cL_law 846 = .ok (.ireturn, 1) := by decide +kernel
theorem dL_law_847 : decode cL_law 847 = .ok (.goto 762, 3) := by decide +kernel
theorem dL_law_850 : decode cL_law 850 = .ok (.aload_n 1, 1) := by decide +kernel
theorem dL_law_851 : decode cL_law 851 = .ok (.aload_n 0, 1) := by decide +kernel
theorem dL_law_852 : decode cL_law 852 = .ok (.iload 4, 2) := by decide +kernel
theorem dL_law_854 : decode cL_law 854 = .ok (.iconst 1, 1) := by decide +kernel
theorem dL_law_855 : decode cL_law 855 = .ok (.iadd, 1) := by decide +kernel
theorem dL_law_856 : decode cL_law 856 = .ok (.iaload, 1) := by decide +kernel
theorem dL_law_857 : decode cL_law 857 = .ok (.aload_n 3, 1) := by decide +kernel
theorem dL_law_858 : decode cL_law 858 = .ok (.invokestatic 145, 3) := by decide +kernel
theorem dL_law_861 : decode cL_law 861 = .ok (.istore 5, 2) := by decide +kernel
theorem dL_law_863 : decode cL_law 863 = .ok (.aload_n 2, 1) := by decide +kernel
theorem dL_law_864 : decode cL_law 864 = .ok (.aload_n 0, 1) := by decide +kernel
theorem dL_law_865 : decode cL_law 865 = .ok (.iload 4, 2) := by decide +kernel
theorem dL_law_867 : decode cL_law 867 = .ok (.iconst 1, 1) := by decide +kernel
theorem dL_law_868 : decode cL_law 868 = .ok (.iadd, 1) := by decide +kernel
theorem dL_law_869 : decode cL_law 869 = .ok (.iaload, 1) := by decide +kernel
theorem dL_law_870 : decode cL_law 870 = .ok (.invokevirtual 147, 3) := by decide +kernel
theorem dL_law_873 : decode cL_law 873 = .ok (.istore 6, 2) := by decide +kernel
theorem dL_law_875 : decode cL_law 875 = .ok (.aload_n 2, 1) := by decide +kernel
theorem dL_law_876 : decode cL_law 876 = .ok (.invokevirtual 99, 3) := by decide +kernel
theorem dL_law_879 : decode cL_law 879 = .ok (.iload 5, 2) := by decide +kernel
theorem dL_law_881 : decode cL_law 881 = .ok (.if_icmp .eq 5, 3) := by decide +kernel
theorem dL_law_884 : decode cL_law 884 = .ok (.iconst 0, 1) := by decide +kernel
theorem dL_law_885 : decode cL_law 885 = .ok (.ireturn, 1) := by decide +kernel
theorem dL_law_886 : decode cL_law 886 = .ok (.iload 5, 2) := by decide +kernel
theorem dL_law_888 : decode cL_law 888 = .ok (.ifCond .ne 15, 3) := by decide +kernel
theorem dL_law_891 : decode cL_law 891 = .ok (.aload_n 3, 1) := by decide +kernel
theorem dL_law_892 : decode cL_law 892 = .ok (.iconst 0, 1) := by decide +kernel
theorem dL_law_893 : decode cL_law 893 = .ok (.laload, 1) := by decide +kernel
theorem dL_law_894 : decode cL_law 894 = .ok (.iload 6, 2) := by decide +kernel
theorem dL_law_896 : decode cL_law 896 = .ok (.i2l, 1) := by decide +kernel
theorem dL_law_897 : decode cL_law 897 = .ok (.lcmp, 1) := by decide +kernel
theorem dL_law_898 : decode cL_law 898 = .ok (.ifCond .eq 5, 3) := by decide +kernel
end
section
theorem dL_law_901 : decode cL_law 901 = .ok (.iconst 0, 1) := by decide +kernel
theorem dL_law_902 : decode cL_law 902 = .ok (.ireturn, 1) := by decide +kernel
theorem dL_law_903 : decode cL_law 903 = .ok (.goto 706, 3) := by decide +kernel
theorem dL_law_906 : decode cL_law 906 = .ok (.aload_n 1, 1) := by decide +kernel
theorem dL_law_907 : decode cL_law 907 = .ok (.aload_n 0, 1) := by decide +kernel
theorem dL_law_908 : decode cL_law 908 = .ok (.iload 4, 2) := by decide +kernel
theorem dL_law_910 : decode cL_law 910 = .ok (.iconst 1, 1) := by decide +kernel
theorem dL_law_911 : decode cL_law 911 = .ok (.iadd, 1) := by decide +kernel
theorem dL_law_912 : decode cL_law 912 = .ok (.iaload, 1) := by decide +kernel
theorem dL_law_913 : decode cL_law 913 = .ok (.aload_n 3, 1) := by decide +kernel
theorem dL_law_914 : decode cL_law 914 = .ok (.invokestatic 148, 3) := by decide +kernel
theorem dL_law_917 : decode cL_law 917 = .ok (.istore 5, 2) := by decide +kernel
theorem dL_law_919 : decode cL_law 919 = .ok (.aload_n 2, 1) := by decide +kernel
theorem dL_law_920 : decode cL_law 920 = .ok (.aload_n 0, 1) := by decide +kernel
theorem dL_law_921 : decode cL_law 921 = .ok (.iload 4, 2) := by decide +kernel
theorem dL_law_923 : decode cL_law 923 = .ok (.iconst 1, 1) := by decide +kernel
theorem dL_law_924 : decode cL_law 924 = .ok (.iadd, 1) := by decide +kernel
theorem dL_law_925 : decode cL_law 925 = .ok (.iaload, 1) := by decide +kernel
theorem dL_law_926 : decode cL_law 926 = .ok (.invokevirtual 150, 3) := by decide +kernel
theorem dL_law_929 : decode cL_law 929 = .ok (.istore 6, 2) := by decide +kernel
theorem dL_law_931 : decode cL_law 931 = .ok (.aload_n 2, 1) := by decide +kernel
theorem dL_law_932 : decode cL_law 932 = .ok (.invokevirtual 99, 3) := by decide +kernel
theorem dL_law_935 : decode cL_law 935 = .ok (.iload 5, 2) := by decide +kernel
theorem dL_law_937 : decode cL_law 937 = .ok (.if_icmp .eq 5, 3) := by decide +kernel
theorem dL_law_940 : decode cL_law 940 = .ok (.iconst 0, 1) := by decide +kernel
theorem dL_law_941 : decode cL_law 941 = .ok (.ireturn, 1) := by decide +kernel
theorem dL_law_942 : decode cL_law 942 = .ok (.iload 5, 2) := by decide +kernel
theorem dL_law_944 : decode cL_law 944 = .ok (.ifCond .ne 15, 3) := by decide +kernel
theorem dL_law_947 : decode cL_law 947 = .ok (.aload_n 3, 1) := by decide +kernel
theorem dL_law_948 : decode cL_law 948 = .ok (.iconst 0, 1) := by decide +kernel
theorem dL_law_949 : decode cL_law 949 = .ok (.laload, 1) := by decide +kernel
theorem dL_law_950 : decode cL_law 950 = .ok (.iload 6, 2) := by decide +kernel
theorem dL_law_952 : decode cL_law 952 = .ok (.i2l, 1) := by decide +kernel
theorem dL_law_953 : decode cL_law 953 = .ok (.lcmp, 1) := by decide +kernel
theorem dL_law_954 : decode cL_law 954 = .ok (.ifCond .eq 5, 3) := by decide +kernel
theorem dL_law_957 : decode cL_law 957 = .ok (.iconst 0, 1) := by decide +kernel
theorem dL_law_958 : decode cL_law 958 = .ok (.ireturn, 1) := by decide +kernel
theorem dL_law_959 : decode cL_law 959 = .ok (.goto 650, 3) := by decide +kernel
theorem dL_law_962 : decode cL_law 962 = .ok (.aload_n 1, 1) := by decide +kernel
theorem dL_law_963 : decode cL_law 963 = .ok (.aload_n 0, 1) := by decide +kernel
theorem dL_law_964 : decode cL_law 964 = .ok (.iload 4, 2) := by decide +kernel
theorem dL_law_966 : decode cL_law 966 = .ok (.iconst 1, 1) := by decide +kernel
theorem dL_law_967 : decode cL_law 967 = .ok (.iadd, 1) := by decide +kernel
theorem dL_law_968 : decode cL_law 968 = .ok (.iaload, 1) := by decide +kernel
theorem dL_law_969 : decode cL_law 969 = .ok (.aload_n 3, 1) := by decide +kernel
theorem dL_law_970 : decode cL_law 970 = .ok (.invokestatic 151, 3) := by decide +kernel
theorem dL_law_973 : decode cL_law 973 = .ok (.istore 5, 2) := by decide +kernel
theorem dL_law_975 : decode cL_law 975 = .ok (.aload_n 2, 1) := by decide +kernel
theorem dL_law_976 : decode cL_law 976 = .ok (.aload_n 0, 1) := by decide +kernel
theorem dL_law_977 : decode cL_law 977 = .ok (.iload 4, 2) := by decide +kernel
theorem dL_law_979 : decode cL_law 979 = .ok (.iconst 1, 1) := by decide +kernel
theorem dL_law_980 : decode cL_law 980 = .ok (.iadd, 1) := by decide +kernel
theorem dL_law_981 : decode cL_law 981 = .ok (.iaload, 1) := by decide +kernel
theorem dL_law_982 : decode cL_law 982 = .ok (.invokevirtual 153, 3) := by decide +kernel
theorem dL_law_985 : decode cL_law 985 = .ok (.istore 6, 2) := by decide +kernel
theorem dL_law_987 : decode cL_law 987 = .ok (.aload_n 2, 1) := by decide +kernel
theorem dL_law_988 : decode cL_law 988 = .ok (.invokevirtual 99, 3) := by decide +kernel
theorem dL_law_991 : decode cL_law 991 = .ok (.iload 5, 2) := by decide +kernel
theorem dL_law_993 : decode cL_law 993 = .ok (.if_icmp .eq 5, 3) := by decide +kernel
theorem dL_law_996 : decode cL_law 996 = .ok (.iconst 0, 1) := by decide +kernel
theorem dL_law_997 : decode cL_law 997 = .ok (.ireturn, 1) := by decide +kernel
theorem dL_law_998 : decode cL_law 998 = .ok (.iload 5, 2) := by decide +kernel
theorem dL_law_1000 : decode cL_law 1000 = .ok (.ifCond .ne 15, 3) := by decide +kernel
theorem dL_law_1003 : decode cL_law 1003 = .ok (.aload_n 3, 1) := by decide +kernel
theorem dL_law_1004 : decode cL_law 1004 = .ok (.iconst 0, 1) := by decide +kernel
theorem dL_law_1005 : decode cL_law 1005 = .ok (.laload, 1) := by decide +kernel
theorem dL_law_1006 : decode cL_law 1006 = .ok (.iload 6, 2) := by decide +kernel
theorem dL_law_1008 : decode cL_law 1008 = .ok (.i2l, 1) := by decide +kernel
theorem dL_law_1009 : decode cL_law 1009 = .ok (.lcmp, 1) := by decide +kernel
theorem dL_law_1010 : decode cL_law 1010 = .ok (.ifCond .eq 5, 3) := by decide +kernel
theorem dL_law_1013 : decode cL_law 1013 = .ok (.iconst 0, 1) := by decide +kernel
theorem dL_law_1014 : decode cL_law 1014 = .ok (.ireturn, 1) := by decide +kernel
theorem dL_law_1015 : decode cL_law 1015 = .ok (.goto 594, 3) := by decide +kernel
theorem dL_law_1018 : decode cL_law 1018 = .ok (.aload_n 1, 1) := by decide +kernel
theorem dL_law_1019 : decode cL_law 1019 = .ok (.aload_n 0, 1) := by decide +kernel
theorem dL_law_1020 : decode cL_law 1020 = .ok (.iload 4, 2) := by decide +kernel
theorem dL_law_1022 : decode cL_law 1022 = .ok (.iconst 1, 1) := by decide +kernel
theorem dL_law_1023 : decode cL_law 1023 = .ok (.iadd, 1) := by decide +kernel
theorem dL_law_1024 : decode cL_law 1024 = .ok (.iaload, 1) := by decide +kernel
theorem dL_law_1025 : decode cL_law 1025 = .ok (.aload_n 3, 1) := by decide +kernel
theorem dL_law_1026 : decode cL_law 1026 = .ok (.invokestatic 154, 3) := by decide +kernel
theorem dL_law_1029 : decode cL_law 1029 = .ok (.istore 5, 2) := by decide +kernel
theorem dL_law_1031 : decode cL_law 1031 = .ok (.aload_n 2, 1) := by decide +kernel
theorem dL_law_1032 : decode cL_law 1032 = .ok (.aload_n 0, 1) := by decide +kernel
theorem dL_law_1033 : decode cL_law 1033 = .ok (.iload 4, 2) := by decide +kernel
theorem dL_law_1035 : decode cL_law 1035 = .ok (.iconst 1, 1) := by decide +kernel
theorem dL_law_1036 : decode cL_law 1036 = .ok (.iadd, 1) := by decide +kernel
theorem dL_law_1037 : decode cL_law 1037 = .ok (.iaload, 1) := by decide +kernel
theorem dL_law_1038 : decode cL_law 1038 = .ok (.invokevirtual 156, 3) := by decide +kernel
theorem dL_law_1041 : decode cL_law 1041 = .ok (.istore 6, 2) := by decide +kernel
theorem dL_law_1043 : decode cL_law 1043 = .ok (.aload_n 2, 1) := by decide +kernel
theorem dL_law_1044 : decode cL_law 1044 = .ok (.invokevirtual 99, 3) := by decide +kernel
theorem dL_law_1047 : decode cL_law 1047 = .ok (.iload 5, 2) := by decide +kernel
theorem dL_law_1049 : decode cL_law 1049 = .ok (.if_icmp .eq 5, 3) := by decide +kernel
theorem dL_law_1052 : decode cL_law 1052 = .ok (.iconst 0, 1) := by decide +kernel
theorem dL_law_1053 : decode cL_law 1053 = .ok (.ireturn, 1) := by decide +kernel
theorem dL_law_1054 : decode cL_law 1054 = .ok (.iload 5, 2) := by decide +kernel
theorem dL_law_1056 : decode cL_law 1056 = .ok (.ifCond .ne 22, 3) := by decide +kernel
theorem dL_law_1059 : decode cL_law 1059 = .ok (.aload_n 3, 1) := by decide +kernel
theorem dL_law_1060 : decode cL_law 1060 = .ok (.iconst 0, 1) := by decide +kernel
theorem dL_law_1061 : decode cL_law 1061 = .ok (.laload, 1) := by decide +kernel
theorem dL_law_1062 : decode cL_law 1062 = .ok (.iload 6, 2) := by decide +kernel
theorem dL_law_1064 : decode cL_law 1064 = .ok (.ifCond .eq 7, 3) := by decide +kernel
theorem dL_law_1067 : decode cL_law 1067 = .ok (.lconst 1, 1) := by decide +kernel
theorem dL_law_1068 : decode cL_law 1068 = .ok (.goto 4, 3) := by decide +kernel
theorem dL_law_1071 : decode cL_law 1071 = .ok (.lconst 0, 1) := by decide +kernel
theorem dL_law_1072 : decode cL_law 1072 = .ok (.lcmp, 1) := by decide +kernel
theorem dL_law_1073 : decode cL_law 1073 = .ok (.ifCond .eq 5, 3) := by decide +kernel
theorem dL_law_1076 : decode cL_law 1076 = .ok (.iconst 0, 1) := by decide +kernel
theorem dL_law_1077 : decode cL_law 1077 = .ok (.ireturn, 1) := by decide +kernel
theorem dL_law_1078 : decode cL_law 1078 = .ok (.goto 531, 3) := by decide +kernel
theorem dL_law_1081 : decode cL_law 1081 = .ok (.aload_n 1, 1) := by decide +kernel
theorem dL_law_1082 : decode cL_law 1082 = .ok (.aload_n 0, 1) := by decide +kernel
theorem dL_law_1083 : decode cL_law 1083 = .ok (.iload 4, 2) := by decide +kernel
theorem dL_law_1085 : decode cL_law 1085 = .ok (.iconst 1, 1) := by decide +kernel
theorem dL_law_1086 : decode cL_law 1086 = .ok (.iadd, 1) := by decide +kernel
theorem dL_law_1087 : decode cL_law 1087 = .ok (.iaload, 1) := by decide +kernel
theorem dL_law_1088 : decode cL_law 1088 = .ok (.aload_n 3, 1) := by decide +kernel
theorem dL_law_1089 : decode cL_law 1089 = .ok (.invokestatic 157, 3) := by decide +kernel
theorem dL_law_1092 : decode cL_law 1092 = .ok (.istore 5, 2) := by decide +kernel
theorem dL_law_1094 : decode cL_law 1094 = .ok (.aload_n 2, 1) := by decide +kernel
theorem dL_law_1095 : decode cL_law 1095 = .ok (.aload_n 0, 1) := by decide +kernel
theorem dL_law_1096 : decode cL_law 1096 = .ok (.iload 4, 2) := by decide +kernel
theorem dL_law_1098 : decode cL_law 1098 = .ok (.iconst 1, 1) := by decide +kernel
theorem dL_law_1099 : decode cL_law 1099 = .ok (.iadd, 1) := by decide +kernel
theorem dL_law_1100 : decode cL_law 1100 = .ok (.iaload, 1) := by decide +kernel
theorem dL_law_1101 : decode cL_law 1101 = .ok (.invokevirtual 159, 3) := by decide +kernel
theorem dL_law_1104 : decode cL_law 1104 = .ok (.istore 6, 2) := by decide +kernel
theorem dL_law_1106 : decode cL_law 1106 = .ok (.aload_n 2, 1) := by decide +kernel
theorem dL_law_1107 : decode cL_law 1107 = .ok (.invokevirtual 99, 3) := by decide +kernel
theorem dL_law_1110 : decode cL_law 1110 = .ok (.iload 5, 2) := by decide +kernel
theorem dL_law_1112 : decode cL_law 1112 = .ok (.if_icmp .eq 5, 3) := by decide +kernel
theorem dL_law_1115 : decode cL_law 1115 = .ok (.iconst 0, 1) := by decide +kernel
theorem dL_law_1116 : decode cL_law 1116 = .ok (.ireturn, 1) := by decide +kernel
theorem dL_law_1117 : decode cL_law 1117 = .ok (.iload 5, 2) := by decide +kernel
theorem dL_law_1119 : decode cL_law 1119 = .ok (.ifCond .ne 15, 3) := by decide +kernel
theorem dL_law_1122 : decode cL_law 1122 = .ok (.aload_n 3, 1) := by decide +kernel
theorem dL_law_1123 : decode cL_law 1123 = .ok (.iconst 0, 1) := by decide +kernel
theorem dL_law_1124 : decode cL_law 1124 = .ok (.laload, 1) := by decide +kernel
theorem dL_law_1125 : decode cL_law 1125 = .ok (.iload 6, 2) := by decide +kernel
theorem dL_law_1127 : decode cL_law 1127 = .ok (.i2l, 1) := by decide +kernel
theorem dL_law_1128 : decode cL_law 1128 = .ok (.lcmp, 1) := by decide +kernel
theorem dL_law_1129 : decode cL_law 1129 = .ok (.ifCond .eq 5, 3) := by decide +kernel
theorem dL_law_1132 : decode cL_law 1132 = .ok (.iconst 0, 1) := by decide +kernel
theorem dL_law_1133 : decode cL_law 1133 = .ok (.ireturn, 1) := by decide +kernel
theorem dL_law_1134 : decode cL_law 1134 = .ok (.goto 475, 3) := by decide +kernel
theorem dL_law_1137 : decode cL_law 1137 = .ok (.aload_n 1, 1) := by decide +kernel
theorem dL_law_1138 : decode cL_law 1138 = .ok (.aload_n 0, 1) := by decide +kernel
theorem dL_law_1139 : decode cL_law 1139 = .ok (.iload 4, 2) := by decide +kernel
theorem dL_law_1141 : decode cL_law 1141 = .ok (.iconst 1, 1) := by decide +kernel
theorem dL_law_1142 : decode cL_law 1142 = .ok (.iadd, 1) := by decide +kernel
theorem dL_law_1143 : decode cL_law 1143 = .ok (.iaload, 1) := by decide +kernel
theorem dL_law_1144 : decode cL_law 1144 = .ok (.aload_n 3, 1) := by decide +kernel
theorem dL_law_1145 : decode cL_law 1145 = .ok (.invokestatic 160, 3) := by decide +kernel
theorem dL_law_1148 : decode cL_law 1148 = .ok (.istore 5, 2) := by decide +kernel
theorem dL_law_1150 : decode cL_law 1150 = .ok (.aload_n 2, 1) := by decide +kernel
theorem dL_law_1151 : decode cL_law 1151 = .ok (.aload_n 0, 1) := by decide +kernel
theorem dL_law_1152 : decode cL_law 1152 = .ok (.iload 4, 2) := by decide +kernel
theorem dL_law_1154 : decode cL_law 1154 = .ok (.iconst 1, 1) := by decide +kernel
theorem dL_law_1155 : decode cL_law 1155 = .ok (.iadd, 1) := by decide +kernel
theorem dL_law_1156 : decode cL_law 1156 = .ok (.iaload, 1) := by decide +kernel
theorem dL_law_1157 : decode cL_law 1157 = .ok (.invokevirtual 162, 3) := by decide +kernel
theorem dL_law_1160 : decode cL_law 1160 = .ok (.istore 6, 2) := by decide +kernel
theorem dL_law_1162 : decode cL_law 1162 = .ok (.aload_n 2, 1) := by decide +kernel
theorem dL_law_1163 : decode cL_law 1163 = .ok (.invokevirtual 99, 3) := by decide +kernel
theorem dL_law_1166 : decode cL_law 1166 = .ok (.iload 5, 2) := by decide +kernel
theorem dL_law_1168 : decode cL_law 1168 = .ok (.if_icmp .eq 5, 3) := by decide +kernel
theorem dL_law_1171 : decode cL_law 1171 = .ok (.iconst 0, 1) := by decide +kernel
theorem dL_law_1172 : decode cL_law 1172 = .ok (.ireturn, 1) := by decide +kernel
theorem dL_law_1173 : decode cL_law 1173 = .ok (.iload 5, 2) := by decide +kernel
theorem dL_law_1175 : decode cL_law 1175 = .ok (.ifCond .ne 15, 3) := by decide +kernel
theorem dL_law_1178 : decode cL_law 1178 = .ok (.aload_n 3, 1) := by decide +kernel
theorem dL_law_1179 : decode cL_law 1179 = .ok (.iconst 0, 1) := by decide +kernel
theorem dL_law_1180 : decode cL_law 1180 = .ok (.laload, 1) := by decide +kernel
theorem dL_law_1181 : decode cL_law 1181 = .ok (.iload 6, 2) := by decide +kernel
theorem dL_law_1183 : decode cL_law 1183 = .ok (.i2l, 1) := by decide +kernel
theorem dL_law_1184 : decode cL_law 1184 = .ok (.lcmp, 1) := by decide +kernel
theorem dL_law_1185 : decode cL_law 1185 = .ok (.ifCond .eq 5, 3) := by decide +kernel
theorem dL_law_1188 : decode cL_law 1188 = .ok (.iconst 0, 1) := by decide +kernel
theorem dL_law_1189 : decode cL_law 1189 = .ok (.ireturn, 1) := by decide +kernel
theorem dL_law_1190 : decode cL_law 1190 = .ok (.goto 419, 3) := by decide +kernel
theorem dL_law_1193 : decode cL_law 1193 = .ok (.aload_n 1, 1) := by decide +kernel
theorem dL_law_1194 : decode cL_law 1194 = .ok (.aload_n 0, 1) := by decide +kernel
theorem dL_law_1195 : decode cL_law 1195 = .ok (.iload 4, 2) := by decide +kernel
theorem dL_law_1197 : decode cL_law 1197 = .ok (.iconst 1, 1) := by decide +kernel
theorem dL_law_1198 : decode cL_law 1198 = .ok (.iadd, 1) := by decide +kernel
theorem dL_law_1199 : decode cL_law 1199 = .ok (.iaload, 1) := by decide +kernel
theorem dL_law_1200 : decode cL_law 1200 = .ok (.aload_n 3, 1) := by decide +kernel
theorem dL_law_1201 : decode cL_law 1201 = .ok (.invokestatic 163, 3) := by decide +kernel
theorem dL_law_1204 : decode cL_law 1204 = .ok (.istore 5, 2) := by decide +kernel
theorem dL_law_1206 : decode cL_law 1206 = .ok (.aload_n 2, 1) := by decide +kernel
theorem dL_law_1207 : decode cL_law 1207 = .ok (.aload_n 0, 1) := by decide +kernel
theorem dL_law_1208 : decode cL_law 1208 = .ok (.iload 4, 2) := by decide +kernel
theorem dL_law_1210 : decode cL_law 1210 = .ok (.iconst 1, 1) := by decide +kernel
theorem dL_law_1211 : decode cL_law 1211 = .ok (.iadd, 1) := by decide +kernel
theorem dL_law_1212 : decode cL_law 1212 = .ok (.iaload, 1) := by decide +kernel
theorem dL_law_1213 : decode cL_law 1213 = .ok (.invokevirtual 165, 3) := by decide +kernel
theorem dL_law_1216 : decode cL_law 1216 = .ok (.istore 6, 2) := by decide +kernel
theorem dL_law_1218 : decode cL_law 1218 = .ok (.aload_n 2, 1) := by decide +kernel
theorem dL_law_1219 : decode cL_law 1219 = .ok (.invokevirtual 99, 3) := by decide +kernel
theorem dL_law_1222 : decode cL_law 1222 = .ok (.iload 5, 2) := by decide +kernel
theorem dL_law_1224 : decode cL_law 1224 = .ok (.if_icmp .eq 5, 3) := by decide +kernel
theorem dL_law_1227 : decode cL_law 1227 = .ok (.iconst 0, 1) := by decide +kernel
theorem dL_law_1228 : decode cL_law 1228 = .ok (.ireturn, 1) := by decide +kernel
theorem dL_law_1229 : decode cL_law 1229 = .ok (.iload 5, 2) := by decide +kernel
theorem dL_law_1231 : decode cL_law 1231 = .ok (.ifCond .ne 15, 3) := by decide +kernel
theorem dL_law_1234 : decode cL_law 1234 = .ok (.aload_n 3, 1) := by decide +kernel
theorem dL_law_1235 : decode cL_law 1235 = .ok (.iconst 0, 1) := by decide +kernel
theorem dL_law_1236 : decode cL_law 1236 = .ok (.laload, 1) := by decide +kernel
theorem dL_law_1237 : decode cL_law 1237 = .ok (.iload 6, 2) := by decide +kernel
theorem dL_law_1239 : decode cL_law 1239 = .ok (.i2l, 1) := by decide +kernel
theorem dL_law_1240 : decode cL_law 1240 = .ok (.lcmp, 1) := by decide +kernel
theorem dL_law_1241 : decode cL_law 1241 = .ok (.ifCond .eq 5, 3) := by decide +kernel
theorem dL_law_1244 : decode cL_law 1244 = .ok (.iconst 0, 1) := by decide +kernel
theorem dL_law_1245 : decode cL_law 1245 = .ok (.ireturn, 1) := by decide +kernel
theorem dL_law_1246 : decode cL_law 1246 = .ok (.goto 363, 3) := by decide +kernel
theorem dL_law_1249 : decode cL_law 1249 = .ok (.aload_n 1, 1) := by decide +kernel
theorem dL_law_1250 : decode cL_law 1250 = .ok (.aload_n 0, 1) := by decide +kernel
theorem dL_law_1251 : decode cL_law 1251 = .ok (.iload 4, 2) := by decide +kernel
theorem dL_law_1253 : decode cL_law 1253 = .ok (.iconst 1, 1) := by decide +kernel
theorem dL_law_1254 : decode cL_law 1254 = .ok (.iadd, 1) := by decide +kernel
theorem dL_law_1255 : decode cL_law 1255 = .ok (.iaload, 1) := by decide +kernel
theorem dL_law_1256 : decode cL_law 1256 = .ok (.aload_n 3, 1) := by decide +kernel
theorem dL_law_1257 : decode cL_law 1257 = .ok (.invokestatic 166, 3) := by decide +kernel
theorem dL_law_1260 : decode cL_law 1260 = .ok (.istore 5, 2) := by decide +kernel
theorem dL_law_1262 : decode cL_law 1262 = .ok (.aload_n 2, 1) := by decide +kernel
theorem dL_law_1263 : decode cL_law 1263 = .ok (.aload_n 0, 1) := by decide +kernel
theorem dL_law_1264 : decode cL_law 1264 = .ok (.iload 4, 2) := by decide +kernel
theorem dL_law_1266 : decode cL_law 1266 = .ok (.iconst 1, 1) := by decide +kernel
theorem dL_law_1267 : decode cL_law 1267 = .ok (.iadd, 1) := by decide +kernel
theorem dL_law_1268 : decode cL_law 1268 = .ok (.iaload, 1) := by decide +kernel
theorem dL_law_1269 : decode cL_law 1269 = .ok (.invokevirtual 168, 3) := by decide +kernel
theorem dL_law_1272 : decode cL_law 1272 = .ok (.istore 6, 2) := by decide +kernel
theorem dL_law_1274 : decode cL_law 1274 = .ok (.aload_n 2, 1) := by decide +kernel
theorem dL_law_1275 : decode cL_law 1275 = .ok (.invokevirtual 99, 3) := by decide +kernel
theorem dL_law_1278 : decode cL_law 1278 = .ok (.iload 5, 2) := by decide +kernel
theorem dL_law_1280 : decode cL_law 1280 = .ok (.if_icmp .eq 5, 3) := by decide +kernel
theorem dL_law_1283 : decode cL_law 1283 = .ok (.iconst 0, 1) := by decide +kernel
theorem dL_law_1284 : decode cL_law 1284 = .ok (.ireturn, 1) := by decide +kernel
theorem dL_law_1285 : decode cL_law 1285 = .ok (.iload 5, 2) := by decide +kernel
theorem dL_law_1287 : decode cL_law 1287 = .ok (.ifCond .ne 15, 3) := by decide +kernel
theorem dL_law_1290 : decode cL_law 1290 = .ok (.aload_n 3, 1) := by decide +kernel
theorem dL_law_1291 : decode cL_law 1291 = .ok (.iconst 0, 1) := by decide +kernel
theorem dL_law_1292 : decode cL_law 1292 = .ok (.laload, 1) := by decide +kernel
theorem dL_law_1293 : decode cL_law 1293 = .ok (.iload 6, 2) := by decide +kernel
theorem dL_law_1295 : decode cL_law 1295 = .ok (.i2l, 1) := by decide +kernel
theorem dL_law_1296 : decode cL_law 1296 = .ok (.lcmp, 1) := by decide +kernel
theorem dL_law_1297 : decode cL_law 1297 = .ok (.ifCond .eq 5, 3) := by decide +kernel
theorem dL_law_1300 : decode cL_law 1300 = .ok (.iconst 0, 1) := by decide +kernel
theorem dL_law_1301 : decode cL_law 1301 = .ok (.ireturn, 1) := by decide +kernel
end
section
theorem dL_law_1302 : decode cL_law 1302 = .ok (.goto 307, 3) := by decide +kernel
theorem dL_law_1305 : decode cL_law 1305 = .ok (.aload_n 1, 1) := by decide +kernel
theorem dL_law_1306 : decode cL_law 1306 = .ok (.aload_n 0, 1) := by decide +kernel
theorem dL_law_1307 : decode cL_law 1307 = .ok (.iload 4, 2) := by decide +kernel
theorem dL_law_1309 : decode cL_law 1309 = .ok (.iconst 1, 1) := by decide +kernel
theorem dL_law_1310 : decode cL_law 1310 = .ok (.iadd, 1) := by decide +kernel
theorem dL_law_1311 : decode cL_law 1311 = .ok (.iaload, 1) := by decide +kernel
theorem dL_law_1312 : decode cL_law 1312 = .ok (.aload_n 3, 1) := by decide +kernel
theorem dL_law_1313 : decode cL_law 1313 = .ok (.invokestatic 169, 3) := by decide +kernel
theorem dL_law_1316 : decode cL_law 1316 = .ok (.istore 5, 2) := by decide +kernel
theorem dL_law_1318 : decode cL_law 1318 = .ok (.aload_n 2, 1) := by decide +kernel
theorem dL_law_1319 : decode cL_law 1319 = .ok (.aload_n 0, 1) := by decide +kernel
theorem dL_law_1320 : decode cL_law 1320 = .ok (.iload 4, 2) := by decide +kernel
theorem dL_law_1322 : decode cL_law 1322 = .ok (.iconst 1, 1) := by decide +kernel
theorem dL_law_1323 : decode cL_law 1323 = .ok (.iadd, 1) := by decide +kernel
theorem dL_law_1324 : decode cL_law 1324 = .ok (.iaload, 1) := by decide +kernel
theorem dL_law_1325 : decode cL_law 1325 = .ok (.invokevirtual 171, 3) := by decide +kernel
theorem dL_law_1328 : decode cL_law 1328 = .ok (.istore 6, 2) := by decide +kernel
theorem dL_law_1330 : decode cL_law 1330 = .ok (.aload_n 2, 1) := by decide +kernel
theorem dL_law_1331 : decode cL_law 1331 = .ok (.invokevirtual 99, 3) := by decide +kernel
theorem dL_law_1334 : decode cL_law 1334 = .ok (.iload 5, 2) := by decide +kernel
theorem dL_law_1336 : decode cL_law 1336 = .ok (.if_icmp .eq 5, 3) := by decide +kernel
theorem dL_law_1339 : decode cL_law 1339 = .ok (.iconst 0, 1) := by decide +kernel
theorem dL_law_1340 : decode cL_law 1340 = .ok (.ireturn, 1) := by decide +kernel
theorem dL_law_1341 : decode cL_law 1341 = .ok (.iload 5, 2) := by decide +kernel
theorem dL_law_1343 : decode cL_law 1343 = .ok (.ifCond .ne 15, 3) := by decide +kernel
theorem dL_law_1346 : decode cL_law 1346 = .ok (.aload_n 3, 1) := by decide +kernel
theorem dL_law_1347 : decode cL_law 1347 = .ok (.iconst 0, 1) := by decide +kernel
theorem dL_law_1348 : decode cL_law 1348 = .ok (.laload, 1) := by decide +kernel
theorem dL_law_1349 : decode cL_law 1349 = .ok (.iload 6, 2) := by decide +kernel
theorem dL_law_1351 : decode cL_law 1351 = .ok (.i2l, 1) := by decide +kernel
theorem dL_law_1352 : decode cL_law 1352 = .ok (.lcmp, 1) := by decide +kernel
theorem dL_law_1353 : decode cL_law 1353 = .ok (.ifCond .eq 5, 3) := by decide +kernel
theorem dL_law_1356 : decode cL_law 1356 = .ok (.iconst 0, 1) := by decide +kernel
theorem dL_law_1357 : decode cL_law 1357 = .ok (.ireturn, 1) := by decide +kernel
theorem dL_law_1358 : decode cL_law 1358 = .ok (.goto 251, 3) := by decide +kernel
theorem dL_law_1361 : decode cL_law 1361 = .ok (.aload_n 1, 1) := by decide +kernel
theorem dL_law_1362 : decode cL_law 1362 = .ok (.aload_n 0, 1) := by decide +kernel
theorem dL_law_1363 : decode cL_law 1363 = .ok (.iload 4, 2) := by decide +kernel
theorem dL_law_1365 : decode cL_law 1365 = .ok (.iconst 1, 1) := by decide +kernel
theorem dL_law_1366 : decode cL_law 1366 = .ok (.iadd, 1) := by decide +kernel
theorem dL_law_1367 : decode cL_law 1367 = .ok (.iaload, 1) := by decide +kernel
theorem dL_law_1368 : decode cL_law 1368 = .ok (.aload_n 3, 1) := by decide +kernel
theorem dL_law_1369 : decode cL_law 1369 = .ok (.invokestatic 172, 3) := by decide +kernel
theorem dL_law_1372 : decode cL_law 1372 = .ok (.istore 5, 2) := by decide +kernel
theorem dL_law_1374 : decode cL_law 1374 = .ok (.aload_n 2, 1) := by decide +kernel
theorem dL_law_1375 : decode cL_law 1375 = .ok (.aload_n 0, 1) := by decide +kernel
theorem dL_law_1376 : decode cL_law 1376 = .ok (.iload 4, 2) := by decide +kernel
theorem dL_law_1378 : decode cL_law 1378 = .ok (.iconst 1, 1) := by decide +kernel
theorem dL_law_1379 : decode cL_law 1379 = .ok (.iadd, 1) := by decide +kernel
theorem dL_law_1380 : decode cL_law 1380 = .ok (.iaload, 1) := by decide +kernel
theorem dL_law_1381 : decode cL_law 1381 = .ok (.invokevirtual 174, 3) := by decide +kernel
theorem dL_law_1384 : decode cL_law 1384 = .ok (.istore 6, 2) := by decide +kernel
theorem dL_law_1386 : decode cL_law 1386 = .ok (.aload_n 2, 1) := by decide +kernel
theorem dL_law_1387 : decode cL_law 1387 = .ok (.invokevirtual 99, 3) := by decide +kernel
theorem dL_law_1390 : decode cL_law 1390 = .ok (.iload 5, 2) := by decide +kernel
theorem dL_law_1392 : decode cL_law 1392 = .ok (.if_icmp .eq 5, 3) := by decide +kernel
theorem dL_law_1395 : decode cL_law 1395 = .ok (.iconst 0, 1) := by decide +kernel
theorem dL_law_1396 : decode cL_law 1396 = .ok (.ireturn, 1) := by decide +kernel
theorem dL_law_1397 : decode cL_law 1397 = .ok (.iload 5, 2) := by decide +kernel
theorem dL_law_1399 : decode cL_law 1399 = .ok (.ifCond .ne 15, 3) := by decide +kernel
theorem dL_law_1402 : decode cL_law 1402 = .ok (.aload_n 3, 1) := by decide +kernel
theorem dL_law_1403 : decode cL_law 1403 = .ok (.iconst 0, 1) := by decide +kernel
theorem dL_law_1404 : decode cL_law 1404 = .ok (.laload, 1) := by decide +kernel
theorem dL_law_1405 : decode cL_law 1405 = .ok (.iload 6, 2) := by decide +kernel
theorem dL_law_1407 : decode cL_law 1407 = .ok (.i2l, 1) := by decide +kernel
theorem dL_law_1408 : decode cL_law 1408 = .ok (.lcmp, 1) := by decide +kernel
theorem dL_law_1409 : decode cL_law 1409 = .ok (.ifCond .eq 5, 3) := by decide +kernel
theorem dL_law_1412 : decode cL_law 1412 = .ok (.iconst 0, 1) := by decide +kernel
theorem dL_law_1413 : decode cL_law 1413 = .ok (.ireturn, 1) := by decide +kernel
theorem dL_law_1414 : decode cL_law 1414 = .ok (.goto 195, 3) := by decide +kernel
theorem dL_law_1417 : decode cL_law 1417 = .ok (.aload_n 1, 1) := by decide +kernel
theorem dL_law_1418 : decode cL_law 1418 = .ok (.aload_n 0, 1) := by decide +kernel
theorem dL_law_1419 : decode cL_law 1419 = .ok (.iload 4, 2) := by decide +kernel
theorem dL_law_1421 : decode cL_law 1421 = .ok (.iconst 1, 1) := by decide +kernel
theorem dL_law_1422 : decode cL_law 1422 = .ok (.iadd, 1) := by decide +kernel
theorem dL_law_1423 : decode cL_law 1423 = .ok (.iaload, 1) := by decide +kernel
theorem dL_law_1424 : decode cL_law 1424 = .ok (.aload_n 0, 1) := by decide +kernel
theorem dL_law_1425 : decode cL_law 1425 = .ok (.iload 4, 2) := by decide +kernel
theorem dL_law_1427 : decode cL_law 1427 = .ok (.iconst 2, 1) := by decide +kernel
theorem dL_law_1428 : decode cL_law 1428 = .ok (.iadd, 1) := by decide +kernel
theorem dL_law_1429 : decode cL_law 1429 = .ok (.iaload, 1) := by decide +kernel
theorem dL_law_1430 : decode cL_law 1430 = .ok (.aload_n 3, 1) := by decide +kernel
theorem dL_law_1431 : decode cL_law 1431 = .ok (.invokestatic 175, 3) := by decide +kernel
theorem dL_law_1434 : decode cL_law 1434 = .ok (.istore 5, 2) := by decide +kernel
theorem dL_law_1436 : decode cL_law 1436 = .ok (.aload_n 2, 1) := by decide +kernel
theorem dL_law_1437 : decode cL_law 1437 = .ok (.aload_n 0, 1) := by decide +kernel
theorem dL_law_1438 : decode cL_law 1438 = .ok (.iload 4, 2) := by decide +kernel
theorem dL_law_1440 : decode cL_law 1440 = .ok (.iconst 1, 1) := by decide +kernel
theorem dL_law_1441 : decode cL_law 1441 = .ok (.iadd, 1) := by decide +kernel
theorem dL_law_1442 : decode cL_law 1442 = .ok (.iaload, 1) := by decide +kernel
theorem dL_law_1443 : decode cL_law 1443 = .ok (.aload_n 0, 1) := by decide +kernel
theorem dL_law_1444 : decode cL_law 1444 = .ok (.iload 4, 2) := by decide +kernel
theorem dL_law_1446 : decode cL_law 1446 = .ok (.iconst 2, 1) := by decide +kernel
theorem dL_law_1447 : decode cL_law 1447 = .ok (.iadd, 1) := by decide +kernel
theorem dL_law_1448 : decode cL_law 1448 = .ok (.iaload, 1) := by decide +kernel
theorem dL_law_1449 : decode cL_law 1449 = .ok (.invokevirtual 177, 3) := by decide +kernel
theorem dL_law_1452 : decode cL_law 1452 = .ok (.istore 6, 2) := by decide +kernel
theorem dL_law_1454 : decode cL_law 1454 = .ok (.aload_n 2, 1) := by decide +kernel
theorem dL_law_1455 : decode cL_law 1455 = .ok (.invokevirtual 99, 3) := by decide +kernel
theorem dL_law_1458 : decode cL_law 1458 = .ok (.iload 5, 2) := by decide +kernel
theorem dL_law_1460 : decode cL_law 1460 = .ok (.if_icmp .eq 5, 3) := by decide +kernel
theorem dL_law_1463 : decode cL_law 1463 = .ok (.iconst 0, 1) := by decide +kernel
theorem dL_law_1464 : decode cL_law 1464 = .ok (.ireturn, 1) := by decide +kernel
theorem dL_law_1465 : decode cL_law 1465 = .ok (.iload 5, 2) := by decide +kernel
theorem dL_law_1467 : decode cL_law 1467 = .ok (.ifCond .ne 15, 3) := by decide +kernel
theorem dL_law_1470 : decode cL_law 1470 = .ok (.aload_n 3, 1) := by decide +kernel
theorem dL_law_1471 : decode cL_law 1471 = .ok (.iconst 0, 1) := by decide +kernel
theorem dL_law_1472 : decode cL_law 1472 = .ok (.laload, 1) := by decide +kernel
theorem dL_law_1473 : decode cL_law 1473 = .ok (.iload 6, 2) := by decide +kernel
theorem dL_law_1475 : decode cL_law 1475 = .ok (.i2l, 1) := by decide +kernel
theorem dL_law_1476 : decode cL_law 1476 = .ok (.lcmp, 1) := by decide +kernel
theorem dL_law_1477 : decode cL_law 1477 = .ok (.ifCond .eq 5, 3) := by decide +kernel
theorem dL_law_1480 : decode cL_law 1480 = .ok (.iconst 0, 1) := by decide +kernel
theorem dL_law_1481 : decode cL_law 1481 = .ok (.ireturn, 1) := by decide +kernel
theorem dL_law_1482 : decode cL_law 1482 = .ok (.goto 127, 3) := by decide +kernel
theorem dL_law_1485 : decode cL_law 1485 = .ok (.aload_n 1, 1) := by decide +kernel
theorem dL_law_1486 : decode cL_law 1486 = .ok (.aload_n 0, 1) := by decide +kernel
theorem dL_law_1487 : decode cL_law 1487 = .ok (.iload 4, 2) := by decide +kernel
theorem dL_law_1489 : decode cL_law 1489 = .ok (.iconst 1, 1) := by decide +kernel
theorem dL_law_1490 : decode cL_law 1490 = .ok (.iadd, 1) := by decide +kernel
theorem dL_law_1491 : decode cL_law 1491 = .ok (.iaload, 1) := by decide +kernel
theorem dL_law_1492 : decode cL_law 1492 = .ok (.aload_n 3, 1) := by decide +kernel
theorem dL_law_1493 : decode cL_law 1493 = .ok (.invokestatic 178, 3) := by decide +kernel
theorem dL_law_1496 : decode cL_law 1496 = .ok (.istore 5, 2) := by decide +kernel
theorem dL_law_1498 : decode cL_law 1498 = .ok (.aload_n 2, 1) := by decide +kernel
theorem dL_law_1499 : decode cL_law 1499 = .ok (.aload_n 0, 1) := by decide +kernel
theorem dL_law_1500 : decode cL_law 1500 = .ok (.iload 4, 2) := by decide +kernel
theorem dL_law_1502 : decode cL_law 1502 = .ok (.iconst 1, 1) := by decide +kernel
theorem dL_law_1503 : decode cL_law 1503 = .ok (.iadd, 1) := by decide +kernel
theorem dL_law_1504 : decode cL_law 1504 = .ok (.iaload, 1) := by decide +kernel
theorem dL_law_1505 : decode cL_law 1505 = .ok (.invokevirtual 180, 3) := by decide +kernel
theorem dL_law_1508 : decode cL_law 1508 = .ok (.istore 6, 2) := by decide +kernel
theorem dL_law_1510 : decode cL_law 1510 = .ok (.aload_n 2, 1) := by decide +kernel
theorem dL_law_1511 : decode cL_law 1511 = .ok (.invokevirtual 99, 3) := by decide +kernel
theorem dL_law_1514 : decode cL_law 1514 = .ok (.iload 5, 2) := by decide +kernel
theorem dL_law_1516 : decode cL_law 1516 = .ok (.if_icmp .eq 5, 3) := by decide +kernel
theorem dL_law_1519 : decode cL_law 1519 = .ok (.iconst 0, 1) := by decide +kernel
theorem dL_law_1520 : decode cL_law 1520 = .ok (.ireturn, 1) := by decide +kernel
theorem dL_law_1521 : decode cL_law 1521 = .ok (.iload 5, 2) := by decide +kernel
theorem dL_law_1523 : decode cL_law 1523 = .ok (.ifCond .ne 15, 3) := by decide +kernel
theorem dL_law_1526 : decode cL_law 1526 = .ok (.aload_n 3, 1) := by decide +kernel
theorem dL_law_1527 : decode cL_law 1527 = .ok (.iconst 0, 1) := by decide +kernel
theorem dL_law_1528 : decode cL_law 1528 = .ok (.laload, 1) := by decide +kernel
theorem dL_law_1529 : decode cL_law 1529 = .ok (.iload 6, 2) := by decide +kernel
theorem dL_law_1531 : decode cL_law 1531 = .ok (.i2l, 1) := by decide +kernel
theorem dL_law_1532 : decode cL_law 1532 = .ok (.lcmp, 1) := by decide +kernel
theorem dL_law_1533 : decode cL_law 1533 = .ok (.ifCond .eq 5, 3) := by decide +kernel
theorem dL_law_1536 : decode cL_law 1536 = .ok (.iconst 0, 1) := by decide +kernel
theorem dL_law_1537 : decode cL_law 1537 = .ok (.ireturn, 1) := by decide +kernel
theorem dL_law_1538 : decode cL_law 1538 = .ok (.goto 71, 3) := by decide +kernel
theorem dL_law_1541 : decode cL_law 1541 = .ok (.aload_n 1, 1) := by decide +kernel
theorem dL_law_1542 : decode cL_law 1542 = .ok (.aload_n 0, 1) := by decide +kernel
theorem dL_law_1543 : decode cL_law 1543 = .ok (.iload 4, 2) := by decide +kernel
theorem dL_law_1545 : decode cL_law 1545 = .ok (.iconst 1, 1) := by decide +kernel
theorem dL_law_1546 : decode cL_law 1546 = .ok (.iadd, 1) := by decide +kernel
theorem dL_law_1547 : decode cL_law 1547 = .ok (.iaload, 1) := by decide +kernel
theorem dL_law_1548 : decode cL_law 1548 = .ok (.aload_n 0, 1) := by decide +kernel
theorem dL_law_1549 : decode cL_law 1549 = .ok (.iload 4, 2) := by decide +kernel
theorem dL_law_1551 : decode cL_law 1551 = .ok (.iconst 2, 1) := by decide +kernel
theorem dL_law_1552 : decode cL_law 1552 = .ok (.iadd, 1) := by decide +kernel
theorem dL_law_1553 : decode cL_law 1553 = .ok (.iaload, 1) := by decide +kernel
theorem dL_law_1554 : decode cL_law 1554 = .ok (.aload_n 3, 1) := by decide +kernel
theorem dL_law_1555 : decode cL_law 1555 = .ok (.invokestatic 181, 3) := by decide +kernel
theorem dL_law_1558 : decode cL_law 1558 = .ok (.istore 5, 2) := by decide +kernel
theorem dL_law_1560 : decode cL_law 1560 = .ok (.aload_n 2, 1) := by decide +kernel
theorem dL_law_1561 : decode cL_law 1561 = .ok (.aload_n 0, 1) := by decide +kernel
theorem dL_law_1562 : decode cL_law 1562 = .ok (.iload 4, 2) := by decide +kernel
theorem dL_law_1564 : decode cL_law 1564 = .ok (.iconst 1, 1) := by decide +kernel
theorem dL_law_1565 : decode cL_law 1565 = .ok (.iadd, 1) := by decide +kernel
theorem dL_law_1566 : decode cL_law 1566 = .ok (.iaload, 1) := by decide +kernel
theorem dL_law_1567 : decode cL_law 1567 = .ok (.aload_n 0, 1) := by decide +kernel
theorem dL_law_1568 : decode cL_law 1568 = .ok (.iload 4, 2) := by decide +kernel
theorem dL_law_1570 : decode cL_law 1570 = .ok (.iconst 2, 1) := by decide +kernel
theorem dL_law_1571 : decode cL_law 1571 = .ok (.iadd, 1) := by decide +kernel
theorem dL_law_1572 : decode cL_law 1572 = .ok (.iaload, 1) := by decide +kernel
theorem dL_law_1573 : decode cL_law 1573 = .ok (.invokevirtual 183, 3) := by decide +kernel
theorem dL_law_1576 : decode cL_law 1576 = .ok (.istore 6, 2) := by decide +kernel
theorem dL_law_1578 : decode cL_law 1578 = .ok (.aload_n 2, 1) := by decide +kernel
theorem dL_law_1579 : decode cL_law 1579 = .ok (.invokevirtual 99, 3) := by decide +kernel
theorem dL_law_1582 : decode cL_law 1582 = .ok (.iload 5, 2) := by decide +kernel
theorem dL_law_1584 : decode cL_law 1584 = .ok (.if_icmp .eq 5, 3) := by decide +kernel
theorem dL_law_1587 : decode cL_law 1587 = .ok (.iconst 0, 1) := by decide +kernel
theorem dL_law_1588 : decode cL_law 1588 = .ok (.ireturn, 1) := by decide +kernel
theorem dL_law_1589 : decode cL_law 1589 = .ok (.iload 5, 2) := by decide +kernel
theorem dL_law_1591 : decode cL_law 1591 = .ok (.ifCond .ne 15, 3) := by decide +kernel
theorem dL_law_1594 : decode cL_law 1594 = .ok (.aload_n 3, 1) := by decide +kernel
theorem dL_law_1595 : decode cL_law 1595 = .ok (.iconst 0, 1) := by decide +kernel
theorem dL_law_1596 : decode cL_law 1596 = .ok (.laload, 1) := by decide +kernel
theorem dL_law_1597 : decode cL_law 1597 = .ok (.iload 6, 2) := by decide +kernel
theorem dL_law_1599 : decode cL_law 1599 = .ok (.i2l, 1) := by decide +kernel
theorem dL_law_1600 : decode cL_law 1600 = .ok (.lcmp, 1) := by decide +kernel
theorem dL_law_1601 : decode cL_law 1601 = .ok (.ifCond .eq 5, 3) := by decide +kernel
theorem dL_law_1604 : decode cL_law 1604 = .ok (.iconst 0, 1) := by decide +kernel
theorem dL_law_1605 : decode cL_law 1605 = .ok (.ireturn, 1) := by decide +kernel
theorem dL_law_1606 : decode cL_law 1606 = .ok (.goto 3, 3) := by decide +kernel
theorem dL_law_1609 : decode cL_law 1609 = .ok (.iinc 4 5, 3) := by decide +kernel
theorem dL_law_1612 : decode cL_law 1612 = .ok (.goto (-1589), 3) := by decide +kernel
theorem dL_law_1615 : decode cL_law 1615 = .ok (.iconst 1, 1) := by decide +kernel
theorem dL_law_1616 : decode cL_law 1616 = .ok (.ireturn, 1) := by decide +kernel
end
section
/-! THE FRAMEWORK: one judgement over a pure state. A method's world is a family wf of cell lists over a pure state u; G says: in every heap that holds wf u, with locals L and stack st at pc, the machine comes to Q. -/
abbrev LU : Type := Nat → Nat → Int32
/-- array k replaced -/
def up (u : LU) (k : Nat) (f : Nat → Int32) : LU := fun j => if j = k then f else u j
theorem up_s (u : LU) (k : Nat) (f : Nat → Int32) : up u k f k = f := if_pos rfl
theorem up_n (u : LU) (k : Nat) (f : Nat → Int32) {j : Nat} (h : j ≠ k) : up u k f j = u j := if_neg h
/-- a truth as an int -/
noncomputable def bP (P : Prop) : Int32 := @ite _ P (Classical.propDecidable P) 1 0
theorem bP_t {P : Prop} (h : P) : bP P = 1 := by unfold bP; exact if_pos h
theorem bP_f {P : Prop} (h : ¬ P) : bP P = 0 := by unfold bP; exact if_neg h
theorem bP_0 {P : Prop} : bP P = 0 ↔ ¬ P := ⟨fun h q => by rw [bP_t q] at h; exact absurd h (by decide), bP_f⟩
theorem bP_n0 {P : Prop} : ¬ bP P = 0 ↔ P := ⟨fun h => Classical.byContradiction (fun q => h (bP_f q)), fun q h => by rw [bP_t q] at h; exact absurd h (by decide)⟩
theorem bP_1 {P : Prop} : bP P = 1 ↔ P := ⟨fun h => Classical.byContradiction (fun q => by rw [bP_f q] at h; exact absurd h (by decide)), bP_t⟩
theorem bP_c {P P' : Prop} (h : P ↔ P') : bP P = bP P' := congrArg bP (propext h)
theorem bP_or (P : Prop) : bP P = 0 ∨ bP P = 1 := (Classical.em P).elim (fun h => Or.inr (bP_t h)) (fun h => Or.inl (bP_f h))
theorem bP_ti {P : Prop} : (bP P).toInt = 0 ∧ ¬ P ∨ (bP P).toInt = 1 ∧ P := (Classical.em P).elim (fun h => Or.inr ⟨by rw [bP_t h]; rfl, h⟩) (fun h => Or.inl ⟨by rw [bP_f h]; rfl, h⟩)
theorem bP_nar (P : Prop) : narrow .boolean (.int (bP P)) = .int (bP P) := by rcases bP_or P with h | h <;> rw [h] <;> rfl
theorem bP_vp (P : Prop) : vp_nar .boolean (bP P) = bP P := by rcases bP_or P with h | h <;> rw [h] <;> rfl
/-- what a method's body knows throughout -/
def CX {S : Type} (p : Program) (s : State) (m : MethodId) (args : Array Value) (meth : Method) (c : Code) (D : va_G) (tys : List (ClassId × FieldType)) (A : Nat → Prop) (own : String) (cc : ByteArray) (Ts : List Cond) (nL : Nat) (wf : S → va_W) : Prop :=
  p.tables.exec = Jvm.exec ∧ c.code = cc ∧ c.maxLocals = nL ∧ s.vm.findClass own = some m.cls ∧ (∀ w ∈ Ts, w.before args s = true) ∧ va_K D vwCl tys s ∧ (∀ q, s.heap.size ≤ q → A q) ∧ (∀ u, va_D A (wf u)) ∧ meth.locks = false
def G {S : Type} (p : Program) (l : Launch) (e : Env) (R : Room) (s : State) (m : MethodId) (args : Array Value) (below : List Frame) (meth : Method) (c : Code) (D : va_G) (A : Nat → Prop) (nL : Nat) (wf : S → va_W) (cells slots : Nat) (Q : State → Prop) (u : S) (pc : Nat) (L : List (Nat × Value)) (st : List Value) : Prop :=
  ∀ (H : Heap) (locs : List Loc) (ls : Array Slot), va_P D vwCl (wf u) H → va_S A s.heap H locs → lv_has ls nL L → W p l e R s m args below meth c H locs cells slots Q (F0 m pc ls st)
section GR
variable {S : Type} {p : Program} {l : Launch} {e : Env} {R : Room} {s : State} {m : MethodId} {args : Array Value} {below : List Frame} {meth : Method} {c : Code} {D : va_G} {tys : List (ClassId × FieldType)} {A : Nat → Prop} {own : String} {cc : ByteArray} {Ts : List Cond} {nL : Nat} {wf : S → va_W} {cells slots : Nat} {Q : State → Prop} {u : S} {pc pc' : Nat} {L : List (Nat × Value)} {st : List Value}
theorem g_widen {k n : Nat} (h1 : cells ≤ k) (h2 : slots ≤ n) (kk : G p l e R s m args below meth c D A nL wf k n Q u pc L st) : G p l e R s m args below meth c D A nL wf cells slots Q u pc L st :=
  fun H locs ls hP hS hl => W.widen h1 h2 (kk H locs ls hP hS hl)
theorem g_sub {L' : List (Nat × Value)} (ks : List Nat) (hL : lv_pick L ks = L') (kk : G p l e R s m args below meth c D A nL wf cells slots Q u pc L' st) : G p l e R s m args below meth c D A nL wf cells slots Q u pc L st :=
  fun H locs ls hP hS hl => kk H locs ls hP hS (lv_sub hl ks hL)
theorem g_st {u' : S} (h : u = u') (kk : G p l e R s m args below meth c D A nL wf cells slots Q u' pc L st) : G p l e R s m args below meth c D A nL wf cells slots Q u pc L st := h ▸ kk
theorem g_iconst (C : CX p s m args meth c D tys A own cc Ts nL wf) {n : Int} {v : Int32} (hdg : decode cc pc = .ok (.iconst n, 1)) (hp : pc + 1 = pc') (hv : Int32.ofInt n = v) (kk : G p l e R s m args below meth c D A nL wf cells slots Q u pc' L (.int v :: st)) : G p l e R s m args below meth c D A nL wf cells slots Q u pc L st := by
  subst hp; exact fun H locs ls hP hS hl => lv_iconst C.1 C.2.1 hdg hv (kk H locs ls hP hS hl)
theorem g_bipush (C : CX p s m args meth c D tys A own cc Ts nL wf) {n : Int} {v : Int32} (hdg : decode cc pc = .ok (.bipush n, 2)) (hp : pc + 2 = pc') (hv : (Int8.ofInt n).toInt32 = v) (kk : G p l e R s m args below meth c D A nL wf cells slots Q u pc' L (.int v :: st)) : G p l e R s m args below meth c D A nL wf cells slots Q u pc L st := by
  subst hp; exact fun H locs ls hP hS hl => lv_bipush C.1 C.2.1 hdg hv (kk H locs ls hP hS hl)
theorem g_sipush (C : CX p s m args meth c D tys A own cc Ts nL wf) {n : Int} {v : Int32} (hdg : decode cc pc = .ok (.sipush n, 3)) (hp : pc + 3 = pc') (hv : (Int16.ofInt n).toInt32 = v) (kk : G p l e R s m args below meth c D A nL wf cells slots Q u pc' L (.int v :: st)) : G p l e R s m args below meth c D A nL wf cells slots Q u pc L st := by
  subst hp; exact fun H locs ls hP hS hl => lv_sipush C.1 C.2.1 hdg hv (kk H locs ls hP hS hl)
theorem g_ldc (C : CX p s m args meth c D tys A own cc Ts nL wf) {index : Nat} {v : Int32} (hdg : decode cc pc = .ok (.ldc index, 2)) (hp : pc + 2 = pc') (hc : Cond.constant own index v ∈ Ts) (kk : G p l e R s m args below meth c D A nL wf cells slots Q u pc' L (.int v :: st)) : G p l e R s m args below meth c D A nL wf cells slots Q u pc L st := by
  subst hp; exact fun H locs ls hP hS hl => lv_ldc C.1 C.2.1 C.2.2.2.1 (C.2.2.2.2.1 _ hc) hdg (kk H locs ls hP hS hl)
theorem g_iload_n (C : CX p s m args meth c D tys A own cc Ts nL wf) {k : Fin 4} {i q : Nat} {x : Int32} (hdg : decode cc pc = .ok (.iload_n k, 1)) (hp : pc + 1 = pc') (hi : (k : Nat) = i) (hL : L[q]? = some (i, .int x)) (kk : G p l e R s m args below meth c D A nL wf cells slots Q u pc' L (.int x :: st)) : G p l e R s m args below meth c D A nL wf cells slots Q u pc L st := by
  subst hp; exact fun H locs ls hP hS hl => lv_iload_n C.1 C.2.1 hdg hi (lv_at hl q hL) (kk H locs ls hP hS hl)
theorem g_iload (C : CX p s m args meth c D tys A own cc Ts nL wf) {i q : Nat} {x : Int32} (hdg : decode cc pc = .ok (.iload i, 2)) (hp : pc + 2 = pc') (hL : L[q]? = some (i, .int x)) (kk : G p l e R s m args below meth c D A nL wf cells slots Q u pc' L (.int x :: st)) : G p l e R s m args below meth c D A nL wf cells slots Q u pc L st := by
  subst hp; exact fun H locs ls hP hS hl => lv_iload C.1 C.2.1 hdg (lv_at hl q hL) (kk H locs ls hP hS hl)
theorem g_aload_n (C : CX p s m args meth c D tys A own cc Ts nL wf) {k : Fin 4} {i q : Nat} {x : Nat} (hdg : decode cc pc = .ok (.aload_n k, 1)) (hp : pc + 1 = pc') (hi : (k : Nat) = i) (hL : L[q]? = some (i, .ref x)) (kk : G p l e R s m args below meth c D A nL wf cells slots Q u pc' L (.ref x :: st)) : G p l e R s m args below meth c D A nL wf cells slots Q u pc L st := by
  subst hp; exact fun H locs ls hP hS hl => lv_aload_n C.1 C.2.1 hdg hi (lv_at hl q hL) (kk H locs ls hP hS hl)
theorem g_aload (C : CX p s m args meth c D tys A own cc Ts nL wf) {i q : Nat} {x : Nat} (hdg : decode cc pc = .ok (.aload i, 2)) (hp : pc + 2 = pc') (hL : L[q]? = some (i, .ref x)) (kk : G p l e R s m args below meth c D A nL wf cells slots Q u pc' L (.ref x :: st)) : G p l e R s m args below meth c D A nL wf cells slots Q u pc L st := by
  subst hp; exact fun H locs ls hP hS hl => lv_aload C.1 C.2.1 hdg (lv_at hl q hL) (kk H locs ls hP hS hl)
theorem g_istore_n (C : CX p s m args meth c D tys A own cc Ts nL wf) {k : Fin 4} {i : Nat} {x : Int32} {L' : List (Nat × Value)} (hdg : decode cc pc = .ok (.istore_n k, 1)) (hp : pc + 1 = pc') (hi : (k : Nat) = i) (hn : i < nL) (hl : (i, Value.int x) :: L.filter (fun q => !(q.1 == i) && !(q.1 + 1 == i && q.2.category == 2)) = L') (kk : G p l e R s m args below meth c D A nL wf cells slots Q u pc' L' st) : G p l e R s m args below meth c D A nL wf cells slots Q u pc L (.int x :: st) := by
  subst hp; exact fun H locs ls hP hS h => lv_istore_n C.1 C.2.1 hdg hi h hn hl (fun ls' h' => kk H locs ls' hP hS h')
theorem g_istore (C : CX p s m args meth c D tys A own cc Ts nL wf) {i : Nat} {x : Int32} {L' : List (Nat × Value)} (hdg : decode cc pc = .ok (.istore i, 2)) (hp : pc + 2 = pc') (hn : i < nL) (hl : (i, Value.int x) :: L.filter (fun q => !(q.1 == i) && !(q.1 + 1 == i && q.2.category == 2)) = L') (kk : G p l e R s m args below meth c D A nL wf cells slots Q u pc' L' st) : G p l e R s m args below meth c D A nL wf cells slots Q u pc L (.int x :: st) := by
  subst hp; exact fun H locs ls hP hS h => lv_istore C.1 C.2.1 hdg h hn hl (fun ls' h' => kk H locs ls' hP hS h')
theorem g_astore_n (C : CX p s m args meth c D tys A own cc Ts nL wf) {k : Fin 4} {i : Nat} {x : Nat} {L' : List (Nat × Value)} (hdg : decode cc pc = .ok (.astore_n k, 1)) (hp : pc + 1 = pc') (hi : (k : Nat) = i) (hn : i < nL) (hl : (i, Value.ref x) :: L.filter (fun q => !(q.1 == i) && !(q.1 + 1 == i && q.2.category == 2)) = L') (kk : G p l e R s m args below meth c D A nL wf cells slots Q u pc' L' st) : G p l e R s m args below meth c D A nL wf cells slots Q u pc L (.ref x :: st) := by
  subst hp; exact fun H locs ls hP hS h => lv_astore_n C.1 C.2.1 hdg hi h hn hl (fun ls' h' => kk H locs ls' hP hS h')
theorem g_astore (C : CX p s m args meth c D tys A own cc Ts nL wf) {i : Nat} {x : Nat} {L' : List (Nat × Value)} (hdg : decode cc pc = .ok (.astore i, 2)) (hp : pc + 2 = pc') (hn : i < nL) (hl : (i, Value.ref x) :: L.filter (fun q => !(q.1 == i) && !(q.1 + 1 == i && q.2.category == 2)) = L') (kk : G p l e R s m args below meth c D A nL wf cells slots Q u pc' L' st) : G p l e R s m args below meth c D A nL wf cells slots Q u pc L (.ref x :: st) := by
  subst hp; exact fun H locs ls hP hS h => lv_astore C.1 C.2.1 hdg h hn hl (fun ls' h' => kk H locs ls' hP hS h')
theorem g_iinc (C : CX p s m args meth c D tys A own cc Ts nL wf) {i k : Nat} {n : Int} {x v : Int32} {L' : List (Nat × Value)} (hdg : decode cc pc = .ok (.iinc i n, 3)) (hp : pc + 3 = pc') (hk : L[k]? = some (i, .int x)) (hv : x + Int32.ofInt n = v) (hn : i < nL) (hl : (i, Value.int v) :: L.filter (fun q => !(q.1 == i) && !(q.1 + 1 == i && q.2.category == 2)) = L') (kk : G p l e R s m args below meth c D A nL wf cells slots Q u pc' L' st) : G p l e R s m args below meth c D A nL wf cells slots Q u pc L st := by
  subst hp; exact fun H locs ls hP hS h => lv_iinc C.1 C.2.1 hdg h hk hv hn hl (fun ls' h' => kk H locs ls' hP hS h')
theorem g_iadd (C : CX p s m args meth c D tys A own cc Ts nL wf) {x y : Int32} (hdg : decode cc pc = .ok (.iadd, 1)) (hp : pc + 1 = pc') (kk : G p l e R s m args below meth c D A nL wf cells slots Q u pc' L (.int (x + y) :: st)) : G p l e R s m args below meth c D A nL wf cells slots Q u pc L (.int y :: .int x :: st) := by
  subst hp; exact fun H locs ls hP hS hl => lv_iadd C.1 C.2.1 hdg (kk H locs ls hP hS hl)
theorem g_isub (C : CX p s m args meth c D tys A own cc Ts nL wf) {x y : Int32} (hdg : decode cc pc = .ok (.isub, 1)) (hp : pc + 1 = pc') (kk : G p l e R s m args below meth c D A nL wf cells slots Q u pc' L (.int (x - y) :: st)) : G p l e R s m args below meth c D A nL wf cells slots Q u pc L (.int y :: .int x :: st) := by
  subst hp; exact fun H locs ls hP hS hl => lv_isub C.1 C.2.1 hdg (kk H locs ls hP hS hl)
theorem g_imul (C : CX p s m args meth c D tys A own cc Ts nL wf) {x y : Int32} (hdg : decode cc pc = .ok (.imul, 1)) (hp : pc + 1 = pc') (kk : G p l e R s m args below meth c D A nL wf cells slots Q u pc' L (.int (x * y) :: st)) : G p l e R s m args below meth c D A nL wf cells slots Q u pc L (.int y :: .int x :: st) := by
  subst hp; exact fun H locs ls hP hS hl => lv_imul C.1 C.2.1 hdg (kk H locs ls hP hS hl)
theorem g_iand (C : CX p s m args meth c D tys A own cc Ts nL wf) {x y : Int32} (hdg : decode cc pc = .ok (.iand, 1)) (hp : pc + 1 = pc') (kk : G p l e R s m args below meth c D A nL wf cells slots Q u pc' L (.int (x &&& y) :: st)) : G p l e R s m args below meth c D A nL wf cells slots Q u pc L (.int y :: .int x :: st) := by
  subst hp; exact fun H locs ls hP hS hl => lv_iand C.1 C.2.1 hdg (kk H locs ls hP hS hl)
theorem g_dup (C : CX p s m args meth c D tys A own cc Ts nL wf) {v : Value} (hdg : decode cc pc = .ok (.dup, 1)) (hp : pc + 1 = pc') (hv : v.category = 1) (kk : G p l e R s m args below meth c D A nL wf cells slots Q u pc' L (v :: v :: st)) : G p l e R s m args below meth c D A nL wf cells slots Q u pc L (v :: st) := by
  subst hp; exact fun H locs ls hP hS hl => lv_dup C.1 C.2.1 hdg hv (kk H locs ls hP hS hl)
theorem g_dup2 (C : CX p s m args meth c D tys A own cc Ts nL wf) {v w : Value} (hdg : decode cc pc = .ok (.dup2, 1)) (hp : pc + 1 = pc') (hv : v.category = 1) (hw : w.category = 1) (kk : G p l e R s m args below meth c D A nL wf cells slots Q u pc' L (v :: w :: v :: w :: st)) : G p l e R s m args below meth c D A nL wf cells slots Q u pc L (v :: w :: st) := by
  subst hp; exact fun H locs ls hP hS hl => lv_dup2_11 C.1 C.2.1 hdg hv hw (kk H locs ls hP hS hl)
theorem g_goto (C : CX p s m args meth c D tys A own cc Ts nL wf) {off : Int} {tgt : Nat} (hdg : decode cc pc = .ok (.goto off, 3)) (ht : (pc : Int) + off = (tgt : Int)) (kk : G p l e R s m args below meth c D A nL wf cells slots Q u tgt L st) : G p l e R s m args below meth c D A nL wf cells slots Q u pc L st :=
  fun H locs ls hP hS hl => lv_goto C.1 C.2.1 hdg ht (kk H locs ls hP hS hl)
theorem ti_0 : (0 : Int32).toInt = 0 := Int32.toInt_zero
theorem ii_eq (x : Int32) : (x = 0) ↔ (x.toInt = 0) := by
  have h := @Int32.toInt_inj x 0
  rw [ti_0] at h
  exact h.symm
theorem ii_ne (x : Int32) : (¬ x = 0) ↔ (¬ x.toInt = 0) := by
  have h := @Int32.toInt_inj x 0
  rw [ti_0] at h
  exact not_congr h.symm
theorem ii_lt (x : Int32) : (x < 0) ↔ (x.toInt < 0) := by
  have h := @Int32.lt_iff_toInt_lt x 0
  rw [ti_0] at h
  exact h
theorem ii_ge (x : Int32) : (0 ≤ x) ↔ (0 ≤ x.toInt) := by
  have h := @Int32.le_iff_toInt_le 0 x
  rw [ti_0] at h
  exact h
theorem ii_gt (x : Int32) : (0 < x) ↔ (0 < x.toInt) := by
  have h := @Int32.lt_iff_toInt_lt 0 x
  rw [ti_0] at h
  exact h
theorem ii_le (x : Int32) : (x ≤ 0) ↔ (x.toInt ≤ 0) := by
  have h := @Int32.le_iff_toInt_le x 0
  rw [ti_0] at h
  exact h
theorem cc_eq (x y : Int32) : (x = y) ↔ (x.toInt = y.toInt) := Int32.toInt_inj.symm
theorem cc_ne (x y : Int32) : (¬ x = y) ↔ (¬ x.toInt = y.toInt) := not_congr Int32.toInt_inj.symm
theorem cc_lt (x y : Int32) : (x < y) ↔ (x.toInt < y.toInt) := Int32.lt_iff_toInt_lt
theorem cc_ge (x y : Int32) : (y ≤ x) ↔ (y.toInt ≤ x.toInt) := Int32.le_iff_toInt_le
theorem cc_gt (x y : Int32) : (y < x) ↔ (y.toInt < x.toInt) := Int32.lt_iff_toInt_lt
theorem cc_le (x y : Int32) : (x ≤ y) ↔ (x.toInt ≤ y.toInt) := Int32.le_iff_toInt_le
theorem g_if_eq (C : CX p s m args meth c D tys A own cc Ts nL wf) {x : Int32} {off : Int} {tgt : Nat} (hdg : decode cc pc = .ok (.ifCond .eq off, 3)) (hp : pc + 3 = pc') (ht : (pc : Int) + off = (tgt : Int)) (kt : x.toInt = 0 → G p l e R s m args below meth c D A nL wf cells slots Q u tgt L st) (kf : ¬ (x.toInt = 0) → G p l e R s m args below meth c D A nL wf cells slots Q u pc' L st) : G p l e R s m args below meth c D A nL wf cells slots Q u pc L (.int x :: st) := by
  subst hp; exact fun H locs ls hP hS hl => lv_if_eq C.1 C.2.1 hdg ht (fun h => kt ((ii_eq x).mp h) H locs ls hP hS hl) (fun h => kf (fun h9 => h ((ii_eq x).mpr h9)) H locs ls hP hS hl)
theorem g_if_ne (C : CX p s m args meth c D tys A own cc Ts nL wf) {x : Int32} {off : Int} {tgt : Nat} (hdg : decode cc pc = .ok (.ifCond .ne off, 3)) (hp : pc + 3 = pc') (ht : (pc : Int) + off = (tgt : Int)) (kt : ¬ x.toInt = 0 → G p l e R s m args below meth c D A nL wf cells slots Q u tgt L st) (kf : x.toInt = 0 → G p l e R s m args below meth c D A nL wf cells slots Q u pc' L st) : G p l e R s m args below meth c D A nL wf cells slots Q u pc L (.int x :: st) := by
  subst hp; exact fun H locs ls hP hS hl => lv_if_ne C.1 C.2.1 hdg ht (fun h => kt ((ii_ne x).mp h) H locs ls hP hS hl) (fun h => kf ((ii_eq x).mp h) H locs ls hP hS hl)
theorem g_if_lt (C : CX p s m args meth c D tys A own cc Ts nL wf) {x : Int32} {off : Int} {tgt : Nat} (hdg : decode cc pc = .ok (.ifCond .lt off, 3)) (hp : pc + 3 = pc') (ht : (pc : Int) + off = (tgt : Int)) (kt : x.toInt < 0 → G p l e R s m args below meth c D A nL wf cells slots Q u tgt L st) (kf : ¬ (x.toInt < 0) → G p l e R s m args below meth c D A nL wf cells slots Q u pc' L st) : G p l e R s m args below meth c D A nL wf cells slots Q u pc L (.int x :: st) := by
  subst hp; exact fun H locs ls hP hS hl => lv_if_lt C.1 C.2.1 hdg ht (fun h => kt ((ii_lt x).mp h) H locs ls hP hS hl) (fun h => kf (fun h9 => h ((ii_lt x).mpr h9)) H locs ls hP hS hl)
theorem g_if_ge (C : CX p s m args meth c D tys A own cc Ts nL wf) {x : Int32} {off : Int} {tgt : Nat} (hdg : decode cc pc = .ok (.ifCond .ge off, 3)) (hp : pc + 3 = pc') (ht : (pc : Int) + off = (tgt : Int)) (kt : 0 ≤ x.toInt → G p l e R s m args below meth c D A nL wf cells slots Q u tgt L st) (kf : ¬ (0 ≤ x.toInt) → G p l e R s m args below meth c D A nL wf cells slots Q u pc' L st) : G p l e R s m args below meth c D A nL wf cells slots Q u pc L (.int x :: st) := by
  subst hp; exact fun H locs ls hP hS hl => lv_if_ge C.1 C.2.1 hdg ht (fun h => kt ((ii_ge x).mp h) H locs ls hP hS hl) (fun h => kf (fun h9 => h ((ii_ge x).mpr h9)) H locs ls hP hS hl)
theorem g_if_gt (C : CX p s m args meth c D tys A own cc Ts nL wf) {x : Int32} {off : Int} {tgt : Nat} (hdg : decode cc pc = .ok (.ifCond .gt off, 3)) (hp : pc + 3 = pc') (ht : (pc : Int) + off = (tgt : Int)) (kt : 0 < x.toInt → G p l e R s m args below meth c D A nL wf cells slots Q u tgt L st) (kf : ¬ (0 < x.toInt) → G p l e R s m args below meth c D A nL wf cells slots Q u pc' L st) : G p l e R s m args below meth c D A nL wf cells slots Q u pc L (.int x :: st) := by
  subst hp; exact fun H locs ls hP hS hl => lv_if_gt C.1 C.2.1 hdg ht (fun h => kt ((ii_gt x).mp h) H locs ls hP hS hl) (fun h => kf (fun h9 => h ((ii_gt x).mpr h9)) H locs ls hP hS hl)
theorem g_if_le (C : CX p s m args meth c D tys A own cc Ts nL wf) {x : Int32} {off : Int} {tgt : Nat} (hdg : decode cc pc = .ok (.ifCond .le off, 3)) (hp : pc + 3 = pc') (ht : (pc : Int) + off = (tgt : Int)) (kt : x.toInt ≤ 0 → G p l e R s m args below meth c D A nL wf cells slots Q u tgt L st) (kf : ¬ (x.toInt ≤ 0) → G p l e R s m args below meth c D A nL wf cells slots Q u pc' L st) : G p l e R s m args below meth c D A nL wf cells slots Q u pc L (.int x :: st) := by
  subst hp; exact fun H locs ls hP hS hl => lv_if_le C.1 C.2.1 hdg ht (fun h => kt ((ii_le x).mp h) H locs ls hP hS hl) (fun h => kf (fun h9 => h ((ii_le x).mpr h9)) H locs ls hP hS hl)
theorem g_icmp_eq (C : CX p s m args meth c D tys A own cc Ts nL wf) {x y : Int32} {off : Int} {tgt : Nat} (hdg : decode cc pc = .ok (.if_icmp .eq off, 3)) (hp : pc + 3 = pc') (ht : (pc : Int) + off = (tgt : Int)) (kt : x.toInt = y.toInt → G p l e R s m args below meth c D A nL wf cells slots Q u tgt L st) (kf : ¬ (x.toInt = y.toInt) → G p l e R s m args below meth c D A nL wf cells slots Q u pc' L st) : G p l e R s m args below meth c D A nL wf cells slots Q u pc L (.int y :: .int x :: st) := by
  subst hp; exact fun H locs ls hP hS hl => lv_icmp_eq C.1 C.2.1 hdg ht (fun h => kt ((cc_eq x y).mp h) H locs ls hP hS hl) (fun h => kf (fun h9 => h ((cc_eq x y).mpr h9)) H locs ls hP hS hl)
theorem g_icmp_ne (C : CX p s m args meth c D tys A own cc Ts nL wf) {x y : Int32} {off : Int} {tgt : Nat} (hdg : decode cc pc = .ok (.if_icmp .ne off, 3)) (hp : pc + 3 = pc') (ht : (pc : Int) + off = (tgt : Int)) (kt : ¬ x.toInt = y.toInt → G p l e R s m args below meth c D A nL wf cells slots Q u tgt L st) (kf : x.toInt = y.toInt → G p l e R s m args below meth c D A nL wf cells slots Q u pc' L st) : G p l e R s m args below meth c D A nL wf cells slots Q u pc L (.int y :: .int x :: st) := by
  subst hp; exact fun H locs ls hP hS hl => lv_icmp_ne C.1 C.2.1 hdg ht (fun h => kt ((cc_ne x y).mp h) H locs ls hP hS hl) (fun h => kf ((cc_eq x y).mp h) H locs ls hP hS hl)
theorem g_icmp_lt (C : CX p s m args meth c D tys A own cc Ts nL wf) {x y : Int32} {off : Int} {tgt : Nat} (hdg : decode cc pc = .ok (.if_icmp .lt off, 3)) (hp : pc + 3 = pc') (ht : (pc : Int) + off = (tgt : Int)) (kt : x.toInt < y.toInt → G p l e R s m args below meth c D A nL wf cells slots Q u tgt L st) (kf : ¬ (x.toInt < y.toInt) → G p l e R s m args below meth c D A nL wf cells slots Q u pc' L st) : G p l e R s m args below meth c D A nL wf cells slots Q u pc L (.int y :: .int x :: st) := by
  subst hp; exact fun H locs ls hP hS hl => lv_icmp_lt C.1 C.2.1 hdg ht (fun h => kt ((cc_lt x y).mp h) H locs ls hP hS hl) (fun h => kf (fun h9 => h ((cc_lt x y).mpr h9)) H locs ls hP hS hl)
theorem g_icmp_ge (C : CX p s m args meth c D tys A own cc Ts nL wf) {x y : Int32} {off : Int} {tgt : Nat} (hdg : decode cc pc = .ok (.if_icmp .ge off, 3)) (hp : pc + 3 = pc') (ht : (pc : Int) + off = (tgt : Int)) (kt : y.toInt ≤ x.toInt → G p l e R s m args below meth c D A nL wf cells slots Q u tgt L st) (kf : ¬ (y.toInt ≤ x.toInt) → G p l e R s m args below meth c D A nL wf cells slots Q u pc' L st) : G p l e R s m args below meth c D A nL wf cells slots Q u pc L (.int y :: .int x :: st) := by
  subst hp; exact fun H locs ls hP hS hl => lv_icmp_ge C.1 C.2.1 hdg ht (fun h => kt ((cc_ge x y).mp h) H locs ls hP hS hl) (fun h => kf (fun h9 => h ((cc_ge x y).mpr h9)) H locs ls hP hS hl)
theorem g_icmp_gt (C : CX p s m args meth c D tys A own cc Ts nL wf) {x y : Int32} {off : Int} {tgt : Nat} (hdg : decode cc pc = .ok (.if_icmp .gt off, 3)) (hp : pc + 3 = pc') (ht : (pc : Int) + off = (tgt : Int)) (kt : y.toInt < x.toInt → G p l e R s m args below meth c D A nL wf cells slots Q u tgt L st) (kf : ¬ (y.toInt < x.toInt) → G p l e R s m args below meth c D A nL wf cells slots Q u pc' L st) : G p l e R s m args below meth c D A nL wf cells slots Q u pc L (.int y :: .int x :: st) := by
  subst hp; exact fun H locs ls hP hS hl => lv_icmp_gt C.1 C.2.1 hdg ht (fun h => kt ((cc_gt x y).mp h) H locs ls hP hS hl) (fun h => kf (fun h9 => h ((cc_gt x y).mpr h9)) H locs ls hP hS hl)
theorem g_icmp_le (C : CX p s m args meth c D tys A own cc Ts nL wf) {x y : Int32} {off : Int} {tgt : Nat} (hdg : decode cc pc = .ok (.if_icmp .le off, 3)) (hp : pc + 3 = pc') (ht : (pc : Int) + off = (tgt : Int)) (kt : x.toInt ≤ y.toInt → G p l e R s m args below meth c D A nL wf cells slots Q u tgt L st) (kf : ¬ (x.toInt ≤ y.toInt) → G p l e R s m args below meth c D A nL wf cells slots Q u pc' L st) : G p l e R s m args below meth c D A nL wf cells slots Q u pc L (.int y :: .int x :: st) := by
  subst hp; exact fun H locs ls hP hS hl => lv_icmp_le C.1 C.2.1 hdg ht (fun h => kt ((cc_le x y).mp h) H locs ls hP hS hl) (fun h => kf (fun h9 => h ((cc_le x y).mpr h9)) H locs ls hP hS hl)
theorem g_ifP_eq (C : CX p s m args meth c D tys A own cc Ts nL wf) {P : Prop} {off : Int} {tgt : Nat} (hdg : decode cc pc = .ok (.ifCond .eq off, 3)) (hp : pc + 3 = pc') (ht : (pc : Int) + off = (tgt : Int)) (kt : ¬ P → G p l e R s m args below meth c D A nL wf cells slots Q u tgt L st) (kf : P → G p l e R s m args below meth c D A nL wf cells slots Q u pc' L st) : G p l e R s m args below meth c D A nL wf cells slots Q u pc L (.int (bP P) :: st) := by
  subst hp; exact fun H locs ls hP hS hl => lv_if_eq C.1 C.2.1 hdg ht (fun h => kt (bP_0.mp h) H locs ls hP hS hl) (fun h => kf (bP_n0.mp h) H locs ls hP hS hl)
theorem g_ifP_ne (C : CX p s m args meth c D tys A own cc Ts nL wf) {P : Prop} {off : Int} {tgt : Nat} (hdg : decode cc pc = .ok (.ifCond .ne off, 3)) (hp : pc + 3 = pc') (ht : (pc : Int) + off = (tgt : Int)) (kt : P → G p l e R s m args below meth c D A nL wf cells slots Q u tgt L st) (kf : ¬ P → G p l e R s m args below meth c D A nL wf cells slots Q u pc' L st) : G p l e R s m args below meth c D A nL wf cells slots Q u pc L (.int (bP P) :: st) := by
  subst hp; exact fun H locs ls hP hS hl => lv_if_ne C.1 C.2.1 hdg ht (fun h => kt (bP_n0.mp h) H locs ls hP hS hl) (fun h => kf (bP_0.mp h) H locs ls hP hS hl)
theorem g_get (C : CX p s m args meth c D tys A own cc Ts nL wf) {ref Cn : String} {T : u_T} {N ci index : Nat} (hF : ∀ w ∈ u_ws Cn T N, w.before args s = true) (q0 : Nat) {b : Nat} {fs : List Value} (he : (wf u)[q0]? = some (b, .inr (ci, fs))) (hc : vwCl[ci]? = some (Cn, T, N)) (k : Nat) (hk : k < N) (hlink : Cond.fieldLink own index ref (T k).2.1 (T k).2.2.1 ∈ Ts) (hsame : (T k).1 = ref) {v : Value} (hv : fs[k]? = some v) (hdg : decode cc pc = .ok (.getfield index, 3)) (hp : pc + 3 = pc')
    (kk : G p l e R s m args below meth c D A nL wf cells slots Q u pc' L (v :: st)) : G p l e R s m args below meth c D A nL wf cells slots Q u pc L (.ref b :: st) := by
  subst hp; subst hsame
  exact fun H locs ls hP hS hl => va_get C.1 C.2.1 (Ts := u_ws Cn T N) hF (fun _ h => h) C.2.2.2.1 C.2.2.2.2.2.1 hP q0 he hc k hk (C.2.2.2.2.1 _ hlink) (fun _ h => h) hv hdg (kk H locs ls hP hS hl)
theorem g_putI (C : CX p s m args meth c D tys A own cc Ts nL wf) {ref Cn : String} {T : u_T} {N ci index : Nat} (hF : ∀ w ∈ u_ws Cn T N, w.before args s = true) (ty0 : Nat → FieldType) (hty : ∀ k, k < N → parseFieldDescriptor (T k).2.2.1 = some (ty0 k)) (hnm : ∀ a, a < N → ∀ b, b < N → a ≠ b → (T a).2.1 ≠ (T b).2.1) (q0 : Nat) {b : Nat} {fs : List Value} (he : (wf u)[q0]? = some (b, .inr (ci, fs))) (hc : vwCl[ci]? = some (Cn, T, N)) (k : Nat) (hk : k < N) (hlink : Cond.fieldLink own index ref (T k).2.1 (T k).2.2.1 ∈ Ts) (hsame : (T k).1 = ref) (hfin : (T k).2.2.2 = false) (hd : parseFieldDescriptor (T k).2.2.1 = some .int) {x : Int32} (hl0 : k < fs.length) (hdg : decode cc pc = .ok (.putfield index, 3)) (hp : pc + 3 = pc') {u' : S} (hset : (wf u).set q0 (b, .inr (ci, fs.set k (.int x))) = wf u')
    (kk : G p l e R s m args below meth c D A nL wf cells slots Q u' pc' L st) : G p l e R s m args below meth c D A nL wf cells slots Q u pc L (.int x :: .ref b :: st) := by
  subst hp; subst hsame
  exact fun H locs ls hP hS hl => va_put C.1 C.2.1 (Ts := u_ws Cn T N) hF (fun _ h => h) ty0 hty hnm C.2.2.2.1 C.2.2.2.2.2.1 hP (C.2.2.2.2.2.2.2.1 u) hS q0 he hc k hk (C.2.2.2.2.1 _ hlink) (fun _ h => h) hfin hd rfl rfl hl0 hdg (fun H1 locs1 hP1 _ hS1 => kk H1 locs1 ls (hset ▸ hP1) hS1 hl)
theorem g_iald (C : CX p s m args meth c D tys A own cc Ts nL wf) (q0 t0 : Nat) {b n : Nat} {cA : ClassId} {f : Nat → Int32} (he : (wf u)[q0]? = some (b, .inl (cA, n, .inl f))) (ht : tys[t0]? = some (cA, .int)) {i : Int32} {k : Nat} (hin : vp_in i n) (hk : i.toNatClampNeg = k) (hdg : decode cc pc = .ok (.iaload, 1)) (hp : pc + 1 = pc')
    (kk : G p l e R s m args below meth c D A nL wf cells slots Q u pc' L (.int (f k) :: st)) : G p l e R s m args below meth c D A nL wf cells slots Q u pc L (.int i :: .ref b :: st) := by
  subst hp; subst hk; exact fun H locs ls hP hS hl => va_iald C.1 C.2.1 C.2.2.2.2.2.1 hP q0 t0 he ht hin hdg (kk H locs ls hP hS hl)
theorem g_zald (C : CX p s m args meth c D tys A own cc Ts nL wf) (q0 t0 : Nat) {b n : Nat} {cA : ClassId} {f : Nat → Int32} (he : (wf u)[q0]? = some (b, .inl (cA, n, .inl f))) (ht : tys[t0]? = some (cA, .boolean)) {i : Int32} {k : Nat} (hin : vp_in i n) (hk : i.toNatClampNeg = k) (hdg : decode cc pc = .ok (.baload, 1)) (hp : pc + 1 = pc')
    (kk : G p l e R s m args below meth c D A nL wf cells slots Q u pc' L (.int (f k) :: st)) : G p l e R s m args below meth c D A nL wf cells slots Q u pc L (.int i :: .ref b :: st) := by
  subst hp; subst hk; exact fun H locs ls hP hS hl => va_zald C.1 C.2.1 C.2.2.2.2.2.1 hP q0 t0 he ht hin hdg (kk H locs ls hP hS hl)
theorem g_iast (C : CX p s m args meth c D tys A own cc Ts nL wf) (q0 t0 : Nat) {b n : Nat} {cA : ClassId} {f : Nat → Int32} (he : (wf u)[q0]? = some (b, .inl (cA, n, .inl f))) (ht : tys[t0]? = some (cA, .int)) {i x : Int32} {k : Nat} (hin : vp_in i n) (hk : i.toNatClampNeg = k) (hdg : decode cc pc = .ok (.iastore, 1)) (hp : pc + 1 = pc') {u' : S} (hset : (wf u).set q0 (b, .inl (cA, n, .inl (upd f k x))) = wf u')
    (kk : G p l e R s m args below meth c D A nL wf cells slots Q u' pc' L st) : G p l e R s m args below meth c D A nL wf cells slots Q u pc L (.int x :: .int i :: .ref b :: st) := by
  subst hp; subst hk; exact fun H locs ls hP hS hl => va_iast C.1 C.2.1 C.2.2.2.2.2.1 hP (C.2.2.2.2.2.2.2.1 u) hS q0 t0 he ht hin hdg (fun H1 locs1 hP1 _ hS1 => kk H1 locs1 ls (hset ▸ hP1) hS1 hl)
theorem g_zast (C : CX p s m args meth c D tys A own cc Ts nL wf) (q0 t0 : Nat) {b n : Nat} {cA : ClassId} {f : Nat → Int32} (he : (wf u)[q0]? = some (b, .inl (cA, n, .inl f))) (ht : tys[t0]? = some (cA, .boolean)) {i x : Int32} (hx : vp_nar .boolean x = x) {k : Nat} (hin : vp_in i n) (hk : i.toNatClampNeg = k) (hdg : decode cc pc = .ok (.bastore, 1)) (hp : pc + 1 = pc') {u' : S} (hset : (wf u).set q0 (b, .inl (cA, n, .inl (upd f k x))) = wf u')
    (kk : G p l e R s m args below meth c D A nL wf cells slots Q u' pc' L st) : G p l e R s m args below meth c D A nL wf cells slots Q u pc L (.int x :: .int i :: .ref b :: st) := by
  subst hp; subst hk; exact fun H locs ls hP hS hl => va_zast C.1 C.2.1 C.2.2.2.2.2.1 hP (C.2.2.2.2.2.2.2.1 u) hS q0 t0 he ht hin hdg (fun H1 locs1 hP1 _ hS1 => kk H1 locs1 ls (hset ▸ (hx ▸ hP1)) hS1 hl)
theorem g_aald (C : CX p s m args meth c D tys A own cc Ts nL wf) (q0 t0 : Nat) {b n : Nat} {cA : ClassId} {ty : FieldType} {f : Nat → Option Nat} (he : (wf u)[q0]? = some (b, .inl (cA, n, .inr (.inr (.inr (.inr f)))))) (ht : tys[t0]? = some (cA, .array ty)) {i : Int32} {x : Nat} (hin : vp_in i n) (hf : f i.toNatClampNeg = some x) (hdg : decode cc pc = .ok (.aaload, 1)) (hp : pc + 1 = pc')
    (kk : G p l e R s m args below meth c D A nL wf cells slots Q u pc' L (.ref x :: st)) : G p l e R s m args below meth c D A nL wf cells slots Q u pc L (.int i :: .ref b :: st) := by
  subst hp
  intro H locs ls hP hS hl
  have hlt : i.toNatClampNeg < n := Nat.not_le.mp fun q => hin (Or.inr q)
  refine W.aald (v := va_rf (f i.toNatClampNeg)) (ty := .array ty) C.1 C.2.1 (hP q0 _ he) ((C.2.2.2.2.2.1.2 t0 _ ht).1 n (fun j => va_rf (f j))) rfl (fun q => by cases q) (by show ¬ (i < 0 ∨ (arrV _ _ _).slots.size ≤ _); rw [arrV_size]; exact hin) (by show (arrV _ _ _).slots[_]? = _; rw [arrV_read _ _ hlt]) rfl rfl hdg ?_
  rw [hf]
  exact kk H locs ls hP hS hl
end GR
/-- the words of a throw that a call doesn't keep by itself -/
def dl0 : List MethodName := [Bundle.initS "java/lang/RuntimeException", Bundle.initS "java/lang/Exception", Bundle.initS Bundle.tN]
def cl0 : List String := ["java/lang/IndexOutOfBoundsException", "java/lang/IllegalArgumentException", "java/lang/IllegalStateException"]
def bw0 : List Cond := dl0.map Cond.declares ++ cl0.map (fun C => Cond.castable C C)
/-- the statics and texts that a throw of the class uses -/
def EV (A : Nat → Prop) (U : State) (H : Heap) (tx : List (Nat × String)) : Prop := vx_Zq Bundle.tN "UNASSIGNED_STACK" Bundle.steD A U H ∧ vx_Zq Bundle.tN "SUPPRESSED_SENTINEL" Bundle.listD A U H ∧ (∀ q ∈ tx, ∃ sa, vk_R RX0 q.1 q.2 sa U) ∧ (∀ y ∈ dl0, va_Nw (.declares y) U) ∧ ∀ C ∈ cl0, va_Nw (.castable C C) U
theorem EV.warm {A : Nat → Prop} {s U : State} {H : Heap} {tx : List (Nat × String)} (hW : s.WarmedH U.vm) (h : EV A s H tx) : EV A U H tx :=
  ⟨h.1.moved hW.alike, h.2.1.moved hW.alike, fun q hq => by obtain ⟨sa, h1⟩ := h.2.2.1 q hq; exact ⟨sa, vk_R.warm hW h1⟩, fun y hy => va_Nw.warmD hW (h.2.2.2.1 y hy), fun C hC => va_tabs rfl (rfl : (s.setVm U.vm).vm = U.vm) (by rw [Cond.castable_setVm hW.alike]; exact h.2.2.2.2 C hC)⟩
theorem EV.same {A : Nat → Prop} {s U : State} {H : Heap} {tx : List (Nat × String)} (hv : U.vm = s.vm) (h : EV A s H tx) : EV A U H tx :=
  ⟨h.1.moved (by rw [hv]; exact Vm.Alike.refl _), h.2.1.moved (by rw [hv]; exact Vm.Alike.refl _), fun q hq => by obtain ⟨sa, h1⟩ := h.2.2.1 q hq; exact ⟨sa, vk_R.same hv h1⟩, fun y hy => va_Nw.same rfl hv.symm (h.2.2.2.1 y hy), fun C hC => va_Nw.same rfl hv.symm (h.2.2.2.2 C hC)⟩
theorem EV.kept {A : Nat → Prop} {U : State} {H H1 : Heap} {tx : List (Nat × String)} (h : EV A U H tx) (hq : ∀ a : Nat, a < H.size → ¬ A a → H1[a]? = H[a]?) : EV A U H1 tx := ⟨h.1.kept hq, h.2.1.kept hq, h.2.2⟩
theorem EV.narrow {A B : Nat → Prop} {U : State} {H : Heap} {tx : List (Nat × String)} (h : EV A U H tx) (hAB : ∀ q, B q → A q) : EV B U H tx := ⟨h.1.narrow hAB, h.2.1.narrow hAB, h.2.2⟩
theorem EV.bw {A : Nat → Prop} {U : State} {H : Heap} {tx : List (Nat × String)} {args : Array Value} (h : EV A U H tx) : ∀ w ∈ bw0, w.before args U = true := fun w hw => by
  rcases List.mem_append.mp hw with h1 | h1
  · obtain ⟨y, hy, rfl⟩ := List.mem_map.mp h1
    exact va_Nw.use rfl (h.2.2.2.1 y hy)
  · obtain ⟨C, hC, rfl⟩ := List.mem_map.mp h1
    exact va_Nw.use rfl (h.2.2.2.2 C hC)
/-- a contract's start and end -/
def KB {S : Type} (D : va_G) (tys : List (ClassId × FieldType)) (wf : S → va_W) (u : S) (sz : Nat) : State → Prop := fun U => U.heap.size = sz ∧ va_P D vwCl (wf u) U.heap ∧ va_K D vwCl tys U ∧ va_D (fun _ => True) (wf u)
def KE {S : Type} (D : va_G) (tys : List (ClassId × FieldType)) (wf : S → va_W) (u : S) (t : State) : Prop := va_P D vwCl (wf u) t.heap ∧ va_K D vwCl tys t
def KI {S : Type} (l : Launch) (y : MethodName) (ws : List Cond) (rm : Room) (D : va_G) (tys : List (ClassId × FieldType)) (wf : S → va_W) (As : List Value) (u : S) (post : Int32 → S → Prop) : Prop :=
  ∀ sz, Met l y ws rm (va_Pc As (KB D tys wf u sz)) (va_Qi post (KE D tys wf) (va_A (wf u) sz)) rm.cells rm.slots (va_A (wf u) sz)
def KV {S : Type} (l : Launch) (y : MethodName) (ws : List Cond) (rm : Room) (D : va_G) (tys : List (ClassId × FieldType)) (wf : S → va_W) (As : List Value) (u : S) (post : S → Prop) : Prop :=
  ∀ sz, Met l y ws rm (va_Pc As (KB D tys wf u sz)) (va_Qv post (KE D tys wf) (va_A (wf u) sz)) rm.cells rm.slots (va_A (wf u) sz)
def KX {S : Type} (D : va_G) (tys : List (ClassId × FieldType)) (wf : S → va_W) (u : S) (xp : String → Prop) (A : Nat → Prop) : String → State → State → Prop := vx_X (fun u' : S => u' = u) (fun E u' t => xp E ∧ KE D tys wf u' t) A
def XI {S : Type} (l : Launch) (y : MethodName) (ws : List Cond) (rm : Room) (D : va_G) (tys : List (ClassId × FieldType)) (tx : List (Nat × String)) (wf : S → va_W) (As : List Value) (u : S) (post : Int32 → S → Prop) (xp : String → Prop) : Prop :=
  ∀ sz, vx_Met l y ws rm (va_Pc As (fun U => KB D tys wf u sz U ∧ EV (va_A (wf u) sz) U U.heap tx)) (va_Qi post (KE D tys wf) (va_A (wf u) sz)) (KX D tys wf u xp (va_A (wf u) sz)) rm.cells rm.slots (va_A (wf u) sz)
def XV {S : Type} (l : Launch) (y : MethodName) (ws : List Cond) (rm : Room) (D : va_G) (tys : List (ClassId × FieldType)) (tx : List (Nat × String)) (wf : S → va_W) (As : List Value) (u : S) (post : S → Prop) (xp : String → Prop) : Prop :=
  ∀ sz, vx_Met l y ws rm (va_Pc As (fun U => KB D tys wf u sz U ∧ EV (va_A (wf u) sz) U U.heap tx)) (va_Qv post (KE D tys wf) (va_A (wf u) sz)) (KX D tys wf u xp (va_A (wf u) sz)) rm.cells rm.slots (va_A (wf u) sz)
theorem KB.blind {S : Type} {D : va_G} {tys : List (ClassId × FieldType)} {wf : S → va_W} {u : S} {sz : Nat} {As : List Value} : FrameBlind (va_Pc As (KB D tys wf u sz)) := fun a U g mk q => by
  obtain ⟨q0, q1, q2, q3, q4⟩ := q
  exact ⟨q0, q1, q2, va_K.moved (u := U) (U := U.calling g mk a) (Vm.Alike.refl U.vm) q3, q4⟩
theorem KB.blindX {S : Type} {D : va_G} {tys : List (ClassId × FieldType)} {tx : List (Nat × String)} {wf : S → va_W} {u : S} {sz : Nat} {As : List Value} {A : Nat → Prop} : FrameBlind (va_Pc As (fun U => KB D tys wf u sz U ∧ EV A U U.heap tx)) := fun a U g mk q => by
  obtain ⟨q0, ⟨q1, q2, q3, q4⟩, q5⟩ := q
  exact ⟨q0, ⟨q1, q2, va_K.moved (u := U) (U := U.calling g mk a) (Vm.Alike.refl U.vm) q3, q4⟩, EV.same (s := U) (U := U.calling g mk a) rfl q5⟩
section GC
variable {S : Type} {p : Program} {l : Launch} {e : Env} {R : Room} {s : State} {m : MethodId} {args : Array Value} {below : List Frame} {meth : Method} {c : Code} {D : va_G} {tys : List (ClassId × FieldType)} {A : Nat → Prop} {own : String} {cc : ByteArray} {Ts : List Cond} {nL : Nat} {wf : S → va_W} {cells slots cells' slots' : Nat} {Q : State → Prop} {u : S} {pc pc' : Nat} {L : List (Nat × Value)} {st st0 As : List Value} {tx : List (Nat × String)}
variable {y : MethodName} {ws ws' : List Cond} {rm : Room} {index maxL n b : Nat} {bytes : ByteArray} {ret : Option FieldType} {Cn : String} {posti : Int32 → S → Prop} {postv : S → Prop} {xp : String → Prop}
theorem cx_A (C : CX p s m args meth c D tys A own cc Ts nL wf) {H : Heap} {locs : List Loc} (hS : va_S A s.heap H locs) : ∀ q, va_A (wf u) H.size q → A q := by
  intro q h
  rcases h with ⟨k, e, h⟩ | h
  · exact (C.2.2.2.2.2.2.2.1 u).2 k _ h
  · exact C.2.2.2.2.2.2.1 q (Nat.le_trans hS.1 h)
theorem cx_EV (C : CX p s m args meth c D tys A own cc Ts nL wf) (hE : EV A s s.heap tx) {H : Heap} {locs : List Loc} (hS : va_S A s.heap H locs) {U : State} (hU : U.heap = H) (hW : s.WarmedH U.vm) : EV (va_A (wf u) H.size) U U.heap tx := by
  rw [hU]
  exact EV.warm hW ((hE.kept (fun a h1 h2 => hS.2.1 a h1 h2)).narrow (cx_A C hS))
theorem cx_fix (C : CX p s m args meth c D tys A own cc Ts nL wf) : CallFix p m c cc nL s args Ts own := ⟨C.1, C.2.1, C.2.2.1, C.2.2.2.1, C.2.2.2.2.1⟩
theorem cx_KB (C : CX p s m args meth c D tys A own cc Ts nL wf) {H : Heap} (hP : va_P D vwCl (wf u) H) {U : State} (hU : U.heap = H) (hW : s.WarmedH U.vm) : KB D tys wf u H.size U :=
  ⟨by rw [hU], by rw [hU]; exact hP, va_K.moved hW.alike C.2.2.2.2.2.1, (C.2.2.2.2.2.2.2.1 u).weaken (fun _ _ _ _ => trivial)⟩
theorem g_calliV (C : CX p s m args meth c D tys A own cc Ts nL wf) (hM : KI l y ws rm D tys wf (.ref b :: As) u posti) (gd : GoodIn Ts (wsV own index Cn y ws)) (hw : ws = Cond.code y bytes maxL ret :: ws') (hd : y.cls = Cn ∧ y.cls ≠ "java/lang/invoke/MethodHandle" ∧ y.cls ≠ "java/lang/invoke/VarHandle" ∧ (parseMethodDescriptor y.desc).map (fun d => d.parameters.length) = some n) (hR : rm.frames + 1 ≤ R.frames ∧ 8 + (maxL + 11) + rm.locals ≤ R.locals)
    (q0 : Nat) {ci N : Nat} {T : u_T} {fs : List Value} (he : (wf u)[q0]? = some (b, .inr (ci, fs))) (hc : vwCl[ci]? = some (Cn, T, N)) (hn : As.length = n) (hst : st0 = As.reverse ++ .ref b :: st) (hW : (st.map fun v => v.category).sum ≤ 8) (hdg : decode cc pc = .ok (.invokevirtual index, 3)) (hp : pc + 3 = pc') (hcl : cells + rm.cells = cells') (hsl : slots + rm.slots = slots') (hf : cells' ≤ R.cells ∧ slots' ≤ R.slots)
    (kk : ∀ (r : Int32) (u' : S), posti r u' → G p l e R s m args below meth c D A nL wf cells' slots' Q u' pc' L (.int r :: st)) : G p l e R s m args below meth c D A nL wf cells slots Q u pc L st0 := by
  subst hp; subst hcl; subst hsl
  intro H locs ls hP hS hl
  refine va_calli (va_runV (As := As) (rest := st) (cx_fix C) (hM H.size) (cwV n C.2.2.2.2.1 gd hw rfl rfl hd hR) ⟨KB.blind, va_recv C.2.2.2.2.2.1 hP hc he, fun U hU hW => ⟨rfl, cx_KB C hP hU hW⟩⟩ rfl hn hl.1 hst (lv_room hW) hdg hf) hS (fun q _ h => cx_A C hS q h) (cx_A C hS) (fun r u' t H1 locs1 ht hvm hw9 hB hz hk hS1 => ?_)
  exact kk r u' hw9 H1 locs1 ls (ht ▸ hB.1) hS1 hl
theorem g_callvV (C : CX p s m args meth c D tys A own cc Ts nL wf) (hM : KV l y ws rm D tys wf (.ref b :: As) u postv) (gd : GoodIn Ts (wsV own index Cn y ws)) (hw : ws = Cond.code y bytes maxL ret :: ws') (hd : y.cls = Cn ∧ y.cls ≠ "java/lang/invoke/MethodHandle" ∧ y.cls ≠ "java/lang/invoke/VarHandle" ∧ (parseMethodDescriptor y.desc).map (fun d => d.parameters.length) = some n) (hR : rm.frames + 1 ≤ R.frames ∧ 8 + (maxL + 11) + rm.locals ≤ R.locals)
    (q0 : Nat) {ci N : Nat} {T : u_T} {fs : List Value} (he : (wf u)[q0]? = some (b, .inr (ci, fs))) (hc : vwCl[ci]? = some (Cn, T, N)) (hn : As.length = n) (hst : st0 = As.reverse ++ .ref b :: st) (hW : (st.map fun v => v.category).sum ≤ 8) (hdg : decode cc pc = .ok (.invokevirtual index, 3)) (hp : pc + 3 = pc') (hcl : cells + rm.cells = cells') (hsl : slots + rm.slots = slots') (hf : cells' ≤ R.cells ∧ slots' ≤ R.slots)
    (kk : ∀ (u' : S), postv u' → G p l e R s m args below meth c D A nL wf cells' slots' Q u' pc' L st) : G p l e R s m args below meth c D A nL wf cells slots Q u pc L st0 := by
  subst hp; subst hcl; subst hsl
  intro H locs ls hP hS hl
  refine va_callv (va_runV (As := As) (rest := st) (cx_fix C) (hM H.size) (cwV n C.2.2.2.2.1 gd hw rfl rfl hd hR) ⟨KB.blind, va_recv C.2.2.2.2.2.1 hP hc he, fun U hU hW => ⟨rfl, cx_KB C hP hU hW⟩⟩ rfl hn hl.1 hst (lv_room hW) hdg hf) hS (fun q _ h => cx_A C hS q h) (cx_A C hS) (fun u' t H1 locs1 ht hvm hw9 hB hz hk hS1 => ?_)
  exact kk u' hw9 H1 locs1 ls (ht ▸ hB.1) hS1 hl
theorem g_calliS (C : CX p s m args meth c D tys A own cc Ts nL wf) (hM : KI l y ws rm D tys wf As u posti) (gd : GoodIn Ts (va_wsS own index y ws)) (hw : ws = Cond.code y bytes maxL ret :: ws') (hd : y.cls ≠ "java/lang/invoke/MethodHandle" ∧ y.cls ≠ "java/lang/invoke/VarHandle" ∧ (parseMethodDescriptor y.desc).map (fun d => d.parameters.length) = some n) (hR : rm.frames + 1 ≤ R.frames ∧ 8 + (maxL + 11) + rm.locals ≤ R.locals)
    (hn : As.length = n) (hst : st0 = As.reverse ++ st) (hW : (st.map fun v => v.category).sum ≤ 8) (hdg : decode cc pc = .ok (.invokestatic index, 3)) (hp : pc + 3 = pc') (hcl : cells + rm.cells = cells') (hsl : slots + rm.slots = slots') (hf : cells' ≤ R.cells ∧ slots' ≤ R.slots)
    (kk : ∀ (r : Int32) (u' : S), posti r u' → G p l e R s m args below meth c D A nL wf cells' slots' Q u' pc' L (.int r :: st)) : G p l e R s m args below meth c D A nL wf cells slots Q u pc L st0 := by
  subst hp; subst hcl; subst hsl
  intro H locs ls hP hS hl
  refine va_calli (va_runS (As := As) (rest := st) (cx_fix C) (hM H.size) (va_cwS n C.2.2.2.2.1 gd hw rfl rfl hd hR) ⟨KB.blind, fun U hU hW => ⟨rfl, cx_KB C hP hU hW⟩⟩ rfl hn hl.1 hst (lv_room hW) hdg hf) hS (fun q _ h => cx_A C hS q h) (cx_A C hS) (fun r u' t H1 locs1 ht hvm hw9 hB hz hk hS1 => ?_)
  exact kk r u' hw9 H1 locs1 ls (ht ▸ hB.1) hS1 hl
theorem g_cxvV {Qc : Array Value → State → Outcome → State → Prop} {xp0 : String → Prop} {mc ms : Nat} (C : CX p s m args meth c D tys A own cc Ts nL wf) (hE : EV A s s.heap tx) (ht : ∀ x ∈ c.exceptionTable.toList, False) (hM : XV l y ws rm D tys tx wf (.ref b :: As) u postv xp) (gd : GoodIn Ts (wsV own index Cn y ws)) (hw : ws = Cond.code y bytes maxL ret :: ws') (hd : y.cls = Cn ∧ y.cls ≠ "java/lang/invoke/MethodHandle" ∧ y.cls ≠ "java/lang/invoke/VarHandle" ∧ (parseMethodDescriptor y.desc).map (fun d => d.parameters.length) = some n) (hR : rm.frames + 1 ≤ R.frames ∧ 8 + (maxL + 11) + rm.locals ≤ R.locals)
    (q0 : Nat) {ci N : Nat} {T : u_T} {fs : List Value} (he : (wf u)[q0]? = some (b, .inr (ci, fs))) (hc : vwCl[ci]? = some (Cn, T, N)) (hn : As.length = n) (hst : st0 = As.reverse ++ .ref b :: st) (hW : (st.map fun v => v.category).sum ≤ 8) (hdg : decode cc pc = .ok (.invokevirtual index, 3)) (hp : pc + 3 = pc') (hcl : cells + rm.cells = cells') (hsl : slots + rm.slots = slots') (hf : cells' ≤ R.cells ∧ slots' ≤ R.slots)
    (hxp : ∀ E, xp E → xp0 E) (hmc : cells' ≤ mc) (hms : slots' ≤ ms)
    (kk : ∀ (u' : S), postv u' → G p l e R s m args below meth c D A nL wf cells' slots' (vx_MQ below Qc (KX D tys wf u xp0 A) args s mc ms A) u' pc' L st) : G p l e R s m args below meth c D A nL wf cells slots (vx_MQ below Qc (KX D tys wf u xp0 A) args s mc ms A) u pc L st0 := by
  subst hp; subst hcl; subst hsl
  intro H locs ls hP hS hl
  refine vx_callv (vx_runV (As := As) (rest := st) (cx_fix C) (hM H.size) (cwV n C.2.2.2.2.1 gd hw rfl rfl hd hR) ⟨KB.blindX, va_recv C.2.2.2.2.2.1 hP hc he, fun U hU hW => ⟨rfl, cx_KB C hP hU hW, cx_EV C hE hS hU hW⟩⟩ rfl hn hl.1 hst (lv_room hW) hdg hf) hS (fun q _ h => cx_A C hS q h) (cx_A C hS) (fun q _ h => cx_A C hS q h) (fun E ce q9 u' t H1 locs1 ht9 hvm hpx hBX hz hk hS1 hcell hcv hcl => ?_) (fun u' t H1 locs1 ht9 hvm hw9 hB hz hk hS1 => ?_)
  · refine vx_out (fun x hx => (ht x hx).elim) C.2.2.2.2.2.2.2.2 hcell hcv hcl (fun t2 ht2 hvm2 => ⟨u', hpx, ⟨hxp E hBX.1, by rw [ht2, ← ht9]; exact hBX.2.1, va_K.moved hvm2 C.2.2.2.2.2.1⟩, hS1.F ht2⟩) hS1.2.2 hmc hms
  · exact kk u' hw9 H1 locs1 ls (ht9 ▸ hB.1) hS1 hl
theorem g_cxvS {Qc : Array Value → State → Outcome → State → Prop} {xp0 : String → Prop} {mc ms : Nat} (C : CX p s m args meth c D tys A own cc Ts nL wf) (hE : EV A s s.heap tx) (ht : ∀ x ∈ c.exceptionTable.toList, False) (hM : XV l y ws rm D tys tx wf As u postv xp) (gd : GoodIn Ts (va_wsS own index y ws)) (hw : ws = Cond.code y bytes maxL ret :: ws') (hd : y.cls ≠ "java/lang/invoke/MethodHandle" ∧ y.cls ≠ "java/lang/invoke/VarHandle" ∧ (parseMethodDescriptor y.desc).map (fun d => d.parameters.length) = some n) (hR : rm.frames + 1 ≤ R.frames ∧ 8 + (maxL + 11) + rm.locals ≤ R.locals)
    (hn : As.length = n) (hst : st0 = As.reverse ++ st) (hW : (st.map fun v => v.category).sum ≤ 8) (hdg : decode cc pc = .ok (.invokestatic index, 3)) (hp : pc + 3 = pc') (hcl : cells + rm.cells = cells') (hsl : slots + rm.slots = slots') (hf : cells' ≤ R.cells ∧ slots' ≤ R.slots)
    (hxp : ∀ E, xp E → xp0 E) (hmc : cells' ≤ mc) (hms : slots' ≤ ms)
    (kk : ∀ (u' : S), postv u' → G p l e R s m args below meth c D A nL wf cells' slots' (vx_MQ below Qc (KX D tys wf u xp0 A) args s mc ms A) u' pc' L st) : G p l e R s m args below meth c D A nL wf cells slots (vx_MQ below Qc (KX D tys wf u xp0 A) args s mc ms A) u pc L st0 := by
  subst hp; subst hcl; subst hsl
  intro H locs ls hP hS hl
  refine vx_callv (vx_runS (As := As) (rest := st) (cx_fix C) (hM H.size) (va_cwS n C.2.2.2.2.1 gd hw rfl rfl hd hR) ⟨KB.blindX, fun U hU hW => ⟨rfl, cx_KB C hP hU hW, cx_EV C hE hS hU hW⟩⟩ rfl hn hl.1 hst (lv_room hW) hdg hf) hS (fun q _ h => cx_A C hS q h) (cx_A C hS) (fun q _ h => cx_A C hS q h) (fun E ce q9 u' t H1 locs1 ht9 hvm hpx hBX hz hk hS1 hcell hcv hcl => ?_) (fun u' t H1 locs1 ht9 hvm hw9 hB hz hk hS1 => ?_)
  · refine vx_out (fun x hx => (ht x hx).elim) C.2.2.2.2.2.2.2.2 hcell hcv hcl (fun t2 ht2 hvm2 => ⟨u', hpx, ⟨hxp E hBX.1, by rw [ht2, ← ht9]; exact hBX.2.1, va_K.moved hvm2 C.2.2.2.2.2.1⟩, hS1.F ht2⟩) hS1.2.2 hmc hms
  · exact kk u' hw9 H1 locs1 ls (ht9 ▸ hB.1) hS1 hl
theorem g_throw {Qc : Array Value → State → Outcome → State → Prop} {xp0 : String → Prop} {mc ms : Nat} (C : CX p s m args meth c D tys A RX0 cc Ts nL wf) (hl : l.stackTraces = false) (hE : EV A s s.heap tx) (ht : ∀ x ∈ c.exceptionTable.toList, False) {cls text : String} {names : List String} {ik is ic : Nat} (hcls : Bundle.fit cls = true) (hnames : ∀ n ∈ names, Bundle.fit n = true)
    (hk : Cond.classLink RX0 ik cls ∈ Ts) (hini : Cond.initialized cls ∈ Ts) (htx : (is, text) ∈ tx) (hat : ∀ w ∈ (vx_atS RX0 ic cls names).filter goodWord, w ∈ Ts) (hat2 : ∀ w ∈ (vx_atS RX0 ic cls names).filter (fun w => !goodWord w), w ∈ bw0) (hgood : ∀ w ∈ Cond.classLink RX0 ik cls :: Cond.initialized cls :: vx_atS RX0 ic cls names, vx_ot w = true)
    (d0 : decode cc pc = .ok (.new ik, 3)) (d3 : decode cc (pc + 3) = .ok (.dup, 1)) (d4 : decode cc (pc + 4) = .ok (.ldc is, 2)) (d6 : decode cc (pc + 6) = .ok (.invokespecial ic, 3)) (d9 : decode cc (pc + 9) = .ok (.athrow, 1))
    (hRf : names.length + 3 < R.frames) (hRl : (st.map fun v => v.category).sum + (13 * (names.length + 1) + 43) ≤ R.locals) (hRc : cells + 1 ≤ R.cells) (hRs : slots + 6 ≤ R.slots) (hxp : xp0 cls) (hmc : cells + 1 ≤ mc) (hms : slots + 6 ≤ ms) :
    G p l e R s m args below meth c D A nL wf cells slots (vx_MQ below Qc (KX D tys wf u xp0 A) args s mc ms A) u pc L st := by
  intro H locs ls hP hS hls
  obtain ⟨sa, hstr⟩ := hE.2.2.1 _ htx
  exact vx_throwS C.1 C.2.1 hl C.2.2.2.1 hcls hnames (C.2.2.2.2.1 _ hk) (C.2.2.2.2.1 _ hini) hstr (vx_hat (fun w h => C.2.2.2.2.1 _ (hat w h)) hat2 hE.bw) hgood hE.1 hE.2.1 hS (hls.1.trans C.2.2.1.symm) d0 d3 d4 d6 d9 (fun x hx => (ht x hx).elim) hRf hRl hRc hRs C.2.2.2.2.2.2.2.2
    (fun t hvm hz hkp => ⟨u, rfl, ⟨hxp, hP.kept (fun k q hq => hkp q.1 ((hP k q hq).lt)), va_K.moved hvm C.2.2.2.2.2.1⟩, ⟨Nat.le_trans hS.1 hz, fun q h1 h2 => (hkp q (Nat.lt_of_lt_of_le h1 hS.1)).trans (hS.2.1 q h1 h2)⟩⟩) hS.2.2 hmc hms
theorem g_iret {ty : FieldType} {r : Int32} (C : CX p s m args meth c D tys A own cc Ts nL wf) (hr : meth.sig.returnType = some ty) (hn : narrow ty (.int r) = .int r) (hpost : posti r u) (hdg : decode cc pc = .ok (.ireturn, 1)) : G p l e R s m args below meth c D A nL wf cells slots (MQ below (va_Qi posti (KE D tys wf) A) args s cells slots A) u pc L [.int r] := by
  intro H locs ls hP hS hl
  exact W.zret C.1 C.2.1 hr hn (fun t ht hW => ⟨⟨r, u, rfl, hpost, by rw [ht]; exact hP, va_K.moved hW.alike C.2.2.2.2.2.1⟩, hS.F ht⟩) hS.2.2 hdg C.2.2.2.2.2.2.2.2
theorem g_vret (C : CX p s m args meth c D tys A own cc Ts nL wf) (hr : meth.sig.returnType = none) (hpost : postv u) (hdg : decode cc pc = .ok (.return_, 1)) : G p l e R s m args below meth c D A nL wf cells slots (MQ below (va_Qv postv (KE D tys wf) A) args s cells slots A) u pc L [] := by
  intro H locs ls hP hS hl
  exact W.vret C.1 C.2.1 hr (fun t ht hW => ⟨⟨u, rfl, hpost, by rw [ht]; exact hP, va_K.moved hW.alike C.2.2.2.2.2.1⟩, hS.F ht⟩) hS.2.2 hdg C.2.2.2.2.2.2.2.2
theorem g_xiret {XC : String → State → State → Prop} {mc ms : Nat} {ty : FieldType} {r : Int32} (C : CX p s m args meth c D tys A own cc Ts nL wf) (hr : meth.sig.returnType = some ty) (hn : narrow ty (.int r) = .int r) (hpost : posti r u) (hdg : decode cc pc = .ok (.ireturn, 1)) (h1 : cells ≤ mc) (h2 : slots ≤ ms) : G p l e R s m args below meth c D A nL wf cells slots (vx_MQ below (va_Qi posti (KE D tys wf) A) XC args s mc ms A) u pc L [.int r] :=
  fun H locs ls hP hS hl => vx_ret (W.widen h1 h2 (g_iret C hr hn hpost hdg H locs ls hP hS hl))
theorem g_xvret {XC : String → State → State → Prop} {mc ms : Nat} (C : CX p s m args meth c D tys A own cc Ts nL wf) (hr : meth.sig.returnType = none) (hpost : postv u) (hdg : decode cc pc = .ok (.return_, 1)) (h1 : cells ≤ mc) (h2 : slots ≤ ms) : G p l e R s m args below meth c D A nL wf cells slots (vx_MQ below (va_Qv postv (KE D tys wf) A) XC args s mc ms A) u pc L [] :=
  fun H locs ls hP hS hl => vx_ret (W.widen h1 h2 (g_vret C hr hpost hdg H locs ls hP hS hl))
end GC
/-! a contract out of its body -/
section GE
variable {S : Type} {l : Launch} {D : va_G} {tys : List (ClassId × FieldType)} {wf : S → va_W} {u : S} {As : List Value} {L0 : List (Nat × Value)} {tx : List (Nat × String)}
variable {y : MethodName} {ws ws' : List Cond} {rm : Room} {maxL : Nat} {cc : ByteArray} {ty : FieldType} {posti : Int32 → S → Prop} {postv : S → Prop} {xp : String → Prop} {own : String}
def WfOk (wf : S → va_W) : Prop := ∀ u u' : S, (wf u).map Prod.fst = (wf u').map Prod.fst
theorem va_D_fst {A : Nat → Prop} {w w' : va_W} (h : w.map Prod.fst = w'.map Prod.fst) (hD : va_D A w) : va_D A w' := by
  have key : ∀ (k : Nat) (q : Nat × va_E), w'[k]? = some q → ∃ q0, w[k]? = some q0 ∧ q0.1 = q.1 := by
    intro k q hk
    have h1 : (w'.map Prod.fst)[k]? = some q.1 := by rw [List.getElem?_map, hk]; rfl
    rw [← h, List.getElem?_map] at h1
    cases hw : w[k]? with
    | none => rw [hw] at h1; cases h1
    | some q0 => rw [hw] at h1; exact ⟨q0, rfl, Option.some.inj h1⟩
  refine ⟨fun i j x y hi hj hxy => ?_, fun k q hk => ?_⟩
  · obtain ⟨x0, h1, h2⟩ := key i x hi
    obtain ⟨y0, h3, h4⟩ := key j y hj
    exact hD.1 i j x0 y0 h1 h3 (h2.trans (hxy.trans h4.symm))
  · obtain ⟨q0, h1, h2⟩ := key k q hk
    rw [← h2]
    exact hD.2 k q0 h1
theorem cx_ent {p : Program} {s s₁ : State} {e : Env} {m : MethodId} {args : Array Value} {below : List Frame} {meth : Method} {c : Code} {ret : Option FieldType} (hwf : WfOk wf) (hown : y.cls = own) (B : BodyLoose p l y (headSpec ws rm) cc maxL ret e s m args below meth c s₁) (hml : c.maxLocals = maxL) (hP : KB D tys wf u s.heap.size s) :
    CX p s m args meth c D tys (va_A (wf u) s.heap.size) own cc ws maxL wf := by
  refine ⟨B.exec, B.bytes, hml, ?_, atoms_spec (ws := ws) B.pre, hP.2.2.1, fun q h => Or.inr h, fun u' => va_D_fst (hwf u u') (hP.2.2.2.self), B.notSynchronized⟩
  rw [← hown]
  exact findClass_of_methodNamed B.named
theorem ent_I (hy : plainName y.cls = true) (hw : ws = Cond.code y cc maxL (some ty) :: ws') (hwf : WfOk wf) (hown : y.cls = own) (hlen : (lg_sl As).length ≤ maxL) (hL0 : lv_args 0 As = L0)
    (body : ∀ (p : Program) (e : Env) (s : State) (m : MethodId) (args : Array Value) (below : List Frame) (meth : Method) (c : Code) (A : Nat → Prop), CX p s m args meth c D tys A own cc ws maxL wf → meth.sig.returnType = some ty → G p l e rm s m args below meth c D A maxL wf 0 0 (MQ below (va_Qi posti (KE D tys wf) A) args s rm.cells rm.slots A) u 0 L0 []) : KI l y ws rm D tys wf As u posti := by
  intro sz
  refine Met.ofW (cc := cc) (maxL := maxL) (ret := some ty) hy hw ?_
  intro p e s m args below meth c s₁ B hml hv
  obtain ⟨rfl, hsz, hP, hK, hD⟩ := hv
  subst hsz; subst hL0
  rw [lg_entry_eq]
  exact body p e s m _ below meth c _ (cx_ent hwf hown B hml ⟨rfl, hP, hK, hD⟩) B.returns s.heap [] _ hP va_S.rf (lv_entry As hlen)
theorem ent_V (hy : plainName y.cls = true) (hw : ws = Cond.code y cc maxL none :: ws') (hwf : WfOk wf) (hown : y.cls = own) (hlen : (lg_sl As).length ≤ maxL) (hL0 : lv_args 0 As = L0)
    (body : ∀ (p : Program) (e : Env) (s : State) (m : MethodId) (args : Array Value) (below : List Frame) (meth : Method) (c : Code) (A : Nat → Prop), CX p s m args meth c D tys A own cc ws maxL wf → meth.sig.returnType = none → G p l e rm s m args below meth c D A maxL wf 0 0 (MQ below (va_Qv postv (KE D tys wf) A) args s rm.cells rm.slots A) u 0 L0 []) : KV l y ws rm D tys wf As u postv := by
  intro sz
  refine Met.ofW (cc := cc) (maxL := maxL) (ret := none) hy hw ?_
  intro p e s m args below meth c s₁ B hml hv
  obtain ⟨rfl, hsz, hP, hK, hD⟩ := hv
  subst hsz; subst hL0
  rw [lg_entry_eq]
  exact body p e s m _ below meth c _ (cx_ent hwf hown B hml ⟨rfl, hP, hK, hD⟩) B.returns s.heap [] _ hP va_S.rf (lv_entry As hlen)
theorem ent_XI (hy : plainName y.cls = true) (hw : ws = Cond.code y cc maxL (some ty) :: ws') (hwf : WfOk wf) (hown : y.cls = own) (hlen : (lg_sl As).length ≤ maxL) (hL0 : lv_args 0 As = L0)
    (body : ∀ (p : Program) (e : Env) (s : State) (m : MethodId) (args : Array Value) (below : List Frame) (meth : Method) (c : Code) (A : Nat → Prop), CX p s m args meth c D tys A own cc ws maxL wf → meth.sig.returnType = some ty → EV A s s.heap tx → (∀ x ∈ c.exceptionTable.toList, False) → G p l e rm s m args below meth c D A maxL wf 0 0 (vx_MQ below (va_Qi posti (KE D tys wf) A) (KX D tys wf u xp A) args s rm.cells rm.slots A) u 0 L0 []) : XI l y ws rm D tys tx wf As u posti xp := by
  intro sz
  refine vx_ofW (cc := cc) (maxL := maxL) (ret := some ty) hy hw ?_
  intro p e s m args below meth c s₁ B hml ht hv
  obtain ⟨rfl, ⟨hsz, hP, hK, hD⟩, hE⟩ := hv
  subst hsz; subst hL0
  rw [lg_entry_eq]
  exact body p e s m _ below meth c _ (cx_ent hwf hown B hml ⟨rfl, hP, hK, hD⟩) B.returns hE ht s.heap [] _ hP va_S.rf (lv_entry As hlen)
theorem ent_XV (hy : plainName y.cls = true) (hw : ws = Cond.code y cc maxL none :: ws') (hwf : WfOk wf) (hown : y.cls = own) (hlen : (lg_sl As).length ≤ maxL) (hL0 : lv_args 0 As = L0)
    (body : ∀ (p : Program) (e : Env) (s : State) (m : MethodId) (args : Array Value) (below : List Frame) (meth : Method) (c : Code) (A : Nat → Prop), CX p s m args meth c D tys A own cc ws maxL wf → meth.sig.returnType = none → EV A s s.heap tx → (∀ x ∈ c.exceptionTable.toList, False) → G p l e rm s m args below meth c D A maxL wf 0 0 (vx_MQ below (va_Qv postv (KE D tys wf) A) (KX D tys wf u xp A) args s rm.cells rm.slots A) u 0 L0 []) : XV l y ws rm D tys tx wf As u postv xp := by
  intro sz
  refine vx_ofW (cc := cc) (maxL := maxL) (ret := none) hy hw ?_
  intro p e s m args below meth c s₁ B hml ht hv
  obtain ⟨rfl, ⟨hsz, hP, hK, hD⟩, hE⟩ := hv
  subst hsz; subst hL0
  rw [lg_entry_eq]
  exact body p e s m _ below meth c _ (cx_ent hwf hown B hml ⟨rfl, hP, hK, hD⟩) B.returns hE ht s.heap [] _ hP va_S.rf (lv_entry As hlen)
end GE
end
section
/-! THE WORLDS: the class's object and rows (wX), the reference's (wM); array k of a state u is u k, the scalars are u 0 -/
def mkA (a : Nat → Nat) (u : LU) (q : Nat × ClassId × Nat) : Nat × va_E := (a q.1, .inl (q.2.1, q.2.2, .inl (u q.1)))
theorem mkA_fst (a : Nat → Nat) (u u' : LU) (l : List (Nat × ClassId × Nat)) : (l.map (mkA a u)).map Prod.fst = (l.map (mkA a u')).map Prod.fst := by
  rw [List.map_map, List.map_map]
  rfl
theorem mkA_set (a : Nat → Nat) (u : LU) {g : Nat → Int32} {j n : Nat} {c : ClassId} : ∀ (l : List (Nat × ClassId × Nat)) (k : Nat), (l.map Prod.fst).Nodup → l[k]? = some (j, c, n) → (l.map (mkA a u)).set k (a j, .inl (c, n, .inl g)) = l.map (mkA a (up u j g))
  | [], k, _, h => by simp at h
  | q :: l, 0, hn, h => by
    simp only [List.getElem?_cons_zero, Option.some.injEq] at h
    subst h
    simp only [List.map_cons, List.nodup_cons] at hn
    simp only [List.map_cons, List.set_cons_zero, mkA, up_s]
    refine congrArg _ (List.map_congr_left fun x hx => ?_)
    simp only [mkA]
    rw [up_n]
    intro e
    exact hn.1 (e ▸ List.mem_map_of_mem hx)
  | q :: l, k + 1, hn, h => by
    simp only [List.getElem?_cons_succ] at h
    simp only [List.map_cons, List.nodup_cons] at hn
    simp only [List.map_cons, List.set_cons_succ]
    rw [mkA_set a u l k hn.2 h]
    refine congrArg (· :: _) ?_
    have hm : j ∈ l.map Prod.fst := List.mem_map.mpr ⟨_, List.mem_of_getElem? h, rfl⟩
    simp only [mkA]
    rw [up_n]
    intro e
    exact hn.1 (e ▸ hm)
theorem mkA_get (a : Nat → Nat) (u : LU) {j n : Nat} {c : ClassId} {l : List (Nat × ClassId × Nat)} {k : Nat} (h : l[k]? = some (j, c, n)) : (l.map (mkA a u))[k]? = some (a j, .inl (c, n, .inl (u j))) := by
  rw [List.getElem?_map, h]
  rfl
theorem mkA_0 (a : Nat → Nat) (u : LU) (f : Nat → Int32) (l : List (Nat × ClassId × Nat)) (h0 : 0 ∉ l.map Prod.fst) : l.map (mkA a (up u 0 f)) = l.map (mkA a u) := by
  refine List.map_congr_left fun x hx => ?_
  simp only [mkA]
  rw [up_n]
  intro e
  exact h0 (e ▸ List.mem_map_of_mem hx)
def tyX (cI cZ cQ : ClassId) : List (ClassId × FieldType) := [(cI, .int), (cZ, .boolean), (cQ, .array .int)]
def flX (a : Nat → Nat) (f : Nat → Int32) : List Value := [.ref (a 1), .ref (a 2), .ref (a 3), .ref (a 4), .int (f 4), .ref (a 6), .ref (a 7), .ref (a 8), .ref (a 9), .ref (a 10), .ref (a 11), .ref (a 12), .int (f 12), .ref (a 14), .ref (a 15), .ref (a 16), .int (f 16), .int (f 17)]
def arX (cI cZ : ClassId) : List (Nat × ClassId × Nat) := [(1, cI, 12), (2, cI, 12), (3, cI, 12), (4, cI, 12), (6, cI, 24), (7, cI, 24), (8, cI, 24), (9, cZ, 24), (10, cI, 24), (11, cI, 24), (12, cI, 24), (14, cI, 60), (16, cI, 60)] ++ (List.range 60).map (fun i => (100 + i, cI, 47))
def rfX (a : Nat → Nat) : Nat → Option Nat := fun i => if i < 60 then some (a (100 + i)) else none
def wX (cI cZ cQ : ClassId) (a : Nat → Nat) (u : LU) : va_W := (a 0, .inr (0, flX a (u 0))) :: (a 15, .inl (cQ, 60, .inr (.inr (.inr (.inr (rfX a)))))) :: (arX cI cZ).map (mkA a u)
theorem arX_nd (cI cZ : ClassId) : ((arX cI cZ).map Prod.fst).Nodup := by
  have h : (arX cI cZ).map Prod.fst = [1, 2, 3, 4, 6, 7, 8, 9, 10, 11, 12, 14, 16] ++ (List.range 60).map (fun i => 100 + i) := by
    simp only [arX, List.map_append, List.map_map]
    rfl
  rw [h]
  decide +kernel
theorem arX_0 (cI cZ : ClassId) : 0 ∉ (arX cI cZ).map Prod.fst := by
  have h : (arX cI cZ).map Prod.fst = [1, 2, 3, 4, 6, 7, 8, 9, 10, 11, 12, 14, 16] ++ (List.range 60).map (fun i => 100 + i) := by
    simp only [arX, List.map_append, List.map_map]
    rfl
  rw [h]
  decide +kernel
theorem arX_row (cI cZ : ClassId) {i : Nat} (h : i < 60) : (arX cI cZ)[13 + i]? = some (100 + i, cI, 47) := by
  unfold arX
  rw [List.getElem?_append_right (by simp)]
  simp [h]
theorem wX_ok (cI cZ cQ : ClassId) (a : Nat → Nat) : WfOk (wX cI cZ cQ a) := fun u u' => by
  simp only [wX, List.map_cons]
  rw [mkA_fst a u u']
theorem wX_get (cI cZ cQ : ClassId) (a : Nat → Nat) (u : LU) {j n k : Nat} {c : ClassId} (h : (arX cI cZ)[k]? = some (j, c, n)) : (wX cI cZ cQ a u)[k + 2]? = some (a j, .inl (c, n, .inl (u j))) := mkA_get a u h
theorem wX_set (cI cZ cQ : ClassId) (a : Nat → Nat) (u : LU) {g : Nat → Int32} {j n k : Nat} {c : ClassId} (h : (arX cI cZ)[k]? = some (j, c, n)) : (wX cI cZ cQ a u).set (k + 2) (a j, .inl (c, n, .inl g)) = wX cI cZ cQ a (up u j g) := by
  have hj : 0 ≠ j := fun e => arX_0 cI cZ (e ▸ List.mem_map.mpr ⟨_, List.mem_of_getElem? h, rfl⟩)
  simp only [wX, List.set_cons_succ]
  rw [mkA_set a u _ k (arX_nd cI cZ) h, up_n u j g hj]
theorem wX_put (cI cZ cQ : ClassId) (a : Nat → Nat) (u : LU) {f : Nat → Int32} {fs : List Value} (h : fs = flX a f) : (wX cI cZ cQ a u).set 0 (a 0, .inr (0, fs)) = wX cI cZ cQ a (up u 0 f) := by
  subst h
  simp only [wX, List.set_cons_zero]
  rw [mkA_0 a u f _ (arX_0 cI cZ), up_s]
def flM (a : Nat → Nat) (f : Nat → Int32) : List Value := [.int (f 0), .int (f 1), .int (f 2), .ref (a 4), .ref (a 5), .ref (a 6), .ref (a 7), .int (f 7), .ref (a 9), .ref (a 10), .ref (a 11), .ref (a 12), .ref (a 13), .ref (a 14), .ref (a 15), .int (f 15), .ref (a 17), .ref (a 18), .ref (a 19), .ref (a 20)]
def arM (cI cZ : ClassId) : List (Nat × ClassId × Nat) := [(4, cI, 12), (5, cI, 12), (6, cI, 12), (7, cI, 12), (9, cI, 24), (10, cI, 24), (11, cI, 24), (12, cI, 24), (13, cZ, 24), (14, cI, 24), (15, cI, 24), (17, cI, 60), (18, cI, 60), (19, cI, 2880), (20, cZ, 24)]
def wM (cI cZ : ClassId) (a : Nat → Nat) (u : LU) : va_W := (a 0, .inr (1, flM a (u 0))) :: (arM cI cZ).map (mkA a u)
theorem arM_nd (cI cZ : ClassId) : ((arM cI cZ).map Prod.fst).Nodup := by
  show [4, 5, 6, 7, 9, 10, 11, 12, 13, 14, 15, 17, 18, 19, 20].Nodup
  decide +kernel
theorem arM_0 (cI cZ : ClassId) : 0 ∉ (arM cI cZ).map Prod.fst := by
  show 0 ∉ [4, 5, 6, 7, 9, 10, 11, 12, 13, 14, 15, 17, 18, 19, 20]
  decide +kernel
theorem wM_ok (cI cZ : ClassId) (a : Nat → Nat) : WfOk (wM cI cZ a) := fun u u' => by
  simp only [wM, List.map_cons]
  rw [mkA_fst a u u']
theorem wM_get (cI cZ : ClassId) (a : Nat → Nat) (u : LU) {j n k : Nat} {c : ClassId} (h : (arM cI cZ)[k]? = some (j, c, n)) : (wM cI cZ a u)[k + 1]? = some (a j, .inl (c, n, .inl (u j))) := mkA_get a u h
theorem wM_set (cI cZ : ClassId) (a : Nat → Nat) (u : LU) {g : Nat → Int32} {j n k : Nat} {c : ClassId} (h : (arM cI cZ)[k]? = some (j, c, n)) : (wM cI cZ a u).set (k + 1) (a j, .inl (c, n, .inl g)) = wM cI cZ a (up u j g) := by
  have hj : 0 ≠ j := fun e => arM_0 cI cZ (e ▸ List.mem_map.mpr ⟨_, List.mem_of_getElem? h, rfl⟩)
  simp only [wM, List.set_cons_succ]
  rw [mkA_set a u _ k (arM_nd cI cZ) h, up_n u j g hj]
theorem wM_put (cI cZ : ClassId) (a : Nat → Nat) (u : LU) {f : Nat → Int32} {fs : List Value} (h : fs = flM a f) : (wM cI cZ a u).set 0 (a 0, .inr (1, fs)) = wM cI cZ a (up u 0 f) := by
  subst h
  simp only [wM, List.set_cons_zero]
  rw [mkA_0 a u f _ (arM_0 cI cZ), up_s]
theorem ti_add {x y : Int32} (h1 : -2147483648 ≤ x.toInt + y.toInt) (h2 : x.toInt + y.toInt < 2147483648) : (x + y).toInt = x.toInt + y.toInt := by
  rw [Int32.toInt_add]
  exact Int.bmod_eq_of_le (by omega) (by omega)
theorem ti_sub {x y : Int32} (h1 : -2147483648 ≤ x.toInt - y.toInt) (h2 : x.toInt - y.toInt < 2147483648) : (x - y).toInt = x.toInt - y.toInt := by
  rw [Int32.toInt_sub]
  exact Int.bmod_eq_of_le (by omega) (by omega)
theorem ti_rng (x : Int32) : -2147483648 ≤ x.toInt ∧ x.toInt < 2147483648 := ⟨Int32.le_toInt x, Int32.toInt_lt x⟩
theorem vp_of {x : Int32} {n : Nat} (h1 : 0 ≤ x.toInt) (h2 : x.toInt < n) : vp_in x n := vp_in_iff.mpr ⟨h1, h2⟩
theorem nI_of_ti {x : Int32} {n : Nat} (h1 : 0 ≤ x.toInt) (h2 : x.toInt < n) (hn : n < 2 ^ 31) : ∃ j : Nat, j < n ∧ x = nI j := vp_in_of (vp_of h1 h2) hn
theorem row_get (cI cZ cQ : ClassId) (a : Nat → Nat) (u : LU) {i : Nat} (h : i < 60) : (wX cI cZ cQ a u)[15 + i]? = some (a (100 + i), .inl (cI, 47, .inl (u (100 + i)))) := by
  have e : 15 + i = (13 + i) + 2 := by omega
  rw [e]
  exact wX_get cI cZ cQ a u (arX_row cI cZ h)
theorem row_set (cI cZ cQ : ClassId) (a : Nat → Nat) (u : LU) {i : Nat} {g : Nat → Int32} (h : i < 60) : (wX cI cZ cQ a u).set (15 + i) (a (100 + i), .inl (cI, 47, .inl g)) = wX cI cZ cQ a (up u (100 + i) g) := by
  have e : 15 + i = (13 + i) + 2 := by omega
  rw [e]
  exact wX_set cI cZ cQ a u (arX_row cI cZ h)
def mmin32 (x y : Int32) : Int32 := if y < x then y else x
def mmax32 (x y : Int32) : Int32 := if x < y then y else x
section GM
variable {S : Type} {p : Program} {l : Launch} {e : Env} {R : Room} {s : State} {m : MethodId} {args : Array Value} {below : List Frame} {meth : Method} {c : Code} {D : va_G} {tys : List (ClassId × FieldType)} {A : Nat → Prop} {own : String} {cc : ByteArray} {Ts : List Cond} {nL : Nat} {wf : S → va_W} {cells slots : Nat} {Q : State → Prop} {u : S} {pc pc' : Nat} {L : List (Nat × Value)} {st : List Value}
theorem g_mmin (C : CX p s m args meth c D tys A own cc Ts nL wf) {index : Nat} (h1 : Cond.methodLink own index Lib.Math.min.name ∈ Ts) (h2 : Cond.static Lib.Math.min.name ∈ Ts) (h3 : Cond.initialized "java/lang/Math" ∈ Ts) (h4 : Cond.code Lib.Math.min.name Lib.Math.min.code 2 (some .int) ∈ Ts) (hf : 1 ≤ R.frames) (hlo : (st.map fun v => v.category).sum + 13 ≤ R.locals) (hc : cells ≤ R.cells) (hs : slots ≤ R.slots) {x y : Int32} (hdg : decode cc pc = .ok (.invokestatic index, 3)) (hp : pc + 3 = pc')
    (kk : G p l e R s m args below meth c D A nL wf cells slots Q u pc' L (.int (mmin32 x y) :: st)) : G p l e R s m args below meth c D A nL wf cells slots Q u pc L (.int y :: .int x :: st) := by
  subst hp; exact fun H locs ls hP hS hl => va_mmin C.1 C.2.1 (C.2.2.1.trans hl.1.symm) C.2.2.2.1 (C.2.2.2.2.1 _ h1) (C.2.2.2.2.1 _ h2) (C.2.2.2.2.1 _ h3) (C.2.2.2.2.1 _ h4) hf hlo hc hs hdg (kk H locs ls hP hS hl)
theorem g_mmax (C : CX p s m args meth c D tys A own cc Ts nL wf) {index : Nat} (h1 : Cond.methodLink own index Lib.Math.max.name ∈ Ts) (h2 : Cond.static Lib.Math.max.name ∈ Ts) (h3 : Cond.initialized "java/lang/Math" ∈ Ts) (h4 : Cond.code Lib.Math.max.name Lib.Math.max.code 2 (some .int) ∈ Ts) (hf : 1 ≤ R.frames) (hlo : (st.map fun v => v.category).sum + 13 ≤ R.locals) (hc : cells ≤ R.cells) (hs : slots ≤ R.slots) {x y : Int32} (hdg : decode cc pc = .ok (.invokestatic index, 3)) (hp : pc + 3 = pc')
    (kk : G p l e R s m args below meth c D A nL wf cells slots Q u pc' L (.int (mmax32 x y) :: st)) : G p l e R s m args below meth c D A nL wf cells slots Q u pc L (.int y :: .int x :: st) := by
  subst hp; exact fun H locs ls hP hS hl => va_mmax C.1 C.2.1 (C.2.2.1.trans hl.1.symm) C.2.2.2.1 (C.2.2.2.2.1 _ h1) (C.2.2.2.2.1 _ h2) (C.2.2.2.2.1 _ h3) (C.2.2.2.2.1 _ h4) hf hlo hc hs hdg (kk H locs ls hP hS hl)
end GM
end
section
def tx0 : List (Nat × String) := [(78, "minutes, limit or back is out of range"), (85, "the route takes no more steps"), (88, "wafers is out of range"), (90, "there is no step, or no room for the lot or its wafers"), (112, "the lot can't run now"), (117, "the lot can't be reworked now"), (119, "the lot is not WAITING, or there were 24 lots"), (125, "both lots are the same"), (127, "the lots can't be merged now"), (142, "the lot is DONE or ENDED"), (150, "the wafer was scrapped, or its lot is not WAITING"), (152, "minutes is out of range"), (174, "the path has no such place"), (177, "there is no such tool"), (179, "there is no such step"), (181, "there was no such lot"), (183, "there was no such wafer")]
/-- what is left of the waiting -/
def slX (u : LU) (n : Nat) : Int32 := if (u 6 n).toInt = 0 ∧ 0 ≤ (u 7 n).toInt ∧ (u 7 n).toInt < (u 0 4).toInt then (if (u 3 (u 7 n).toNatClampNeg).toInt = 0 then 1000000 else u 3 (u 7 n).toNatClampNeg - (u 0 17 - u 8 n)) else 2000000
def rdX (u : LU) (n : Nat) : Prop := ((u 6 n).toInt = 0 ∧ (u 9 n).toInt = 0) ∧ 0 ≤ (slX u n).toInt
def utX (u : LU) (n : Nat) (x : Int32) : Prop := (0 ≤ (u 7 n).toInt ∧ (u 7 n).toInt < (u 0 4).toInt) ∧ (u 1 (u 7 n).toNatClampNeg).toInt = x.toInt
def buX (u : LU) (x : Int32) : Prop := ∃ j : Nat, (j : Int) < (u 0 12).toInt ∧ (u 6 j).toInt = 1 ∧ utX u j x
def ponX (u : LU) (x : Int32) : Int32 := if 0 ≤ x.toInt ∧ x.toInt < (u 0 12).toInt then u 11 x.toNatClampNeg else -1
noncomputable def cif {α : Type} (P : Prop) (a b : α) : α := @ite α P (Classical.propDecidable P) a b
theorem cif_t {α : Type} {P : Prop} {a b : α} (h : P) : cif P a b = a := by unfold cif; exact if_pos h
theorem cif_f {α : Type} {P : Prop} {a b : α} (h : ¬ P) : cif P a b = b := by unfold cif; exact if_neg h
/-- the state after leaveRoute, endProcessing, putInto, makeLot, makeWafer, moveWafers .. -/
def lvX (u : LU) (n : Nat) (x : Int32) : LU := up (up u 6 (upd (u 6) n x)) 7 (upd (u 7) n (-1))
def epX (u : LU) (n : Nat) : LU := if 0 ≤ (u 7 n + 1).toInt ∧ (u 7 n + 1).toInt < (u 0 4).toInt then up (up u 6 (upd (u 6) n 0)) 7 (upd (u 7) n (u 7 n + 1)) else lvX u n 2
def put1 (u : LU) (w n : Nat) : LU := up (up u 14 (upd (u 14) w (nI n))) 12 (upd (u 12) n (u 12 n + 1))
def put2 (u : LU) (w n : Nat) : LU := up (put1 u w n) (100 + w) (upd (put1 u w n (100 + w)) (u 16 w).toNatClampNeg (nI n))
def putX (u : LU) (w n : Nat) : LU := if (u 16 w).toInt < 47 then up (put2 u w n) 16 (upd (put2 u w n 16) w (u 16 w + 1)) else put1 u w n
def mkLX (u : LU) (n : Nat) (st si hd rw9 pa : Int32) : LU := up (up (up (up (up (up (up (up u 6 (upd (u 6) n 0)) 7 (upd (u 7) n st)) 8 (upd (u 8) n si)) 9 (upd (u 9) n hd)) 10 (upd (u 10) n rw9)) 11 (upd (u 11) n pa)) 12 (upd (u 12) n 0)) 0 (upd (u 0) 12 (nI n + 1))
def mwX (u : LU) (w n : Nat) : LU := putX (up (up u 16 (upd (u 16) w 0)) 0 (upd (u 0) 16 (nI w + 1))) w n
def enX (u : LU) (w n : Nat) : Nat → LU
  | 0 => u
  | i + 1 => mwX (enX u w n i) (w + i) n
def mv1 (u : LU) (f w t : Nat) : LU := putX (up u 12 (upd (u 12) f (u 12 f - 1))) w t
def mvX (u : LU) (f t : Nat) (c : Int32) : Nat → LU × Nat
  | 0 => (u, 0)
  | i + 1 => if ((mvX u f t c i).2 : Int) < c.toInt ∧ ((mvX u f t c i).1 14 i).toInt = f then (mv1 (mvX u f t c i).1 f i t, (mvX u f t c i).2 + 1) else mvX u f t c i
def avX (u : LU) : Nat → LU × Nat
  | 0 => (u, 0)
  | i + 1 => if ((avX u i).1 6 i).toInt = 1 ∧ ((avX u i).1 8 i).toInt ≤ ((avX u i).1 0 17).toInt then (epX (avX u i).1 i, (avX u i).2 + 1) else avX u i
noncomputable def nfX (u : LU) (x : Int32) : Nat → Int32 × Int32
  | 0 => (-1, 2000000)
  | i + 1 => cif (rdX u i ∧ utX u i x ∧ (slX u i).toInt < (nfX u x i).2.toInt) (nI i, slX u i) (nfX u x i)
def waX (u : LU) (x : Int32) : Nat → Int32
  | 0 => 0
  | i + 1 => if (u 7 i).toInt = x.toInt then waX u x i + u 12 i else waX u x i
def wbX (u : LU) (x : Int32) : Nat → Nat
  | 0 => 0
  | i + 1 => if (0 ≤ (u 14 i).toInt ∧ (u 14 i).toInt < (u 0 12).toInt) ∧ (u 7 (u 14 i).toNatClampNeg).toInt = x.toInt then wbX u x i + 1 else wbX u x i
def coX (u : LU) : Nat → Int32 → Int32 → Int32
  | 0, a, _ => a
  | k + 1, a, b => if a.toInt = b.toInt then a else if b.toInt < a.toInt then coX u k (ponX u a) b else coX u k a (ponX u b)
/-- the class's own invariant, as far as its indices need it -/
def IX (u : LU) : Prop := (0 ≤ (u 0 4).toInt ∧ (u 0 4).toInt ≤ 12) ∧ (0 ≤ (u 0 12).toInt ∧ (u 0 12).toInt ≤ 24) ∧ (0 ≤ (u 0 16).toInt ∧ (u 0 16).toInt ≤ 60) ∧ (∀ n, n < 24 → vp_nar .boolean (u 9 n) = u 9 n ∧ narrow .boolean (.int (u 9 n)) = .int (u 9 n)) ∧ ∀ w, w < 60 → 0 ≤ (u 16 w).toInt ∧ (u 16 w).toInt ≤ 47
theorem upd_s {f : Nat → Int32} {k : Nat} {x : Int32} : upd f k x k = x := pk_us
theorem upd_n {f : Nat → Int32} {k j : Nat} {x : Int32} (h : j ≠ k) : upd f k x j = f j := pk_un h
theorem put1_0 (u : LU) (w n : Nat) : put1 u w n 0 = u 0 := rfl
theorem putX_0 (u : LU) (w n : Nat) : putX u w n 0 = u 0 := by
  unfold putX
  split
  · show put2 u w n 0 = u 0
    unfold put2
    rw [up_n _ _ _ (by omega : 0 ≠ 100 + w)]
    rfl
  · rfl
theorem put2_16 (u : LU) (w n : Nat) (hw : w < 60) : put2 u w n 16 = u 16 := by
  unfold put2
  rw [up_n _ _ _ (by omega : 16 ≠ 100 + w)]
  rfl
theorem putX_16 (u : LU) (w n : Nat) (hw : w < 60) : putX u w n 16 = if (u 16 w).toInt < 47 then upd (u 16) w (u 16 w + 1) else u 16 := by
  unfold putX
  split
  · rw [up_s, put2_16 u w n hw]
  · rfl
theorem putX_pb {u : LU} {w n : Nat} (hw : w < 60) (h : ∀ w, w < 60 → 0 ≤ (u 16 w).toInt ∧ (u 16 w).toInt ≤ 47) : ∀ q, q < 60 → 0 ≤ (putX u w n 16 q).toInt ∧ (putX u w n 16 q).toInt ≤ 47 := by
  intro q hq
  rw [putX_16 u w n hw]
  have h1 := h q hq
  split
  · by_cases e : q = w
    · subst e
      have e1 : (1 : Int32).toInt = 1 := rfl
      have h2 : (u 16 q + 1).toInt = (u 16 q).toInt + (1 : Int32).toInt := ti_add (by rw [e1]; omega) (by rw [e1]; omega)
      rw [upd_s, h2, e1]
      omega
    · rw [upd_n e]
      exact h1
  · exact h1
theorem epX_0 (u : LU) (n : Nat) : epX u n 0 = u 0 := by unfold epX; split <;> rfl
theorem mvX_stop (u : LU) (f t : Nat) (c : Int32) {i : Nat} (h : c.toInt ≤ ((mvX u f t c i).2 : Int)) : ∀ k, mvX u f t c (i + k) = mvX u f t c i
  | 0 => rfl
  | k + 1 => by
    have ih := mvX_stop u f t c h k
    show mvX u f t c ((i + k) + 1) = _
    simp only [mvX]
    rw [ih, if_neg (by omega)]
theorem mvX_t {u v : LU} {f t : Nat} {c : Int32} {i k : Nat} (hv : mvX u f t c i = (v, k)) (h1 : (k : Int) < c.toInt) (h2 : (v 14 i).toInt = f) : mvX u f t c (i + 1) = (mv1 v f i t, k + 1) := by
  simp only [mvX]
  rw [hv]
  exact if_pos ⟨h1, h2⟩
theorem mvX_f {u v : LU} {f t : Nat} {c : Int32} {i k : Nat} (hv : mvX u f t c i = (v, k)) (h2 : ¬ (v 14 i).toInt = f) : mvX u f t c (i + 1) = (v, k) := by
  simp only [mvX]
  rw [hv]
  exact if_neg (fun q => h2 q.2)
theorem avX_t {u v : LU} {i k : Nat} (hv : avX u i = (v, k)) (h1 : (v 6 i).toInt = 1) (h2 : (v 8 i).toInt ≤ (v 0 17).toInt) : avX u (i + 1) = (epX v i, k + 1) := by
  simp only [avX]
  rw [hv]
  exact if_pos ⟨h1, h2⟩
theorem avX_f {u v : LU} {i k : Nat} (hv : avX u i = (v, k)) (h2 : ¬ ((v 6 i).toInt = 1 ∧ (v 8 i).toInt ≤ (v 0 17).toInt)) : avX u (i + 1) = (v, k) := by
  simp only [avX]
  rw [hv]
  exact if_neg h2
theorem nfX_t {u : LU} {x b s : Int32} {i : Nat} (hv : nfX u x i = (b, s)) (h1 : rdX u i) (h2 : utX u i x) (h3 : (slX u i).toInt < s.toInt) : nfX u x (i + 1) = (nI i, slX u i) := by
  simp only [nfX]
  rw [hv]
  exact cif_t ⟨h1, h2, h3⟩
theorem nfX_f {u : LU} {x b s : Int32} {i : Nat} (hv : nfX u x i = (b, s)) (h : ¬ (rdX u i ∧ utX u i x ∧ (slX u i).toInt < s.toInt)) : nfX u x (i + 1) = (b, s) := by
  simp only [nfX]
  rw [hv]
  exact cif_f h
end
section
set_option maxHeartbeats 4000000 in
set_option maxRecDepth 100000 in
theorem c_X0_isWithin {l : Launch} {D : va_G} {cI cZ cQ : ClassId} {a : Nat → Nat} (u : LU) (x lo hi : Int32) : KI l yX0_isWithin wsX0_isWithin ({ frames := 0, cells := 0, slots := 0, locals := 0 } : Room) D (tyX cI cZ cQ) (wX cI cZ cQ a) [.int x, .int lo, .int hi] u (fun (r : Int32) (u' : LU) => r = bP (lo.toInt ≤ x.toInt ∧ x.toInt ≤ hi.toInt) ∧ u' = u) := by
  refine ent_I (own := RX0) (maxL := 3) (cc := cX0_isWithin) (L0 := [(0, .int x), (1, .int lo), (2, .int hi)]) (by decide) rfl (wX_ok _ _ _ _) rfl (Nat.le_of_ble_eq_true rfl) rfl ?_
  intro p e s m args below meth c A C hr
  refine g_iload_n (pc' := 1) (q := 0) C dX0_isWithin_0 rfl rfl rfl ?_
  refine g_iload_n (pc' := 2) (q := 1) C dX0_isWithin_1 rfl rfl rfl ?_
  refine g_icmp_lt (tgt := 14) (pc' := 5) C dX0_isWithin_2 rfl (by decide) (fun (c_1 : (x).toInt < (lo).toInt) => ?_) (fun (c_1 : ¬ ((x).toInt < (lo).toInt)) => ?_)
  · skip
    refine g_iconst (pc' := 15) (v := 0) C dX0_isWithin_14 rfl (by decide) ?_
    exact g_iret C hr (by decide) ⟨(bP_f (by omega)).symm, rfl⟩ dX0_isWithin_15
  · skip
    refine g_iload_n (pc' := 6) (q := 0) C dX0_isWithin_5 rfl rfl rfl ?_
    refine g_iload_n (pc' := 7) (q := 2) C dX0_isWithin_6 rfl rfl rfl ?_
    refine g_icmp_gt (tgt := 14) (pc' := 10) C dX0_isWithin_7 rfl (by decide) (fun (c_2 : (hi).toInt < (x).toInt) => ?_) (fun (c_2 : ¬ ((hi).toInt < (x).toInt)) => ?_)
    · skip
      refine g_iconst (pc' := 15) (v := 0) C dX0_isWithin_14 rfl (by decide) ?_
      exact g_iret C hr (by decide) ⟨(bP_f (by omega)).symm, rfl⟩ dX0_isWithin_15
    · skip
      refine g_iconst (pc' := 11) (v := 1) C dX0_isWithin_10 rfl (by decide) ?_
      refine g_goto (tgt := 15) C dX0_isWithin_11 (by decide) ?_
      exact g_iret C hr (by decide) ⟨(bP_t (by omega)).symm, rfl⟩ dX0_isWithin_15
set_option maxHeartbeats 4000000 in
set_option maxRecDepth 100000 in
theorem c_X0_isStep {l : Launch} {D : va_G} {cI cZ cQ : ClassId} {a : Nat → Nat} (u : LU) (x : Int32) : KI l yX0_isStep wsX0_isStep ({ frames := 0, cells := 0, slots := 0, locals := 0 } : Room) D (tyX cI cZ cQ) (wX cI cZ cQ a) [.ref (a 0), .int x] u (fun (r : Int32) (u' : LU) => r = bP (0 ≤ x.toInt ∧ x.toInt < (u 0 4).toInt) ∧ u' = u) := by
  refine ent_I (own := RX0) (maxL := 2) (cc := cX0_isStep) (L0 := [(0, .ref (a 0)), (1, .int x)]) (by decide) rfl (wX_ok _ _ _ _) rfl (Nat.le_of_ble_eq_true rfl) rfl ?_
  intro p e s m args below meth c A C hr
  have FX : ∀ w ∈ wsX00, w.before args s = true := fun w h => C.2.2.2.2.1 w ((by decide +kernel : ∀ w ∈ wsX00, w ∈ wsX0_isStep) w h)
  refine g_iload_n (pc' := 1) (q := 1) C dX0_isStep_0 rfl rfl rfl ?_
  refine g_if_lt (tgt := 16) (pc' := 4) C dX0_isStep_1 rfl (by decide) (fun (c_1 : (x).toInt < 0) => ?_) (fun (c_1 : ¬ ((x).toInt < 0)) => ?_)
  · skip
    refine g_iconst (pc' := 17) (v := 0) C dX0_isStep_16 rfl (by decide) ?_
    exact g_iret C hr (by decide) ⟨(bP_f (by omega)).symm, rfl⟩ dX0_isStep_17
  · skip
    refine g_iload_n (pc' := 5) (q := 1) C dX0_isStep_4 rfl rfl rfl ?_
    refine g_aload_n (pc' := 6) (q := 0) C dX0_isStep_5 rfl rfl rfl ?_
    refine g_get (pc' := 9) (v := .int (u 0 4)) C FX 0 (by rfl) rfl 4 (by decide) (by decide +kernel) rfl (by rfl) dX0_isStep_6 rfl ?_
    refine g_icmp_ge (tgt := 16) (pc' := 12) C dX0_isStep_9 rfl (by decide) (fun (c_2 : (u 0 4).toInt ≤ (x).toInt) => ?_) (fun (c_2 : ¬ ((u 0 4).toInt ≤ (x).toInt)) => ?_)
    · skip
      refine g_iconst (pc' := 17) (v := 0) C dX0_isStep_16 rfl (by decide) ?_
      exact g_iret C hr (by decide) ⟨(bP_f (by omega)).symm, rfl⟩ dX0_isStep_17
    · skip
      refine g_iconst (pc' := 13) (v := 1) C dX0_isStep_12 rfl (by decide) ?_
      refine g_goto (tgt := 17) C dX0_isStep_13 (by decide) ?_
      exact g_iret C hr (by decide) ⟨(bP_t (by omega)).symm, rfl⟩ dX0_isStep_17
set_option maxHeartbeats 4000000 in
set_option maxRecDepth 100000 in
theorem c_X0_isLot {l : Launch} {D : va_G} {cI cZ cQ : ClassId} {a : Nat → Nat} (u : LU) (x : Int32) : KI l yX0_isLot wsX0_isLot ({ frames := 0, cells := 0, slots := 0, locals := 0 } : Room) D (tyX cI cZ cQ) (wX cI cZ cQ a) [.ref (a 0), .int x] u (fun (r : Int32) (u' : LU) => r = bP (0 ≤ x.toInt ∧ x.toInt < (u 0 12).toInt) ∧ u' = u) := by
  refine ent_I (own := RX0) (maxL := 2) (cc := cX0_isLot) (L0 := [(0, .ref (a 0)), (1, .int x)]) (by decide) rfl (wX_ok _ _ _ _) rfl (Nat.le_of_ble_eq_true rfl) rfl ?_
  intro p e s m args below meth c A C hr
  have FX : ∀ w ∈ wsX00, w.before args s = true := fun w h => C.2.2.2.2.1 w ((by decide +kernel : ∀ w ∈ wsX00, w ∈ wsX0_isLot) w h)
  refine g_iload_n (pc' := 1) (q := 1) C dX0_isLot_0 rfl rfl rfl ?_
  refine g_if_lt (tgt := 16) (pc' := 4) C dX0_isLot_1 rfl (by decide) (fun (c_1 : (x).toInt < 0) => ?_) (fun (c_1 : ¬ ((x).toInt < 0)) => ?_)
  · skip
    refine g_iconst (pc' := 17) (v := 0) C dX0_isLot_16 rfl (by decide) ?_
    exact g_iret C hr (by decide) ⟨(bP_f (by omega)).symm, rfl⟩ dX0_isLot_17
  · skip
    refine g_iload_n (pc' := 5) (q := 1) C dX0_isLot_4 rfl rfl rfl ?_
    refine g_aload_n (pc' := 6) (q := 0) C dX0_isLot_5 rfl rfl rfl ?_
    refine g_get (pc' := 9) (v := .int (u 0 12)) C FX 0 (by rfl) rfl 12 (by decide) (by decide +kernel) rfl (by rfl) dX0_isLot_6 rfl ?_
    refine g_icmp_ge (tgt := 16) (pc' := 12) C dX0_isLot_9 rfl (by decide) (fun (c_2 : (u 0 12).toInt ≤ (x).toInt) => ?_) (fun (c_2 : ¬ ((u 0 12).toInt ≤ (x).toInt)) => ?_)
    · skip
      refine g_iconst (pc' := 17) (v := 0) C dX0_isLot_16 rfl (by decide) ?_
      exact g_iret C hr (by decide) ⟨(bP_f (by omega)).symm, rfl⟩ dX0_isLot_17
    · skip
      refine g_iconst (pc' := 13) (v := 1) C dX0_isLot_12 rfl (by decide) ?_
      refine g_goto (tgt := 17) C dX0_isLot_13 (by decide) ?_
      exact g_iret C hr (by decide) ⟨(bP_t (by omega)).symm, rfl⟩ dX0_isLot_17
set_option maxHeartbeats 4000000 in
set_option maxRecDepth 100000 in
theorem c_X0_checkTool {l : Launch} {D : va_G} {cI cZ cQ : ClassId} {a : Nat → Nat} (hlt : l.stackTraces = false) (u : LU) (x : Int32) : XV l yX0_checkTool wsX0_checkTool ({ frames := 6, cells := 1, slots := 6, locals := 82 } : Room) D (tyX cI cZ cQ) tx0 (wX cI cZ cQ a) [.int x] u (fun (u' : LU) => (0 ≤ x.toInt ∧ x.toInt ≤ 5) ∧ u' = u) (fun E => E = "java/lang/IndexOutOfBoundsException" ∧ ¬ (0 ≤ x.toInt ∧ x.toInt ≤ 5)) := by
  refine ent_XV (own := RX0) (maxL := 1) (cc := cX0_checkTool) (L0 := [(0, .int x)]) (by decide) rfl (wX_ok _ _ _ _) rfl (Nat.le_of_ble_eq_true rfl) rfl ?_
  intro p e s m args below meth c A C hr hE ht
  refine g_iload_n (pc' := 1) (q := 0) C dX0_checkTool_0 rfl rfl rfl ?_
  refine g_iconst (pc' := 2) (v := 0) C dX0_checkTool_1 rfl (by decide) ?_
  refine g_iconst (pc' := 3) (v := 5) C dX0_checkTool_2 rfl (by decide) ?_
  refine g_calliS (pc' := 6) (As := [.int x, .int 0, .int 5]) (st := []) (cells' := 0) (slots' := 0) C (c_X0_isWithin _ x 0 5) gX0_checkTool_X0_isWithin rfl (by decide +kernel) ⟨Nat.le_of_ble_eq_true rfl, Nat.le_of_ble_eq_true rfl⟩ (n := 3) rfl rfl (Nat.le_of_ble_eq_true rfl) dX0_checkTool_3 rfl rfl rfl ⟨Nat.le_of_ble_eq_true rfl, Nat.le_of_ble_eq_true rfl⟩ (fun r_1 u_1 h_2 => ?_)
  obtain ⟨rfl, h_2⟩ := h_2
  refine g_st h_2 ?_
  refine g_ifP_ne (tgt := 19) (pc' := 9) C dX0_checkTool_6 rfl (by decide) (fun c_3 => ?_) (fun c_3 => ?_)
  · skip
    exact g_xvret C hr ⟨by assumption, rfl⟩ dX0_checkTool_19 (by decide) (by decide)
  · skip
    exact g_throw C hlt hE ht (is := 177) (ic := 176) (ik := 172) (text := "there is no such tool") (names := ["java/lang/RuntimeException", "java/lang/Exception"]) (by decide +kernel) (by decide +kernel) (by decide +kernel) (by decide +kernel) (by decide +kernel) (by decide +kernel) (by decide +kernel) (by decide +kernel) dX0_checkTool_9 dX0_checkTool_12 dX0_checkTool_13 dX0_checkTool_15 dX0_checkTool_18 (Nat.le_of_ble_eq_true rfl) (Nat.le_of_ble_eq_true rfl) (Nat.le_of_ble_eq_true rfl) (Nat.le_of_ble_eq_true rfl) ⟨rfl, by assumption⟩ (by decide) (by decide)
set_option maxHeartbeats 4000000 in
set_option maxRecDepth 100000 in
theorem c_X0_checkStep {l : Launch} {D : va_G} {cI cZ cQ : ClassId} {a : Nat → Nat} (hlt : l.stackTraces = false) (u : LU) (x : Int32) : XV l yX0_checkStep wsX0_checkStep ({ frames := 6, cells := 1, slots := 6, locals := 82 } : Room) D (tyX cI cZ cQ) tx0 (wX cI cZ cQ a) [.ref (a 0), .int x] u (fun (u' : LU) => (0 ≤ x.toInt ∧ x.toInt < (u 0 4).toInt) ∧ u' = u) (fun E => E = "java/lang/IndexOutOfBoundsException" ∧ ¬ (0 ≤ x.toInt ∧ x.toInt < (u 0 4).toInt)) := by
  refine ent_XV (own := RX0) (maxL := 2) (cc := cX0_checkStep) (L0 := [(0, .ref (a 0)), (1, .int x)]) (by decide) rfl (wX_ok _ _ _ _) rfl (Nat.le_of_ble_eq_true rfl) rfl ?_
  intro p e s m args below meth c A C hr hE ht
  refine g_aload_n (pc' := 1) (q := 0) C dX0_checkStep_0 rfl rfl rfl ?_
  refine g_iload_n (pc' := 2) (q := 1) C dX0_checkStep_1 rfl rfl rfl ?_
  refine g_calliV (pc' := 5) (As := [.int x]) (st := []) (cells' := 0) (slots' := 0) C (c_X0_isStep _ x) gX0_checkStep_X0_isStep rfl (by decide +kernel) ⟨Nat.le_of_ble_eq_true rfl, Nat.le_of_ble_eq_true rfl⟩ 0 (by rfl) rfl (n := 1) rfl rfl (Nat.le_of_ble_eq_true rfl) dX0_checkStep_2 rfl rfl rfl ⟨Nat.le_of_ble_eq_true rfl, Nat.le_of_ble_eq_true rfl⟩ (fun r_1 u_1 h_2 => ?_)
  obtain ⟨rfl, h_2⟩ := h_2
  refine g_st h_2 ?_
  refine g_ifP_ne (tgt := 18) (pc' := 8) C dX0_checkStep_5 rfl (by decide) (fun c_3 => ?_) (fun c_3 => ?_)
  · skip
    exact g_xvret C hr ⟨by omega, rfl⟩ dX0_checkStep_18 (by decide) (by decide)
  · skip
    exact g_throw C hlt hE ht (is := 179) (ic := 176) (ik := 172) (text := "there is no such step") (names := ["java/lang/RuntimeException", "java/lang/Exception"]) (by decide +kernel) (by decide +kernel) (by decide +kernel) (by decide +kernel) (by decide +kernel) (by decide +kernel) (by decide +kernel) (by decide +kernel) dX0_checkStep_8 dX0_checkStep_11 dX0_checkStep_12 dX0_checkStep_14 dX0_checkStep_17 (Nat.le_of_ble_eq_true rfl) (Nat.le_of_ble_eq_true rfl) (Nat.le_of_ble_eq_true rfl) (Nat.le_of_ble_eq_true rfl) ⟨rfl, by omega⟩ (by decide) (by decide)
set_option maxHeartbeats 4000000 in
set_option maxRecDepth 100000 in
theorem c_X0_checkLot {l : Launch} {D : va_G} {cI cZ cQ : ClassId} {a : Nat → Nat} (hlt : l.stackTraces = false) (u : LU) (x : Int32) : XV l yX0_checkLot wsX0_checkLot ({ frames := 6, cells := 1, slots := 6, locals := 82 } : Room) D (tyX cI cZ cQ) tx0 (wX cI cZ cQ a) [.ref (a 0), .int x] u (fun (u' : LU) => (0 ≤ x.toInt ∧ x.toInt < (u 0 12).toInt) ∧ u' = u) (fun E => E = "java/lang/IndexOutOfBoundsException" ∧ ¬ (0 ≤ x.toInt ∧ x.toInt < (u 0 12).toInt)) := by
  refine ent_XV (own := RX0) (maxL := 2) (cc := cX0_checkLot) (L0 := [(0, .ref (a 0)), (1, .int x)]) (by decide) rfl (wX_ok _ _ _ _) rfl (Nat.le_of_ble_eq_true rfl) rfl ?_
  intro p e s m args below meth c A C hr hE ht
  refine g_aload_n (pc' := 1) (q := 0) C dX0_checkLot_0 rfl rfl rfl ?_
  refine g_iload_n (pc' := 2) (q := 1) C dX0_checkLot_1 rfl rfl rfl ?_
  refine g_calliV (pc' := 5) (As := [.int x]) (st := []) (cells' := 0) (slots' := 0) C (c_X0_isLot _ x) gX0_checkLot_X0_isLot rfl (by decide +kernel) ⟨Nat.le_of_ble_eq_true rfl, Nat.le_of_ble_eq_true rfl⟩ 0 (by rfl) rfl (n := 1) rfl rfl (Nat.le_of_ble_eq_true rfl) dX0_checkLot_2 rfl rfl rfl ⟨Nat.le_of_ble_eq_true rfl, Nat.le_of_ble_eq_true rfl⟩ (fun r_1 u_1 h_2 => ?_)
  obtain ⟨rfl, h_2⟩ := h_2
  refine g_st h_2 ?_
  refine g_ifP_ne (tgt := 18) (pc' := 8) C dX0_checkLot_5 rfl (by decide) (fun c_3 => ?_) (fun c_3 => ?_)
  · skip
    exact g_xvret C hr ⟨by omega, rfl⟩ dX0_checkLot_18 (by decide) (by decide)
  · skip
    exact g_throw C hlt hE ht (is := 181) (ic := 176) (ik := 172) (text := "there was no such lot") (names := ["java/lang/RuntimeException", "java/lang/Exception"]) (by decide +kernel) (by decide +kernel) (by decide +kernel) (by decide +kernel) (by decide +kernel) (by decide +kernel) (by decide +kernel) (by decide +kernel) dX0_checkLot_8 dX0_checkLot_11 dX0_checkLot_12 dX0_checkLot_14 dX0_checkLot_17 (Nat.le_of_ble_eq_true rfl) (Nat.le_of_ble_eq_true rfl) (Nat.le_of_ble_eq_true rfl) (Nat.le_of_ble_eq_true rfl) ⟨rfl, by omega⟩ (by decide) (by decide)
set_option maxHeartbeats 4000000 in
set_option maxRecDepth 100000 in
theorem c_X0_checkWafer {l : Launch} {D : va_G} {cI cZ cQ : ClassId} {a : Nat → Nat} (hlt : l.stackTraces = false) (u : LU) (x : Int32) : XV l yX0_checkWafer wsX0_checkWafer ({ frames := 6, cells := 1, slots := 6, locals := 82 } : Room) D (tyX cI cZ cQ) tx0 (wX cI cZ cQ a) [.ref (a 0), .int x] u (fun (u' : LU) => (0 ≤ x.toInt ∧ x.toInt < (u 0 16).toInt) ∧ u' = u) (fun E => E = "java/lang/IndexOutOfBoundsException" ∧ ¬ (0 ≤ x.toInt ∧ x.toInt < (u 0 16).toInt)) := by
  refine ent_XV (own := RX0) (maxL := 2) (cc := cX0_checkWafer) (L0 := [(0, .ref (a 0)), (1, .int x)]) (by decide) rfl (wX_ok _ _ _ _) rfl (Nat.le_of_ble_eq_true rfl) rfl ?_
  intro p e s m args below meth c A C hr hE ht
  have FX : ∀ w ∈ wsX00, w.before args s = true := fun w h => C.2.2.2.2.1 w ((by decide +kernel : ∀ w ∈ wsX00, w ∈ wsX0_checkWafer) w h)
  refine g_iload_n (pc' := 1) (q := 1) C dX0_checkWafer_0 rfl rfl rfl ?_
  refine g_if_lt (tgt := 12) (pc' := 4) C dX0_checkWafer_1 rfl (by decide) (fun (c_1 : (x).toInt < 0) => ?_) (fun (c_1 : ¬ ((x).toInt < 0)) => ?_)
  · skip
    exact g_throw C hlt hE ht (is := 183) (ic := 176) (ik := 172) (text := "there was no such wafer") (names := ["java/lang/RuntimeException", "java/lang/Exception"]) (by decide +kernel) (by decide +kernel) (by decide +kernel) (by decide +kernel) (by decide +kernel) (by decide +kernel) (by decide +kernel) (by decide +kernel) dX0_checkWafer_12 dX0_checkWafer_15 dX0_checkWafer_16 dX0_checkWafer_18 dX0_checkWafer_21 (Nat.le_of_ble_eq_true rfl) (Nat.le_of_ble_eq_true rfl) (Nat.le_of_ble_eq_true rfl) (Nat.le_of_ble_eq_true rfl) ⟨rfl, by omega⟩ (by decide) (by decide)
  · skip
    refine g_iload_n (pc' := 5) (q := 1) C dX0_checkWafer_4 rfl rfl rfl ?_
    refine g_aload_n (pc' := 6) (q := 0) C dX0_checkWafer_5 rfl rfl rfl ?_
    refine g_get (pc' := 9) (v := .int (u 0 16)) C FX 0 (by rfl) rfl 16 (by decide) (by decide +kernel) rfl (by rfl) dX0_checkWafer_6 rfl ?_
    refine g_icmp_lt (tgt := 22) (pc' := 12) C dX0_checkWafer_9 rfl (by decide) (fun (c_2 : (x).toInt < (u 0 16).toInt) => ?_) (fun (c_2 : ¬ ((x).toInt < (u 0 16).toInt)) => ?_)
    · skip
      exact g_xvret C hr ⟨by omega, rfl⟩ dX0_checkWafer_22 (by decide) (by decide)
    · skip
      exact g_throw C hlt hE ht (is := 183) (ic := 176) (ik := 172) (text := "there was no such wafer") (names := ["java/lang/RuntimeException", "java/lang/Exception"]) (by decide +kernel) (by decide +kernel) (by decide +kernel) (by decide +kernel) (by decide +kernel) (by decide +kernel) (by decide +kernel) (by decide +kernel) dX0_checkWafer_12 dX0_checkWafer_15 dX0_checkWafer_16 dX0_checkWafer_18 dX0_checkWafer_21 (Nat.le_of_ble_eq_true rfl) (Nat.le_of_ble_eq_true rfl) (Nat.le_of_ble_eq_true rfl) (Nat.le_of_ble_eq_true rfl) ⟨rfl, by omega⟩ (by decide) (by decide)
set_option maxHeartbeats 4000000 in
set_option maxRecDepth 100000 in
theorem c_X0_isFree {l : Launch} {D : va_G} {cI cZ cQ : ClassId} {a : Nat → Nat} (u : LU) (n : Nat) (hn : n < 24) : KI l yX0_isFree wsX0_isFree ({ frames := 0, cells := 0, slots := 0, locals := 0 } : Room) D (tyX cI cZ cQ) (wX cI cZ cQ a) [.ref (a 0), .int (nI n)] u (fun (r : Int32) (u' : LU) => r = bP ((u 6 n).toInt = 0 ∧ (u 9 n).toInt = 0) ∧ u' = u) := by
  refine ent_I (own := RX0) (maxL := 2) (cc := cX0_isFree) (L0 := [(0, .ref (a 0)), (1, .int (nI n))]) (by decide) rfl (wX_ok _ _ _ _) rfl (Nat.le_of_ble_eq_true rfl) rfl ?_
  intro p e s m args below meth c A C hr
  have FX : ∀ w ∈ wsX00, w.before args s = true := fun w h => C.2.2.2.2.1 w ((by decide +kernel : ∀ w ∈ wsX00, w ∈ wsX0_isFree) w h)
  refine g_aload_n (pc' := 1) (q := 0) C dX0_isFree_0 rfl rfl rfl ?_
  refine g_get (pc' := 4) (v := .ref (a 6)) C FX 0 (by rfl) rfl 5 (by decide) (by decide +kernel) rfl (by rfl) dX0_isFree_1 rfl ?_
  refine g_iload_n (pc' := 5) (q := 1) C dX0_isFree_4 rfl rfl rfl ?_
  refine g_iald (pc' := 6) (n := 24) (f := u 6) C 6 0 (by rfl) rfl (vp_in_nI (by omega) (by omega)) (k := n) (nI_clamp (by omega)) dX0_isFree_5 rfl ?_
  refine g_if_ne (tgt := 22) (pc' := 9) C dX0_isFree_6 rfl (by decide) (fun (c_1 : ¬ (u 6 n).toInt = 0) => ?_) (fun (c_1 : (u 6 n).toInt = 0) => ?_)
  · skip
    refine g_iconst (pc' := 23) (v := 0) C dX0_isFree_22 rfl (by decide) ?_
    exact g_iret C hr (by decide) ⟨(bP_f (by omega)).symm, rfl⟩ dX0_isFree_23
  · skip
    refine g_aload_n (pc' := 10) (q := 0) C dX0_isFree_9 rfl rfl rfl ?_
    refine g_get (pc' := 13) (v := .ref (a 9)) C FX 0 (by rfl) rfl 8 (by decide) (by decide +kernel) rfl (by rfl) dX0_isFree_10 rfl ?_
    refine g_iload_n (pc' := 14) (q := 1) C dX0_isFree_13 rfl rfl rfl ?_
    refine g_zald (pc' := 15) (n := 24) (f := u 9) C 9 1 (by rfl) rfl (vp_in_nI (by omega) (by omega)) (k := n) (nI_clamp (by omega)) dX0_isFree_14 rfl ?_
    refine g_if_ne (tgt := 22) (pc' := 18) C dX0_isFree_15 rfl (by decide) (fun (c_2 : ¬ (u 9 n).toInt = 0) => ?_) (fun (c_2 : (u 9 n).toInt = 0) => ?_)
    · skip
      refine g_iconst (pc' := 23) (v := 0) C dX0_isFree_22 rfl (by decide) ?_
      exact g_iret C hr (by decide) ⟨(bP_f (by omega)).symm, rfl⟩ dX0_isFree_23
    · skip
      refine g_iconst (pc' := 19) (v := 1) C dX0_isFree_18 rfl (by decide) ?_
      refine g_goto (tgt := 23) C dX0_isFree_19 (by decide) ?_
      exact g_iret C hr (by decide) ⟨(bP_t (by omega)).symm, rfl⟩ dX0_isFree_23
set_option maxHeartbeats 4000000 in
set_option maxRecDepth 100000 in
theorem c_X0_waitingLeft {l : Launch} {D : va_G} {cI cZ cQ : ClassId} {a : Nat → Nat} (u : LU) (n : Nat) (hn : n < 24) (hI : 0 ≤ (u 0 4).toInt ∧ (u 0 4).toInt ≤ 12) : KI l yX0_waitingLeft wsX0_waitingLeft ({ frames := 1, cells := 0, slots := 0, locals := 21 } : Room) D (tyX cI cZ cQ) (wX cI cZ cQ a) [.ref (a 0), .int (nI n)] u (fun (r : Int32) (u' : LU) => r = slX u n ∧ u' = u) := by
  refine ent_I (own := RX0) (maxL := 3) (cc := cX0_waitingLeft) (L0 := [(0, .ref (a 0)), (1, .int (nI n))]) (by decide) rfl (wX_ok _ _ _ _) rfl (Nat.le_of_ble_eq_true rfl) rfl ?_
  intro p e s m args below meth c A C hr
  have FX : ∀ w ∈ wsX00, w.before args s = true := fun w h => C.2.2.2.2.1 w ((by decide +kernel : ∀ w ∈ wsX00, w ∈ wsX0_waitingLeft) w h)
  refine g_aload_n (pc' := 1) (q := 0) C dX0_waitingLeft_0 rfl rfl rfl ?_
  refine g_get (pc' := 4) (v := .ref (a 7)) C FX 0 (by rfl) rfl 6 (by decide) (by decide +kernel) rfl (by rfl) dX0_waitingLeft_1 rfl ?_
  refine g_iload_n (pc' := 5) (q := 1) C dX0_waitingLeft_4 rfl rfl rfl ?_
  refine g_iald (pc' := 6) (n := 24) (f := u 7) C 7 0 (by rfl) rfl (vp_in_nI (by omega) (by omega)) (k := n) (nI_clamp (by omega)) dX0_waitingLeft_5 rfl ?_
  refine g_istore_n (pc' := 7) (L' := [(2, .int (u 7 n)), (0, .ref (a 0)), (1, .int (nI n))]) C dX0_waitingLeft_6 rfl rfl (by decide) rfl ?_
  refine g_aload_n (pc' := 8) (q := 1) C dX0_waitingLeft_7 rfl rfl rfl ?_
  refine g_get (pc' := 11) (v := .ref (a 6)) C FX 0 (by rfl) rfl 5 (by decide) (by decide +kernel) rfl (by rfl) dX0_waitingLeft_8 rfl ?_
  refine g_iload_n (pc' := 12) (q := 2) C dX0_waitingLeft_11 rfl rfl rfl ?_
  refine g_iald (pc' := 13) (n := 24) (f := u 6) C 6 0 (by rfl) rfl (vp_in_nI (by omega) (by omega)) (k := n) (nI_clamp (by omega)) dX0_waitingLeft_12 rfl ?_
  refine g_if_ne (tgt := 24) (pc' := 16) C dX0_waitingLeft_13 rfl (by decide) (fun (c_1 : ¬ (u 6 n).toInt = 0) => ?_) (fun (c_1 : (u 6 n).toInt = 0) => ?_)
  · skip
    refine g_ldc (pc' := 26) (v := 2000000) C dX0_waitingLeft_24 rfl (by decide +kernel) ?_
    exact g_iret C hr rfl ⟨by unfold slX; (repeat' split) <;> first | rfl | omega, rfl⟩ dX0_waitingLeft_26
  · skip
    refine g_aload_n (pc' := 17) (q := 1) C dX0_waitingLeft_16 rfl rfl rfl ?_
    refine g_iload_n (pc' := 18) (q := 0) C dX0_waitingLeft_17 rfl rfl rfl ?_
    refine g_calliV (pc' := 21) (As := [.int (u 7 n)]) (st := []) (cells' := 0) (slots' := 0) C (c_X0_isStep _ (u 7 n)) gX0_waitingLeft_X0_isStep rfl (by decide +kernel) ⟨Nat.le_of_ble_eq_true rfl, Nat.le_of_ble_eq_true rfl⟩ 0 (by rfl) rfl (n := 1) rfl rfl (Nat.le_of_ble_eq_true rfl) dX0_waitingLeft_18 rfl rfl rfl ⟨Nat.le_of_ble_eq_true rfl, Nat.le_of_ble_eq_true rfl⟩ (fun r_2 u_2 h_3 => ?_)
    obtain ⟨rfl, h_3⟩ := h_3
    refine g_st h_3 ?_
    refine g_ifP_ne (tgt := 27) (pc' := 24) C dX0_waitingLeft_21 rfl (by decide) (fun c_4 => ?_) (fun c_4 => ?_)
    · skip
      refine g_aload_n (pc' := 28) (q := 1) C dX0_waitingLeft_27 rfl rfl rfl ?_
      refine g_get (pc' := 31) (v := .ref (a 3)) C FX 0 (by rfl) rfl 2 (by decide) (by decide +kernel) rfl (by rfl) dX0_waitingLeft_28 rfl ?_
      refine g_iload_n (pc' := 32) (q := 0) C dX0_waitingLeft_31 rfl rfl rfl ?_
      refine g_iald (pc' := 33) (n := 12) (f := u 3) C 4 0 (by rfl) rfl (vp_of (by omega) (by omega)) (k := (u 7 n).toNatClampNeg) rfl dX0_waitingLeft_32 rfl ?_
      refine g_if_ne (tgt := 39) (pc' := 36) C dX0_waitingLeft_33 rfl (by decide) (fun (c_5 : ¬ (u 3 (u 7 n).toNatClampNeg).toInt = 0) => ?_) (fun (c_5 : (u 3 (u 7 n).toNatClampNeg).toInt = 0) => ?_)
      · skip
        refine g_aload_n (pc' := 40) (q := 1) C dX0_waitingLeft_39 rfl rfl rfl ?_
        refine g_get (pc' := 43) (v := .ref (a 3)) C FX 0 (by rfl) rfl 2 (by decide) (by decide +kernel) rfl (by rfl) dX0_waitingLeft_40 rfl ?_
        refine g_iload_n (pc' := 44) (q := 0) C dX0_waitingLeft_43 rfl rfl rfl ?_
        refine g_iald (pc' := 45) (n := 12) (f := u 3) C 4 0 (by rfl) rfl (vp_of (by omega) (by omega)) (k := (u 7 n).toNatClampNeg) rfl dX0_waitingLeft_44 rfl ?_
        refine g_aload_n (pc' := 46) (q := 1) C dX0_waitingLeft_45 rfl rfl rfl ?_
        refine g_get (pc' := 49) (v := .int (u 0 17)) C FX 0 (by rfl) rfl 17 (by decide) (by decide +kernel) rfl (by rfl) dX0_waitingLeft_46 rfl ?_
        refine g_aload_n (pc' := 50) (q := 1) C dX0_waitingLeft_49 rfl rfl rfl ?_
        refine g_get (pc' := 53) (v := .ref (a 8)) C FX 0 (by rfl) rfl 7 (by decide) (by decide +kernel) rfl (by rfl) dX0_waitingLeft_50 rfl ?_
        refine g_iload_n (pc' := 54) (q := 2) C dX0_waitingLeft_53 rfl rfl rfl ?_
        refine g_iald (pc' := 55) (n := 24) (f := u 8) C 8 0 (by rfl) rfl (vp_in_nI (by omega) (by omega)) (k := n) (nI_clamp (by omega)) dX0_waitingLeft_54 rfl ?_
        refine g_isub (pc' := 56) C dX0_waitingLeft_55 rfl ?_
        refine g_isub (pc' := 57) C dX0_waitingLeft_56 rfl ?_
        exact g_iret C hr rfl ⟨by unfold slX; (repeat' split) <;> first | rfl | omega, rfl⟩ dX0_waitingLeft_57
      · skip
        refine g_ldc (pc' := 38) (v := 1000000) C dX0_waitingLeft_36 rfl (by decide +kernel) ?_
        exact g_iret C hr rfl ⟨by unfold slX; (repeat' split) <;> first | rfl | omega, rfl⟩ dX0_waitingLeft_38
    · skip
      refine g_ldc (pc' := 26) (v := 2000000) C dX0_waitingLeft_24 rfl (by decide +kernel) ?_
      exact g_iret C hr rfl ⟨by unfold slX; (repeat' split) <;> first | rfl | omega, rfl⟩ dX0_waitingLeft_26
set_option maxHeartbeats 4000000 in
set_option maxRecDepth 100000 in
theorem c_X0_isReady {l : Launch} {D : va_G} {cI cZ cQ : ClassId} {a : Nat → Nat} (u : LU) (n : Nat) (hn : n < 24) (hI : 0 ≤ (u 0 4).toInt ∧ (u 0 4).toInt ≤ 12) : KI l yX0_isReady wsX0_isReady ({ frames := 2, cells := 0, slots := 0, locals := 43 } : Room) D (tyX cI cZ cQ) (wX cI cZ cQ a) [.ref (a 0), .int (nI n)] u (fun (r : Int32) (u' : LU) => r = bP (rdX u n) ∧ u' = u) := by
  refine ent_I (own := RX0) (maxL := 2) (cc := cX0_isReady) (L0 := [(0, .ref (a 0)), (1, .int (nI n))]) (by decide) rfl (wX_ok _ _ _ _) rfl (Nat.le_of_ble_eq_true rfl) rfl ?_
  intro p e s m args below meth c A C hr
  refine g_aload_n (pc' := 1) (q := 0) C dX0_isReady_0 rfl rfl rfl ?_
  refine g_iload_n (pc' := 2) (q := 1) C dX0_isReady_1 rfl rfl rfl ?_
  refine g_calliV (pc' := 5) (As := [.int (nI n)]) (st := []) (cells' := 0) (slots' := 0) C (c_X0_isFree _ n (by omega)) gX0_isReady_X0_isFree rfl (by decide +kernel) ⟨Nat.le_of_ble_eq_true rfl, Nat.le_of_ble_eq_true rfl⟩ 0 (by rfl) rfl (n := 1) rfl rfl (Nat.le_of_ble_eq_true rfl) dX0_isReady_2 rfl rfl rfl ⟨Nat.le_of_ble_eq_true rfl, Nat.le_of_ble_eq_true rfl⟩ (fun r_1 u_1 h_2 => ?_)
  obtain ⟨rfl, h_2⟩ := h_2
  refine g_st h_2 ?_
  refine g_ifP_eq (tgt := 20) (pc' := 8) C dX0_isReady_5 rfl (by decide) (fun c_3 => ?_) (fun c_3 => ?_)
  · skip
    refine g_iconst (pc' := 21) (v := 0) C dX0_isReady_20 rfl (by decide) ?_
    exact g_iret C hr (by decide) ⟨(bP_f (by unfold rdX; omega)).symm, rfl⟩ dX0_isReady_21
  · skip
    refine g_aload_n (pc' := 9) (q := 0) C dX0_isReady_8 rfl rfl rfl ?_
    refine g_iload_n (pc' := 10) (q := 1) C dX0_isReady_9 rfl rfl rfl ?_
    refine g_calliV (pc' := 13) (As := [.int (nI n)]) (st := []) (cells' := 0) (slots' := 0) C (c_X0_waitingLeft _ n (by omega) (by omega)) gX0_isReady_X0_waitingLeft rfl (by decide +kernel) ⟨Nat.le_of_ble_eq_true rfl, Nat.le_of_ble_eq_true rfl⟩ 0 (by rfl) rfl (n := 1) rfl rfl (Nat.le_of_ble_eq_true rfl) dX0_isReady_10 rfl rfl rfl ⟨Nat.le_of_ble_eq_true rfl, Nat.le_of_ble_eq_true rfl⟩ (fun r_4 u_4 h_5 => ?_)
    obtain ⟨rfl, h_5⟩ := h_5
    refine g_st h_5 ?_
    refine g_if_lt (tgt := 20) (pc' := 16) C dX0_isReady_13 rfl (by decide) (fun (c_6 : (slX u n).toInt < 0) => ?_) (fun (c_6 : ¬ ((slX u n).toInt < 0)) => ?_)
    · skip
      refine g_iconst (pc' := 21) (v := 0) C dX0_isReady_20 rfl (by decide) ?_
      exact g_iret C hr (by decide) ⟨(bP_f (by unfold rdX; omega)).symm, rfl⟩ dX0_isReady_21
    · skip
      refine g_iconst (pc' := 17) (v := 1) C dX0_isReady_16 rfl (by decide) ?_
      refine g_goto (tgt := 21) C dX0_isReady_17 (by decide) ?_
      exact g_iret C hr (by decide) ⟨(bP_t (by unfold rdX; omega)).symm, rfl⟩ dX0_isReady_21
set_option maxHeartbeats 4000000 in
set_option maxRecDepth 100000 in
theorem c_X0_usesTool {l : Launch} {D : va_G} {cI cZ cQ : ClassId} {a : Nat → Nat} (u : LU) (n : Nat) (x : Int32) (hn : n < 24) (hI : 0 ≤ (u 0 4).toInt ∧ (u 0 4).toInt ≤ 12) : KI l yX0_usesTool wsX0_usesTool ({ frames := 1, cells := 0, slots := 0, locals := 21 } : Room) D (tyX cI cZ cQ) (wX cI cZ cQ a) [.ref (a 0), .int (nI n), .int x] u (fun (r : Int32) (u' : LU) => r = bP (utX u n x) ∧ u' = u) := by
  refine ent_I (own := RX0) (maxL := 4) (cc := cX0_usesTool) (L0 := [(0, .ref (a 0)), (1, .int (nI n)), (2, .int x)]) (by decide) rfl (wX_ok _ _ _ _) rfl (Nat.le_of_ble_eq_true rfl) rfl ?_
  intro p e s m args below meth c A C hr
  have FX : ∀ w ∈ wsX00, w.before args s = true := fun w h => C.2.2.2.2.1 w ((by decide +kernel : ∀ w ∈ wsX00, w ∈ wsX0_usesTool) w h)
  refine g_aload_n (pc' := 1) (q := 0) C dX0_usesTool_0 rfl rfl rfl ?_
  refine g_get (pc' := 4) (v := .ref (a 7)) C FX 0 (by rfl) rfl 6 (by decide) (by decide +kernel) rfl (by rfl) dX0_usesTool_1 rfl ?_
  refine g_iload_n (pc' := 5) (q := 1) C dX0_usesTool_4 rfl rfl rfl ?_
  refine g_iald (pc' := 6) (n := 24) (f := u 7) C 7 0 (by rfl) rfl (vp_in_nI (by omega) (by omega)) (k := n) (nI_clamp (by omega)) dX0_usesTool_5 rfl ?_
  refine g_istore_n (pc' := 7) (L' := [(3, .int (u 7 n)), (0, .ref (a 0)), (1, .int (nI n)), (2, .int x)]) C dX0_usesTool_6 rfl rfl (by decide) rfl ?_
  refine g_aload_n (pc' := 8) (q := 1) C dX0_usesTool_7 rfl rfl rfl ?_
  refine g_iload_n (pc' := 9) (q := 0) C dX0_usesTool_8 rfl rfl rfl ?_
  refine g_calliV (pc' := 12) (As := [.int (u 7 n)]) (st := []) (cells' := 0) (slots' := 0) C (c_X0_isStep _ (u 7 n)) gX0_usesTool_X0_isStep rfl (by decide +kernel) ⟨Nat.le_of_ble_eq_true rfl, Nat.le_of_ble_eq_true rfl⟩ 0 (by rfl) rfl (n := 1) rfl rfl (Nat.le_of_ble_eq_true rfl) dX0_usesTool_9 rfl rfl rfl ⟨Nat.le_of_ble_eq_true rfl, Nat.le_of_ble_eq_true rfl⟩ (fun r_1 u_1 h_2 => ?_)
  obtain ⟨rfl, h_2⟩ := h_2
  refine g_st h_2 ?_
  refine g_ifP_eq (tgt := 29) (pc' := 15) C dX0_usesTool_12 rfl (by decide) (fun c_3 => ?_) (fun c_3 => ?_)
  · skip
    refine g_iconst (pc' := 30) (v := 0) C dX0_usesTool_29 rfl (by decide) ?_
    exact g_iret C hr (by decide) ⟨(bP_f (by unfold utX; omega)).symm, rfl⟩ dX0_usesTool_30
  · skip
    refine g_aload_n (pc' := 16) (q := 1) C dX0_usesTool_15 rfl rfl rfl ?_
    refine g_get (pc' := 19) (v := .ref (a 1)) C FX 0 (by rfl) rfl 0 (by decide) (by decide +kernel) rfl (by rfl) dX0_usesTool_16 rfl ?_
    refine g_iload_n (pc' := 20) (q := 0) C dX0_usesTool_19 rfl rfl rfl ?_
    refine g_iald (pc' := 21) (n := 12) (f := u 1) C 2 0 (by rfl) rfl (vp_of (by omega) (by omega)) (k := (u 7 n).toNatClampNeg) rfl dX0_usesTool_20 rfl ?_
    refine g_iload_n (pc' := 22) (q := 3) C dX0_usesTool_21 rfl rfl rfl ?_
    refine g_icmp_ne (tgt := 29) (pc' := 25) C dX0_usesTool_22 rfl (by decide) (fun (c_4 : ¬ (u 1 (u 7 n).toNatClampNeg).toInt = (x).toInt) => ?_) (fun (c_4 : (u 1 (u 7 n).toNatClampNeg).toInt = (x).toInt) => ?_)
    · skip
      refine g_iconst (pc' := 30) (v := 0) C dX0_usesTool_29 rfl (by decide) ?_
      exact g_iret C hr (by decide) ⟨(bP_f (by unfold utX; omega)).symm, rfl⟩ dX0_usesTool_30
    · skip
      refine g_iconst (pc' := 26) (v := 1) C dX0_usesTool_25 rfl (by decide) ?_
      refine g_goto (tgt := 30) C dX0_usesTool_26 (by decide) ?_
      exact g_iret C hr (by decide) ⟨(bP_t (by unfold utX; omega)).symm, rfl⟩ dX0_usesTool_30
set_option maxHeartbeats 4000000 in
set_option maxRecDepth 100000 in
theorem c_X0_isBusy {l : Launch} {D : va_G} {cI cZ cQ : ClassId} {a : Nat → Nat} (u : LU) (x : Int32) (hI : 0 ≤ (u 0 4).toInt ∧ (u 0 4).toInt ≤ 12) (hL : 0 ≤ (u 0 12).toInt ∧ (u 0 12).toInt ≤ 24) : KI l yX0_isBusy wsX0_isBusy ({ frames := 2, cells := 0, slots := 0, locals := 44 } : Room) D (tyX cI cZ cQ) (wX cI cZ cQ a) [.ref (a 0), .int x] u (fun (r : Int32) (u' : LU) => r = bP (buX u x) ∧ u' = u) := by
  refine ent_I (own := RX0) (maxL := 3) (cc := cX0_isBusy) (L0 := [(0, .ref (a 0)), (1, .int x)]) (by decide) rfl (wX_ok _ _ _ _) rfl (Nat.le_of_ble_eq_true rfl) rfl ?_
  intro p e s m args below meth c A C hr
  have FX : ∀ w ∈ wsX00, w.before args s = true := fun w h => C.2.2.2.2.1 w ((by decide +kernel : ∀ w ∈ wsX00, w ∈ wsX0_isBusy) w h)
  refine g_iconst (pc' := 1) (v := 0) C dX0_isBusy_0 rfl (by decide) ?_
  refine g_istore_n (pc' := 2) (L' := [(2, .int 0), (0, .ref (a 0)), (1, .int x)]) C dX0_isBusy_1 rfl rfl (by decide) rfl ?_
  have loop_2 : ∀ (k : Nat) (i : Nat), (i : Int) ≤ (u 0 12).toInt → (u 0 12).toInt + 1 ≤ i + k → (∀ j, j < i → ¬ ((u 6 j).toInt = 1 ∧ utX u j x)) → G p l e ({ frames := 2, cells := 0, slots := 0, locals := 44 } : Room) s m args below meth c D A 3 (wX cI cZ cQ a) 0 0 (MQ below (va_Qi (fun (r : Int32) (u' : LU) => r = bP (buX u x) ∧ u' = u) (KE D (tyX cI cZ cQ) (wX cI cZ cQ a)) A) args s 0 0 A) u 2 [(0, .ref (a 0)), (1, .int x), (2, .int (nI i))] [] := by
    intro k
    induction k with
    | zero =>
      intro i hi hk hinv
      omega
    | succ k ih =>
      intro i hi hk hinv
      refine g_iload_n (pc' := 3) (q := 2) C dX0_isBusy_2 rfl rfl rfl ?_
      refine g_aload_n (pc' := 4) (q := 0) C dX0_isBusy_3 rfl rfl rfl ?_
      refine g_get (pc' := 7) (v := .int (u 0 12)) C FX 0 (by rfl) rfl 12 (by decide) (by decide +kernel) rfl (by rfl) dX0_isBusy_4 rfl ?_
      have t_1 : (nI i).toInt = ((i : Nat) : Int) := nI_toInt (by omega)
      refine g_icmp_ge (tgt := 37) (pc' := 10) C dX0_isBusy_7 rfl (by decide) (fun (c_2 : (u 0 12).toInt ≤ (nI i).toInt) => ?_) (fun (c_2 : ¬ ((u 0 12).toInt ≤ (nI i).toInt)) => ?_)
      · skip
        refine g_iconst (pc' := 38) (v := 0) C dX0_isBusy_37 rfl (by decide) ?_
        exact g_iret C hr (by decide) ⟨(bP_f (fun ⟨j, h1, h2⟩ => hinv j (by omega) h2)).symm, rfl⟩ dX0_isBusy_38
      · skip
        refine g_aload_n (pc' := 11) (q := 0) C dX0_isBusy_10 rfl rfl rfl ?_
        refine g_get (pc' := 14) (v := .ref (a 6)) C FX 0 (by rfl) rfl 5 (by decide) (by decide +kernel) rfl (by rfl) dX0_isBusy_11 rfl ?_
        refine g_iload_n (pc' := 15) (q := 2) C dX0_isBusy_14 rfl rfl rfl ?_
        refine g_iald (pc' := 16) (n := 24) (f := u 6) C 6 0 (by rfl) rfl (vp_in_nI (by omega) (by omega)) (k := i) (nI_clamp (by omega)) dX0_isBusy_15 rfl ?_
        refine g_iconst (pc' := 17) (v := 1) C dX0_isBusy_16 rfl (by decide) ?_
        refine g_icmp_ne (tgt := 31) (pc' := 20) C dX0_isBusy_17 rfl (by decide) (fun (c_3 : ¬ (u 6 i).toInt = 1) => ?_) (fun (c_3 : (u 6 i).toInt = 1) => ?_)
        · skip
          refine g_iinc (pc' := 34) (v := nI (i + 1)) (L' := [(2, .int (nI (i + 1))), (0, .ref (a 0)), (1, .int x)]) C dX0_isBusy_31 rfl (k := 2) rfl (nI_1 _) (by decide) rfl ?_
          refine g_goto (tgt := 2) C dX0_isBusy_34 (by decide) ?_
          refine g_sub (L' := [(0, .ref (a 0)), (1, .int x), (2, .int (nI (i + 1)))]) [1, 2, 0] rfl ?_
          exact ih (i + 1) (by omega) (by omega) (fun j h => (Nat.lt_succ_iff_lt_or_eq.mp h).elim (hinv j) (fun e9 => by subst e9; intro q; first | exact absurd q.1 (by omega) | exact absurd q.2 (by assumption)))
        · skip
          refine g_aload_n (pc' := 21) (q := 0) C dX0_isBusy_20 rfl rfl rfl ?_
          refine g_iload_n (pc' := 22) (q := 2) C dX0_isBusy_21 rfl rfl rfl ?_
          refine g_iload_n (pc' := 23) (q := 1) C dX0_isBusy_22 rfl rfl rfl ?_
          refine g_calliV (pc' := 26) (As := [.int (nI i), .int x]) (st := []) (cells' := 0) (slots' := 0) C (c_X0_usesTool _ i x (by omega) (by omega)) gX0_isBusy_X0_usesTool rfl (by decide +kernel) ⟨Nat.le_of_ble_eq_true rfl, Nat.le_of_ble_eq_true rfl⟩ 0 (by rfl) rfl (n := 2) rfl rfl (Nat.le_of_ble_eq_true rfl) dX0_isBusy_23 rfl rfl rfl ⟨Nat.le_of_ble_eq_true rfl, Nat.le_of_ble_eq_true rfl⟩ (fun r_4 u_4 h_5 => ?_)
          obtain ⟨rfl, h_5⟩ := h_5
          refine g_st h_5 ?_
          refine g_ifP_eq (tgt := 31) (pc' := 29) C dX0_isBusy_26 rfl (by decide) (fun c_6 => ?_) (fun c_6 => ?_)
          · skip
            refine g_iinc (pc' := 34) (v := nI (i + 1)) (L' := [(2, .int (nI (i + 1))), (0, .ref (a 0)), (1, .int x)]) C dX0_isBusy_31 rfl (k := 2) rfl (nI_1 _) (by decide) rfl ?_
            refine g_goto (tgt := 2) C dX0_isBusy_34 (by decide) ?_
            refine g_sub (L' := [(0, .ref (a 0)), (1, .int x), (2, .int (nI (i + 1)))]) [1, 2, 0] rfl ?_
            exact ih (i + 1) (by omega) (by omega) (fun j h => (Nat.lt_succ_iff_lt_or_eq.mp h).elim (hinv j) (fun e9 => by subst e9; intro q; first | exact absurd q.1 (by omega) | exact absurd q.2 (by assumption)))
          · skip
            refine g_iconst (pc' := 30) (v := 1) C dX0_isBusy_29 rfl (by decide) ?_
            exact g_iret C hr (by decide) ⟨(bP_t ⟨i, by omega, by omega, by assumption⟩).symm, rfl⟩ dX0_isBusy_30
  refine g_sub (L' := [(0, .ref (a 0)), (1, .int x), (2, .int (nI 0))]) [1, 2, 0] rfl ?_
  exact loop_2 25 0 (by omega) (by omega) (fun j h => absurd h (Nat.not_lt_zero j))
set_option maxHeartbeats 4000000 in
set_option maxRecDepth 100000 in
theorem c_X0_parentOrNone {l : Launch} {D : va_G} {cI cZ cQ : ClassId} {a : Nat → Nat} (u : LU) (x : Int32) (hL : 0 ≤ (u 0 12).toInt ∧ (u 0 12).toInt ≤ 24) : KI l yX0_parentOrNone wsX0_parentOrNone ({ frames := 1, cells := 0, slots := 0, locals := 21 } : Room) D (tyX cI cZ cQ) (wX cI cZ cQ a) [.ref (a 0), .int x] u (fun (r : Int32) (u' : LU) => r = ponX u x ∧ u' = u) := by
  refine ent_I (own := RX0) (maxL := 2) (cc := cX0_parentOrNone) (L0 := [(0, .ref (a 0)), (1, .int x)]) (by decide) rfl (wX_ok _ _ _ _) rfl (Nat.le_of_ble_eq_true rfl) rfl ?_
  intro p e s m args below meth c A C hr
  have FX : ∀ w ∈ wsX00, w.before args s = true := fun w h => C.2.2.2.2.1 w ((by decide +kernel : ∀ w ∈ wsX00, w ∈ wsX0_parentOrNone) w h)
  refine g_aload_n (pc' := 1) (q := 0) C dX0_parentOrNone_0 rfl rfl rfl ?_
  refine g_iload_n (pc' := 2) (q := 1) C dX0_parentOrNone_1 rfl rfl rfl ?_
  refine g_calliV (pc' := 5) (As := [.int x]) (st := []) (cells' := 0) (slots' := 0) C (c_X0_isLot _ x) gX0_parentOrNone_X0_isLot rfl (by decide +kernel) ⟨Nat.le_of_ble_eq_true rfl, Nat.le_of_ble_eq_true rfl⟩ 0 (by rfl) rfl (n := 1) rfl rfl (Nat.le_of_ble_eq_true rfl) dX0_parentOrNone_2 rfl rfl rfl ⟨Nat.le_of_ble_eq_true rfl, Nat.le_of_ble_eq_true rfl⟩ (fun r_1 u_1 h_2 => ?_)
  obtain ⟨rfl, h_2⟩ := h_2
  refine g_st h_2 ?_
  refine g_ifP_eq (tgt := 17) (pc' := 8) C dX0_parentOrNone_5 rfl (by decide) (fun c_3 => ?_) (fun c_3 => ?_)
  · skip
    refine g_iconst (pc' := 18) (v := (-1)) C dX0_parentOrNone_17 rfl (by decide) ?_
    exact g_iret C hr rfl ⟨by unfold ponX; (repeat' split) <;> first | rfl | omega, rfl⟩ dX0_parentOrNone_18
  · skip
    refine g_aload_n (pc' := 9) (q := 0) C dX0_parentOrNone_8 rfl rfl rfl ?_
    refine g_get (pc' := 12) (v := .ref (a 11)) C FX 0 (by rfl) rfl 10 (by decide) (by decide +kernel) rfl (by rfl) dX0_parentOrNone_9 rfl ?_
    refine g_iload_n (pc' := 13) (q := 1) C dX0_parentOrNone_12 rfl rfl rfl ?_
    refine g_iald (pc' := 14) (n := 24) (f := u 11) C 11 0 (by rfl) rfl (vp_of (by omega) (by omega)) (k := x.toNatClampNeg) rfl dX0_parentOrNone_13 rfl ?_
    refine g_goto (tgt := 18) C dX0_parentOrNone_14 (by decide) ?_
    exact g_iret C hr rfl ⟨by unfold ponX; (repeat' split) <;> first | rfl | omega, rfl⟩ dX0_parentOrNone_18
end
section
set_option maxHeartbeats 4000000 in
set_option maxRecDepth 100000 in
theorem c_X0_leaveRoute {l : Launch} {D : va_G} {cI cZ cQ : ClassId} {a : Nat → Nat} (u : LU) (n : Nat) (x : Int32) (hn : n < 24) : KV l yX0_leaveRoute wsX0_leaveRoute ({ frames := 0, cells := 0, slots := 0, locals := 0 } : Room) D (tyX cI cZ cQ) (wX cI cZ cQ a) [.ref (a 0), .int (nI n), .int x] u (fun (u' : LU) => u' = lvX u n x) := by
  refine ent_V (own := RX0) (maxL := 3) (cc := cX0_leaveRoute) (L0 := [(0, .ref (a 0)), (1, .int (nI n)), (2, .int x)]) (by decide) rfl (wX_ok _ _ _ _) rfl (Nat.le_of_ble_eq_true rfl) rfl ?_
  intro p e s m args below meth c A C hr
  have FX : ∀ w ∈ wsX00, w.before args s = true := fun w h => C.2.2.2.2.1 w ((by decide +kernel : ∀ w ∈ wsX00, w ∈ wsX0_leaveRoute) w h)
  refine g_aload_n (pc' := 1) (q := 0) C dX0_leaveRoute_0 rfl rfl rfl ?_
  refine g_get (pc' := 4) (v := .ref (a 6)) C FX 0 (by rfl) rfl 5 (by decide) (by decide +kernel) rfl (by rfl) dX0_leaveRoute_1 rfl ?_
  refine g_iload_n (pc' := 5) (q := 1) C dX0_leaveRoute_4 rfl rfl rfl ?_
  refine g_iload_n (pc' := 6) (q := 2) C dX0_leaveRoute_5 rfl rfl rfl ?_
  refine g_iast (pc' := 7) (n := 24) (f := u 6) C 6 0 (by rfl) rfl (vp_in_nI (by omega) (by omega)) (k := n) (nI_clamp (by omega)) dX0_leaveRoute_6 rfl (wX_set cI cZ cQ a _ (k := 4) rfl) ?_
  refine g_aload_n (pc' := 8) (q := 0) C dX0_leaveRoute_7 rfl rfl rfl ?_
  refine g_get (pc' := 11) (v := .ref (a 7)) C FX 0 (by rfl) rfl 6 (by decide) (by decide +kernel) rfl (by rfl) dX0_leaveRoute_8 rfl ?_
  refine g_iload_n (pc' := 12) (q := 1) C dX0_leaveRoute_11 rfl rfl rfl ?_
  refine g_iconst (pc' := 13) (v := (-1)) C dX0_leaveRoute_12 rfl (by decide) ?_
  refine g_iast (pc' := 14) (n := 24) (f := u 7) C 7 0 (by rfl) rfl (vp_in_nI (by omega) (by omega)) (k := n) (nI_clamp (by omega)) dX0_leaveRoute_13 rfl (wX_set cI cZ cQ a _ (k := 5) rfl) ?_
  exact g_vret C hr rfl dX0_leaveRoute_14
set_option maxHeartbeats 4000000 in
set_option maxRecDepth 100000 in
theorem c_X0_endProcessing {l : Launch} {D : va_G} {cI cZ cQ : ClassId} {a : Nat → Nat} (u : LU) (n : Nat) (hn : n < 24) : KV l yX0_endProcessing wsX0_endProcessing ({ frames := 1, cells := 0, slots := 0, locals := 22 } : Room) D (tyX cI cZ cQ) (wX cI cZ cQ a) [.ref (a 0), .int (nI n)] u (fun (u' : LU) => u' = epX u n) := by
  refine ent_V (own := RX0) (maxL := 3) (cc := cX0_endProcessing) (L0 := [(0, .ref (a 0)), (1, .int (nI n))]) (by decide) rfl (wX_ok _ _ _ _) rfl (Nat.le_of_ble_eq_true rfl) rfl ?_
  intro p e s m args below meth c A C hr
  have FX : ∀ w ∈ wsX00, w.before args s = true := fun w h => C.2.2.2.2.1 w ((by decide +kernel : ∀ w ∈ wsX00, w ∈ wsX0_endProcessing) w h)
  refine g_aload_n (pc' := 1) (q := 0) C dX0_endProcessing_0 rfl rfl rfl ?_
  refine g_get (pc' := 4) (v := .ref (a 7)) C FX 0 (by rfl) rfl 6 (by decide) (by decide +kernel) rfl (by rfl) dX0_endProcessing_1 rfl ?_
  refine g_iload_n (pc' := 5) (q := 1) C dX0_endProcessing_4 rfl rfl rfl ?_
  refine g_iald (pc' := 6) (n := 24) (f := u 7) C 7 0 (by rfl) rfl (vp_in_nI (by omega) (by omega)) (k := n) (nI_clamp (by omega)) dX0_endProcessing_5 rfl ?_
  refine g_iconst (pc' := 7) (v := 1) C dX0_endProcessing_6 rfl (by decide) ?_
  refine g_iadd (pc' := 8) C dX0_endProcessing_7 rfl ?_
  refine g_istore_n (pc' := 9) (L' := [(2, .int ((u 7 n) + 1)), (0, .ref (a 0)), (1, .int (nI n))]) C dX0_endProcessing_8 rfl rfl (by decide) rfl ?_
  refine g_aload_n (pc' := 10) (q := 1) C dX0_endProcessing_9 rfl rfl rfl ?_
  refine g_iload_n (pc' := 11) (q := 0) C dX0_endProcessing_10 rfl rfl rfl ?_
  refine g_calliV (pc' := 14) (As := [.int ((u 7 n) + 1)]) (st := []) (cells' := 0) (slots' := 0) C (c_X0_isStep _ ((u 7 n) + 1)) gX0_endProcessing_X0_isStep rfl (by decide +kernel) ⟨Nat.le_of_ble_eq_true rfl, Nat.le_of_ble_eq_true rfl⟩ 0 (by rfl) rfl (n := 1) rfl rfl (Nat.le_of_ble_eq_true rfl) dX0_endProcessing_11 rfl rfl rfl ⟨Nat.le_of_ble_eq_true rfl, Nat.le_of_ble_eq_true rfl⟩ (fun r_1 u_1 h_2 => ?_)
  obtain ⟨rfl, h_2⟩ := h_2
  refine g_st h_2 ?_
  refine g_ifP_eq (tgt := 34) (pc' := 17) C dX0_endProcessing_14 rfl (by decide) (fun c_3 => ?_) (fun c_3 => ?_)
  · skip
    refine g_aload_n (pc' := 35) (q := 1) C dX0_endProcessing_34 rfl rfl rfl ?_
    refine g_iload_n (pc' := 36) (q := 2) C dX0_endProcessing_35 rfl rfl rfl ?_
    refine g_iconst (pc' := 37) (v := 2) C dX0_endProcessing_36 rfl (by decide) ?_
    refine g_callvV (pc' := 40) (As := [.int (nI n), .int 2]) (st := []) (cells' := 0) (slots' := 0) C (c_X0_leaveRoute _ n 2 (by omega)) gX0_endProcessing_X0_leaveRoute rfl (by decide +kernel) ⟨Nat.le_of_ble_eq_true rfl, Nat.le_of_ble_eq_true rfl⟩ 0 (by rfl) rfl (n := 2) rfl rfl (Nat.le_of_ble_eq_true rfl) dX0_endProcessing_37 rfl rfl rfl ⟨Nat.le_of_ble_eq_true rfl, Nat.le_of_ble_eq_true rfl⟩ (fun  u_4 h_5 => ?_)
    exact g_vret C hr (by unfold epX; (repeat' split) <;> first | rfl | assumption | (exfalso; omega) | contradiction) dX0_endProcessing_40
  · skip
    refine g_aload_n (pc' := 18) (q := 1) C dX0_endProcessing_17 rfl rfl rfl ?_
    refine g_get (pc' := 21) (v := .ref (a 6)) C FX 0 (by rfl) rfl 5 (by decide) (by decide +kernel) rfl (by rfl) dX0_endProcessing_18 rfl ?_
    refine g_iload_n (pc' := 22) (q := 2) C dX0_endProcessing_21 rfl rfl rfl ?_
    refine g_iconst (pc' := 23) (v := 0) C dX0_endProcessing_22 rfl (by decide) ?_
    refine g_iast (pc' := 24) (n := 24) (f := u 6) C 6 0 (by rfl) rfl (vp_in_nI (by omega) (by omega)) (k := n) (nI_clamp (by omega)) dX0_endProcessing_23 rfl (wX_set cI cZ cQ a _ (k := 4) rfl) ?_
    refine g_aload_n (pc' := 25) (q := 1) C dX0_endProcessing_24 rfl rfl rfl ?_
    refine g_get (pc' := 28) (v := .ref (a 7)) C FX 0 (by rfl) rfl 6 (by decide) (by decide +kernel) rfl (by rfl) dX0_endProcessing_25 rfl ?_
    refine g_iload_n (pc' := 29) (q := 2) C dX0_endProcessing_28 rfl rfl rfl ?_
    refine g_iload_n (pc' := 30) (q := 0) C dX0_endProcessing_29 rfl rfl rfl ?_
    refine g_iast (pc' := 31) (n := 24) (f := u 7) C 7 0 (by rfl) rfl (vp_in_nI (by omega) (by omega)) (k := n) (nI_clamp (by omega)) dX0_endProcessing_30 rfl (wX_set cI cZ cQ a _ (k := 5) rfl) ?_
    refine g_goto (tgt := 40) C dX0_endProcessing_31 (by decide) ?_
    exact g_vret C hr (by unfold epX; (repeat' split) <;> first | rfl | assumption | (exfalso; omega) | contradiction) dX0_endProcessing_40
set_option maxHeartbeats 4000000 in
set_option maxRecDepth 100000 in
theorem c_X0_putInto {l : Launch} {D : va_G} {cI cZ cQ : ClassId} {a : Nat → Nat} (u : LU) (w n : Nat) (hw : w < 60) (hn : n < 24) (hq : 0 ≤ (u 16 w).toInt) : KV l yX0_putInto wsX0_putInto ({ frames := 0, cells := 0, slots := 0, locals := 0 } : Room) D (tyX cI cZ cQ) (wX cI cZ cQ a) [.ref (a 0), .int (nI w), .int (nI n)] u (fun (u' : LU) => u' = putX u w n) := by
  refine ent_V (own := RX0) (maxL := 4) (cc := cX0_putInto) (L0 := [(0, .ref (a 0)), (1, .int (nI w)), (2, .int (nI n))]) (by decide) rfl (wX_ok _ _ _ _) rfl (Nat.le_of_ble_eq_true rfl) rfl ?_
  intro p e s m args below meth c A C hr
  have FX : ∀ w ∈ wsX00, w.before args s = true := fun w h => C.2.2.2.2.1 w ((by decide +kernel : ∀ w ∈ wsX00, w ∈ wsX0_putInto) w h)
  refine g_aload_n (pc' := 1) (q := 0) C dX0_putInto_0 rfl rfl rfl ?_
  refine g_get (pc' := 4) (v := .ref (a 14)) C FX 0 (by rfl) rfl 13 (by decide) (by decide +kernel) rfl (by rfl) dX0_putInto_1 rfl ?_
  refine g_iload_n (pc' := 5) (q := 1) C dX0_putInto_4 rfl rfl rfl ?_
  refine g_iload_n (pc' := 6) (q := 2) C dX0_putInto_5 rfl rfl rfl ?_
  refine g_iast (pc' := 7) (n := 60) (f := u 14) C 13 0 (by rfl) rfl (vp_in_nI (by omega) (by omega)) (k := w) (nI_clamp (by omega)) dX0_putInto_6 rfl (wX_set cI cZ cQ a _ (k := 11) rfl) ?_
  refine g_aload_n (pc' := 8) (q := 0) C dX0_putInto_7 rfl rfl rfl ?_
  refine g_get (pc' := 11) (v := .ref (a 12)) C FX 0 (by rfl) rfl 11 (by decide) (by decide +kernel) rfl (by rfl) dX0_putInto_8 rfl ?_
  refine g_iload_n (pc' := 12) (q := 2) C dX0_putInto_11 rfl rfl rfl ?_
  refine g_dup2 (pc' := 13) C dX0_putInto_12 rfl rfl rfl ?_
  refine g_iald (pc' := 14) (n := 24) (f := u 12) C 12 0 (by rfl) rfl (vp_in_nI (by omega) (by omega)) (k := n) (nI_clamp (by omega)) dX0_putInto_13 rfl ?_
  refine g_iconst (pc' := 15) (v := 1) C dX0_putInto_14 rfl (by decide) ?_
  refine g_iadd (pc' := 16) C dX0_putInto_15 rfl ?_
  refine g_iast (pc' := 17) (n := 24) (f := u 12) C 12 0 (by rfl) rfl (vp_in_nI (by omega) (by omega)) (k := n) (nI_clamp (by omega)) dX0_putInto_16 rfl (wX_set cI cZ cQ a _ (k := 10) rfl) ?_
  refine g_aload_n (pc' := 18) (q := 0) C dX0_putInto_17 rfl rfl rfl ?_
  refine g_get (pc' := 21) (v := .ref (a 16)) C FX 0 (by rfl) rfl 15 (by decide) (by decide +kernel) rfl (by rfl) dX0_putInto_18 rfl ?_
  refine g_iload_n (pc' := 22) (q := 1) C dX0_putInto_21 rfl rfl rfl ?_
  refine g_iald (pc' := 23) (n := 60) (f := u 16) C 14 0 (by rfl) rfl (vp_in_nI (by omega) (by omega)) (k := w) (nI_clamp (by omega)) dX0_putInto_22 rfl ?_
  refine g_istore_n (pc' := 24) (L' := [(3, .int (u 16 w)), (0, .ref (a 0)), (1, .int (nI w)), (2, .int (nI n))]) C dX0_putInto_23 rfl rfl (by decide) rfl ?_
  refine g_iload_n (pc' := 25) (q := 0) C dX0_putInto_24 rfl rfl rfl ?_
  refine g_bipush (pc' := 27) (v := 47) C dX0_putInto_25 rfl (by decide) ?_
  refine g_icmp_ge (tgt := 48) (pc' := 30) C dX0_putInto_27 rfl (by decide) (fun (c_1 : 47 ≤ (u 16 w).toInt) => ?_) (fun (c_1 : ¬ (47 ≤ (u 16 w).toInt)) => ?_)
  · skip
    exact g_vret C hr (by unfold putX; (repeat' split) <;> first | rfl | assumption | (exfalso; omega) | contradiction) dX0_putInto_48
  · skip
    refine g_aload_n (pc' := 31) (q := 1) C dX0_putInto_30 rfl rfl rfl ?_
    refine g_get (pc' := 34) (v := .ref (a 15)) C FX 0 (by rfl) rfl 14 (by decide) (by decide +kernel) rfl (by rfl) dX0_putInto_31 rfl ?_
    refine g_iload_n (pc' := 35) (q := 2) C dX0_putInto_34 rfl rfl rfl ?_
    refine g_aald (pc' := 36) (x := a (100 + w)) C 1 2 rfl rfl (vp_in_nI (by omega) (by omega)) (by rw [nI_clamp (by omega)]; exact if_pos (by omega)) dX0_putInto_35 rfl ?_
    refine g_iload_n (pc' := 37) (q := 0) C dX0_putInto_36 rfl rfl rfl ?_
    refine g_iload_n (pc' := 38) (q := 3) C dX0_putInto_37 rfl rfl rfl ?_
    refine g_iast (pc' := 39) C (15 + w) 0 (row_get _ _ _ _ _ (by omega)) rfl (vp_of (by omega) (by omega)) (k := (u 16 w).toNatClampNeg) rfl dX0_putInto_38 rfl (row_set _ _ _ _ _ (by omega)) ?_
    refine g_aload_n (pc' := 40) (q := 1) C dX0_putInto_39 rfl rfl rfl ?_
    refine g_get (pc' := 43) (v := .ref (a 16)) C FX 0 (by rfl) rfl 15 (by decide) (by decide +kernel) rfl (by rfl) dX0_putInto_40 rfl ?_
    refine g_iload_n (pc' := 44) (q := 2) C dX0_putInto_43 rfl rfl rfl ?_
    refine g_iload_n (pc' := 45) (q := 0) C dX0_putInto_44 rfl rfl rfl ?_
    refine g_iconst (pc' := 46) (v := 1) C dX0_putInto_45 rfl (by decide) ?_
    refine g_iadd (pc' := 47) C dX0_putInto_46 rfl ?_
    refine g_iast (pc' := 48) (n := 60) (f := _) C 14 0 (by rfl) rfl (vp_in_nI (by omega) (by omega)) (k := w) (nI_clamp (by omega)) dX0_putInto_47 rfl (wX_set cI cZ cQ a _ (k := 12) rfl) ?_
    exact g_vret C hr (by unfold putX; (repeat' split) <;> first | rfl | assumption | (exfalso; omega) | contradiction) dX0_putInto_48
set_option maxHeartbeats 4000000 in
set_option maxRecDepth 100000 in
theorem c_X0_makeLot {l : Launch} {D : va_G} {cI cZ cQ : ClassId} {a : Nat → Nat} (u : LU) (n : Nat) (x0 si hd rw9 pa : Int32) (hn : n < 24) (hc : u 0 12 = nI n) (hz : vp_nar .boolean hd = hd) : KI l yX0_makeLot wsX0_makeLot ({ frames := 0, cells := 0, slots := 0, locals := 0 } : Room) D (tyX cI cZ cQ) (wX cI cZ cQ a) [.ref (a 0), .int x0, .int si, .int hd, .int rw9, .int pa] u (fun (r : Int32) (u' : LU) => r = nI n ∧ u' = mkLX u n x0 si hd rw9 pa) := by
  refine ent_I (own := RX0) (maxL := 7) (cc := cX0_makeLot) (L0 := [(0, .ref (a 0)), (1, .int x0), (2, .int si), (3, .int hd), (4, .int rw9), (5, .int pa)]) (by decide) rfl (wX_ok _ _ _ _) rfl (Nat.le_of_ble_eq_true rfl) rfl ?_
  intro p e s m args below meth c A C hr
  have FX : ∀ w ∈ wsX00, w.before args s = true := fun w h => C.2.2.2.2.1 w ((by decide +kernel : ∀ w ∈ wsX00, w ∈ wsX0_makeLot) w h)
  refine g_aload_n (pc' := 1) (q := 0) C dX0_makeLot_0 rfl rfl rfl ?_
  refine g_get (pc' := 4) (v := .int (u 0 12)) C FX 0 (by rfl) rfl 12 (by decide) (by decide +kernel) rfl (by rfl) dX0_makeLot_1 rfl ?_
  rw [show (u 0 12 : Int32) = nI n from hc]
  refine g_istore (pc' := 6) (L' := [(6, .int (nI n)), (0, .ref (a 0)), (1, .int x0), (2, .int si), (3, .int hd), (4, .int rw9), (5, .int pa)]) C dX0_makeLot_4 rfl (by decide) rfl ?_
  refine g_aload_n (pc' := 7) (q := 1) C dX0_makeLot_6 rfl rfl rfl ?_
  refine g_get (pc' := 10) (v := .ref (a 6)) C FX 0 (by rfl) rfl 5 (by decide) (by decide +kernel) rfl (by rfl) dX0_makeLot_7 rfl ?_
  refine g_iload (pc' := 12) (q := 0) C dX0_makeLot_10 rfl rfl ?_
  refine g_iconst (pc' := 13) (v := 0) C dX0_makeLot_12 rfl (by decide) ?_
  refine g_iast (pc' := 14) (n := 24) (f := u 6) C 6 0 (by rfl) rfl (vp_in_nI (by omega) (by omega)) (k := n) (nI_clamp (by omega)) dX0_makeLot_13 rfl (wX_set cI cZ cQ a _ (k := 4) rfl) ?_
  refine g_aload_n (pc' := 15) (q := 1) C dX0_makeLot_14 rfl rfl rfl ?_
  refine g_get (pc' := 18) (v := .ref (a 7)) C FX 0 (by rfl) rfl 6 (by decide) (by decide +kernel) rfl (by rfl) dX0_makeLot_15 rfl ?_
  refine g_iload (pc' := 20) (q := 0) C dX0_makeLot_18 rfl rfl ?_
  refine g_iload_n (pc' := 21) (q := 2) C dX0_makeLot_20 rfl rfl rfl ?_
  refine g_iast (pc' := 22) (n := 24) (f := u 7) C 7 0 (by rfl) rfl (vp_in_nI (by omega) (by omega)) (k := n) (nI_clamp (by omega)) dX0_makeLot_21 rfl (wX_set cI cZ cQ a _ (k := 5) rfl) ?_
  refine g_aload_n (pc' := 23) (q := 1) C dX0_makeLot_22 rfl rfl rfl ?_
  refine g_get (pc' := 26) (v := .ref (a 8)) C FX 0 (by rfl) rfl 7 (by decide) (by decide +kernel) rfl (by rfl) dX0_makeLot_23 rfl ?_
  refine g_iload (pc' := 28) (q := 0) C dX0_makeLot_26 rfl rfl ?_
  refine g_iload_n (pc' := 29) (q := 3) C dX0_makeLot_28 rfl rfl rfl ?_
  refine g_iast (pc' := 30) (n := 24) (f := u 8) C 8 0 (by rfl) rfl (vp_in_nI (by omega) (by omega)) (k := n) (nI_clamp (by omega)) dX0_makeLot_29 rfl (wX_set cI cZ cQ a _ (k := 6) rfl) ?_
  refine g_aload_n (pc' := 31) (q := 1) C dX0_makeLot_30 rfl rfl rfl ?_
  refine g_get (pc' := 34) (v := .ref (a 9)) C FX 0 (by rfl) rfl 8 (by decide) (by decide +kernel) rfl (by rfl) dX0_makeLot_31 rfl ?_
  refine g_iload (pc' := 36) (q := 0) C dX0_makeLot_34 rfl rfl ?_
  refine g_iload_n (pc' := 37) (q := 4) C dX0_makeLot_36 rfl rfl rfl ?_
  refine g_zast (pc' := 38) (n := 24) (f := u 9) C 9 1 (by rfl) rfl hz (vp_in_nI (by omega) (by omega)) (k := n) (nI_clamp (by omega)) dX0_makeLot_37 rfl (wX_set cI cZ cQ a _ (k := 7) rfl) ?_
  refine g_aload_n (pc' := 39) (q := 1) C dX0_makeLot_38 rfl rfl rfl ?_
  refine g_get (pc' := 42) (v := .ref (a 10)) C FX 0 (by rfl) rfl 9 (by decide) (by decide +kernel) rfl (by rfl) dX0_makeLot_39 rfl ?_
  refine g_iload (pc' := 44) (q := 0) C dX0_makeLot_42 rfl rfl ?_
  refine g_iload (pc' := 46) (q := 5) C dX0_makeLot_44 rfl rfl ?_
  refine g_iast (pc' := 47) (n := 24) (f := u 10) C 10 0 (by rfl) rfl (vp_in_nI (by omega) (by omega)) (k := n) (nI_clamp (by omega)) dX0_makeLot_46 rfl (wX_set cI cZ cQ a _ (k := 8) rfl) ?_
  refine g_aload_n (pc' := 48) (q := 1) C dX0_makeLot_47 rfl rfl rfl ?_
  refine g_get (pc' := 51) (v := .ref (a 11)) C FX 0 (by rfl) rfl 10 (by decide) (by decide +kernel) rfl (by rfl) dX0_makeLot_48 rfl ?_
  refine g_iload (pc' := 53) (q := 0) C dX0_makeLot_51 rfl rfl ?_
  refine g_iload (pc' := 55) (q := 6) C dX0_makeLot_53 rfl rfl ?_
  refine g_iast (pc' := 56) (n := 24) (f := u 11) C 11 0 (by rfl) rfl (vp_in_nI (by omega) (by omega)) (k := n) (nI_clamp (by omega)) dX0_makeLot_55 rfl (wX_set cI cZ cQ a _ (k := 9) rfl) ?_
  refine g_aload_n (pc' := 57) (q := 1) C dX0_makeLot_56 rfl rfl rfl ?_
  refine g_get (pc' := 60) (v := .ref (a 12)) C FX 0 (by rfl) rfl 11 (by decide) (by decide +kernel) rfl (by rfl) dX0_makeLot_57 rfl ?_
  refine g_iload (pc' := 62) (q := 0) C dX0_makeLot_60 rfl rfl ?_
  refine g_iconst (pc' := 63) (v := 0) C dX0_makeLot_62 rfl (by decide) ?_
  refine g_iast (pc' := 64) (n := 24) (f := u 12) C 12 0 (by rfl) rfl (vp_in_nI (by omega) (by omega)) (k := n) (nI_clamp (by omega)) dX0_makeLot_63 rfl (wX_set cI cZ cQ a _ (k := 10) rfl) ?_
  refine g_aload_n (pc' := 65) (q := 1) C dX0_makeLot_64 rfl rfl rfl ?_
  refine g_iload (pc' := 67) (q := 0) C dX0_makeLot_65 rfl rfl ?_
  refine g_iconst (pc' := 68) (v := 1) C dX0_makeLot_67 rfl (by decide) ?_
  refine g_iadd (pc' := 69) C dX0_makeLot_68 rfl ?_
  refine g_putI (pc' := 72) C FX tyX0 tyX0_ok nmX0 0 (by rfl) rfl 12 (by decide) (by decide +kernel) rfl rfl rfl (Nat.le_of_ble_eq_true rfl) dX0_makeLot_69 rfl (wX_put cI cZ cQ a _ (f := (upd (u 0) 12 ((nI n) + 1))) rfl) ?_
  refine g_iload (pc' := 74) (q := 0) C dX0_makeLot_72 rfl rfl ?_
  exact g_iret C hr rfl ⟨rfl, rfl⟩ dX0_makeLot_74
set_option maxHeartbeats 4000000 in
set_option maxRecDepth 100000 in
theorem c_X0_makeWafer {l : Launch} {D : va_G} {cI cZ cQ : ClassId} {a : Nat → Nat} (u : LU) (w n : Nat) (hw : w < 60) (hn : n < 24) (hc : u 0 16 = nI w) : KV l yX0_makeWafer wsX0_makeWafer ({ frames := 1, cells := 0, slots := 0, locals := 23 } : Room) D (tyX cI cZ cQ) (wX cI cZ cQ a) [.ref (a 0), .int (nI n)] u (fun (u' : LU) => u' = mwX u w n) := by
  refine ent_V (own := RX0) (maxL := 3) (cc := cX0_makeWafer) (L0 := [(0, .ref (a 0)), (1, .int (nI n))]) (by decide) rfl (wX_ok _ _ _ _) rfl (Nat.le_of_ble_eq_true rfl) rfl ?_
  intro p e s m args below meth c A C hr
  have FX : ∀ w ∈ wsX00, w.before args s = true := fun w h => C.2.2.2.2.1 w ((by decide +kernel : ∀ w ∈ wsX00, w ∈ wsX0_makeWafer) w h)
  refine g_aload_n (pc' := 1) (q := 0) C dX0_makeWafer_0 rfl rfl rfl ?_
  refine g_get (pc' := 4) (v := .int (u 0 16)) C FX 0 (by rfl) rfl 16 (by decide) (by decide +kernel) rfl (by rfl) dX0_makeWafer_1 rfl ?_
  rw [show (u 0 16 : Int32) = nI w from hc]
  refine g_istore_n (pc' := 5) (L' := [(2, .int (nI w)), (0, .ref (a 0)), (1, .int (nI n))]) C dX0_makeWafer_4 rfl rfl (by decide) rfl ?_
  refine g_aload_n (pc' := 6) (q := 1) C dX0_makeWafer_5 rfl rfl rfl ?_
  refine g_get (pc' := 9) (v := .ref (a 16)) C FX 0 (by rfl) rfl 15 (by decide) (by decide +kernel) rfl (by rfl) dX0_makeWafer_6 rfl ?_
  refine g_iload_n (pc' := 10) (q := 0) C dX0_makeWafer_9 rfl rfl rfl ?_
  refine g_iconst (pc' := 11) (v := 0) C dX0_makeWafer_10 rfl (by decide) ?_
  refine g_iast (pc' := 12) (n := 60) (f := u 16) C 14 0 (by rfl) rfl (vp_in_nI (by omega) (by omega)) (k := w) (nI_clamp (by omega)) dX0_makeWafer_11 rfl (wX_set cI cZ cQ a _ (k := 12) rfl) ?_
  refine g_aload_n (pc' := 13) (q := 1) C dX0_makeWafer_12 rfl rfl rfl ?_
  refine g_iload_n (pc' := 14) (q := 0) C dX0_makeWafer_13 rfl rfl rfl ?_
  refine g_iconst (pc' := 15) (v := 1) C dX0_makeWafer_14 rfl (by decide) ?_
  refine g_iadd (pc' := 16) C dX0_makeWafer_15 rfl ?_
  refine g_putI (pc' := 19) C FX tyX0 tyX0_ok nmX0 0 (by rfl) rfl 16 (by decide) (by decide +kernel) rfl rfl rfl (Nat.le_of_ble_eq_true rfl) dX0_makeWafer_16 rfl (wX_put cI cZ cQ a _ (f := (upd (u 0) 16 ((nI w) + 1))) rfl) ?_
  refine g_aload_n (pc' := 20) (q := 1) C dX0_makeWafer_19 rfl rfl rfl ?_
  refine g_iload_n (pc' := 21) (q := 0) C dX0_makeWafer_20 rfl rfl rfl ?_
  refine g_iload_n (pc' := 22) (q := 2) C dX0_makeWafer_21 rfl rfl rfl ?_
  refine g_callvV (pc' := 25) (As := [.int (nI w), .int (nI n)]) (st := []) (cells' := 0) (slots' := 0) C (c_X0_putInto _ w n (by omega) (by omega) (by show 0 ≤ (upd (u 16) w 0 w).toInt; rw [upd_s]; decide)) gX0_makeWafer_X0_putInto rfl (by decide +kernel) ⟨Nat.le_of_ble_eq_true rfl, Nat.le_of_ble_eq_true rfl⟩ 0 (by rfl) rfl (n := 2) rfl rfl (Nat.le_of_ble_eq_true rfl) dX0_makeWafer_22 rfl rfl rfl ⟨Nat.le_of_ble_eq_true rfl, Nat.le_of_ble_eq_true rfl⟩ (fun  u_1 h_2 => ?_)
  exact g_vret C hr (by assumption) dX0_makeWafer_25
set_option maxHeartbeats 4000000 in
set_option maxRecDepth 100000 in
theorem c_X0_moveWafers {l : Launch} {D : va_G} {cI cZ cQ : ClassId} {a : Nat → Nat} (u : LU) (f t : Nat) (x : Int32) (hf : f < 24) (ht9 : t < 24) (hW : 0 ≤ (u 0 16).toInt ∧ (u 0 16).toInt ≤ 60) (hp9 : ∀ w, w < 60 → 0 ≤ (u 16 w).toInt ∧ (u 16 w).toInt ≤ 47) : KV l yX0_moveWafers wsX0_moveWafers ({ frames := 1, cells := 0, slots := 0, locals := 23 } : Room) D (tyX cI cZ cQ) (wX cI cZ cQ a) [.ref (a 0), .int (nI f), .int (nI t), .int x] u (fun (u' : LU) => u' = (mvX u f t x (u 0 16).toInt.toNat).1) := by
  refine ent_V (own := RX0) (maxL := 6) (cc := cX0_moveWafers) (L0 := [(0, .ref (a 0)), (1, .int (nI f)), (2, .int (nI t)), (3, .int x)]) (by decide) rfl (wX_ok _ _ _ _) rfl (Nat.le_of_ble_eq_true rfl) rfl ?_
  intro p e s m args below meth c A C hr
  have FX : ∀ w ∈ wsX00, w.before args s = true := fun w h => C.2.2.2.2.1 w ((by decide +kernel : ∀ w ∈ wsX00, w ∈ wsX0_moveWafers) w h)
  refine g_iconst (pc' := 1) (v := 0) C dX0_moveWafers_0 rfl (by decide) ?_
  refine g_istore (pc' := 3) (L' := [(4, .int 0), (0, .ref (a 0)), (1, .int (nI f)), (2, .int (nI t)), (3, .int x)]) C dX0_moveWafers_1 rfl (by decide) rfl ?_
  refine g_iconst (pc' := 4) (v := 0) C dX0_moveWafers_3 rfl (by decide) ?_
  refine g_istore (pc' := 6) (L' := [(5, .int 0), (4, .int 0), (0, .ref (a 0)), (1, .int (nI f)), (2, .int (nI t)), (3, .int x)]) C dX0_moveWafers_4 rfl (by decide) rfl ?_
  have loop_6 : ∀ (k : Nat) (i k9 : Nat) (v : LU), (i : Int) ≤ (u 0 16).toInt → (u 0 16).toInt + 1 ≤ i + k → mvX u f t x i = (v, k9) → (v 0 16).toInt = (u 0 16).toInt → (∀ w, w < 60 → 0 ≤ (v 16 w).toInt ∧ (v 16 w).toInt ≤ 47) → k9 ≤ i → G p l e ({ frames := 1, cells := 0, slots := 0, locals := 23 } : Room) s m args below meth c D A 6 (wX cI cZ cQ a) 0 0 (MQ below (va_Qv (fun (u' : LU) => u' = (mvX u f t x (u 0 16).toInt.toNat).1) (KE D (tyX cI cZ cQ) (wX cI cZ cQ a)) A) args s 0 0 A) v 6 [(0, .ref (a 0)), (1, .int (nI f)), (2, .int (nI t)), (3, .int x), (4, .int (nI k9)), (5, .int (nI i))] [] := by
    intro k
    induction k with
    | zero =>
      intro i k9 v hi hk hv h16 hp hk9
      omega
    | succ k ih =>
      intro i k9 v hi hk hv h16 hp hk9
      have tf : (nI f).toInt = (f : Int) := nI_toInt (by omega)
      refine g_iload (pc' := 8) (q := 5) C dX0_moveWafers_6 rfl rfl ?_
      refine g_aload_n (pc' := 9) (q := 0) C dX0_moveWafers_8 rfl rfl rfl ?_
      refine g_get (pc' := 12) (v := .int (v 0 16)) C FX 0 (by rfl) rfl 16 (by decide) (by decide +kernel) rfl (by rfl) dX0_moveWafers_9 rfl ?_
      have t_1 : (nI i).toInt = ((i : Nat) : Int) := nI_toInt (by omega)
      refine g_icmp_ge (tgt := 58) (pc' := 15) C dX0_moveWafers_12 rfl (by decide) (fun (c_2 : (v 0 16).toInt ≤ (nI i).toInt) => ?_) (fun (c_2 : ¬ ((v 0 16).toInt ≤ (nI i).toInt)) => ?_)
      · skip
        exact g_vret C hr (by rw [show v = (mvX u f t x i).1 by rw [hv]]; first | (rw [show (u 0 16).toInt.toNat = i by omega]; done) | (rw [show (u 0 16).toInt.toNat = i + ((u 0 16).toInt.toNat - i) by omega, mvX_stop u f t x (by rw [hv]; omega)]; done)) dX0_moveWafers_58
      · skip
        refine g_iload (pc' := 17) (q := 4) C dX0_moveWafers_15 rfl rfl ?_
        refine g_iload_n (pc' := 18) (q := 3) C dX0_moveWafers_17 rfl rfl rfl ?_
        have t_3 : (nI k9).toInt = ((k9 : Nat) : Int) := nI_toInt (by omega)
        refine g_icmp_ge (tgt := 58) (pc' := 21) C dX0_moveWafers_18 rfl (by decide) (fun (c_4 : (x).toInt ≤ (nI k9).toInt) => ?_) (fun (c_4 : ¬ ((x).toInt ≤ (nI k9).toInt)) => ?_)
        · skip
          exact g_vret C hr (by rw [show v = (mvX u f t x i).1 by rw [hv]]; first | (rw [show (u 0 16).toInt.toNat = i by omega]; done) | (rw [show (u 0 16).toInt.toNat = i + ((u 0 16).toInt.toNat - i) by omega, mvX_stop u f t x (by rw [hv]; omega)]; done)) dX0_moveWafers_58
        · skip
          refine g_aload_n (pc' := 22) (q := 0) C dX0_moveWafers_21 rfl rfl rfl ?_
          refine g_get (pc' := 25) (v := .ref (a 14)) C FX 0 (by rfl) rfl 13 (by decide) (by decide +kernel) rfl (by rfl) dX0_moveWafers_22 rfl ?_
          refine g_iload (pc' := 27) (q := 5) C dX0_moveWafers_25 rfl rfl ?_
          refine g_iald (pc' := 28) (n := 60) (f := v 14) C 13 0 (by rfl) rfl (vp_in_nI (by omega) (by omega)) (k := i) (nI_clamp (by omega)) dX0_moveWafers_27 rfl ?_
          refine g_iload_n (pc' := 29) (q := 1) C dX0_moveWafers_28 rfl rfl rfl ?_
          have t_5 : (nI f).toInt = ((f : Nat) : Int) := nI_toInt (by omega)
          refine g_icmp_ne (tgt := 52) (pc' := 32) C dX0_moveWafers_29 rfl (by decide) (fun (c_6 : ¬ (v 14 i).toInt = (nI f).toInt) => ?_) (fun (c_6 : (v 14 i).toInt = (nI f).toInt) => ?_)
          · skip
            refine g_iinc (pc' := 55) (v := nI (i + 1)) (L' := [(5, .int (nI (i + 1))), (0, .ref (a 0)), (1, .int (nI f)), (2, .int (nI t)), (3, .int x), (4, .int (nI k9))]) C dX0_moveWafers_52 rfl (k := 5) rfl (nI_1 _) (by decide) rfl ?_
            refine g_goto (tgt := 6) C dX0_moveWafers_55 (by decide) ?_
            refine g_sub (L' := [(0, .ref (a 0)), (1, .int (nI f)), (2, .int (nI t)), (3, .int x), (4, .int (nI k9)), (5, .int (nI (i + 1)))]) [1, 2, 3, 4, 5, 0] rfl ?_
            exact ih (i + 1) k9 v (by omega) (by omega) (mvX_f hv (by omega)) h16 hp (by omega)
          · skip
            refine g_aload_n (pc' := 33) (q := 0) C dX0_moveWafers_32 rfl rfl rfl ?_
            refine g_get (pc' := 36) (v := .ref (a 12)) C FX 0 (by rfl) rfl 11 (by decide) (by decide +kernel) rfl (by rfl) dX0_moveWafers_33 rfl ?_
            refine g_iload_n (pc' := 37) (q := 1) C dX0_moveWafers_36 rfl rfl rfl ?_
            refine g_dup2 (pc' := 38) C dX0_moveWafers_37 rfl rfl rfl ?_
            refine g_iald (pc' := 39) (n := 24) (f := v 12) C 12 0 (by rfl) rfl (vp_in_nI (by omega) (by omega)) (k := f) (nI_clamp (by omega)) dX0_moveWafers_38 rfl ?_
            refine g_iconst (pc' := 40) (v := 1) C dX0_moveWafers_39 rfl (by decide) ?_
            refine g_isub (pc' := 41) C dX0_moveWafers_40 rfl ?_
            refine g_iast (pc' := 42) (n := 24) (f := v 12) C 12 0 (by rfl) rfl (vp_in_nI (by omega) (by omega)) (k := f) (nI_clamp (by omega)) dX0_moveWafers_41 rfl (wX_set cI cZ cQ a _ (k := 10) rfl) ?_
            refine g_aload_n (pc' := 43) (q := 0) C dX0_moveWafers_42 rfl rfl rfl ?_
            refine g_iload (pc' := 45) (q := 5) C dX0_moveWafers_43 rfl rfl ?_
            refine g_iload_n (pc' := 46) (q := 2) C dX0_moveWafers_45 rfl rfl rfl ?_
            refine g_callvV (pc' := 49) (As := [.int (nI i), .int (nI t)]) (st := []) (cells' := 0) (slots' := 0) C (c_X0_putInto _ i t (by omega) (by omega) ((hp i (by omega)).1)) gX0_moveWafers_X0_putInto rfl (by decide +kernel) ⟨Nat.le_of_ble_eq_true rfl, Nat.le_of_ble_eq_true rfl⟩ 0 (by rfl) rfl (n := 2) rfl rfl (Nat.le_of_ble_eq_true rfl) dX0_moveWafers_46 rfl rfl rfl ⟨Nat.le_of_ble_eq_true rfl, Nat.le_of_ble_eq_true rfl⟩ (fun  u_7 h_8 => ?_)
            refine g_iinc (pc' := 52) (v := nI (k9 + 1)) (L' := [(4, .int (nI (k9 + 1))), (0, .ref (a 0)), (1, .int (nI f)), (2, .int (nI t)), (3, .int x), (5, .int (nI i))]) C dX0_moveWafers_49 rfl (k := 4) rfl (nI_1 _) (by decide) rfl ?_
            refine g_iinc (pc' := 55) (v := nI (i + 1)) (L' := [(5, .int (nI (i + 1))), (4, .int (nI (k9 + 1))), (0, .ref (a 0)), (1, .int (nI f)), (2, .int (nI t)), (3, .int x)]) C dX0_moveWafers_52 rfl (k := 5) rfl (nI_1 _) (by decide) rfl ?_
            refine g_goto (tgt := 6) C dX0_moveWafers_55 (by decide) ?_
            refine g_sub (L' := [(0, .ref (a 0)), (1, .int (nI f)), (2, .int (nI t)), (3, .int x), (4, .int (nI (k9 + 1))), (5, .int (nI (i + 1)))]) [2, 3, 4, 5, 1, 0] rfl ?_
            exact ih (i + 1) (k9 + 1) u_7 (by omega) (by omega) (by rw [h_8]; exact mvX_t hv (by omega) (by omega)) (by rw [h_8, putX_0]; exact h16) (by rw [h_8]; exact putX_pb (by omega) hp) (by omega)
  refine g_sub (L' := [(0, .ref (a 0)), (1, .int (nI f)), (2, .int (nI t)), (3, .int x), (4, .int (nI 0)), (5, .int (nI 0))]) [2, 3, 4, 5, 1, 0] rfl ?_
  exact loop_6 61 0 0 u (by omega) (by omega) rfl rfl hp9 (by omega)
end
