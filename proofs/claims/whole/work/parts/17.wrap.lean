def tyL (cI cZ cQ cL : ClassId) : List (ClassId × FieldType) := [(cI, .int), (cZ, .boolean), (cQ, .array .int), (cL, .long)]
/-- a truth's answer as the law keeps it -/
def lbI (r : Int32) : Int64 := if r.toInt = 0 then 0 else 1
def wL (cI cZ cQ cL : ClassId) (a : Nat → Nat) (o : Nat) (q : LU × (Nat → Int64)) : va_W := wX cI cZ cQ a q.1 ++ [(o, .inl (cL, 1, .inr (.inl q.2)))]
theorem wX_len (cI cZ cQ : ClassId) (a : Nat → Nat) (u : LU) : (wX cI cZ cQ a u).length = 75 := by simp [wX, arX]
theorem wL_ok (cI cZ cQ cL : ClassId) (a : Nat → Nat) (o : Nat) : WfOk (wL cI cZ cQ cL a o) := fun q q' => by
  simp only [wL, List.map_append, List.map_cons, List.map_nil]
  rw [wX_ok cI cZ cQ a q.1 q'.1]
theorem wL_out (cI cZ cQ cL : ClassId) (a : Nat → Nat) (o : Nat) (q : LU × (Nat → Int64)) : (wL cI cZ cQ cL a o q)[75]? = some (o, .inl (cL, 1, .inr (.inl q.2))) := by
  unfold wL
  rw [List.getElem?_append_right (by rw [wX_len]; omega), wX_len]
  rfl
theorem wL_set (cI cZ cQ cL : ClassId) (a : Nat → Nat) (o : Nat) (q : LU × (Nat → Int64)) (g : Nat → Int64) : (wL cI cZ cQ cL a o q).set 75 (o, .inl (cL, 1, .inr (.inl g))) = wL cI cZ cQ cL a o (q.1, g) := by
  unfold wL
  rw [List.set_append_right _ _ (by rw [wX_len]; omega), wX_len]
  rfl
set_option maxHeartbeats 4000000 in
set_option maxRecDepth 100000 in
theorem c_L_addStep {l : Launch} {D : va_G} {cI cZ cQ cL : ClassId} {a : Nat → Nat} {o : Nat} (u : LU) (f : Nat → Int64) (x : Int32) (y : Int32) (z : Int32) (b : Int32) {posti : Int32 → LU → Prop} {xp : String → Prop} (hM : XI l yX0_addStep wsX0_addStep ({ frames := 7, cells := 2, slots := 12, locals := 102 } : Room) D (tyX cI cZ cQ) tx0 (wX cI cZ cQ a) [.ref (a 0), .int x, .int y, .int z, .int b] u posti xp) (hxs : ∀ E, xp E → E = "java/lang/IndexOutOfBoundsException" ∨ E = "java/lang/IllegalArgumentException" ∨ E = "java/lang/IllegalStateException") : XI l yL_addStep wsL_addStep ({ frames := 8, cells := 2, slots := 12, locals := 127 } : Room) D (tyL cI cZ cQ cL) tx0 (wL cI cZ cQ cL a o) [.ref (a 0), .int x, .int y, .int z, .int b, .ref o] (u, f) (fun (r : Int32) (s2 : LU × (Nat → Int64)) => (r = 0 ∧ ∃ r0 v, posti r0 v ∧ s2 = (v, vp_updL f 0 (r0.toInt64))) ∨ (r = 1 ∧ xp "java/lang/IndexOutOfBoundsException" ∧ s2 = (u, f)) ∨ (r = 2 ∧ xp "java/lang/IllegalArgumentException" ∧ s2 = (u, f)) ∨ (r = 3 ∧ xp "java/lang/IllegalStateException" ∧ s2 = (u, f))) (fun _ => False) := by
  refine ent_WH (own := RL) (maxL := 7) (cc := cL_addStep) (hh := [(0, 14, 17, 13), (0, 14, 21, 15), (0, 14, 25, 17)]) (L0 := [(0, .ref (a 0)), (1, .int x), (2, .int y), (3, .int z), (4, .int b), (5, .ref o)]) (by decide) rfl (wL_ok _ _ _ _ _ _) rfl (Nat.le_of_ble_eq_true rfl) rfl ?_
  intro p e s m args below meth c A C hr hE ht
  refine g_aload (pc' := 2) (q := 5) C dL_addStep_0 rfl rfl ?_
  refine g_iconst (pc' := 3) (v := 0) C dL_addStep_2 rfl (by decide) ?_
  refine g_aload_n (pc' := 4) (q := 0) C dL_addStep_3 rfl rfl rfl ?_
  refine g_iload_n (pc' := 5) (q := 1) C dL_addStep_4 rfl rfl rfl ?_
  refine g_iload_n (pc' := 6) (q := 2) C dL_addStep_5 rfl rfl rfl ?_
  refine g_iload_n (pc' := 7) (q := 3) C dL_addStep_6 rfl rfl rfl ?_
  refine g_iload (pc' := 9) (q := 4) C dL_addStep_7 rfl rfl ?_
  refine g_cxiC (pc' := 12) (As := [.int x, .int y, .int z, .int b]) (st := [.int 0, .ref o]) (cells' := 2) (slots' := 12) C hE (fr_XI (emb := fun v => (v, f)) (E1 := []) (E2 := [(o, .inl (cL, 1, .inr (.inl f)))]) (fun v => rfl) [0, 1, 2] rfl hM) gL_addStep_X0_addStep rfl (by decide +kernel) ⟨Nat.le_of_ble_eq_true rfl, Nat.le_of_ble_eq_true rfl⟩ 0 (by rfl) rfl (n := 4) rfl rfl (Nat.le_of_ble_eq_true rfl) dL_addStep_9 rfl rfl rfl ⟨Nat.le_of_ble_eq_true rfl, Nat.le_of_ble_eq_true rfl⟩ (fun E hx => ?_) (fun r0 s9 hp => ?_)
  · rcases hxs E hx with rfl | rfl | rfl
    · skip
      refine g_catch C hE [] ⟨0, 14, 17, 13⟩ [⟨0, 14, 21, 15⟩, ⟨0, 14, 25, 17⟩] (ht.trans rfl) (fun z hz => nomatch hz) (by decide) (by decide) (by decide +kernel) rfl (by decide) (fun q => ?_)
      refine g_astore (pc' := 19) (L' := [(6, .ref q), (0, .ref (a 0)), (1, .int x), (2, .int y), (3, .int z), (4, .int b), (5, .ref o)]) C dL_addStep_17 rfl (by decide) rfl ?_
      refine g_iconst (pc' := 20) (v := 1) C dL_addStep_19 rfl (by decide) ?_
      exact g_xiret C hr rfl (Or.inr (Or.inl ⟨rfl, hx, rfl⟩)) dL_addStep_20 (by decide) (by decide)
    · skip
      refine g_catch C hE [⟨0, 14, 17, 13⟩] ⟨0, 14, 21, 15⟩ [⟨0, 14, 25, 17⟩] (ht.trans rfl) (by intro z hz; simp only [List.mem_cons, List.mem_nil_iff, or_false, List.not_mem_nil] at hz; rcases hz with rfl <;> first | exact ⟨by decide, "java/lang/IndexOutOfBoundsException", by decide +kernel, by decide⟩) (by decide) (by decide) (by decide +kernel) rfl (by decide) (fun q => ?_)
      refine g_astore (pc' := 23) (L' := [(6, .ref q), (0, .ref (a 0)), (1, .int x), (2, .int y), (3, .int z), (4, .int b), (5, .ref o)]) C dL_addStep_21 rfl (by decide) rfl ?_
      refine g_iconst (pc' := 24) (v := 2) C dL_addStep_23 rfl (by decide) ?_
      exact g_xiret C hr rfl (Or.inr (Or.inr (Or.inl ⟨rfl, hx, rfl⟩))) dL_addStep_24 (by decide) (by decide)
    · skip
      refine g_catch C hE [⟨0, 14, 17, 13⟩, ⟨0, 14, 21, 15⟩] ⟨0, 14, 25, 17⟩ [] (ht.trans rfl) (by intro z hz; simp only [List.mem_cons, List.mem_nil_iff, or_false, List.not_mem_nil] at hz; rcases hz with rfl | rfl <;> first | exact ⟨by decide, "java/lang/IndexOutOfBoundsException", by decide +kernel, by decide⟩ | exact ⟨by decide, "java/lang/IllegalArgumentException", by decide +kernel, by decide⟩) (by decide) (by decide) (by decide +kernel) rfl (by decide) (fun q => ?_)
      refine g_astore (pc' := 27) (L' := [(6, .ref q), (0, .ref (a 0)), (1, .int x), (2, .int y), (3, .int z), (4, .int b), (5, .ref o)]) C dL_addStep_25 rfl (by decide) rfl ?_
      refine g_iconst (pc' := 28) (v := 3) C dL_addStep_27 rfl (by decide) ?_
      exact g_xiret C hr rfl (Or.inr (Or.inr (Or.inr ⟨rfl, hx, rfl⟩))) dL_addStep_28 (by decide) (by decide)
  · obtain ⟨v, hv, rfl⟩ := hp
    refine g_i2l (pc' := 13) C dL_addStep_12 rfl ?_
    refine g_last (pc' := 14) (n := 1) C 75 3 (wL_out _ _ _ _ _ _ _) rfl (vp_of (by decide) (by decide)) (k := 0) rfl dL_addStep_13 rfl (wL_set _ _ _ _ _ _ _ _) ?_
    refine g_goto (tgt := 29) C dL_addStep_14 (by decide) ?_
    refine g_iconst (pc' := 30) (v := 0) C dL_addStep_29 rfl (by decide) ?_
    exact g_xiret C hr rfl (Or.inl ⟨rfl, r0, v, hv, rfl⟩) dL_addStep_30 (by decide) (by decide)
set_option maxHeartbeats 4000000 in
set_option maxRecDepth 100000 in
theorem c_L_enter {l : Launch} {D : va_G} {cI cZ cQ cL : ClassId} {a : Nat → Nat} {o : Nat} (u : LU) (f : Nat → Int64) (x : Int32) {posti : Int32 → LU → Prop} {xp : String → Prop} (hM : XI l yX0_enter wsX0_enter ({ frames := 6, cells := 1, slots := 6, locals := 82 } : Room) D (tyX cI cZ cQ) tx0 (wX cI cZ cQ a) [.ref (a 0), .int x] u posti xp) (hxs : ∀ E, xp E → E = "java/lang/IllegalArgumentException" ∨ E = "java/lang/IllegalStateException") : XI l yL_enter wsL_enter ({ frames := 7, cells := 1, slots := 6, locals := 105 } : Room) D (tyL cI cZ cQ cL) tx0 (wL cI cZ cQ cL a o) [.ref (a 0), .int x, .ref o] (u, f) (fun (r : Int32) (s2 : LU × (Nat → Int64)) => (r = 0 ∧ ∃ r0 v, posti r0 v ∧ s2 = (v, vp_updL f 0 (r0.toInt64))) ∨ (r = 1 ∧ xp "java/lang/IllegalArgumentException" ∧ s2 = (u, f)) ∨ (r = 2 ∧ xp "java/lang/IllegalStateException" ∧ s2 = (u, f))) (fun _ => False) := by
  refine ent_WH (own := RL) (maxL := 4) (cc := cL_enter) (hh := [(0, 9, 12, 15), (0, 9, 15, 17)]) (L0 := [(0, .ref (a 0)), (1, .int x), (2, .ref o)]) (by decide) rfl (wL_ok _ _ _ _ _ _) rfl (Nat.le_of_ble_eq_true rfl) rfl ?_
  intro p e s m args below meth c A C hr hE ht
  refine g_aload_n (pc' := 1) (q := 2) C dL_enter_0 rfl rfl rfl ?_
  refine g_iconst (pc' := 2) (v := 0) C dL_enter_1 rfl (by decide) ?_
  refine g_aload_n (pc' := 3) (q := 0) C dL_enter_2 rfl rfl rfl ?_
  refine g_iload_n (pc' := 4) (q := 1) C dL_enter_3 rfl rfl rfl ?_
  refine g_cxiC (pc' := 7) (As := [.int x]) (st := [.int 0, .ref o]) (cells' := 1) (slots' := 6) C hE (fr_XI (emb := fun v => (v, f)) (E1 := []) (E2 := [(o, .inl (cL, 1, .inr (.inl f)))]) (fun v => rfl) [0, 1, 2] rfl hM) gL_enter_X0_enter rfl (by decide +kernel) ⟨Nat.le_of_ble_eq_true rfl, Nat.le_of_ble_eq_true rfl⟩ 0 (by rfl) rfl (n := 1) rfl rfl (Nat.le_of_ble_eq_true rfl) dL_enter_4 rfl rfl rfl ⟨Nat.le_of_ble_eq_true rfl, Nat.le_of_ble_eq_true rfl⟩ (fun E hx => ?_) (fun r0 s9 hp => ?_)
  · rcases hxs E hx with rfl | rfl
    · skip
      refine g_catch C hE [] ⟨0, 9, 12, 15⟩ [⟨0, 9, 15, 17⟩] (ht.trans rfl) (fun z hz => nomatch hz) (by decide) (by decide) (by decide +kernel) rfl (by decide) (fun q => ?_)
      refine g_astore_n (pc' := 13) (L' := [(3, .ref q), (0, .ref (a 0)), (1, .int x), (2, .ref o)]) C dL_enter_12 rfl rfl (by decide) rfl ?_
      refine g_iconst (pc' := 14) (v := 1) C dL_enter_13 rfl (by decide) ?_
      exact g_xiret C hr rfl (Or.inr (Or.inl ⟨rfl, hx, rfl⟩)) dL_enter_14 (by decide) (by decide)
    · skip
      refine g_catch C hE [⟨0, 9, 12, 15⟩] ⟨0, 9, 15, 17⟩ [] (ht.trans rfl) (by intro z hz; simp only [List.mem_cons, List.mem_nil_iff, or_false, List.not_mem_nil] at hz; rcases hz with rfl <;> first | exact ⟨by decide, "java/lang/IllegalArgumentException", by decide +kernel, by decide⟩) (by decide) (by decide) (by decide +kernel) rfl (by decide) (fun q => ?_)
      refine g_astore_n (pc' := 16) (L' := [(3, .ref q), (0, .ref (a 0)), (1, .int x), (2, .ref o)]) C dL_enter_15 rfl rfl (by decide) rfl ?_
      refine g_iconst (pc' := 17) (v := 2) C dL_enter_16 rfl (by decide) ?_
      exact g_xiret C hr rfl (Or.inr (Or.inr ⟨rfl, hx, rfl⟩)) dL_enter_17 (by decide) (by decide)
  · obtain ⟨v, hv, rfl⟩ := hp
    refine g_i2l (pc' := 8) C dL_enter_7 rfl ?_
    refine g_last (pc' := 9) (n := 1) C 75 3 (wL_out _ _ _ _ _ _ _) rfl (vp_of (by decide) (by decide)) (k := 0) rfl dL_enter_8 rfl (wL_set _ _ _ _ _ _ _ _) ?_
    refine g_goto (tgt := 18) C dL_enter_9 (by decide) ?_
    refine g_iconst (pc' := 19) (v := 0) C dL_enter_18 rfl (by decide) ?_
    exact g_xiret C hr rfl (Or.inl ⟨rfl, r0, v, hv, rfl⟩) dL_enter_19 (by decide) (by decide)
set_option maxHeartbeats 4000000 in
set_option maxRecDepth 100000 in
theorem c_L_start {l : Launch} {D : va_G} {cI cZ cQ cL : ClassId} {a : Nat → Nat} {o : Nat} (u : LU) (f : Nat → Int64) (x : Int32) {posti : Int32 → LU → Prop} {xp : String → Prop} (hM : XI l yX0_start wsX0_start ({ frames := 7, cells := 2, slots := 12, locals := 103 } : Room) D (tyX cI cZ cQ) tx0 (wX cI cZ cQ a) [.ref (a 0), .int x] u posti xp) (hxs : ∀ E, xp E → E = "java/lang/IndexOutOfBoundsException" ∨ E = "java/lang/IllegalStateException") : XI l yL_start wsL_start ({ frames := 8, cells := 2, slots := 12, locals := 125 } : Room) D (tyL cI cZ cQ cL) tx0 (wL cI cZ cQ cL a o) [.ref (a 0), .int x, .ref o] (u, f) (fun (r : Int32) (s2 : LU × (Nat → Int64)) => (r = 0 ∧ ∃ r0 v, posti r0 v ∧ s2 = (v, vp_updL f 0 (r0.toInt64))) ∨ (r = 1 ∧ xp "java/lang/IndexOutOfBoundsException" ∧ s2 = (u, f)) ∨ (r = 2 ∧ xp "java/lang/IllegalStateException" ∧ s2 = (u, f))) (fun _ => False) := by
  refine ent_WH (own := RL) (maxL := 4) (cc := cL_start) (hh := [(0, 9, 12, 13), (0, 9, 15, 17)]) (L0 := [(0, .ref (a 0)), (1, .int x), (2, .ref o)]) (by decide) rfl (wL_ok _ _ _ _ _ _) rfl (Nat.le_of_ble_eq_true rfl) rfl ?_
  intro p e s m args below meth c A C hr hE ht
  refine g_aload_n (pc' := 1) (q := 2) C dL_start_0 rfl rfl rfl ?_
  refine g_iconst (pc' := 2) (v := 0) C dL_start_1 rfl (by decide) ?_
  refine g_aload_n (pc' := 3) (q := 0) C dL_start_2 rfl rfl rfl ?_
  refine g_iload_n (pc' := 4) (q := 1) C dL_start_3 rfl rfl rfl ?_
  refine g_cxiC (pc' := 7) (As := [.int x]) (st := [.int 0, .ref o]) (cells' := 2) (slots' := 12) C hE (fr_XI (emb := fun v => (v, f)) (E1 := []) (E2 := [(o, .inl (cL, 1, .inr (.inl f)))]) (fun v => rfl) [0, 1, 2] rfl hM) gL_start_X0_start rfl (by decide +kernel) ⟨Nat.le_of_ble_eq_true rfl, Nat.le_of_ble_eq_true rfl⟩ 0 (by rfl) rfl (n := 1) rfl rfl (Nat.le_of_ble_eq_true rfl) dL_start_4 rfl rfl rfl ⟨Nat.le_of_ble_eq_true rfl, Nat.le_of_ble_eq_true rfl⟩ (fun E hx => ?_) (fun r0 s9 hp => ?_)
  · rcases hxs E hx with rfl | rfl
    · skip
      refine g_catch C hE [] ⟨0, 9, 12, 13⟩ [⟨0, 9, 15, 17⟩] (ht.trans rfl) (fun z hz => nomatch hz) (by decide) (by decide) (by decide +kernel) rfl (by decide) (fun q => ?_)
      refine g_astore_n (pc' := 13) (L' := [(3, .ref q), (0, .ref (a 0)), (1, .int x), (2, .ref o)]) C dL_start_12 rfl rfl (by decide) rfl ?_
      refine g_iconst (pc' := 14) (v := 1) C dL_start_13 rfl (by decide) ?_
      exact g_xiret C hr rfl (Or.inr (Or.inl ⟨rfl, hx, rfl⟩)) dL_start_14 (by decide) (by decide)
    · skip
      refine g_catch C hE [⟨0, 9, 12, 13⟩] ⟨0, 9, 15, 17⟩ [] (ht.trans rfl) (by intro z hz; simp only [List.mem_cons, List.mem_nil_iff, or_false, List.not_mem_nil] at hz; rcases hz with rfl <;> first | exact ⟨by decide, "java/lang/IndexOutOfBoundsException", by decide +kernel, by decide⟩) (by decide) (by decide) (by decide +kernel) rfl (by decide) (fun q => ?_)
      refine g_astore_n (pc' := 16) (L' := [(3, .ref q), (0, .ref (a 0)), (1, .int x), (2, .ref o)]) C dL_start_15 rfl rfl (by decide) rfl ?_
      refine g_iconst (pc' := 17) (v := 2) C dL_start_16 rfl (by decide) ?_
      exact g_xiret C hr rfl (Or.inr (Or.inr ⟨rfl, hx, rfl⟩)) dL_start_17 (by decide) (by decide)
  · obtain ⟨v, hv, rfl⟩ := hp
    refine g_i2l (pc' := 8) C dL_start_7 rfl ?_
    refine g_last (pc' := 9) (n := 1) C 75 3 (wL_out _ _ _ _ _ _ _) rfl (vp_of (by decide) (by decide)) (k := 0) rfl dL_start_8 rfl (wL_set _ _ _ _ _ _ _ _) ?_
    refine g_goto (tgt := 18) C dL_start_9 (by decide) ?_
    refine g_iconst (pc' := 19) (v := 0) C dL_start_18 rfl (by decide) ?_
    exact g_xiret C hr rfl (Or.inl ⟨rfl, r0, v, hv, rfl⟩) dL_start_19 (by decide) (by decide)
set_option maxHeartbeats 4000000 in
set_option maxRecDepth 100000 in
theorem c_L_rework {l : Launch} {D : va_G} {cI cZ cQ cL : ClassId} {a : Nat → Nat} {o : Nat} (u : LU) (f : Nat → Int64) (x : Int32) {posti : Int32 → LU → Prop} {xp : String → Prop} (hM : XI l yX0_rework wsX0_rework ({ frames := 7, cells := 2, slots := 12, locals := 103 } : Room) D (tyX cI cZ cQ) tx0 (wX cI cZ cQ a) [.ref (a 0), .int x] u posti xp) (hxs : ∀ E, xp E → E = "java/lang/IndexOutOfBoundsException" ∨ E = "java/lang/IllegalStateException") : XI l yL_rework wsL_rework ({ frames := 8, cells := 2, slots := 12, locals := 125 } : Room) D (tyL cI cZ cQ cL) tx0 (wL cI cZ cQ cL a o) [.ref (a 0), .int x, .ref o] (u, f) (fun (r : Int32) (s2 : LU × (Nat → Int64)) => (r = 0 ∧ ∃ r0 v, posti r0 v ∧ s2 = (v, vp_updL f 0 (r0.toInt64))) ∨ (r = 1 ∧ xp "java/lang/IndexOutOfBoundsException" ∧ s2 = (u, f)) ∨ (r = 2 ∧ xp "java/lang/IllegalStateException" ∧ s2 = (u, f))) (fun _ => False) := by
  refine ent_WH (own := RL) (maxL := 4) (cc := cL_rework) (hh := [(0, 9, 12, 13), (0, 9, 15, 17)]) (L0 := [(0, .ref (a 0)), (1, .int x), (2, .ref o)]) (by decide) rfl (wL_ok _ _ _ _ _ _) rfl (Nat.le_of_ble_eq_true rfl) rfl ?_
  intro p e s m args below meth c A C hr hE ht
  refine g_aload_n (pc' := 1) (q := 2) C dL_rework_0 rfl rfl rfl ?_
  refine g_iconst (pc' := 2) (v := 0) C dL_rework_1 rfl (by decide) ?_
  refine g_aload_n (pc' := 3) (q := 0) C dL_rework_2 rfl rfl rfl ?_
  refine g_iload_n (pc' := 4) (q := 1) C dL_rework_3 rfl rfl rfl ?_
  refine g_cxiC (pc' := 7) (As := [.int x]) (st := [.int 0, .ref o]) (cells' := 2) (slots' := 12) C hE (fr_XI (emb := fun v => (v, f)) (E1 := []) (E2 := [(o, .inl (cL, 1, .inr (.inl f)))]) (fun v => rfl) [0, 1, 2] rfl hM) gL_rework_X0_rework rfl (by decide +kernel) ⟨Nat.le_of_ble_eq_true rfl, Nat.le_of_ble_eq_true rfl⟩ 0 (by rfl) rfl (n := 1) rfl rfl (Nat.le_of_ble_eq_true rfl) dL_rework_4 rfl rfl rfl ⟨Nat.le_of_ble_eq_true rfl, Nat.le_of_ble_eq_true rfl⟩ (fun E hx => ?_) (fun r0 s9 hp => ?_)
  · rcases hxs E hx with rfl | rfl
    · skip
      refine g_catch C hE [] ⟨0, 9, 12, 13⟩ [⟨0, 9, 15, 17⟩] (ht.trans rfl) (fun z hz => nomatch hz) (by decide) (by decide) (by decide +kernel) rfl (by decide) (fun q => ?_)
      refine g_astore_n (pc' := 13) (L' := [(3, .ref q), (0, .ref (a 0)), (1, .int x), (2, .ref o)]) C dL_rework_12 rfl rfl (by decide) rfl ?_
      refine g_iconst (pc' := 14) (v := 1) C dL_rework_13 rfl (by decide) ?_
      exact g_xiret C hr rfl (Or.inr (Or.inl ⟨rfl, hx, rfl⟩)) dL_rework_14 (by decide) (by decide)
    · skip
      refine g_catch C hE [⟨0, 9, 12, 13⟩] ⟨0, 9, 15, 17⟩ [] (ht.trans rfl) (by intro z hz; simp only [List.mem_cons, List.mem_nil_iff, or_false, List.not_mem_nil] at hz; rcases hz with rfl <;> first | exact ⟨by decide, "java/lang/IndexOutOfBoundsException", by decide +kernel, by decide⟩) (by decide) (by decide) (by decide +kernel) rfl (by decide) (fun q => ?_)
      refine g_astore_n (pc' := 16) (L' := [(3, .ref q), (0, .ref (a 0)), (1, .int x), (2, .ref o)]) C dL_rework_15 rfl rfl (by decide) rfl ?_
      refine g_iconst (pc' := 17) (v := 2) C dL_rework_16 rfl (by decide) ?_
      exact g_xiret C hr rfl (Or.inr (Or.inr ⟨rfl, hx, rfl⟩)) dL_rework_17 (by decide) (by decide)
  · obtain ⟨v, hv, rfl⟩ := hp
    refine g_i2l (pc' := 8) C dL_rework_7 rfl ?_
    refine g_last (pc' := 9) (n := 1) C 75 3 (wL_out _ _ _ _ _ _ _) rfl (vp_of (by decide) (by decide)) (k := 0) rfl dL_rework_8 rfl (wL_set _ _ _ _ _ _ _ _) ?_
    refine g_goto (tgt := 18) C dL_rework_9 (by decide) ?_
    refine g_iconst (pc' := 19) (v := 0) C dL_rework_18 rfl (by decide) ?_
    exact g_xiret C hr rfl (Or.inl ⟨rfl, r0, v, hv, rfl⟩) dL_rework_19 (by decide) (by decide)
set_option maxHeartbeats 4000000 in
set_option maxRecDepth 100000 in
theorem c_L_split {l : Launch} {D : va_G} {cI cZ cQ cL : ClassId} {a : Nat → Nat} {o : Nat} (u : LU) (f : Nat → Int64) (x : Int32) (y : Int32) {posti : Int32 → LU → Prop} {xp : String → Prop} (hM : XI l yX0_split wsX0_split ({ frames := 7, cells := 2, slots := 12, locals := 103 } : Room) D (tyX cI cZ cQ) tx0 (wX cI cZ cQ a) [.ref (a 0), .int x, .int y] u posti xp) (hxs : ∀ E, xp E → E = "java/lang/IndexOutOfBoundsException" ∨ E = "java/lang/IllegalArgumentException" ∨ E = "java/lang/IllegalStateException") : XI l yL_split wsL_split ({ frames := 8, cells := 2, slots := 12, locals := 126 } : Room) D (tyL cI cZ cQ cL) tx0 (wL cI cZ cQ cL a o) [.ref (a 0), .int x, .int y, .ref o] (u, f) (fun (r : Int32) (s2 : LU × (Nat → Int64)) => (r = 0 ∧ ∃ r0 v, posti r0 v ∧ s2 = (v, vp_updL f 0 (r0.toInt64))) ∨ (r = 1 ∧ xp "java/lang/IndexOutOfBoundsException" ∧ s2 = (u, f)) ∨ (r = 2 ∧ xp "java/lang/IllegalArgumentException" ∧ s2 = (u, f)) ∨ (r = 3 ∧ xp "java/lang/IllegalStateException" ∧ s2 = (u, f))) (fun _ => False) := by
  refine ent_WH (own := RL) (maxL := 5) (cc := cL_split) (hh := [(0, 10, 13, 13), (0, 10, 17, 15), (0, 10, 21, 17)]) (L0 := [(0, .ref (a 0)), (1, .int x), (2, .int y), (3, .ref o)]) (by decide) rfl (wL_ok _ _ _ _ _ _) rfl (Nat.le_of_ble_eq_true rfl) rfl ?_
  intro p e s m args below meth c A C hr hE ht
  refine g_aload_n (pc' := 1) (q := 3) C dL_split_0 rfl rfl rfl ?_
  refine g_iconst (pc' := 2) (v := 0) C dL_split_1 rfl (by decide) ?_
  refine g_aload_n (pc' := 3) (q := 0) C dL_split_2 rfl rfl rfl ?_
  refine g_iload_n (pc' := 4) (q := 1) C dL_split_3 rfl rfl rfl ?_
  refine g_iload_n (pc' := 5) (q := 2) C dL_split_4 rfl rfl rfl ?_
  refine g_cxiC (pc' := 8) (As := [.int x, .int y]) (st := [.int 0, .ref o]) (cells' := 2) (slots' := 12) C hE (fr_XI (emb := fun v => (v, f)) (E1 := []) (E2 := [(o, .inl (cL, 1, .inr (.inl f)))]) (fun v => rfl) [0, 1, 2] rfl hM) gL_split_X0_split rfl (by decide +kernel) ⟨Nat.le_of_ble_eq_true rfl, Nat.le_of_ble_eq_true rfl⟩ 0 (by rfl) rfl (n := 2) rfl rfl (Nat.le_of_ble_eq_true rfl) dL_split_5 rfl rfl rfl ⟨Nat.le_of_ble_eq_true rfl, Nat.le_of_ble_eq_true rfl⟩ (fun E hx => ?_) (fun r0 s9 hp => ?_)
  · rcases hxs E hx with rfl | rfl | rfl
    · skip
      refine g_catch C hE [] ⟨0, 10, 13, 13⟩ [⟨0, 10, 17, 15⟩, ⟨0, 10, 21, 17⟩] (ht.trans rfl) (fun z hz => nomatch hz) (by decide) (by decide) (by decide +kernel) rfl (by decide) (fun q => ?_)
      refine g_astore (pc' := 15) (L' := [(4, .ref q), (0, .ref (a 0)), (1, .int x), (2, .int y), (3, .ref o)]) C dL_split_13 rfl (by decide) rfl ?_
      refine g_iconst (pc' := 16) (v := 1) C dL_split_15 rfl (by decide) ?_
      exact g_xiret C hr rfl (Or.inr (Or.inl ⟨rfl, hx, rfl⟩)) dL_split_16 (by decide) (by decide)
    · skip
      refine g_catch C hE [⟨0, 10, 13, 13⟩] ⟨0, 10, 17, 15⟩ [⟨0, 10, 21, 17⟩] (ht.trans rfl) (by intro z hz; simp only [List.mem_cons, List.mem_nil_iff, or_false, List.not_mem_nil] at hz; rcases hz with rfl <;> first | exact ⟨by decide, "java/lang/IndexOutOfBoundsException", by decide +kernel, by decide⟩) (by decide) (by decide) (by decide +kernel) rfl (by decide) (fun q => ?_)
      refine g_astore (pc' := 19) (L' := [(4, .ref q), (0, .ref (a 0)), (1, .int x), (2, .int y), (3, .ref o)]) C dL_split_17 rfl (by decide) rfl ?_
      refine g_iconst (pc' := 20) (v := 2) C dL_split_19 rfl (by decide) ?_
      exact g_xiret C hr rfl (Or.inr (Or.inr (Or.inl ⟨rfl, hx, rfl⟩))) dL_split_20 (by decide) (by decide)
    · skip
      refine g_catch C hE [⟨0, 10, 13, 13⟩, ⟨0, 10, 17, 15⟩] ⟨0, 10, 21, 17⟩ [] (ht.trans rfl) (by intro z hz; simp only [List.mem_cons, List.mem_nil_iff, or_false, List.not_mem_nil] at hz; rcases hz with rfl | rfl <;> first | exact ⟨by decide, "java/lang/IndexOutOfBoundsException", by decide +kernel, by decide⟩ | exact ⟨by decide, "java/lang/IllegalArgumentException", by decide +kernel, by decide⟩) (by decide) (by decide) (by decide +kernel) rfl (by decide) (fun q => ?_)
      refine g_astore (pc' := 23) (L' := [(4, .ref q), (0, .ref (a 0)), (1, .int x), (2, .int y), (3, .ref o)]) C dL_split_21 rfl (by decide) rfl ?_
      refine g_iconst (pc' := 24) (v := 3) C dL_split_23 rfl (by decide) ?_
      exact g_xiret C hr rfl (Or.inr (Or.inr (Or.inr ⟨rfl, hx, rfl⟩))) dL_split_24 (by decide) (by decide)
  · obtain ⟨v, hv, rfl⟩ := hp
    refine g_i2l (pc' := 9) C dL_split_8 rfl ?_
    refine g_last (pc' := 10) (n := 1) C 75 3 (wL_out _ _ _ _ _ _ _) rfl (vp_of (by decide) (by decide)) (k := 0) rfl dL_split_9 rfl (wL_set _ _ _ _ _ _ _ _) ?_
    refine g_goto (tgt := 25) C dL_split_10 (by decide) ?_
    refine g_iconst (pc' := 26) (v := 0) C dL_split_25 rfl (by decide) ?_
    exact g_xiret C hr rfl (Or.inl ⟨rfl, r0, v, hv, rfl⟩) dL_split_26 (by decide) (by decide)
set_option maxHeartbeats 4000000 in
set_option maxRecDepth 100000 in
theorem c_L_merge {l : Launch} {D : va_G} {cI cZ cQ cL : ClassId} {a : Nat → Nat} {o : Nat} (u : LU) (f : Nat → Int64) (x : Int32) (y : Int32) {posti : Int32 → LU → Prop} {xp : String → Prop} (hM : XI l yX0_merge wsX0_merge ({ frames := 7, cells := 3, slots := 18, locals := 103 } : Room) D (tyX cI cZ cQ) tx0 (wX cI cZ cQ a) [.ref (a 0), .int x, .int y] u posti xp) (hxs : ∀ E, xp E → E = "java/lang/IndexOutOfBoundsException" ∨ E = "java/lang/IllegalArgumentException" ∨ E = "java/lang/IllegalStateException") : XI l yL_merge wsL_merge ({ frames := 8, cells := 3, slots := 18, locals := 125 } : Room) D (tyL cI cZ cQ cL) tx0 (wL cI cZ cQ cL a o) [.ref (a 0), .int x, .int y, .ref o] (u, f) (fun (r : Int32) (s2 : LU × (Nat → Int64)) => (r = 0 ∧ ∃ r0 v, posti r0 v ∧ s2 = (v, vp_updL f 0 (r0.toInt64))) ∨ (r = 1 ∧ xp "java/lang/IndexOutOfBoundsException" ∧ s2 = (u, f)) ∨ (r = 2 ∧ xp "java/lang/IllegalArgumentException" ∧ s2 = (u, f)) ∨ (r = 3 ∧ xp "java/lang/IllegalStateException" ∧ s2 = (u, f))) (fun _ => False) := by
  refine ent_WH (own := RL) (maxL := 5) (cc := cL_merge) (hh := [(0, 10, 13, 13), (0, 10, 17, 15), (0, 10, 21, 17)]) (L0 := [(0, .ref (a 0)), (1, .int x), (2, .int y), (3, .ref o)]) (by decide) rfl (wL_ok _ _ _ _ _ _) rfl (Nat.le_of_ble_eq_true rfl) rfl ?_
  intro p e s m args below meth c A C hr hE ht
  refine g_aload_n (pc' := 1) (q := 3) C dL_merge_0 rfl rfl rfl ?_
  refine g_iconst (pc' := 2) (v := 0) C dL_merge_1 rfl (by decide) ?_
  refine g_aload_n (pc' := 3) (q := 0) C dL_merge_2 rfl rfl rfl ?_
  refine g_iload_n (pc' := 4) (q := 1) C dL_merge_3 rfl rfl rfl ?_
  refine g_iload_n (pc' := 5) (q := 2) C dL_merge_4 rfl rfl rfl ?_
  refine g_cxiC (pc' := 8) (As := [.int x, .int y]) (st := [.int 0, .ref o]) (cells' := 3) (slots' := 18) C hE (fr_XI (emb := fun v => (v, f)) (E1 := []) (E2 := [(o, .inl (cL, 1, .inr (.inl f)))]) (fun v => rfl) [0, 1, 2] rfl hM) gL_merge_X0_merge rfl (by decide +kernel) ⟨Nat.le_of_ble_eq_true rfl, Nat.le_of_ble_eq_true rfl⟩ 0 (by rfl) rfl (n := 2) rfl rfl (Nat.le_of_ble_eq_true rfl) dL_merge_5 rfl rfl rfl ⟨Nat.le_of_ble_eq_true rfl, Nat.le_of_ble_eq_true rfl⟩ (fun E hx => ?_) (fun r0 s9 hp => ?_)
  · rcases hxs E hx with rfl | rfl | rfl
    · skip
      refine g_catch C hE [] ⟨0, 10, 13, 13⟩ [⟨0, 10, 17, 15⟩, ⟨0, 10, 21, 17⟩] (ht.trans rfl) (fun z hz => nomatch hz) (by decide) (by decide) (by decide +kernel) rfl (by decide) (fun q => ?_)
      refine g_astore (pc' := 15) (L' := [(4, .ref q), (0, .ref (a 0)), (1, .int x), (2, .int y), (3, .ref o)]) C dL_merge_13 rfl (by decide) rfl ?_
      refine g_iconst (pc' := 16) (v := 1) C dL_merge_15 rfl (by decide) ?_
      exact g_xiret C hr rfl (Or.inr (Or.inl ⟨rfl, hx, rfl⟩)) dL_merge_16 (by decide) (by decide)
    · skip
      refine g_catch C hE [⟨0, 10, 13, 13⟩] ⟨0, 10, 17, 15⟩ [⟨0, 10, 21, 17⟩] (ht.trans rfl) (by intro z hz; simp only [List.mem_cons, List.mem_nil_iff, or_false, List.not_mem_nil] at hz; rcases hz with rfl <;> first | exact ⟨by decide, "java/lang/IndexOutOfBoundsException", by decide +kernel, by decide⟩) (by decide) (by decide) (by decide +kernel) rfl (by decide) (fun q => ?_)
      refine g_astore (pc' := 19) (L' := [(4, .ref q), (0, .ref (a 0)), (1, .int x), (2, .int y), (3, .ref o)]) C dL_merge_17 rfl (by decide) rfl ?_
      refine g_iconst (pc' := 20) (v := 2) C dL_merge_19 rfl (by decide) ?_
      exact g_xiret C hr rfl (Or.inr (Or.inr (Or.inl ⟨rfl, hx, rfl⟩))) dL_merge_20 (by decide) (by decide)
    · skip
      refine g_catch C hE [⟨0, 10, 13, 13⟩, ⟨0, 10, 17, 15⟩] ⟨0, 10, 21, 17⟩ [] (ht.trans rfl) (by intro z hz; simp only [List.mem_cons, List.mem_nil_iff, or_false, List.not_mem_nil] at hz; rcases hz with rfl | rfl <;> first | exact ⟨by decide, "java/lang/IndexOutOfBoundsException", by decide +kernel, by decide⟩ | exact ⟨by decide, "java/lang/IllegalArgumentException", by decide +kernel, by decide⟩) (by decide) (by decide) (by decide +kernel) rfl (by decide) (fun q => ?_)
      refine g_astore (pc' := 23) (L' := [(4, .ref q), (0, .ref (a 0)), (1, .int x), (2, .int y), (3, .ref o)]) C dL_merge_21 rfl (by decide) rfl ?_
      refine g_iconst (pc' := 24) (v := 3) C dL_merge_23 rfl (by decide) ?_
      exact g_xiret C hr rfl (Or.inr (Or.inr (Or.inr ⟨rfl, hx, rfl⟩))) dL_merge_24 (by decide) (by decide)
  · obtain ⟨v, hv, rfl⟩ := hp
    refine g_i2l (pc' := 9) C dL_merge_8 rfl ?_
    refine g_last (pc' := 10) (n := 1) C 75 3 (wL_out _ _ _ _ _ _ _) rfl (vp_of (by decide) (by decide)) (k := 0) rfl dL_merge_9 rfl (wL_set _ _ _ _ _ _ _ _) ?_
    refine g_goto (tgt := 25) C dL_merge_10 (by decide) ?_
    refine g_iconst (pc' := 26) (v := 0) C dL_merge_25 rfl (by decide) ?_
    exact g_xiret C hr rfl (Or.inl ⟨rfl, r0, v, hv, rfl⟩) dL_merge_26 (by decide) (by decide)
set_option maxHeartbeats 4000000 in
set_option maxRecDepth 100000 in
theorem c_L_hold {l : Launch} {D : va_G} {cI cZ cQ cL : ClassId} {a : Nat → Nat} {o : Nat} (u : LU) (f : Nat → Int64) (x : Int32) (P9 : Prop) {posti : Int32 → LU → Prop} {xp : String → Prop} (hM : XI l yX0_hold wsX0_hold ({ frames := 7, cells := 2, slots := 12, locals := 103 } : Room) D (tyX cI cZ cQ) tx0 (wX cI cZ cQ a) [.ref (a 0), .int x, .int (bP (P9))] u posti xp) (hxs : ∀ E, xp E → E = "java/lang/IndexOutOfBoundsException" ∨ E = "java/lang/IllegalStateException") : XI l yL_hold wsL_hold ({ frames := 8, cells := 2, slots := 12, locals := 126 } : Room) D (tyL cI cZ cQ cL) tx0 (wL cI cZ cQ cL a o) [.ref (a 0), .int x, .int (bP (P9)), .ref o] (u, f) (fun (r : Int32) (s2 : LU × (Nat → Int64)) => (r = 0 ∧ ∃ r0 v, posti r0 v ∧ s2 = (v, vp_updL f 0 (lbI r0))) ∨ (r = 1 ∧ xp "java/lang/IndexOutOfBoundsException" ∧ s2 = (u, f)) ∨ (r = 2 ∧ xp "java/lang/IllegalStateException" ∧ s2 = (u, f))) (fun _ => False) := by
  refine ent_WH (own := RL) (maxL := 5) (cc := cL_hold) (hh := [(0, 17, 20, 13), (0, 17, 24, 17)]) (L0 := [(0, .ref (a 0)), (1, .int x), (2, .int (bP (P9))), (3, .ref o)]) (by decide) rfl (wL_ok _ _ _ _ _ _) rfl (Nat.le_of_ble_eq_true rfl) rfl ?_
  intro p e s m args below meth c A C hr hE ht
  refine g_aload_n (pc' := 1) (q := 3) C dL_hold_0 rfl rfl rfl ?_
  refine g_iconst (pc' := 2) (v := 0) C dL_hold_1 rfl (by decide) ?_
  refine g_aload_n (pc' := 3) (q := 0) C dL_hold_2 rfl rfl rfl ?_
  refine g_iload_n (pc' := 4) (q := 1) C dL_hold_3 rfl rfl rfl ?_
  refine g_iload_n (pc' := 5) (q := 2) C dL_hold_4 rfl rfl rfl ?_
  refine g_cxiC (pc' := 8) (As := [.int x, .int (bP (P9))]) (st := [.int 0, .ref o]) (cells' := 2) (slots' := 12) C hE (fr_XI (emb := fun v => (v, f)) (E1 := []) (E2 := [(o, .inl (cL, 1, .inr (.inl f)))]) (fun v => rfl) [0, 1, 2] rfl hM) gL_hold_X0_hold rfl (by decide +kernel) ⟨Nat.le_of_ble_eq_true rfl, Nat.le_of_ble_eq_true rfl⟩ 0 (by rfl) rfl (n := 2) rfl rfl (Nat.le_of_ble_eq_true rfl) dL_hold_5 rfl rfl rfl ⟨Nat.le_of_ble_eq_true rfl, Nat.le_of_ble_eq_true rfl⟩ (fun E hx => ?_) (fun r0 s9 hp => ?_)
  · rcases hxs E hx with rfl | rfl
    · skip
      refine g_catch C hE [] ⟨0, 17, 20, 13⟩ [⟨0, 17, 24, 17⟩] (ht.trans rfl) (fun z hz => nomatch hz) (by decide) (by decide) (by decide +kernel) rfl (by decide) (fun q => ?_)
      refine g_astore (pc' := 22) (L' := [(4, .ref q), (0, .ref (a 0)), (1, .int x), (2, .int (bP (P9))), (3, .ref o)]) C dL_hold_20 rfl (by decide) rfl ?_
      refine g_iconst (pc' := 23) (v := 1) C dL_hold_22 rfl (by decide) ?_
      exact g_xiret C hr rfl (Or.inr (Or.inl ⟨rfl, hx, rfl⟩)) dL_hold_23 (by decide) (by decide)
    · skip
      refine g_catch C hE [⟨0, 17, 20, 13⟩] ⟨0, 17, 24, 17⟩ [] (ht.trans rfl) (by intro z hz; simp only [List.mem_cons, List.mem_nil_iff, or_false, List.not_mem_nil] at hz; rcases hz with rfl <;> first | exact ⟨by decide, "java/lang/IndexOutOfBoundsException", by decide +kernel, by decide⟩) (by decide) (by decide) (by decide +kernel) rfl (by decide) (fun q => ?_)
      refine g_astore (pc' := 26) (L' := [(4, .ref q), (0, .ref (a 0)), (1, .int x), (2, .int (bP (P9))), (3, .ref o)]) C dL_hold_24 rfl (by decide) rfl ?_
      refine g_iconst (pc' := 27) (v := 2) C dL_hold_26 rfl (by decide) ?_
      exact g_xiret C hr rfl (Or.inr (Or.inr ⟨rfl, hx, rfl⟩)) dL_hold_27 (by decide) (by decide)
  · obtain ⟨v, hv, rfl⟩ := hp
    refine g_if_eq (tgt := 15) (pc' := 11) C dL_hold_8 rfl (by decide) (fun (c0 : r0.toInt = 0) => ?_) (fun (c0 : ¬ r0.toInt = 0) => ?_)
    · skip
      refine g_lconst (pc' := 16) (v := 0) C dL_hold_15 rfl (by decide) ?_
      refine g_last (pc' := 17) (n := 1) C 75 3 (wL_out _ _ _ _ _ _ _) rfl (vp_of (by decide) (by decide)) (k := 0) rfl dL_hold_16 rfl (wL_set _ _ _ _ _ _ _ _) ?_
      refine g_goto (tgt := 28) C dL_hold_17 (by decide) ?_
      refine g_iconst (pc' := 29) (v := 0) C dL_hold_28 rfl (by decide) ?_
      exact g_xiret C hr rfl (Or.inl ⟨rfl, r0, v, hv, by unfold lbI; rw [if_pos c0]⟩) dL_hold_29 (by decide) (by decide)
    · skip
      refine g_lconst (pc' := 12) (v := 1) C dL_hold_11 rfl (by decide) ?_
      refine g_goto (tgt := 16) C dL_hold_12 (by decide) ?_
      refine g_last (pc' := 17) (n := 1) C 75 3 (wL_out _ _ _ _ _ _ _) rfl (vp_of (by decide) (by decide)) (k := 0) rfl dL_hold_16 rfl (wL_set _ _ _ _ _ _ _ _) ?_
      refine g_goto (tgt := 28) C dL_hold_17 (by decide) ?_
      refine g_iconst (pc' := 29) (v := 0) C dL_hold_28 rfl (by decide) ?_
      exact g_xiret C hr rfl (Or.inl ⟨rfl, r0, v, hv, by unfold lbI; rw [if_neg c0]⟩) dL_hold_29 (by decide) (by decide)
set_option maxHeartbeats 4000000 in
set_option maxRecDepth 100000 in
theorem c_L_scrap {l : Launch} {D : va_G} {cI cZ cQ cL : ClassId} {a : Nat → Nat} {o : Nat} (u : LU) (f : Nat → Int64) (x : Int32) {posti : Int32 → LU → Prop} {xp : String → Prop} (hM : XI l yX0_scrap wsX0_scrap ({ frames := 7, cells := 2, slots := 12, locals := 103 } : Room) D (tyX cI cZ cQ) tx0 (wX cI cZ cQ a) [.ref (a 0), .int x] u posti xp) (hxs : ∀ E, xp E → E = "java/lang/IndexOutOfBoundsException" ∨ E = "java/lang/IllegalStateException") : XI l yL_scrap wsL_scrap ({ frames := 8, cells := 2, slots := 12, locals := 125 } : Room) D (tyL cI cZ cQ cL) tx0 (wL cI cZ cQ cL a o) [.ref (a 0), .int x, .ref o] (u, f) (fun (r : Int32) (s2 : LU × (Nat → Int64)) => (r = 0 ∧ ∃ r0 v, posti r0 v ∧ s2 = (v, vp_updL f 0 (r0.toInt64))) ∨ (r = 1 ∧ xp "java/lang/IndexOutOfBoundsException" ∧ s2 = (u, f)) ∨ (r = 2 ∧ xp "java/lang/IllegalStateException" ∧ s2 = (u, f))) (fun _ => False) := by
  refine ent_WH (own := RL) (maxL := 4) (cc := cL_scrap) (hh := [(0, 9, 12, 13), (0, 9, 15, 17)]) (L0 := [(0, .ref (a 0)), (1, .int x), (2, .ref o)]) (by decide) rfl (wL_ok _ _ _ _ _ _) rfl (Nat.le_of_ble_eq_true rfl) rfl ?_
  intro p e s m args below meth c A C hr hE ht
  refine g_aload_n (pc' := 1) (q := 2) C dL_scrap_0 rfl rfl rfl ?_
  refine g_iconst (pc' := 2) (v := 0) C dL_scrap_1 rfl (by decide) ?_
  refine g_aload_n (pc' := 3) (q := 0) C dL_scrap_2 rfl rfl rfl ?_
  refine g_iload_n (pc' := 4) (q := 1) C dL_scrap_3 rfl rfl rfl ?_
  refine g_cxiC (pc' := 7) (As := [.int x]) (st := [.int 0, .ref o]) (cells' := 2) (slots' := 12) C hE (fr_XI (emb := fun v => (v, f)) (E1 := []) (E2 := [(o, .inl (cL, 1, .inr (.inl f)))]) (fun v => rfl) [0, 1, 2] rfl hM) gL_scrap_X0_scrap rfl (by decide +kernel) ⟨Nat.le_of_ble_eq_true rfl, Nat.le_of_ble_eq_true rfl⟩ 0 (by rfl) rfl (n := 1) rfl rfl (Nat.le_of_ble_eq_true rfl) dL_scrap_4 rfl rfl rfl ⟨Nat.le_of_ble_eq_true rfl, Nat.le_of_ble_eq_true rfl⟩ (fun E hx => ?_) (fun r0 s9 hp => ?_)
  · rcases hxs E hx with rfl | rfl
    · skip
      refine g_catch C hE [] ⟨0, 9, 12, 13⟩ [⟨0, 9, 15, 17⟩] (ht.trans rfl) (fun z hz => nomatch hz) (by decide) (by decide) (by decide +kernel) rfl (by decide) (fun q => ?_)
      refine g_astore_n (pc' := 13) (L' := [(3, .ref q), (0, .ref (a 0)), (1, .int x), (2, .ref o)]) C dL_scrap_12 rfl rfl (by decide) rfl ?_
      refine g_iconst (pc' := 14) (v := 1) C dL_scrap_13 rfl (by decide) ?_
      exact g_xiret C hr rfl (Or.inr (Or.inl ⟨rfl, hx, rfl⟩)) dL_scrap_14 (by decide) (by decide)
    · skip
      refine g_catch C hE [⟨0, 9, 12, 13⟩] ⟨0, 9, 15, 17⟩ [] (ht.trans rfl) (by intro z hz; simp only [List.mem_cons, List.mem_nil_iff, or_false, List.not_mem_nil] at hz; rcases hz with rfl <;> first | exact ⟨by decide, "java/lang/IndexOutOfBoundsException", by decide +kernel, by decide⟩) (by decide) (by decide) (by decide +kernel) rfl (by decide) (fun q => ?_)
      refine g_astore_n (pc' := 16) (L' := [(3, .ref q), (0, .ref (a 0)), (1, .int x), (2, .ref o)]) C dL_scrap_15 rfl rfl (by decide) rfl ?_
      refine g_iconst (pc' := 17) (v := 2) C dL_scrap_16 rfl (by decide) ?_
      exact g_xiret C hr rfl (Or.inr (Or.inr ⟨rfl, hx, rfl⟩)) dL_scrap_17 (by decide) (by decide)
  · obtain ⟨v, hv, rfl⟩ := hp
    refine g_i2l (pc' := 8) C dL_scrap_7 rfl ?_
    refine g_last (pc' := 9) (n := 1) C 75 3 (wL_out _ _ _ _ _ _ _) rfl (vp_of (by decide) (by decide)) (k := 0) rfl dL_scrap_8 rfl (wL_set _ _ _ _ _ _ _ _) ?_
    refine g_goto (tgt := 18) C dL_scrap_9 (by decide) ?_
    refine g_iconst (pc' := 19) (v := 0) C dL_scrap_18 rfl (by decide) ?_
    exact g_xiret C hr rfl (Or.inl ⟨rfl, r0, v, hv, rfl⟩) dL_scrap_19 (by decide) (by decide)
set_option maxHeartbeats 4000000 in
set_option maxRecDepth 100000 in
theorem c_L_advance {l : Launch} {D : va_G} {cI cZ cQ cL : ClassId} {a : Nat → Nat} {o : Nat} (u : LU) (f : Nat → Int64) (x : Int32) {posti : Int32 → LU → Prop} {xp : String → Prop} (hM : XI l yX0_advance wsX0_advance ({ frames := 6, cells := 1, slots := 6, locals := 82 } : Room) D (tyX cI cZ cQ) tx0 (wX cI cZ cQ a) [.ref (a 0), .int x] u posti xp) (hxs : ∀ E, xp E → E = "java/lang/IllegalArgumentException") : XI l yL_advance wsL_advance ({ frames := 7, cells := 1, slots := 6, locals := 105 } : Room) D (tyL cI cZ cQ cL) tx0 (wL cI cZ cQ cL a o) [.ref (a 0), .int x, .ref o] (u, f) (fun (r : Int32) (s2 : LU × (Nat → Int64)) => (r = 0 ∧ ∃ r0 v, posti r0 v ∧ s2 = (v, vp_updL f 0 (r0.toInt64))) ∨ (r = 1 ∧ xp "java/lang/IllegalArgumentException" ∧ s2 = (u, f))) (fun _ => False) := by
  refine ent_WH (own := RL) (maxL := 4) (cc := cL_advance) (hh := [(0, 9, 12, 15)]) (L0 := [(0, .ref (a 0)), (1, .int x), (2, .ref o)]) (by decide) rfl (wL_ok _ _ _ _ _ _) rfl (Nat.le_of_ble_eq_true rfl) rfl ?_
  intro p e s m args below meth c A C hr hE ht
  refine g_aload_n (pc' := 1) (q := 2) C dL_advance_0 rfl rfl rfl ?_
  refine g_iconst (pc' := 2) (v := 0) C dL_advance_1 rfl (by decide) ?_
  refine g_aload_n (pc' := 3) (q := 0) C dL_advance_2 rfl rfl rfl ?_
  refine g_iload_n (pc' := 4) (q := 1) C dL_advance_3 rfl rfl rfl ?_
  refine g_cxiC (pc' := 7) (As := [.int x]) (st := [.int 0, .ref o]) (cells' := 1) (slots' := 6) C hE (fr_XI (emb := fun v => (v, f)) (E1 := []) (E2 := [(o, .inl (cL, 1, .inr (.inl f)))]) (fun v => rfl) [0, 1, 2] rfl hM) gL_advance_X0_advance rfl (by decide +kernel) ⟨Nat.le_of_ble_eq_true rfl, Nat.le_of_ble_eq_true rfl⟩ 0 (by rfl) rfl (n := 1) rfl rfl (Nat.le_of_ble_eq_true rfl) dL_advance_4 rfl rfl rfl ⟨Nat.le_of_ble_eq_true rfl, Nat.le_of_ble_eq_true rfl⟩ (fun E hx => ?_) (fun r0 s9 hp => ?_)
  · rcases hxs E hx with rfl
    · skip
      refine g_catch C hE [] ⟨0, 9, 12, 15⟩ [] (ht.trans rfl) (fun z hz => nomatch hz) (by decide) (by decide) (by decide +kernel) rfl (by decide) (fun q => ?_)
      refine g_astore_n (pc' := 13) (L' := [(3, .ref q), (0, .ref (a 0)), (1, .int x), (2, .ref o)]) C dL_advance_12 rfl rfl (by decide) rfl ?_
      refine g_iconst (pc' := 14) (v := 1) C dL_advance_13 rfl (by decide) ?_
      exact g_xiret C hr rfl (Or.inr ⟨rfl, hx, rfl⟩) dL_advance_14 (by decide) (by decide)
  · obtain ⟨v, hv, rfl⟩ := hp
    refine g_i2l (pc' := 8) C dL_advance_7 rfl ?_
    refine g_last (pc' := 9) (n := 1) C 75 3 (wL_out _ _ _ _ _ _ _) rfl (vp_of (by decide) (by decide)) (k := 0) rfl dL_advance_8 rfl (wL_set _ _ _ _ _ _ _ _) ?_
    refine g_goto (tgt := 15) C dL_advance_9 (by decide) ?_
    refine g_iconst (pc' := 16) (v := 0) C dL_advance_15 rfl (by decide) ?_
    exact g_xiret C hr rfl (Or.inl ⟨rfl, r0, v, hv, rfl⟩) dL_advance_16 (by decide) (by decide)
set_option maxHeartbeats 4000000 in
set_option maxRecDepth 100000 in
theorem c_L_state {l : Launch} {D : va_G} {cI cZ cQ cL : ClassId} {a : Nat → Nat} {o : Nat} (u : LU) (f : Nat → Int64) (x : Int32) {posti : Int32 → LU → Prop} {xp : String → Prop} (hM : XI l yX0_state wsX0_state ({ frames := 7, cells := 1, slots := 6, locals := 103 } : Room) D (tyX cI cZ cQ) tx0 (wX cI cZ cQ a) [.ref (a 0), .int x] u posti xp) (hxs : ∀ E, xp E → E = "java/lang/IndexOutOfBoundsException") : XI l yL_state wsL_state ({ frames := 8, cells := 1, slots := 6, locals := 124 } : Room) D (tyL cI cZ cQ cL) tx0 (wL cI cZ cQ cL a o) [.ref (a 0), .int x, .ref o] (u, f) (fun (r : Int32) (s2 : LU × (Nat → Int64)) => (r = 0 ∧ ∃ r0 v, posti r0 v ∧ s2 = (v, vp_updL f 0 (r0.toInt64))) ∨ (r = 1 ∧ xp "java/lang/IndexOutOfBoundsException" ∧ s2 = (u, f))) (fun _ => False) := by
  refine ent_WH (own := RL) (maxL := 4) (cc := cL_state) (hh := [(0, 9, 12, 13)]) (L0 := [(0, .ref (a 0)), (1, .int x), (2, .ref o)]) (by decide) rfl (wL_ok _ _ _ _ _ _) rfl (Nat.le_of_ble_eq_true rfl) rfl ?_
  intro p e s m args below meth c A C hr hE ht
  refine g_aload_n (pc' := 1) (q := 2) C dL_state_0 rfl rfl rfl ?_
  refine g_iconst (pc' := 2) (v := 0) C dL_state_1 rfl (by decide) ?_
  refine g_aload_n (pc' := 3) (q := 0) C dL_state_2 rfl rfl rfl ?_
  refine g_iload_n (pc' := 4) (q := 1) C dL_state_3 rfl rfl rfl ?_
  refine g_cxiC (pc' := 7) (As := [.int x]) (st := [.int 0, .ref o]) (cells' := 1) (slots' := 6) C hE (fr_XI (emb := fun v => (v, f)) (E1 := []) (E2 := [(o, .inl (cL, 1, .inr (.inl f)))]) (fun v => rfl) [0, 1, 2] rfl hM) gL_state_X0_state rfl (by decide +kernel) ⟨Nat.le_of_ble_eq_true rfl, Nat.le_of_ble_eq_true rfl⟩ 0 (by rfl) rfl (n := 1) rfl rfl (Nat.le_of_ble_eq_true rfl) dL_state_4 rfl rfl rfl ⟨Nat.le_of_ble_eq_true rfl, Nat.le_of_ble_eq_true rfl⟩ (fun E hx => ?_) (fun r0 s9 hp => ?_)
  · rcases hxs E hx with rfl
    · skip
      refine g_catch C hE [] ⟨0, 9, 12, 13⟩ [] (ht.trans rfl) (fun z hz => nomatch hz) (by decide) (by decide) (by decide +kernel) rfl (by decide) (fun q => ?_)
      refine g_astore_n (pc' := 13) (L' := [(3, .ref q), (0, .ref (a 0)), (1, .int x), (2, .ref o)]) C dL_state_12 rfl rfl (by decide) rfl ?_
      refine g_iconst (pc' := 14) (v := 1) C dL_state_13 rfl (by decide) ?_
      exact g_xiret C hr rfl (Or.inr ⟨rfl, hx, rfl⟩) dL_state_14 (by decide) (by decide)
  · obtain ⟨v, hv, rfl⟩ := hp
    refine g_i2l (pc' := 8) C dL_state_7 rfl ?_
    refine g_last (pc' := 9) (n := 1) C 75 3 (wL_out _ _ _ _ _ _ _) rfl (vp_of (by decide) (by decide)) (k := 0) rfl dL_state_8 rfl (wL_set _ _ _ _ _ _ _ _) ?_
    refine g_goto (tgt := 15) C dL_state_9 (by decide) ?_
    refine g_iconst (pc' := 16) (v := 0) C dL_state_15 rfl (by decide) ?_
    exact g_xiret C hr rfl (Or.inl ⟨rfl, r0, v, hv, rfl⟩) dL_state_16 (by decide) (by decide)
set_option maxHeartbeats 4000000 in
set_option maxRecDepth 100000 in
theorem c_L_stepOf {l : Launch} {D : va_G} {cI cZ cQ cL : ClassId} {a : Nat → Nat} {o : Nat} (u : LU) (f : Nat → Int64) (x : Int32) {posti : Int32 → LU → Prop} {xp : String → Prop} (hM : XI l yX0_stepOf wsX0_stepOf ({ frames := 7, cells := 1, slots := 6, locals := 103 } : Room) D (tyX cI cZ cQ) tx0 (wX cI cZ cQ a) [.ref (a 0), .int x] u posti xp) (hxs : ∀ E, xp E → E = "java/lang/IndexOutOfBoundsException") : XI l yL_stepOf wsL_stepOf ({ frames := 8, cells := 1, slots := 6, locals := 124 } : Room) D (tyL cI cZ cQ cL) tx0 (wL cI cZ cQ cL a o) [.ref (a 0), .int x, .ref o] (u, f) (fun (r : Int32) (s2 : LU × (Nat → Int64)) => (r = 0 ∧ ∃ r0 v, posti r0 v ∧ s2 = (v, vp_updL f 0 (r0.toInt64))) ∨ (r = 1 ∧ xp "java/lang/IndexOutOfBoundsException" ∧ s2 = (u, f))) (fun _ => False) := by
  refine ent_WH (own := RL) (maxL := 4) (cc := cL_stepOf) (hh := [(0, 9, 12, 13)]) (L0 := [(0, .ref (a 0)), (1, .int x), (2, .ref o)]) (by decide) rfl (wL_ok _ _ _ _ _ _) rfl (Nat.le_of_ble_eq_true rfl) rfl ?_
  intro p e s m args below meth c A C hr hE ht
  refine g_aload_n (pc' := 1) (q := 2) C dL_stepOf_0 rfl rfl rfl ?_
  refine g_iconst (pc' := 2) (v := 0) C dL_stepOf_1 rfl (by decide) ?_
  refine g_aload_n (pc' := 3) (q := 0) C dL_stepOf_2 rfl rfl rfl ?_
  refine g_iload_n (pc' := 4) (q := 1) C dL_stepOf_3 rfl rfl rfl ?_
  refine g_cxiC (pc' := 7) (As := [.int x]) (st := [.int 0, .ref o]) (cells' := 1) (slots' := 6) C hE (fr_XI (emb := fun v => (v, f)) (E1 := []) (E2 := [(o, .inl (cL, 1, .inr (.inl f)))]) (fun v => rfl) [0, 1, 2] rfl hM) gL_stepOf_X0_stepOf rfl (by decide +kernel) ⟨Nat.le_of_ble_eq_true rfl, Nat.le_of_ble_eq_true rfl⟩ 0 (by rfl) rfl (n := 1) rfl rfl (Nat.le_of_ble_eq_true rfl) dL_stepOf_4 rfl rfl rfl ⟨Nat.le_of_ble_eq_true rfl, Nat.le_of_ble_eq_true rfl⟩ (fun E hx => ?_) (fun r0 s9 hp => ?_)
  · rcases hxs E hx with rfl
    · skip
      refine g_catch C hE [] ⟨0, 9, 12, 13⟩ [] (ht.trans rfl) (fun z hz => nomatch hz) (by decide) (by decide) (by decide +kernel) rfl (by decide) (fun q => ?_)
      refine g_astore_n (pc' := 13) (L' := [(3, .ref q), (0, .ref (a 0)), (1, .int x), (2, .ref o)]) C dL_stepOf_12 rfl rfl (by decide) rfl ?_
      refine g_iconst (pc' := 14) (v := 1) C dL_stepOf_13 rfl (by decide) ?_
      exact g_xiret C hr rfl (Or.inr ⟨rfl, hx, rfl⟩) dL_stepOf_14 (by decide) (by decide)
  · obtain ⟨v, hv, rfl⟩ := hp
    refine g_i2l (pc' := 8) C dL_stepOf_7 rfl ?_
    refine g_last (pc' := 9) (n := 1) C 75 3 (wL_out _ _ _ _ _ _ _) rfl (vp_of (by decide) (by decide)) (k := 0) rfl dL_stepOf_8 rfl (wL_set _ _ _ _ _ _ _ _) ?_
    refine g_goto (tgt := 15) C dL_stepOf_9 (by decide) ?_
    refine g_iconst (pc' := 16) (v := 0) C dL_stepOf_15 rfl (by decide) ?_
    exact g_xiret C hr rfl (Or.inl ⟨rfl, r0, v, hv, rfl⟩) dL_stepOf_16 (by decide) (by decide)
set_option maxHeartbeats 4000000 in
set_option maxRecDepth 100000 in
theorem c_L_size {l : Launch} {D : va_G} {cI cZ cQ cL : ClassId} {a : Nat → Nat} {o : Nat} (u : LU) (f : Nat → Int64) (x : Int32) {posti : Int32 → LU → Prop} {xp : String → Prop} (hM : XI l yX0_size wsX0_size ({ frames := 7, cells := 1, slots := 6, locals := 103 } : Room) D (tyX cI cZ cQ) tx0 (wX cI cZ cQ a) [.ref (a 0), .int x] u posti xp) (hxs : ∀ E, xp E → E = "java/lang/IndexOutOfBoundsException") : XI l yL_size wsL_size ({ frames := 8, cells := 1, slots := 6, locals := 124 } : Room) D (tyL cI cZ cQ cL) tx0 (wL cI cZ cQ cL a o) [.ref (a 0), .int x, .ref o] (u, f) (fun (r : Int32) (s2 : LU × (Nat → Int64)) => (r = 0 ∧ ∃ r0 v, posti r0 v ∧ s2 = (v, vp_updL f 0 (r0.toInt64))) ∨ (r = 1 ∧ xp "java/lang/IndexOutOfBoundsException" ∧ s2 = (u, f))) (fun _ => False) := by
  refine ent_WH (own := RL) (maxL := 4) (cc := cL_size) (hh := [(0, 9, 12, 13)]) (L0 := [(0, .ref (a 0)), (1, .int x), (2, .ref o)]) (by decide) rfl (wL_ok _ _ _ _ _ _) rfl (Nat.le_of_ble_eq_true rfl) rfl ?_
  intro p e s m args below meth c A C hr hE ht
  refine g_aload_n (pc' := 1) (q := 2) C dL_size_0 rfl rfl rfl ?_
  refine g_iconst (pc' := 2) (v := 0) C dL_size_1 rfl (by decide) ?_
  refine g_aload_n (pc' := 3) (q := 0) C dL_size_2 rfl rfl rfl ?_
  refine g_iload_n (pc' := 4) (q := 1) C dL_size_3 rfl rfl rfl ?_
  refine g_cxiC (pc' := 7) (As := [.int x]) (st := [.int 0, .ref o]) (cells' := 1) (slots' := 6) C hE (fr_XI (emb := fun v => (v, f)) (E1 := []) (E2 := [(o, .inl (cL, 1, .inr (.inl f)))]) (fun v => rfl) [0, 1, 2] rfl hM) gL_size_X0_size rfl (by decide +kernel) ⟨Nat.le_of_ble_eq_true rfl, Nat.le_of_ble_eq_true rfl⟩ 0 (by rfl) rfl (n := 1) rfl rfl (Nat.le_of_ble_eq_true rfl) dL_size_4 rfl rfl rfl ⟨Nat.le_of_ble_eq_true rfl, Nat.le_of_ble_eq_true rfl⟩ (fun E hx => ?_) (fun r0 s9 hp => ?_)
  · rcases hxs E hx with rfl
    · skip
      refine g_catch C hE [] ⟨0, 9, 12, 13⟩ [] (ht.trans rfl) (fun z hz => nomatch hz) (by decide) (by decide) (by decide +kernel) rfl (by decide) (fun q => ?_)
      refine g_astore_n (pc' := 13) (L' := [(3, .ref q), (0, .ref (a 0)), (1, .int x), (2, .ref o)]) C dL_size_12 rfl rfl (by decide) rfl ?_
      refine g_iconst (pc' := 14) (v := 1) C dL_size_13 rfl (by decide) ?_
      exact g_xiret C hr rfl (Or.inr ⟨rfl, hx, rfl⟩) dL_size_14 (by decide) (by decide)
  · obtain ⟨v, hv, rfl⟩ := hp
    refine g_i2l (pc' := 8) C dL_size_7 rfl ?_
    refine g_last (pc' := 9) (n := 1) C 75 3 (wL_out _ _ _ _ _ _ _) rfl (vp_of (by decide) (by decide)) (k := 0) rfl dL_size_8 rfl (wL_set _ _ _ _ _ _ _ _) ?_
    refine g_goto (tgt := 15) C dL_size_9 (by decide) ?_
    refine g_iconst (pc' := 16) (v := 0) C dL_size_15 rfl (by decide) ?_
    exact g_xiret C hr rfl (Or.inl ⟨rfl, r0, v, hv, rfl⟩) dL_size_16 (by decide) (by decide)
set_option maxHeartbeats 4000000 in
set_option maxRecDepth 100000 in
theorem c_L_slack {l : Launch} {D : va_G} {cI cZ cQ cL : ClassId} {a : Nat → Nat} {o : Nat} (u : LU) (f : Nat → Int64) (x : Int32) {posti : Int32 → LU → Prop} {xp : String → Prop} (hM : XI l yX0_slack wsX0_slack ({ frames := 7, cells := 1, slots := 6, locals := 103 } : Room) D (tyX cI cZ cQ) tx0 (wX cI cZ cQ a) [.ref (a 0), .int x] u posti xp) (hxs : ∀ E, xp E → E = "java/lang/IndexOutOfBoundsException") : XI l yL_slack wsL_slack ({ frames := 8, cells := 1, slots := 6, locals := 124 } : Room) D (tyL cI cZ cQ cL) tx0 (wL cI cZ cQ cL a o) [.ref (a 0), .int x, .ref o] (u, f) (fun (r : Int32) (s2 : LU × (Nat → Int64)) => (r = 0 ∧ ∃ r0 v, posti r0 v ∧ s2 = (v, vp_updL f 0 (r0.toInt64))) ∨ (r = 1 ∧ xp "java/lang/IndexOutOfBoundsException" ∧ s2 = (u, f))) (fun _ => False) := by
  refine ent_WH (own := RL) (maxL := 4) (cc := cL_slack) (hh := [(0, 9, 12, 13)]) (L0 := [(0, .ref (a 0)), (1, .int x), (2, .ref o)]) (by decide) rfl (wL_ok _ _ _ _ _ _) rfl (Nat.le_of_ble_eq_true rfl) rfl ?_
  intro p e s m args below meth c A C hr hE ht
  refine g_aload_n (pc' := 1) (q := 2) C dL_slack_0 rfl rfl rfl ?_
  refine g_iconst (pc' := 2) (v := 0) C dL_slack_1 rfl (by decide) ?_
  refine g_aload_n (pc' := 3) (q := 0) C dL_slack_2 rfl rfl rfl ?_
  refine g_iload_n (pc' := 4) (q := 1) C dL_slack_3 rfl rfl rfl ?_
  refine g_cxiC (pc' := 7) (As := [.int x]) (st := [.int 0, .ref o]) (cells' := 1) (slots' := 6) C hE (fr_XI (emb := fun v => (v, f)) (E1 := []) (E2 := [(o, .inl (cL, 1, .inr (.inl f)))]) (fun v => rfl) [0, 1, 2] rfl hM) gL_slack_X0_slack rfl (by decide +kernel) ⟨Nat.le_of_ble_eq_true rfl, Nat.le_of_ble_eq_true rfl⟩ 0 (by rfl) rfl (n := 1) rfl rfl (Nat.le_of_ble_eq_true rfl) dL_slack_4 rfl rfl rfl ⟨Nat.le_of_ble_eq_true rfl, Nat.le_of_ble_eq_true rfl⟩ (fun E hx => ?_) (fun r0 s9 hp => ?_)
  · rcases hxs E hx with rfl
    · skip
      refine g_catch C hE [] ⟨0, 9, 12, 13⟩ [] (ht.trans rfl) (fun z hz => nomatch hz) (by decide) (by decide) (by decide +kernel) rfl (by decide) (fun q => ?_)
      refine g_astore_n (pc' := 13) (L' := [(3, .ref q), (0, .ref (a 0)), (1, .int x), (2, .ref o)]) C dL_slack_12 rfl rfl (by decide) rfl ?_
      refine g_iconst (pc' := 14) (v := 1) C dL_slack_13 rfl (by decide) ?_
      exact g_xiret C hr rfl (Or.inr ⟨rfl, hx, rfl⟩) dL_slack_14 (by decide) (by decide)
  · obtain ⟨v, hv, rfl⟩ := hp
    refine g_i2l (pc' := 8) C dL_slack_7 rfl ?_
    refine g_last (pc' := 9) (n := 1) C 75 3 (wL_out _ _ _ _ _ _ _) rfl (vp_of (by decide) (by decide)) (k := 0) rfl dL_slack_8 rfl (wL_set _ _ _ _ _ _ _ _) ?_
    refine g_goto (tgt := 15) C dL_slack_9 (by decide) ?_
    refine g_iconst (pc' := 16) (v := 0) C dL_slack_15 rfl (by decide) ?_
    exact g_xiret C hr rfl (Or.inl ⟨rfl, r0, v, hv, rfl⟩) dL_slack_16 (by decide) (by decide)
set_option maxHeartbeats 4000000 in
set_option maxRecDepth 100000 in
theorem c_L_isLate {l : Launch} {D : va_G} {cI cZ cQ cL : ClassId} {a : Nat → Nat} {o : Nat} (u : LU) (f : Nat → Int64) (x : Int32) {posti : Int32 → LU → Prop} {xp : String → Prop} (hM : XI l yX0_isLate wsX0_isLate ({ frames := 7, cells := 1, slots := 6, locals := 103 } : Room) D (tyX cI cZ cQ) tx0 (wX cI cZ cQ a) [.ref (a 0), .int x] u posti xp) (hxs : ∀ E, xp E → E = "java/lang/IndexOutOfBoundsException") : XI l yL_isLate wsL_isLate ({ frames := 8, cells := 1, slots := 6, locals := 124 } : Room) D (tyL cI cZ cQ cL) tx0 (wL cI cZ cQ cL a o) [.ref (a 0), .int x, .ref o] (u, f) (fun (r : Int32) (s2 : LU × (Nat → Int64)) => (r = 0 ∧ ∃ r0 v, posti r0 v ∧ s2 = (v, vp_updL f 0 (lbI r0))) ∨ (r = 1 ∧ xp "java/lang/IndexOutOfBoundsException" ∧ s2 = (u, f))) (fun _ => False) := by
  refine ent_WH (own := RL) (maxL := 4) (cc := cL_isLate) (hh := [(0, 16, 19, 13)]) (L0 := [(0, .ref (a 0)), (1, .int x), (2, .ref o)]) (by decide) rfl (wL_ok _ _ _ _ _ _) rfl (Nat.le_of_ble_eq_true rfl) rfl ?_
  intro p e s m args below meth c A C hr hE ht
  refine g_aload_n (pc' := 1) (q := 2) C dL_isLate_0 rfl rfl rfl ?_
  refine g_iconst (pc' := 2) (v := 0) C dL_isLate_1 rfl (by decide) ?_
  refine g_aload_n (pc' := 3) (q := 0) C dL_isLate_2 rfl rfl rfl ?_
  refine g_iload_n (pc' := 4) (q := 1) C dL_isLate_3 rfl rfl rfl ?_
  refine g_cxiC (pc' := 7) (As := [.int x]) (st := [.int 0, .ref o]) (cells' := 1) (slots' := 6) C hE (fr_XI (emb := fun v => (v, f)) (E1 := []) (E2 := [(o, .inl (cL, 1, .inr (.inl f)))]) (fun v => rfl) [0, 1, 2] rfl hM) gL_isLate_X0_isLate rfl (by decide +kernel) ⟨Nat.le_of_ble_eq_true rfl, Nat.le_of_ble_eq_true rfl⟩ 0 (by rfl) rfl (n := 1) rfl rfl (Nat.le_of_ble_eq_true rfl) dL_isLate_4 rfl rfl rfl ⟨Nat.le_of_ble_eq_true rfl, Nat.le_of_ble_eq_true rfl⟩ (fun E hx => ?_) (fun r0 s9 hp => ?_)
  · rcases hxs E hx with rfl
    · skip
      refine g_catch C hE [] ⟨0, 16, 19, 13⟩ [] (ht.trans rfl) (fun z hz => nomatch hz) (by decide) (by decide) (by decide +kernel) rfl (by decide) (fun q => ?_)
      refine g_astore_n (pc' := 20) (L' := [(3, .ref q), (0, .ref (a 0)), (1, .int x), (2, .ref o)]) C dL_isLate_19 rfl rfl (by decide) rfl ?_
      refine g_iconst (pc' := 21) (v := 1) C dL_isLate_20 rfl (by decide) ?_
      exact g_xiret C hr rfl (Or.inr ⟨rfl, hx, rfl⟩) dL_isLate_21 (by decide) (by decide)
  · obtain ⟨v, hv, rfl⟩ := hp
    refine g_if_eq (tgt := 14) (pc' := 10) C dL_isLate_7 rfl (by decide) (fun (c0 : r0.toInt = 0) => ?_) (fun (c0 : ¬ r0.toInt = 0) => ?_)
    · skip
      refine g_lconst (pc' := 15) (v := 0) C dL_isLate_14 rfl (by decide) ?_
      refine g_last (pc' := 16) (n := 1) C 75 3 (wL_out _ _ _ _ _ _ _) rfl (vp_of (by decide) (by decide)) (k := 0) rfl dL_isLate_15 rfl (wL_set _ _ _ _ _ _ _ _) ?_
      refine g_goto (tgt := 22) C dL_isLate_16 (by decide) ?_
      refine g_iconst (pc' := 23) (v := 0) C dL_isLate_22 rfl (by decide) ?_
      exact g_xiret C hr rfl (Or.inl ⟨rfl, r0, v, hv, by unfold lbI; rw [if_pos c0]⟩) dL_isLate_23 (by decide) (by decide)
    · skip
      refine g_lconst (pc' := 11) (v := 1) C dL_isLate_10 rfl (by decide) ?_
      refine g_goto (tgt := 15) C dL_isLate_11 (by decide) ?_
      refine g_last (pc' := 16) (n := 1) C 75 3 (wL_out _ _ _ _ _ _ _) rfl (vp_of (by decide) (by decide)) (k := 0) rfl dL_isLate_15 rfl (wL_set _ _ _ _ _ _ _ _) ?_
      refine g_goto (tgt := 22) C dL_isLate_16 (by decide) ?_
      refine g_iconst (pc' := 23) (v := 0) C dL_isLate_22 rfl (by decide) ?_
      exact g_xiret C hr rfl (Or.inl ⟨rfl, r0, v, hv, by unfold lbI; rw [if_neg c0]⟩) dL_isLate_23 (by decide) (by decide)
set_option maxHeartbeats 4000000 in
set_option maxRecDepth 100000 in
theorem c_L_reworks {l : Launch} {D : va_G} {cI cZ cQ cL : ClassId} {a : Nat → Nat} {o : Nat} (u : LU) (f : Nat → Int64) (x : Int32) {posti : Int32 → LU → Prop} {xp : String → Prop} (hM : XI l yX0_reworks wsX0_reworks ({ frames := 7, cells := 1, slots := 6, locals := 103 } : Room) D (tyX cI cZ cQ) tx0 (wX cI cZ cQ a) [.ref (a 0), .int x] u posti xp) (hxs : ∀ E, xp E → E = "java/lang/IndexOutOfBoundsException") : XI l yL_reworks wsL_reworks ({ frames := 8, cells := 1, slots := 6, locals := 124 } : Room) D (tyL cI cZ cQ cL) tx0 (wL cI cZ cQ cL a o) [.ref (a 0), .int x, .ref o] (u, f) (fun (r : Int32) (s2 : LU × (Nat → Int64)) => (r = 0 ∧ ∃ r0 v, posti r0 v ∧ s2 = (v, vp_updL f 0 (r0.toInt64))) ∨ (r = 1 ∧ xp "java/lang/IndexOutOfBoundsException" ∧ s2 = (u, f))) (fun _ => False) := by
  refine ent_WH (own := RL) (maxL := 4) (cc := cL_reworks) (hh := [(0, 9, 12, 13)]) (L0 := [(0, .ref (a 0)), (1, .int x), (2, .ref o)]) (by decide) rfl (wL_ok _ _ _ _ _ _) rfl (Nat.le_of_ble_eq_true rfl) rfl ?_
  intro p e s m args below meth c A C hr hE ht
  refine g_aload_n (pc' := 1) (q := 2) C dL_reworks_0 rfl rfl rfl ?_
  refine g_iconst (pc' := 2) (v := 0) C dL_reworks_1 rfl (by decide) ?_
  refine g_aload_n (pc' := 3) (q := 0) C dL_reworks_2 rfl rfl rfl ?_
  refine g_iload_n (pc' := 4) (q := 1) C dL_reworks_3 rfl rfl rfl ?_
  refine g_cxiC (pc' := 7) (As := [.int x]) (st := [.int 0, .ref o]) (cells' := 1) (slots' := 6) C hE (fr_XI (emb := fun v => (v, f)) (E1 := []) (E2 := [(o, .inl (cL, 1, .inr (.inl f)))]) (fun v => rfl) [0, 1, 2] rfl hM) gL_reworks_X0_reworks rfl (by decide +kernel) ⟨Nat.le_of_ble_eq_true rfl, Nat.le_of_ble_eq_true rfl⟩ 0 (by rfl) rfl (n := 1) rfl rfl (Nat.le_of_ble_eq_true rfl) dL_reworks_4 rfl rfl rfl ⟨Nat.le_of_ble_eq_true rfl, Nat.le_of_ble_eq_true rfl⟩ (fun E hx => ?_) (fun r0 s9 hp => ?_)
  · rcases hxs E hx with rfl
    · skip
      refine g_catch C hE [] ⟨0, 9, 12, 13⟩ [] (ht.trans rfl) (fun z hz => nomatch hz) (by decide) (by decide) (by decide +kernel) rfl (by decide) (fun q => ?_)
      refine g_astore_n (pc' := 13) (L' := [(3, .ref q), (0, .ref (a 0)), (1, .int x), (2, .ref o)]) C dL_reworks_12 rfl rfl (by decide) rfl ?_
      refine g_iconst (pc' := 14) (v := 1) C dL_reworks_13 rfl (by decide) ?_
      exact g_xiret C hr rfl (Or.inr ⟨rfl, hx, rfl⟩) dL_reworks_14 (by decide) (by decide)
  · obtain ⟨v, hv, rfl⟩ := hp
    refine g_i2l (pc' := 8) C dL_reworks_7 rfl ?_
    refine g_last (pc' := 9) (n := 1) C 75 3 (wL_out _ _ _ _ _ _ _) rfl (vp_of (by decide) (by decide)) (k := 0) rfl dL_reworks_8 rfl (wL_set _ _ _ _ _ _ _ _) ?_
    refine g_goto (tgt := 15) C dL_reworks_9 (by decide) ?_
    refine g_iconst (pc' := 16) (v := 0) C dL_reworks_15 rfl (by decide) ?_
    exact g_xiret C hr rfl (Or.inl ⟨rfl, r0, v, hv, rfl⟩) dL_reworks_16 (by decide) (by decide)
set_option maxHeartbeats 4000000 in
set_option maxRecDepth 100000 in
theorem c_L_nextFor {l : Launch} {D : va_G} {cI cZ cQ cL : ClassId} {a : Nat → Nat} {o : Nat} (u : LU) (f : Nat → Int64) (x : Int32) {posti : Int32 → LU → Prop} {xp : String → Prop} (hM : XI l yX0_nextFor wsX0_nextFor ({ frames := 7, cells := 1, slots := 6, locals := 102 } : Room) D (tyX cI cZ cQ) tx0 (wX cI cZ cQ a) [.ref (a 0), .int x] u posti xp) (hxs : ∀ E, xp E → E = "java/lang/IndexOutOfBoundsException") : XI l yL_nextFor wsL_nextFor ({ frames := 8, cells := 1, slots := 6, locals := 126 } : Room) D (tyL cI cZ cQ cL) tx0 (wL cI cZ cQ cL a o) [.ref (a 0), .int x, .ref o] (u, f) (fun (r : Int32) (s2 : LU × (Nat → Int64)) => (r = 0 ∧ ∃ r0 v, posti r0 v ∧ s2 = (v, vp_updL f 0 (r0.toInt64))) ∨ (r = 1 ∧ xp "java/lang/IndexOutOfBoundsException" ∧ s2 = (u, f))) (fun _ => False) := by
  refine ent_WH (own := RL) (maxL := 4) (cc := cL_nextFor) (hh := [(0, 9, 12, 13)]) (L0 := [(0, .ref (a 0)), (1, .int x), (2, .ref o)]) (by decide) rfl (wL_ok _ _ _ _ _ _) rfl (Nat.le_of_ble_eq_true rfl) rfl ?_
  intro p e s m args below meth c A C hr hE ht
  refine g_aload_n (pc' := 1) (q := 2) C dL_nextFor_0 rfl rfl rfl ?_
  refine g_iconst (pc' := 2) (v := 0) C dL_nextFor_1 rfl (by decide) ?_
  refine g_aload_n (pc' := 3) (q := 0) C dL_nextFor_2 rfl rfl rfl ?_
  refine g_iload_n (pc' := 4) (q := 1) C dL_nextFor_3 rfl rfl rfl ?_
  refine g_cxiC (pc' := 7) (As := [.int x]) (st := [.int 0, .ref o]) (cells' := 1) (slots' := 6) C hE (fr_XI (emb := fun v => (v, f)) (E1 := []) (E2 := [(o, .inl (cL, 1, .inr (.inl f)))]) (fun v => rfl) [0, 1, 2] rfl hM) gL_nextFor_X0_nextFor rfl (by decide +kernel) ⟨Nat.le_of_ble_eq_true rfl, Nat.le_of_ble_eq_true rfl⟩ 0 (by rfl) rfl (n := 1) rfl rfl (Nat.le_of_ble_eq_true rfl) dL_nextFor_4 rfl rfl rfl ⟨Nat.le_of_ble_eq_true rfl, Nat.le_of_ble_eq_true rfl⟩ (fun E hx => ?_) (fun r0 s9 hp => ?_)
  · rcases hxs E hx with rfl
    · skip
      refine g_catch C hE [] ⟨0, 9, 12, 13⟩ [] (ht.trans rfl) (fun z hz => nomatch hz) (by decide) (by decide) (by decide +kernel) rfl (by decide) (fun q => ?_)
      refine g_astore_n (pc' := 13) (L' := [(3, .ref q), (0, .ref (a 0)), (1, .int x), (2, .ref o)]) C dL_nextFor_12 rfl rfl (by decide) rfl ?_
      refine g_iconst (pc' := 14) (v := 1) C dL_nextFor_13 rfl (by decide) ?_
      exact g_xiret C hr rfl (Or.inr ⟨rfl, hx, rfl⟩) dL_nextFor_14 (by decide) (by decide)
  · obtain ⟨v, hv, rfl⟩ := hp
    refine g_i2l (pc' := 8) C dL_nextFor_7 rfl ?_
    refine g_last (pc' := 9) (n := 1) C 75 3 (wL_out _ _ _ _ _ _ _) rfl (vp_of (by decide) (by decide)) (k := 0) rfl dL_nextFor_8 rfl (wL_set _ _ _ _ _ _ _ _) ?_
    refine g_goto (tgt := 15) C dL_nextFor_9 (by decide) ?_
    refine g_iconst (pc' := 16) (v := 0) C dL_nextFor_15 rfl (by decide) ?_
    exact g_xiret C hr rfl (Or.inl ⟨rfl, r0, v, hv, rfl⟩) dL_nextFor_16 (by decide) (by decide)
set_option maxHeartbeats 4000000 in
set_option maxRecDepth 100000 in
theorem c_L_wafersAt {l : Launch} {D : va_G} {cI cZ cQ cL : ClassId} {a : Nat → Nat} {o : Nat} (u : LU) (f : Nat → Int64) (x : Int32) {posti : Int32 → LU → Prop} {xp : String → Prop} (hM : XI l yX0_wafersAt wsX0_wafersAt ({ frames := 7, cells := 1, slots := 6, locals := 103 } : Room) D (tyX cI cZ cQ) tx0 (wX cI cZ cQ a) [.ref (a 0), .int x] u posti xp) (hxs : ∀ E, xp E → E = "java/lang/IndexOutOfBoundsException") : XI l yL_wafersAt wsL_wafersAt ({ frames := 8, cells := 1, slots := 6, locals := 126 } : Room) D (tyL cI cZ cQ cL) tx0 (wL cI cZ cQ cL a o) [.ref (a 0), .int x, .ref o] (u, f) (fun (r : Int32) (s2 : LU × (Nat → Int64)) => (r = 0 ∧ ∃ r0 v, posti r0 v ∧ s2 = (v, vp_updL f 0 (r0.toInt64))) ∨ (r = 1 ∧ xp "java/lang/IndexOutOfBoundsException" ∧ s2 = (u, f))) (fun _ => False) := by
  refine ent_WH (own := RL) (maxL := 4) (cc := cL_wafersAt) (hh := [(0, 9, 12, 13)]) (L0 := [(0, .ref (a 0)), (1, .int x), (2, .ref o)]) (by decide) rfl (wL_ok _ _ _ _ _ _) rfl (Nat.le_of_ble_eq_true rfl) rfl ?_
  intro p e s m args below meth c A C hr hE ht
  refine g_aload_n (pc' := 1) (q := 2) C dL_wafersAt_0 rfl rfl rfl ?_
  refine g_iconst (pc' := 2) (v := 0) C dL_wafersAt_1 rfl (by decide) ?_
  refine g_aload_n (pc' := 3) (q := 0) C dL_wafersAt_2 rfl rfl rfl ?_
  refine g_iload_n (pc' := 4) (q := 1) C dL_wafersAt_3 rfl rfl rfl ?_
  refine g_cxiC (pc' := 7) (As := [.int x]) (st := [.int 0, .ref o]) (cells' := 1) (slots' := 6) C hE (fr_XI (emb := fun v => (v, f)) (E1 := []) (E2 := [(o, .inl (cL, 1, .inr (.inl f)))]) (fun v => rfl) [0, 1, 2] rfl hM) gL_wafersAt_X0_wafersAt rfl (by decide +kernel) ⟨Nat.le_of_ble_eq_true rfl, Nat.le_of_ble_eq_true rfl⟩ 0 (by rfl) rfl (n := 1) rfl rfl (Nat.le_of_ble_eq_true rfl) dL_wafersAt_4 rfl rfl rfl ⟨Nat.le_of_ble_eq_true rfl, Nat.le_of_ble_eq_true rfl⟩ (fun E hx => ?_) (fun r0 s9 hp => ?_)
  · rcases hxs E hx with rfl
    · skip
      refine g_catch C hE [] ⟨0, 9, 12, 13⟩ [] (ht.trans rfl) (fun z hz => nomatch hz) (by decide) (by decide) (by decide +kernel) rfl (by decide) (fun q => ?_)
      refine g_astore_n (pc' := 13) (L' := [(3, .ref q), (0, .ref (a 0)), (1, .int x), (2, .ref o)]) C dL_wafersAt_12 rfl rfl (by decide) rfl ?_
      refine g_iconst (pc' := 14) (v := 1) C dL_wafersAt_13 rfl (by decide) ?_
      exact g_xiret C hr rfl (Or.inr ⟨rfl, hx, rfl⟩) dL_wafersAt_14 (by decide) (by decide)
  · obtain ⟨v, hv, rfl⟩ := hp
    refine g_i2l (pc' := 8) C dL_wafersAt_7 rfl ?_
    refine g_last (pc' := 9) (n := 1) C 75 3 (wL_out _ _ _ _ _ _ _) rfl (vp_of (by decide) (by decide)) (k := 0) rfl dL_wafersAt_8 rfl (wL_set _ _ _ _ _ _ _ _) ?_
    refine g_goto (tgt := 15) C dL_wafersAt_9 (by decide) ?_
    refine g_iconst (pc' := 16) (v := 0) C dL_wafersAt_15 rfl (by decide) ?_
    exact g_xiret C hr rfl (Or.inl ⟨rfl, r0, v, hv, rfl⟩) dL_wafersAt_16 (by decide) (by decide)
set_option maxHeartbeats 4000000 in
set_option maxRecDepth 100000 in
theorem c_L_wafersAtByWafers {l : Launch} {D : va_G} {cI cZ cQ cL : ClassId} {a : Nat → Nat} {o : Nat} (u : LU) (f : Nat → Int64) (x : Int32) {posti : Int32 → LU → Prop} {xp : String → Prop} (hM : XI l yX0_wafersAtByWafers wsX0_wafersAtByWafers ({ frames := 7, cells := 1, slots := 6, locals := 103 } : Room) D (tyX cI cZ cQ) tx0 (wX cI cZ cQ a) [.ref (a 0), .int x] u posti xp) (hxs : ∀ E, xp E → E = "java/lang/IndexOutOfBoundsException") : XI l yL_wafersAtByWafers wsL_wafersAtByWafers ({ frames := 8, cells := 1, slots := 6, locals := 127 } : Room) D (tyL cI cZ cQ cL) tx0 (wL cI cZ cQ cL a o) [.ref (a 0), .int x, .ref o] (u, f) (fun (r : Int32) (s2 : LU × (Nat → Int64)) => (r = 0 ∧ ∃ r0 v, posti r0 v ∧ s2 = (v, vp_updL f 0 (r0.toInt64))) ∨ (r = 1 ∧ xp "java/lang/IndexOutOfBoundsException" ∧ s2 = (u, f))) (fun _ => False) := by
  refine ent_WH (own := RL) (maxL := 4) (cc := cL_wafersAtByWafers) (hh := [(0, 9, 12, 13)]) (L0 := [(0, .ref (a 0)), (1, .int x), (2, .ref o)]) (by decide) rfl (wL_ok _ _ _ _ _ _) rfl (Nat.le_of_ble_eq_true rfl) rfl ?_
  intro p e s m args below meth c A C hr hE ht
  refine g_aload_n (pc' := 1) (q := 2) C dL_wafersAtByWafers_0 rfl rfl rfl ?_
  refine g_iconst (pc' := 2) (v := 0) C dL_wafersAtByWafers_1 rfl (by decide) ?_
  refine g_aload_n (pc' := 3) (q := 0) C dL_wafersAtByWafers_2 rfl rfl rfl ?_
  refine g_iload_n (pc' := 4) (q := 1) C dL_wafersAtByWafers_3 rfl rfl rfl ?_
  refine g_cxiC (pc' := 7) (As := [.int x]) (st := [.int 0, .ref o]) (cells' := 1) (slots' := 6) C hE (fr_XI (emb := fun v => (v, f)) (E1 := []) (E2 := [(o, .inl (cL, 1, .inr (.inl f)))]) (fun v => rfl) [0, 1, 2] rfl hM) gL_wafersAtByWafers_X0_wafersAtByWafers rfl (by decide +kernel) ⟨Nat.le_of_ble_eq_true rfl, Nat.le_of_ble_eq_true rfl⟩ 0 (by rfl) rfl (n := 1) rfl rfl (Nat.le_of_ble_eq_true rfl) dL_wafersAtByWafers_4 rfl rfl rfl ⟨Nat.le_of_ble_eq_true rfl, Nat.le_of_ble_eq_true rfl⟩ (fun E hx => ?_) (fun r0 s9 hp => ?_)
  · rcases hxs E hx with rfl
    · skip
      refine g_catch C hE [] ⟨0, 9, 12, 13⟩ [] (ht.trans rfl) (fun z hz => nomatch hz) (by decide) (by decide) (by decide +kernel) rfl (by decide) (fun q => ?_)
      refine g_astore_n (pc' := 13) (L' := [(3, .ref q), (0, .ref (a 0)), (1, .int x), (2, .ref o)]) C dL_wafersAtByWafers_12 rfl rfl (by decide) rfl ?_
      refine g_iconst (pc' := 14) (v := 1) C dL_wafersAtByWafers_13 rfl (by decide) ?_
      exact g_xiret C hr rfl (Or.inr ⟨rfl, hx, rfl⟩) dL_wafersAtByWafers_14 (by decide) (by decide)
  · obtain ⟨v, hv, rfl⟩ := hp
    refine g_i2l (pc' := 8) C dL_wafersAtByWafers_7 rfl ?_
    refine g_last (pc' := 9) (n := 1) C 75 3 (wL_out _ _ _ _ _ _ _) rfl (vp_of (by decide) (by decide)) (k := 0) rfl dL_wafersAtByWafers_8 rfl (wL_set _ _ _ _ _ _ _ _) ?_
    refine g_goto (tgt := 15) C dL_wafersAtByWafers_9 (by decide) ?_
    refine g_iconst (pc' := 16) (v := 0) C dL_wafersAtByWafers_15 rfl (by decide) ?_
    exact g_xiret C hr rfl (Or.inl ⟨rfl, r0, v, hv, rfl⟩) dL_wafersAtByWafers_16 (by decide) (by decide)
set_option maxHeartbeats 4000000 in
set_option maxRecDepth 100000 in
theorem c_L_lotOf {l : Launch} {D : va_G} {cI cZ cQ cL : ClassId} {a : Nat → Nat} {o : Nat} (u : LU) (f : Nat → Int64) (x : Int32) {posti : Int32 → LU → Prop} {xp : String → Prop} (hM : XI l yX0_lotOf wsX0_lotOf ({ frames := 7, cells := 1, slots := 6, locals := 103 } : Room) D (tyX cI cZ cQ) tx0 (wX cI cZ cQ a) [.ref (a 0), .int x] u posti xp) (hxs : ∀ E, xp E → E = "java/lang/IndexOutOfBoundsException") : XI l yL_lotOf wsL_lotOf ({ frames := 8, cells := 1, slots := 6, locals := 124 } : Room) D (tyL cI cZ cQ cL) tx0 (wL cI cZ cQ cL a o) [.ref (a 0), .int x, .ref o] (u, f) (fun (r : Int32) (s2 : LU × (Nat → Int64)) => (r = 0 ∧ ∃ r0 v, posti r0 v ∧ s2 = (v, vp_updL f 0 (r0.toInt64))) ∨ (r = 1 ∧ xp "java/lang/IndexOutOfBoundsException" ∧ s2 = (u, f))) (fun _ => False) := by
  refine ent_WH (own := RL) (maxL := 4) (cc := cL_lotOf) (hh := [(0, 9, 12, 13)]) (L0 := [(0, .ref (a 0)), (1, .int x), (2, .ref o)]) (by decide) rfl (wL_ok _ _ _ _ _ _) rfl (Nat.le_of_ble_eq_true rfl) rfl ?_
  intro p e s m args below meth c A C hr hE ht
  refine g_aload_n (pc' := 1) (q := 2) C dL_lotOf_0 rfl rfl rfl ?_
  refine g_iconst (pc' := 2) (v := 0) C dL_lotOf_1 rfl (by decide) ?_
  refine g_aload_n (pc' := 3) (q := 0) C dL_lotOf_2 rfl rfl rfl ?_
  refine g_iload_n (pc' := 4) (q := 1) C dL_lotOf_3 rfl rfl rfl ?_
  refine g_cxiC (pc' := 7) (As := [.int x]) (st := [.int 0, .ref o]) (cells' := 1) (slots' := 6) C hE (fr_XI (emb := fun v => (v, f)) (E1 := []) (E2 := [(o, .inl (cL, 1, .inr (.inl f)))]) (fun v => rfl) [0, 1, 2] rfl hM) gL_lotOf_X0_lotOf rfl (by decide +kernel) ⟨Nat.le_of_ble_eq_true rfl, Nat.le_of_ble_eq_true rfl⟩ 0 (by rfl) rfl (n := 1) rfl rfl (Nat.le_of_ble_eq_true rfl) dL_lotOf_4 rfl rfl rfl ⟨Nat.le_of_ble_eq_true rfl, Nat.le_of_ble_eq_true rfl⟩ (fun E hx => ?_) (fun r0 s9 hp => ?_)
  · rcases hxs E hx with rfl
    · skip
      refine g_catch C hE [] ⟨0, 9, 12, 13⟩ [] (ht.trans rfl) (fun z hz => nomatch hz) (by decide) (by decide) (by decide +kernel) rfl (by decide) (fun q => ?_)
      refine g_astore_n (pc' := 13) (L' := [(3, .ref q), (0, .ref (a 0)), (1, .int x), (2, .ref o)]) C dL_lotOf_12 rfl rfl (by decide) rfl ?_
      refine g_iconst (pc' := 14) (v := 1) C dL_lotOf_13 rfl (by decide) ?_
      exact g_xiret C hr rfl (Or.inr ⟨rfl, hx, rfl⟩) dL_lotOf_14 (by decide) (by decide)
  · obtain ⟨v, hv, rfl⟩ := hp
    refine g_i2l (pc' := 8) C dL_lotOf_7 rfl ?_
    refine g_last (pc' := 9) (n := 1) C 75 3 (wL_out _ _ _ _ _ _ _) rfl (vp_of (by decide) (by decide)) (k := 0) rfl dL_lotOf_8 rfl (wL_set _ _ _ _ _ _ _ _) ?_
    refine g_goto (tgt := 15) C dL_lotOf_9 (by decide) ?_
    refine g_iconst (pc' := 16) (v := 0) C dL_lotOf_15 rfl (by decide) ?_
    exact g_xiret C hr rfl (Or.inl ⟨rfl, r0, v, hv, rfl⟩) dL_lotOf_16 (by decide) (by decide)
set_option maxHeartbeats 4000000 in
set_option maxRecDepth 100000 in
theorem c_L_parentOf {l : Launch} {D : va_G} {cI cZ cQ cL : ClassId} {a : Nat → Nat} {o : Nat} (u : LU) (f : Nat → Int64) (x : Int32) {posti : Int32 → LU → Prop} {xp : String → Prop} (hM : XI l yX0_parentOf wsX0_parentOf ({ frames := 7, cells := 1, slots := 6, locals := 103 } : Room) D (tyX cI cZ cQ) tx0 (wX cI cZ cQ a) [.ref (a 0), .int x] u posti xp) (hxs : ∀ E, xp E → E = "java/lang/IndexOutOfBoundsException") : XI l yL_parentOf wsL_parentOf ({ frames := 8, cells := 1, slots := 6, locals := 124 } : Room) D (tyL cI cZ cQ cL) tx0 (wL cI cZ cQ cL a o) [.ref (a 0), .int x, .ref o] (u, f) (fun (r : Int32) (s2 : LU × (Nat → Int64)) => (r = 0 ∧ ∃ r0 v, posti r0 v ∧ s2 = (v, vp_updL f 0 (r0.toInt64))) ∨ (r = 1 ∧ xp "java/lang/IndexOutOfBoundsException" ∧ s2 = (u, f))) (fun _ => False) := by
  refine ent_WH (own := RL) (maxL := 4) (cc := cL_parentOf) (hh := [(0, 9, 12, 13)]) (L0 := [(0, .ref (a 0)), (1, .int x), (2, .ref o)]) (by decide) rfl (wL_ok _ _ _ _ _ _) rfl (Nat.le_of_ble_eq_true rfl) rfl ?_
  intro p e s m args below meth c A C hr hE ht
  refine g_aload_n (pc' := 1) (q := 2) C dL_parentOf_0 rfl rfl rfl ?_
  refine g_iconst (pc' := 2) (v := 0) C dL_parentOf_1 rfl (by decide) ?_
  refine g_aload_n (pc' := 3) (q := 0) C dL_parentOf_2 rfl rfl rfl ?_
  refine g_iload_n (pc' := 4) (q := 1) C dL_parentOf_3 rfl rfl rfl ?_
  refine g_cxiC (pc' := 7) (As := [.int x]) (st := [.int 0, .ref o]) (cells' := 1) (slots' := 6) C hE (fr_XI (emb := fun v => (v, f)) (E1 := []) (E2 := [(o, .inl (cL, 1, .inr (.inl f)))]) (fun v => rfl) [0, 1, 2] rfl hM) gL_parentOf_X0_parentOf rfl (by decide +kernel) ⟨Nat.le_of_ble_eq_true rfl, Nat.le_of_ble_eq_true rfl⟩ 0 (by rfl) rfl (n := 1) rfl rfl (Nat.le_of_ble_eq_true rfl) dL_parentOf_4 rfl rfl rfl ⟨Nat.le_of_ble_eq_true rfl, Nat.le_of_ble_eq_true rfl⟩ (fun E hx => ?_) (fun r0 s9 hp => ?_)
  · rcases hxs E hx with rfl
    · skip
      refine g_catch C hE [] ⟨0, 9, 12, 13⟩ [] (ht.trans rfl) (fun z hz => nomatch hz) (by decide) (by decide) (by decide +kernel) rfl (by decide) (fun q => ?_)
      refine g_astore_n (pc' := 13) (L' := [(3, .ref q), (0, .ref (a 0)), (1, .int x), (2, .ref o)]) C dL_parentOf_12 rfl rfl (by decide) rfl ?_
      refine g_iconst (pc' := 14) (v := 1) C dL_parentOf_13 rfl (by decide) ?_
      exact g_xiret C hr rfl (Or.inr ⟨rfl, hx, rfl⟩) dL_parentOf_14 (by decide) (by decide)
  · obtain ⟨v, hv, rfl⟩ := hp
    refine g_i2l (pc' := 8) C dL_parentOf_7 rfl ?_
    refine g_last (pc' := 9) (n := 1) C 75 3 (wL_out _ _ _ _ _ _ _) rfl (vp_of (by decide) (by decide)) (k := 0) rfl dL_parentOf_8 rfl (wL_set _ _ _ _ _ _ _ _) ?_
    refine g_goto (tgt := 15) C dL_parentOf_9 (by decide) ?_
    refine g_iconst (pc' := 16) (v := 0) C dL_parentOf_15 rfl (by decide) ?_
    exact g_xiret C hr rfl (Or.inl ⟨rfl, r0, v, hv, rfl⟩) dL_parentOf_16 (by decide) (by decide)
set_option maxHeartbeats 4000000 in
set_option maxRecDepth 100000 in
theorem c_L_common {l : Launch} {D : va_G} {cI cZ cQ cL : ClassId} {a : Nat → Nat} {o : Nat} (u : LU) (f : Nat → Int64) (x : Int32) (y : Int32) {posti : Int32 → LU → Prop} {xp : String → Prop} (hM : XI l yX0_common wsX0_common ({ frames := 7, cells := 2, slots := 12, locals := 103 } : Room) D (tyX cI cZ cQ) tx0 (wX cI cZ cQ a) [.ref (a 0), .int x, .int y] u posti xp) (hxs : ∀ E, xp E → E = "java/lang/IndexOutOfBoundsException") : XI l yL_common wsL_common ({ frames := 8, cells := 2, slots := 12, locals := 128 } : Room) D (tyL cI cZ cQ cL) tx0 (wL cI cZ cQ cL a o) [.ref (a 0), .int x, .int y, .ref o] (u, f) (fun (r : Int32) (s2 : LU × (Nat → Int64)) => (r = 0 ∧ ∃ r0 v, posti r0 v ∧ s2 = (v, vp_updL f 0 (r0.toInt64))) ∨ (r = 1 ∧ xp "java/lang/IndexOutOfBoundsException" ∧ s2 = (u, f))) (fun _ => False) := by
  refine ent_WH (own := RL) (maxL := 5) (cc := cL_common) (hh := [(0, 10, 13, 13)]) (L0 := [(0, .ref (a 0)), (1, .int x), (2, .int y), (3, .ref o)]) (by decide) rfl (wL_ok _ _ _ _ _ _) rfl (Nat.le_of_ble_eq_true rfl) rfl ?_
  intro p e s m args below meth c A C hr hE ht
  refine g_aload_n (pc' := 1) (q := 3) C dL_common_0 rfl rfl rfl ?_
  refine g_iconst (pc' := 2) (v := 0) C dL_common_1 rfl (by decide) ?_
  refine g_aload_n (pc' := 3) (q := 0) C dL_common_2 rfl rfl rfl ?_
  refine g_iload_n (pc' := 4) (q := 1) C dL_common_3 rfl rfl rfl ?_
  refine g_iload_n (pc' := 5) (q := 2) C dL_common_4 rfl rfl rfl ?_
  refine g_cxiC (pc' := 8) (As := [.int x, .int y]) (st := [.int 0, .ref o]) (cells' := 2) (slots' := 12) C hE (fr_XI (emb := fun v => (v, f)) (E1 := []) (E2 := [(o, .inl (cL, 1, .inr (.inl f)))]) (fun v => rfl) [0, 1, 2] rfl hM) gL_common_X0_common rfl (by decide +kernel) ⟨Nat.le_of_ble_eq_true rfl, Nat.le_of_ble_eq_true rfl⟩ 0 (by rfl) rfl (n := 2) rfl rfl (Nat.le_of_ble_eq_true rfl) dL_common_5 rfl rfl rfl ⟨Nat.le_of_ble_eq_true rfl, Nat.le_of_ble_eq_true rfl⟩ (fun E hx => ?_) (fun r0 s9 hp => ?_)
  · rcases hxs E hx with rfl
    · skip
      refine g_catch C hE [] ⟨0, 10, 13, 13⟩ [] (ht.trans rfl) (fun z hz => nomatch hz) (by decide) (by decide) (by decide +kernel) rfl (by decide) (fun q => ?_)
      refine g_astore (pc' := 15) (L' := [(4, .ref q), (0, .ref (a 0)), (1, .int x), (2, .int y), (3, .ref o)]) C dL_common_13 rfl (by decide) rfl ?_
      refine g_iconst (pc' := 16) (v := 1) C dL_common_15 rfl (by decide) ?_
      exact g_xiret C hr rfl (Or.inr ⟨rfl, hx, rfl⟩) dL_common_16 (by decide) (by decide)
  · obtain ⟨v, hv, rfl⟩ := hp
    refine g_i2l (pc' := 9) C dL_common_8 rfl ?_
    refine g_last (pc' := 10) (n := 1) C 75 3 (wL_out _ _ _ _ _ _ _) rfl (vp_of (by decide) (by decide)) (k := 0) rfl dL_common_9 rfl (wL_set _ _ _ _ _ _ _ _) ?_
    refine g_goto (tgt := 17) C dL_common_10 (by decide) ?_
    refine g_iconst (pc' := 18) (v := 0) C dL_common_17 rfl (by decide) ?_
    exact g_xiret C hr rfl (Or.inl ⟨rfl, r0, v, hv, rfl⟩) dL_common_18 (by decide) (by decide)
set_option maxHeartbeats 4000000 in
set_option maxRecDepth 100000 in
theorem c_L_path {l : Launch} {D : va_G} {cI cZ cQ cL : ClassId} {a : Nat → Nat} {o : Nat} (u : LU) (f : Nat → Int64) (x : Int32) {posti : Int32 → LU → Prop} {xp : String → Prop} (hM : XI l yX0_path wsX0_path ({ frames := 7, cells := 1, slots := 6, locals := 103 } : Room) D (tyX cI cZ cQ) tx0 (wX cI cZ cQ a) [.ref (a 0), .int x] u posti xp) (hxs : ∀ E, xp E → E = "java/lang/IndexOutOfBoundsException") : XI l yL_path wsL_path ({ frames := 8, cells := 1, slots := 6, locals := 124 } : Room) D (tyL cI cZ cQ cL) tx0 (wL cI cZ cQ cL a o) [.ref (a 0), .int x, .ref o] (u, f) (fun (r : Int32) (s2 : LU × (Nat → Int64)) => (r = 0 ∧ ∃ r0 v, posti r0 v ∧ s2 = (v, vp_updL f 0 (r0.toInt64))) ∨ (r = 1 ∧ xp "java/lang/IndexOutOfBoundsException" ∧ s2 = (u, f))) (fun _ => False) := by
  refine ent_WH (own := RL) (maxL := 4) (cc := cL_path) (hh := [(0, 9, 12, 13)]) (L0 := [(0, .ref (a 0)), (1, .int x), (2, .ref o)]) (by decide) rfl (wL_ok _ _ _ _ _ _) rfl (Nat.le_of_ble_eq_true rfl) rfl ?_
  intro p e s m args below meth c A C hr hE ht
  refine g_aload_n (pc' := 1) (q := 2) C dL_path_0 rfl rfl rfl ?_
  refine g_iconst (pc' := 2) (v := 0) C dL_path_1 rfl (by decide) ?_
  refine g_aload_n (pc' := 3) (q := 0) C dL_path_2 rfl rfl rfl ?_
  refine g_iload_n (pc' := 4) (q := 1) C dL_path_3 rfl rfl rfl ?_
  refine g_cxiC (pc' := 7) (As := [.int x]) (st := [.int 0, .ref o]) (cells' := 1) (slots' := 6) C hE (fr_XI (emb := fun v => (v, f)) (E1 := []) (E2 := [(o, .inl (cL, 1, .inr (.inl f)))]) (fun v => rfl) [0, 1, 2] rfl hM) gL_path_X0_path rfl (by decide +kernel) ⟨Nat.le_of_ble_eq_true rfl, Nat.le_of_ble_eq_true rfl⟩ 0 (by rfl) rfl (n := 1) rfl rfl (Nat.le_of_ble_eq_true rfl) dL_path_4 rfl rfl rfl ⟨Nat.le_of_ble_eq_true rfl, Nat.le_of_ble_eq_true rfl⟩ (fun E hx => ?_) (fun r0 s9 hp => ?_)
  · rcases hxs E hx with rfl
    · skip
      refine g_catch C hE [] ⟨0, 9, 12, 13⟩ [] (ht.trans rfl) (fun z hz => nomatch hz) (by decide) (by decide) (by decide +kernel) rfl (by decide) (fun q => ?_)
      refine g_astore_n (pc' := 13) (L' := [(3, .ref q), (0, .ref (a 0)), (1, .int x), (2, .ref o)]) C dL_path_12 rfl rfl (by decide) rfl ?_
      refine g_iconst (pc' := 14) (v := 1) C dL_path_13 rfl (by decide) ?_
      exact g_xiret C hr rfl (Or.inr ⟨rfl, hx, rfl⟩) dL_path_14 (by decide) (by decide)
  · obtain ⟨v, hv, rfl⟩ := hp
    refine g_i2l (pc' := 8) C dL_path_7 rfl ?_
    refine g_last (pc' := 9) (n := 1) C 75 3 (wL_out _ _ _ _ _ _ _) rfl (vp_of (by decide) (by decide)) (k := 0) rfl dL_path_8 rfl (wL_set _ _ _ _ _ _ _ _) ?_
    refine g_goto (tgt := 15) C dL_path_9 (by decide) ?_
    refine g_iconst (pc' := 16) (v := 0) C dL_path_15 rfl (by decide) ?_
    exact g_xiret C hr rfl (Or.inl ⟨rfl, r0, v, hv, rfl⟩) dL_path_16 (by decide) (by decide)
set_option maxHeartbeats 4000000 in
set_option maxRecDepth 100000 in
theorem c_L_pathAt {l : Launch} {D : va_G} {cI cZ cQ cL : ClassId} {a : Nat → Nat} {o : Nat} (u : LU) (f : Nat → Int64) (x : Int32) (y : Int32) {posti : Int32 → LU → Prop} {xp : String → Prop} (hM : XI l yX0_pathAt wsX0_pathAt ({ frames := 7, cells := 2, slots := 12, locals := 103 } : Room) D (tyX cI cZ cQ) tx0 (wX cI cZ cQ a) [.ref (a 0), .int x, .int y] u posti xp) (hxs : ∀ E, xp E → E = "java/lang/IndexOutOfBoundsException") : XI l yL_pathAt wsL_pathAt ({ frames := 8, cells := 2, slots := 12, locals := 125 } : Room) D (tyL cI cZ cQ cL) tx0 (wL cI cZ cQ cL a o) [.ref (a 0), .int x, .int y, .ref o] (u, f) (fun (r : Int32) (s2 : LU × (Nat → Int64)) => (r = 0 ∧ ∃ r0 v, posti r0 v ∧ s2 = (v, vp_updL f 0 (r0.toInt64))) ∨ (r = 1 ∧ xp "java/lang/IndexOutOfBoundsException" ∧ s2 = (u, f))) (fun _ => False) := by
  refine ent_WH (own := RL) (maxL := 5) (cc := cL_pathAt) (hh := [(0, 10, 13, 13)]) (L0 := [(0, .ref (a 0)), (1, .int x), (2, .int y), (3, .ref o)]) (by decide) rfl (wL_ok _ _ _ _ _ _) rfl (Nat.le_of_ble_eq_true rfl) rfl ?_
  intro p e s m args below meth c A C hr hE ht
  refine g_aload_n (pc' := 1) (q := 3) C dL_pathAt_0 rfl rfl rfl ?_
  refine g_iconst (pc' := 2) (v := 0) C dL_pathAt_1 rfl (by decide) ?_
  refine g_aload_n (pc' := 3) (q := 0) C dL_pathAt_2 rfl rfl rfl ?_
  refine g_iload_n (pc' := 4) (q := 1) C dL_pathAt_3 rfl rfl rfl ?_
  refine g_iload_n (pc' := 5) (q := 2) C dL_pathAt_4 rfl rfl rfl ?_
  refine g_cxiC (pc' := 8) (As := [.int x, .int y]) (st := [.int 0, .ref o]) (cells' := 2) (slots' := 12) C hE (fr_XI (emb := fun v => (v, f)) (E1 := []) (E2 := [(o, .inl (cL, 1, .inr (.inl f)))]) (fun v => rfl) [0, 1, 2] rfl hM) gL_pathAt_X0_pathAt rfl (by decide +kernel) ⟨Nat.le_of_ble_eq_true rfl, Nat.le_of_ble_eq_true rfl⟩ 0 (by rfl) rfl (n := 2) rfl rfl (Nat.le_of_ble_eq_true rfl) dL_pathAt_5 rfl rfl rfl ⟨Nat.le_of_ble_eq_true rfl, Nat.le_of_ble_eq_true rfl⟩ (fun E hx => ?_) (fun r0 s9 hp => ?_)
  · rcases hxs E hx with rfl
    · skip
      refine g_catch C hE [] ⟨0, 10, 13, 13⟩ [] (ht.trans rfl) (fun z hz => nomatch hz) (by decide) (by decide) (by decide +kernel) rfl (by decide) (fun q => ?_)
      refine g_astore (pc' := 15) (L' := [(4, .ref q), (0, .ref (a 0)), (1, .int x), (2, .int y), (3, .ref o)]) C dL_pathAt_13 rfl (by decide) rfl ?_
      refine g_iconst (pc' := 16) (v := 1) C dL_pathAt_15 rfl (by decide) ?_
      exact g_xiret C hr rfl (Or.inr ⟨rfl, hx, rfl⟩) dL_pathAt_16 (by decide) (by decide)
  · obtain ⟨v, hv, rfl⟩ := hp
    refine g_i2l (pc' := 9) C dL_pathAt_8 rfl ?_
    refine g_last (pc' := 10) (n := 1) C 75 3 (wL_out _ _ _ _ _ _ _) rfl (vp_of (by decide) (by decide)) (k := 0) rfl dL_pathAt_9 rfl (wL_set _ _ _ _ _ _ _ _) ?_
    refine g_goto (tgt := 17) C dL_pathAt_10 (by decide) ?_
    refine g_iconst (pc' := 18) (v := 0) C dL_pathAt_17 rfl (by decide) ?_
    exact g_xiret C hr rfl (Or.inl ⟨rfl, r0, v, hv, rfl⟩) dL_pathAt_18 (by decide) (by decide)
