set_option maxHeartbeats 4000000 in
set_option maxRecDepth 100000 in
theorem c_X0_isWithin {l : Launch} {D : va_G} {cI cZ cQ : ClassId} {a : Nat → Nat} (u : LU) (x lo hi : Int32) : KI l yX0_isWithin wsX0_isWithin ({ frames := 0, cells := 0, slots := 0, locals := 0 } : Room) D (tyX cI cZ cQ) (wX cI cZ cQ a) [.int x, .int lo, .int hi] u (fun (r : Int32) (u' : LU) => r = bP (lo.toInt ≤ x.toInt ∧ x.toInt ≤ hi.toInt) ∧ u' = u) := by
  refine ent_I (own := RX0) (maxL := 3) (cc := cX0_isWithin) (L0 := [(0, .int x), (1, .int lo), (2, .int hi)]) (by decide) rfl (wX_ok _ _ _ _) rfl (Nat.le_of_ble_eq_true rfl) rfl ?_
  intro p e s m args below meth c A C hr
  refine g_iload_n (pc' := 1) (q := 0) C dX0_isWithin_0 rfl rfl rfl ?_
  refine g_iload_n (pc' := 2) (q := 1) C dX0_isWithin_1 rfl rfl rfl ?_
  refine g_icmp_lt (tgt := 14) (pc' := 5) C dX0_isWithin_2 rfl (by decide) (fun (c_1 : (x).toInt < (lo).toInt) => ?_) (fun (c_1 : ¬ ((x).toInt < (lo).toInt)) => ?_)
  · skip
    refine g_iconst (pc' := 15) (v := 0) C dX0_isWithin_14 rfl (by decide) ?_
    exact g_iret C hr (by decide) ⟨(bP_f (by omega)).symm, rfl⟩ dX0_isWithin_15
  · skip
    refine g_iload_n (pc' := 6) (q := 0) C dX0_isWithin_5 rfl rfl rfl ?_
    refine g_iload_n (pc' := 7) (q := 2) C dX0_isWithin_6 rfl rfl rfl ?_
    refine g_icmp_gt (tgt := 14) (pc' := 10) C dX0_isWithin_7 rfl (by decide) (fun (c_2 : (hi).toInt < (x).toInt) => ?_) (fun (c_2 : ¬ ((hi).toInt < (x).toInt)) => ?_)
    · skip
      refine g_iconst (pc' := 15) (v := 0) C dX0_isWithin_14 rfl (by decide) ?_
      exact g_iret C hr (by decide) ⟨(bP_f (by omega)).symm, rfl⟩ dX0_isWithin_15
    · skip
      refine g_iconst (pc' := 11) (v := 1) C dX0_isWithin_10 rfl (by decide) ?_
      refine g_goto (tgt := 15) C dX0_isWithin_11 (by decide) ?_
      exact g_iret C hr (by decide) ⟨(bP_t (by omega)).symm, rfl⟩ dX0_isWithin_15
set_option maxHeartbeats 4000000 in
set_option maxRecDepth 100000 in
theorem c_X0_isStep {l : Launch} {D : va_G} {cI cZ cQ : ClassId} {a : Nat → Nat} (u : LU) (x : Int32) : KI l yX0_isStep wsX0_isStep ({ frames := 0, cells := 0, slots := 0, locals := 0 } : Room) D (tyX cI cZ cQ) (wX cI cZ cQ a) [.ref (a 0), .int x] u (fun (r : Int32) (u' : LU) => r = bP (0 ≤ x.toInt ∧ x.toInt < (u 0 4).toInt) ∧ u' = u) := by
  refine ent_I (own := RX0) (maxL := 2) (cc := cX0_isStep) (L0 := [(0, .ref (a 0)), (1, .int x)]) (by decide) rfl (wX_ok _ _ _ _) rfl (Nat.le_of_ble_eq_true rfl) rfl ?_
  intro p e s m args below meth c A C hr
  have FX : ∀ w ∈ wsX00, w.before args s = true := fun w h => C.2.2.2.2.1 w ((by decide +kernel : ∀ w ∈ wsX00, w ∈ wsX0_isStep) w h)
  refine g_iload_n (pc' := 1) (q := 1) C dX0_isStep_0 rfl rfl rfl ?_
  refine g_if_lt (tgt := 16) (pc' := 4) C dX0_isStep_1 rfl (by decide) (fun (c_1 : (x).toInt < 0) => ?_) (fun (c_1 : ¬ ((x).toInt < 0)) => ?_)
  · skip
    refine g_iconst (pc' := 17) (v := 0) C dX0_isStep_16 rfl (by decide) ?_
    exact g_iret C hr (by decide) ⟨(bP_f (by omega)).symm, rfl⟩ dX0_isStep_17
  · skip
    refine g_iload_n (pc' := 5) (q := 1) C dX0_isStep_4 rfl rfl rfl ?_
    refine g_aload_n (pc' := 6) (q := 0) C dX0_isStep_5 rfl rfl rfl ?_
    refine g_get (pc' := 9) (v := .int (u 0 4)) C FX 0 (by rfl) rfl 4 (by decide) (by decide +kernel) rfl (by rfl) dX0_isStep_6 rfl ?_
    refine g_icmp_ge (tgt := 16) (pc' := 12) C dX0_isStep_9 rfl (by decide) (fun (c_2 : (u 0 4).toInt ≤ (x).toInt) => ?_) (fun (c_2 : ¬ ((u 0 4).toInt ≤ (x).toInt)) => ?_)
    · skip
      refine g_iconst (pc' := 17) (v := 0) C dX0_isStep_16 rfl (by decide) ?_
      exact g_iret C hr (by decide) ⟨(bP_f (by omega)).symm, rfl⟩ dX0_isStep_17
    · skip
      refine g_iconst (pc' := 13) (v := 1) C dX0_isStep_12 rfl (by decide) ?_
      refine g_goto (tgt := 17) C dX0_isStep_13 (by decide) ?_
      exact g_iret C hr (by decide) ⟨(bP_t (by omega)).symm, rfl⟩ dX0_isStep_17
set_option maxHeartbeats 4000000 in
set_option maxRecDepth 100000 in
theorem c_X0_isLot {l : Launch} {D : va_G} {cI cZ cQ : ClassId} {a : Nat → Nat} (u : LU) (x : Int32) : KI l yX0_isLot wsX0_isLot ({ frames := 0, cells := 0, slots := 0, locals := 0 } : Room) D (tyX cI cZ cQ) (wX cI cZ cQ a) [.ref (a 0), .int x] u (fun (r : Int32) (u' : LU) => r = bP (0 ≤ x.toInt ∧ x.toInt < (u 0 12).toInt) ∧ u' = u) := by
  refine ent_I (own := RX0) (maxL := 2) (cc := cX0_isLot) (L0 := [(0, .ref (a 0)), (1, .int x)]) (by decide) rfl (wX_ok _ _ _ _) rfl (Nat.le_of_ble_eq_true rfl) rfl ?_
  intro p e s m args below meth c A C hr
  have FX : ∀ w ∈ wsX00, w.before args s = true := fun w h => C.2.2.2.2.1 w ((by decide +kernel : ∀ w ∈ wsX00, w ∈ wsX0_isLot) w h)
  refine g_iload_n (pc' := 1) (q := 1) C dX0_isLot_0 rfl rfl rfl ?_
  refine g_if_lt (tgt := 16) (pc' := 4) C dX0_isLot_1 rfl (by decide) (fun (c_1 : (x).toInt < 0) => ?_) (fun (c_1 : ¬ ((x).toInt < 0)) => ?_)
  · skip
    refine g_iconst (pc' := 17) (v := 0) C dX0_isLot_16 rfl (by decide) ?_
    exact g_iret C hr (by decide) ⟨(bP_f (by omega)).symm, rfl⟩ dX0_isLot_17
  · skip
    refine g_iload_n (pc' := 5) (q := 1) C dX0_isLot_4 rfl rfl rfl ?_
    refine g_aload_n (pc' := 6) (q := 0) C dX0_isLot_5 rfl rfl rfl ?_
    refine g_get (pc' := 9) (v := .int (u 0 12)) C FX 0 (by rfl) rfl 12 (by decide) (by decide +kernel) rfl (by rfl) dX0_isLot_6 rfl ?_
    refine g_icmp_ge (tgt := 16) (pc' := 12) C dX0_isLot_9 rfl (by decide) (fun (c_2 : (u 0 12).toInt ≤ (x).toInt) => ?_) (fun (c_2 : ¬ ((u 0 12).toInt ≤ (x).toInt)) => ?_)
    · skip
      refine g_iconst (pc' := 17) (v := 0) C dX0_isLot_16 rfl (by decide) ?_
      exact g_iret C hr (by decide) ⟨(bP_f (by omega)).symm, rfl⟩ dX0_isLot_17
    · skip
      refine g_iconst (pc' := 13) (v := 1) C dX0_isLot_12 rfl (by decide) ?_
      refine g_goto (tgt := 17) C dX0_isLot_13 (by decide) ?_
      exact g_iret C hr (by decide) ⟨(bP_t (by omega)).symm, rfl⟩ dX0_isLot_17
set_option maxHeartbeats 4000000 in
set_option maxRecDepth 100000 in
theorem c_X0_checkTool {l : Launch} {D : va_G} {cI cZ cQ : ClassId} {a : Nat → Nat} (u : LU) (x : Int32) (hx : 0 ≤ x.toInt ∧ x.toInt ≤ 5) : KV l yX0_checkTool wsX0_checkTool ({ frames := 1, cells := 0, slots := 0, locals := 22 } : Room) D (tyX cI cZ cQ) (wX cI cZ cQ a) [.int x] u (fun (u' : LU) => (0 ≤ x.toInt ∧ x.toInt ≤ 5) ∧ u' = u) := by
  refine ent_V (own := RX0) (maxL := 1) (cc := cX0_checkTool) (L0 := [(0, .int x)]) (by decide) rfl (wX_ok _ _ _ _) rfl (Nat.le_of_ble_eq_true rfl) rfl ?_
  intro p e s m args below meth c A C hr
  refine g_iload_n (pc' := 1) (q := 0) C dX0_checkTool_0 rfl rfl rfl ?_
  refine g_iconst (pc' := 2) (v := 0) C dX0_checkTool_1 rfl (by decide) ?_
  refine g_iconst (pc' := 3) (v := 5) C dX0_checkTool_2 rfl (by decide) ?_
  refine g_calliS (pc' := 6) (As := [.int x, .int 0, .int 5]) (st := []) (cells' := 0) (slots' := 0) C (c_X0_isWithin _ x 0 5) gX0_checkTool_X0_isWithin rfl (by decide +kernel) ⟨Nat.le_of_ble_eq_true rfl, Nat.le_of_ble_eq_true rfl⟩ (n := 3) rfl rfl (Nat.le_of_ble_eq_true rfl) dX0_checkTool_3 rfl rfl rfl ⟨Nat.le_of_ble_eq_true rfl, Nat.le_of_ble_eq_true rfl⟩ (fun r_1 u_1 h_2 => ?_)
  obtain ⟨rfl, h_2⟩ := h_2
  refine g_st h_2 ?_
  refine g_ifP_ne (tgt := 19) (pc' := 9) C dX0_checkTool_6 rfl (by decide) (fun (c_3 : 0 ≤ x.toInt ∧ x.toInt ≤ 5) => ?_) (fun (c_3 : ¬ (0 ≤ x.toInt ∧ x.toInt ≤ 5)) => ?_)
  · skip
    exact g_vret C hr ⟨by assumption, rfl⟩ dX0_checkTool_19
  · skip
    exact False.elim (by omega)
set_option maxHeartbeats 4000000 in
set_option maxRecDepth 100000 in
theorem c_X0_checkStep {l : Launch} {D : va_G} {cI cZ cQ : ClassId} {a : Nat → Nat} (u : LU) (x : Int32) (hx : 0 ≤ x.toInt ∧ x.toInt < (u 0 4).toInt) : KV l yX0_checkStep wsX0_checkStep ({ frames := 1, cells := 0, slots := 0, locals := 21 } : Room) D (tyX cI cZ cQ) (wX cI cZ cQ a) [.ref (a 0), .int x] u (fun (u' : LU) => (0 ≤ x.toInt ∧ x.toInt < (u 0 4).toInt) ∧ u' = u) := by
  refine ent_V (own := RX0) (maxL := 2) (cc := cX0_checkStep) (L0 := [(0, .ref (a 0)), (1, .int x)]) (by decide) rfl (wX_ok _ _ _ _) rfl (Nat.le_of_ble_eq_true rfl) rfl ?_
  intro p e s m args below meth c A C hr
  refine g_aload_n (pc' := 1) (q := 0) C dX0_checkStep_0 rfl rfl rfl ?_
  refine g_iload_n (pc' := 2) (q := 1) C dX0_checkStep_1 rfl rfl rfl ?_
  refine g_calliV (pc' := 5) (As := [.int x]) (st := []) (cells' := 0) (slots' := 0) C (c_X0_isStep _ x) gX0_checkStep_X0_isStep rfl (by decide +kernel) ⟨Nat.le_of_ble_eq_true rfl, Nat.le_of_ble_eq_true rfl⟩ 0 (by rfl) rfl (n := 1) rfl rfl (Nat.le_of_ble_eq_true rfl) dX0_checkStep_2 rfl rfl rfl ⟨Nat.le_of_ble_eq_true rfl, Nat.le_of_ble_eq_true rfl⟩ (fun r_1 u_1 h_2 => ?_)
  obtain ⟨rfl, h_2⟩ := h_2
  refine g_st h_2 ?_
  refine g_ifP_ne (tgt := 18) (pc' := 8) C dX0_checkStep_5 rfl (by decide) (fun (c_3 : 0 ≤ x.toInt ∧ x.toInt < (u 0 4).toInt) => ?_) (fun (c_3 : ¬ (0 ≤ x.toInt ∧ x.toInt < (u 0 4).toInt)) => ?_)
  · skip
    exact g_vret C hr ⟨by omega, rfl⟩ dX0_checkStep_18
  · skip
    exact False.elim (by omega)
set_option maxHeartbeats 4000000 in
set_option maxRecDepth 100000 in
theorem c_X0_checkLot {l : Launch} {D : va_G} {cI cZ cQ : ClassId} {a : Nat → Nat} (u : LU) (x : Int32) (hx : 0 ≤ x.toInt ∧ x.toInt < (u 0 12).toInt) : KV l yX0_checkLot wsX0_checkLot ({ frames := 1, cells := 0, slots := 0, locals := 21 } : Room) D (tyX cI cZ cQ) (wX cI cZ cQ a) [.ref (a 0), .int x] u (fun (u' : LU) => (0 ≤ x.toInt ∧ x.toInt < (u 0 12).toInt) ∧ u' = u) := by
  refine ent_V (own := RX0) (maxL := 2) (cc := cX0_checkLot) (L0 := [(0, .ref (a 0)), (1, .int x)]) (by decide) rfl (wX_ok _ _ _ _) rfl (Nat.le_of_ble_eq_true rfl) rfl ?_
  intro p e s m args below meth c A C hr
  refine g_aload_n (pc' := 1) (q := 0) C dX0_checkLot_0 rfl rfl rfl ?_
  refine g_iload_n (pc' := 2) (q := 1) C dX0_checkLot_1 rfl rfl rfl ?_
  refine g_calliV (pc' := 5) (As := [.int x]) (st := []) (cells' := 0) (slots' := 0) C (c_X0_isLot _ x) gX0_checkLot_X0_isLot rfl (by decide +kernel) ⟨Nat.le_of_ble_eq_true rfl, Nat.le_of_ble_eq_true rfl⟩ 0 (by rfl) rfl (n := 1) rfl rfl (Nat.le_of_ble_eq_true rfl) dX0_checkLot_2 rfl rfl rfl ⟨Nat.le_of_ble_eq_true rfl, Nat.le_of_ble_eq_true rfl⟩ (fun r_1 u_1 h_2 => ?_)
  obtain ⟨rfl, h_2⟩ := h_2
  refine g_st h_2 ?_
  refine g_ifP_ne (tgt := 18) (pc' := 8) C dX0_checkLot_5 rfl (by decide) (fun (c_3 : 0 ≤ x.toInt ∧ x.toInt < (u 0 12).toInt) => ?_) (fun (c_3 : ¬ (0 ≤ x.toInt ∧ x.toInt < (u 0 12).toInt)) => ?_)
  · skip
    exact g_vret C hr ⟨by omega, rfl⟩ dX0_checkLot_18
  · skip
    exact False.elim (by omega)
set_option maxHeartbeats 4000000 in
set_option maxRecDepth 100000 in
theorem c_X0_checkWafer {l : Launch} {D : va_G} {cI cZ cQ : ClassId} {a : Nat → Nat} (u : LU) (x : Int32) (hx : 0 ≤ x.toInt ∧ x.toInt < (u 0 16).toInt) : KV l yX0_checkWafer wsX0_checkWafer ({ frames := 0, cells := 0, slots := 0, locals := 0 } : Room) D (tyX cI cZ cQ) (wX cI cZ cQ a) [.ref (a 0), .int x] u (fun (u' : LU) => (0 ≤ x.toInt ∧ x.toInt < (u 0 16).toInt) ∧ u' = u) := by
  refine ent_V (own := RX0) (maxL := 2) (cc := cX0_checkWafer) (L0 := [(0, .ref (a 0)), (1, .int x)]) (by decide) rfl (wX_ok _ _ _ _) rfl (Nat.le_of_ble_eq_true rfl) rfl ?_
  intro p e s m args below meth c A C hr
  have FX : ∀ w ∈ wsX00, w.before args s = true := fun w h => C.2.2.2.2.1 w ((by decide +kernel : ∀ w ∈ wsX00, w ∈ wsX0_checkWafer) w h)
  refine g_iload_n (pc' := 1) (q := 1) C dX0_checkWafer_0 rfl rfl rfl ?_
  refine g_if_lt (tgt := 12) (pc' := 4) C dX0_checkWafer_1 rfl (by decide) (fun (c_1 : (x).toInt < 0) => ?_) (fun (c_1 : ¬ ((x).toInt < 0)) => ?_)
  · skip
    exact False.elim (by omega)
  · skip
    refine g_iload_n (pc' := 5) (q := 1) C dX0_checkWafer_4 rfl rfl rfl ?_
    refine g_aload_n (pc' := 6) (q := 0) C dX0_checkWafer_5 rfl rfl rfl ?_
    refine g_get (pc' := 9) (v := .int (u 0 16)) C FX 0 (by rfl) rfl 16 (by decide) (by decide +kernel) rfl (by rfl) dX0_checkWafer_6 rfl ?_
    refine g_icmp_lt (tgt := 22) (pc' := 12) C dX0_checkWafer_9 rfl (by decide) (fun (c_2 : (x).toInt < (u 0 16).toInt) => ?_) (fun (c_2 : ¬ ((x).toInt < (u 0 16).toInt)) => ?_)
    · skip
      exact g_vret C hr ⟨by omega, rfl⟩ dX0_checkWafer_22
    · skip
      exact False.elim (by omega)
set_option maxHeartbeats 4000000 in
set_option maxRecDepth 100000 in
theorem c_X0_isFree {l : Launch} {D : va_G} {cI cZ cQ : ClassId} {a : Nat → Nat} (u : LU) (n : Nat) (hn : n < 24) : KI l yX0_isFree wsX0_isFree ({ frames := 0, cells := 0, slots := 0, locals := 0 } : Room) D (tyX cI cZ cQ) (wX cI cZ cQ a) [.ref (a 0), .int (nI n)] u (fun (r : Int32) (u' : LU) => r = bP ((u 6 n).toInt = 0 ∧ (u 9 n).toInt = 0) ∧ u' = u) := by
  refine ent_I (own := RX0) (maxL := 2) (cc := cX0_isFree) (L0 := [(0, .ref (a 0)), (1, .int (nI n))]) (by decide) rfl (wX_ok _ _ _ _) rfl (Nat.le_of_ble_eq_true rfl) rfl ?_
  intro p e s m args below meth c A C hr
  have FX : ∀ w ∈ wsX00, w.before args s = true := fun w h => C.2.2.2.2.1 w ((by decide +kernel : ∀ w ∈ wsX00, w ∈ wsX0_isFree) w h)
  refine g_aload_n (pc' := 1) (q := 0) C dX0_isFree_0 rfl rfl rfl ?_
  refine g_get (pc' := 4) (v := .ref (a 6)) C FX 0 (by rfl) rfl 5 (by decide) (by decide +kernel) rfl (by rfl) dX0_isFree_1 rfl ?_
  refine g_iload_n (pc' := 5) (q := 1) C dX0_isFree_4 rfl rfl rfl ?_
  refine g_iald (pc' := 6) (n := 24) (f := u 6) C 6 0 (by rfl) rfl (vp_in_nI (by omega) (by omega)) (k := n) (nI_clamp (by omega)) dX0_isFree_5 rfl ?_
  refine g_if_ne (tgt := 22) (pc' := 9) C dX0_isFree_6 rfl (by decide) (fun (c_1 : ¬ (u 6 n).toInt = 0) => ?_) (fun (c_1 : (u 6 n).toInt = 0) => ?_)
  · skip
    refine g_iconst (pc' := 23) (v := 0) C dX0_isFree_22 rfl (by decide) ?_
    exact g_iret C hr (by decide) ⟨(bP_f (by omega)).symm, rfl⟩ dX0_isFree_23
  · skip
    refine g_aload_n (pc' := 10) (q := 0) C dX0_isFree_9 rfl rfl rfl ?_
    refine g_get (pc' := 13) (v := .ref (a 9)) C FX 0 (by rfl) rfl 8 (by decide) (by decide +kernel) rfl (by rfl) dX0_isFree_10 rfl ?_
    refine g_iload_n (pc' := 14) (q := 1) C dX0_isFree_13 rfl rfl rfl ?_
    refine g_zald (pc' := 15) (n := 24) (f := u 9) C 9 1 (by rfl) rfl (vp_in_nI (by omega) (by omega)) (k := n) (nI_clamp (by omega)) dX0_isFree_14 rfl ?_
    refine g_if_ne (tgt := 22) (pc' := 18) C dX0_isFree_15 rfl (by decide) (fun (c_2 : ¬ (u 9 n).toInt = 0) => ?_) (fun (c_2 : (u 9 n).toInt = 0) => ?_)
    · skip
      refine g_iconst (pc' := 23) (v := 0) C dX0_isFree_22 rfl (by decide) ?_
      exact g_iret C hr (by decide) ⟨(bP_f (by omega)).symm, rfl⟩ dX0_isFree_23
    · skip
      refine g_iconst (pc' := 19) (v := 1) C dX0_isFree_18 rfl (by decide) ?_
      refine g_goto (tgt := 23) C dX0_isFree_19 (by decide) ?_
      exact g_iret C hr (by decide) ⟨(bP_t (by omega)).symm, rfl⟩ dX0_isFree_23
set_option maxHeartbeats 4000000 in
set_option maxRecDepth 100000 in
theorem c_X0_waitingLeft {l : Launch} {D : va_G} {cI cZ cQ : ClassId} {a : Nat → Nat} (u : LU) (n : Nat) (hn : n < 24) (hI : 0 ≤ (u 0 4).toInt ∧ (u 0 4).toInt ≤ 12) : KI l yX0_waitingLeft wsX0_waitingLeft ({ frames := 1, cells := 0, slots := 0, locals := 21 } : Room) D (tyX cI cZ cQ) (wX cI cZ cQ a) [.ref (a 0), .int (nI n)] u (fun (r : Int32) (u' : LU) => r = slX u n ∧ u' = u) := by
  refine ent_I (own := RX0) (maxL := 3) (cc := cX0_waitingLeft) (L0 := [(0, .ref (a 0)), (1, .int (nI n))]) (by decide) rfl (wX_ok _ _ _ _) rfl (Nat.le_of_ble_eq_true rfl) rfl ?_
  intro p e s m args below meth c A C hr
  have FX : ∀ w ∈ wsX00, w.before args s = true := fun w h => C.2.2.2.2.1 w ((by decide +kernel : ∀ w ∈ wsX00, w ∈ wsX0_waitingLeft) w h)
  refine g_aload_n (pc' := 1) (q := 0) C dX0_waitingLeft_0 rfl rfl rfl ?_
  refine g_get (pc' := 4) (v := .ref (a 7)) C FX 0 (by rfl) rfl 6 (by decide) (by decide +kernel) rfl (by rfl) dX0_waitingLeft_1 rfl ?_
  refine g_iload_n (pc' := 5) (q := 1) C dX0_waitingLeft_4 rfl rfl rfl ?_
  refine g_iald (pc' := 6) (n := 24) (f := u 7) C 7 0 (by rfl) rfl (vp_in_nI (by omega) (by omega)) (k := n) (nI_clamp (by omega)) dX0_waitingLeft_5 rfl ?_
  refine g_istore_n (pc' := 7) (L' := [(2, .int (u 7 n)), (0, .ref (a 0)), (1, .int (nI n))]) C dX0_waitingLeft_6 rfl rfl (by decide) rfl ?_
  refine g_aload_n (pc' := 8) (q := 1) C dX0_waitingLeft_7 rfl rfl rfl ?_
  refine g_get (pc' := 11) (v := .ref (a 6)) C FX 0 (by rfl) rfl 5 (by decide) (by decide +kernel) rfl (by rfl) dX0_waitingLeft_8 rfl ?_
  refine g_iload_n (pc' := 12) (q := 2) C dX0_waitingLeft_11 rfl rfl rfl ?_
  refine g_iald (pc' := 13) (n := 24) (f := u 6) C 6 0 (by rfl) rfl (vp_in_nI (by omega) (by omega)) (k := n) (nI_clamp (by omega)) dX0_waitingLeft_12 rfl ?_
  refine g_if_ne (tgt := 24) (pc' := 16) C dX0_waitingLeft_13 rfl (by decide) (fun (c_1 : ¬ (u 6 n).toInt = 0) => ?_) (fun (c_1 : (u 6 n).toInt = 0) => ?_)
  · skip
    refine g_ldc (pc' := 26) (v := 2000000) C dX0_waitingLeft_24 rfl (by decide +kernel) ?_
    exact g_iret C hr rfl ⟨by unfold slX; (repeat' split) <;> first | rfl | omega, rfl⟩ dX0_waitingLeft_26
  · skip
    refine g_aload_n (pc' := 17) (q := 1) C dX0_waitingLeft_16 rfl rfl rfl ?_
    refine g_iload_n (pc' := 18) (q := 0) C dX0_waitingLeft_17 rfl rfl rfl ?_
    refine g_calliV (pc' := 21) (As := [.int (u 7 n)]) (st := []) (cells' := 0) (slots' := 0) C (c_X0_isStep _ (u 7 n)) gX0_waitingLeft_X0_isStep rfl (by decide +kernel) ⟨Nat.le_of_ble_eq_true rfl, Nat.le_of_ble_eq_true rfl⟩ 0 (by rfl) rfl (n := 1) rfl rfl (Nat.le_of_ble_eq_true rfl) dX0_waitingLeft_18 rfl rfl rfl ⟨Nat.le_of_ble_eq_true rfl, Nat.le_of_ble_eq_true rfl⟩ (fun r_2 u_2 h_3 => ?_)
    obtain ⟨rfl, h_3⟩ := h_3
    refine g_st h_3 ?_
    refine g_ifP_ne (tgt := 27) (pc' := 24) C dX0_waitingLeft_21 rfl (by decide) (fun (c_4 : 0 ≤ (u 7 n).toInt ∧ (u 7 n).toInt < (u 0 4).toInt) => ?_) (fun (c_4 : ¬ (0 ≤ (u 7 n).toInt ∧ (u 7 n).toInt < (u 0 4).toInt)) => ?_)
    · skip
      refine g_aload_n (pc' := 28) (q := 1) C dX0_waitingLeft_27 rfl rfl rfl ?_
      refine g_get (pc' := 31) (v := .ref (a 3)) C FX 0 (by rfl) rfl 2 (by decide) (by decide +kernel) rfl (by rfl) dX0_waitingLeft_28 rfl ?_
      refine g_iload_n (pc' := 32) (q := 0) C dX0_waitingLeft_31 rfl rfl rfl ?_
      refine g_iald (pc' := 33) (n := 12) (f := u 3) C 4 0 (by rfl) rfl (vp_of (by omega) (by omega)) (k := (u 7 n).toNatClampNeg) rfl dX0_waitingLeft_32 rfl ?_
      refine g_if_ne (tgt := 39) (pc' := 36) C dX0_waitingLeft_33 rfl (by decide) (fun (c_5 : ¬ (u 3 (u 7 n).toNatClampNeg).toInt = 0) => ?_) (fun (c_5 : (u 3 (u 7 n).toNatClampNeg).toInt = 0) => ?_)
      · skip
        refine g_aload_n (pc' := 40) (q := 1) C dX0_waitingLeft_39 rfl rfl rfl ?_
        refine g_get (pc' := 43) (v := .ref (a 3)) C FX 0 (by rfl) rfl 2 (by decide) (by decide +kernel) rfl (by rfl) dX0_waitingLeft_40 rfl ?_
        refine g_iload_n (pc' := 44) (q := 0) C dX0_waitingLeft_43 rfl rfl rfl ?_
        refine g_iald (pc' := 45) (n := 12) (f := u 3) C 4 0 (by rfl) rfl (vp_of (by omega) (by omega)) (k := (u 7 n).toNatClampNeg) rfl dX0_waitingLeft_44 rfl ?_
        refine g_aload_n (pc' := 46) (q := 1) C dX0_waitingLeft_45 rfl rfl rfl ?_
        refine g_get (pc' := 49) (v := .int (u 0 17)) C FX 0 (by rfl) rfl 17 (by decide) (by decide +kernel) rfl (by rfl) dX0_waitingLeft_46 rfl ?_
        refine g_aload_n (pc' := 50) (q := 1) C dX0_waitingLeft_49 rfl rfl rfl ?_
        refine g_get (pc' := 53) (v := .ref (a 8)) C FX 0 (by rfl) rfl 7 (by decide) (by decide +kernel) rfl (by rfl) dX0_waitingLeft_50 rfl ?_
        refine g_iload_n (pc' := 54) (q := 2) C dX0_waitingLeft_53 rfl rfl rfl ?_
        refine g_iald (pc' := 55) (n := 24) (f := u 8) C 8 0 (by rfl) rfl (vp_in_nI (by omega) (by omega)) (k := n) (nI_clamp (by omega)) dX0_waitingLeft_54 rfl ?_
        refine g_isub (pc' := 56) C dX0_waitingLeft_55 rfl ?_
        refine g_isub (pc' := 57) C dX0_waitingLeft_56 rfl ?_
        exact g_iret C hr rfl ⟨by unfold slX; (repeat' split) <;> first | rfl | omega, rfl⟩ dX0_waitingLeft_57
      · skip
        refine g_ldc (pc' := 38) (v := 1000000) C dX0_waitingLeft_36 rfl (by decide +kernel) ?_
        exact g_iret C hr rfl ⟨by unfold slX; (repeat' split) <;> first | rfl | omega, rfl⟩ dX0_waitingLeft_38
    · skip
      refine g_ldc (pc' := 26) (v := 2000000) C dX0_waitingLeft_24 rfl (by decide +kernel) ?_
      exact g_iret C hr rfl ⟨by unfold slX; (repeat' split) <;> first | rfl | omega, rfl⟩ dX0_waitingLeft_26
set_option maxHeartbeats 4000000 in
set_option maxRecDepth 100000 in
theorem c_X0_isReady {l : Launch} {D : va_G} {cI cZ cQ : ClassId} {a : Nat → Nat} (u : LU) (n : Nat) (hn : n < 24) (hI : 0 ≤ (u 0 4).toInt ∧ (u 0 4).toInt ≤ 12) : KI l yX0_isReady wsX0_isReady ({ frames := 2, cells := 0, slots := 0, locals := 43 } : Room) D (tyX cI cZ cQ) (wX cI cZ cQ a) [.ref (a 0), .int (nI n)] u (fun (r : Int32) (u' : LU) => r = bP (rdX u n) ∧ u' = u) := by
  refine ent_I (own := RX0) (maxL := 2) (cc := cX0_isReady) (L0 := [(0, .ref (a 0)), (1, .int (nI n))]) (by decide) rfl (wX_ok _ _ _ _) rfl (Nat.le_of_ble_eq_true rfl) rfl ?_
  intro p e s m args below meth c A C hr
  refine g_aload_n (pc' := 1) (q := 0) C dX0_isReady_0 rfl rfl rfl ?_
  refine g_iload_n (pc' := 2) (q := 1) C dX0_isReady_1 rfl rfl rfl ?_
  refine g_calliV (pc' := 5) (As := [.int (nI n)]) (st := []) (cells' := 0) (slots' := 0) C (c_X0_isFree _ n (by omega)) gX0_isReady_X0_isFree rfl (by decide +kernel) ⟨Nat.le_of_ble_eq_true rfl, Nat.le_of_ble_eq_true rfl⟩ 0 (by rfl) rfl (n := 1) rfl rfl (Nat.le_of_ble_eq_true rfl) dX0_isReady_2 rfl rfl rfl ⟨Nat.le_of_ble_eq_true rfl, Nat.le_of_ble_eq_true rfl⟩ (fun r_1 u_1 h_2 => ?_)
  obtain ⟨rfl, h_2⟩ := h_2
  refine g_st h_2 ?_
  refine g_ifP_eq (tgt := 20) (pc' := 8) C dX0_isReady_5 rfl (by decide) (fun (c_3 : ¬ ((u 6 n).toInt = 0 ∧ (u 9 n).toInt = 0)) => ?_) (fun (c_3 : (u 6 n).toInt = 0 ∧ (u 9 n).toInt = 0) => ?_)
  · skip
    refine g_iconst (pc' := 21) (v := 0) C dX0_isReady_20 rfl (by decide) ?_
    exact g_iret C hr (by decide) ⟨(bP_f (by unfold rdX; omega)).symm, rfl⟩ dX0_isReady_21
  · skip
    refine g_aload_n (pc' := 9) (q := 0) C dX0_isReady_8 rfl rfl rfl ?_
    refine g_iload_n (pc' := 10) (q := 1) C dX0_isReady_9 rfl rfl rfl ?_
    refine g_calliV (pc' := 13) (As := [.int (nI n)]) (st := []) (cells' := 0) (slots' := 0) C (c_X0_waitingLeft _ n (by omega) (by omega)) gX0_isReady_X0_waitingLeft rfl (by decide +kernel) ⟨Nat.le_of_ble_eq_true rfl, Nat.le_of_ble_eq_true rfl⟩ 0 (by rfl) rfl (n := 1) rfl rfl (Nat.le_of_ble_eq_true rfl) dX0_isReady_10 rfl rfl rfl ⟨Nat.le_of_ble_eq_true rfl, Nat.le_of_ble_eq_true rfl⟩ (fun r_4 u_4 h_5 => ?_)
    obtain ⟨rfl, h_5⟩ := h_5
    refine g_st h_5 ?_
    refine g_if_lt (tgt := 20) (pc' := 16) C dX0_isReady_13 rfl (by decide) (fun (c_6 : (slX u n).toInt < 0) => ?_) (fun (c_6 : ¬ ((slX u n).toInt < 0)) => ?_)
    · skip
      refine g_iconst (pc' := 21) (v := 0) C dX0_isReady_20 rfl (by decide) ?_
      exact g_iret C hr (by decide) ⟨(bP_f (by unfold rdX; omega)).symm, rfl⟩ dX0_isReady_21
    · skip
      refine g_iconst (pc' := 17) (v := 1) C dX0_isReady_16 rfl (by decide) ?_
      refine g_goto (tgt := 21) C dX0_isReady_17 (by decide) ?_
      exact g_iret C hr (by decide) ⟨(bP_t (by unfold rdX; omega)).symm, rfl⟩ dX0_isReady_21
set_option maxHeartbeats 4000000 in
set_option maxRecDepth 100000 in
theorem c_X0_usesTool {l : Launch} {D : va_G} {cI cZ cQ : ClassId} {a : Nat → Nat} (u : LU) (n : Nat) (x : Int32) (hn : n < 24) (hI : 0 ≤ (u 0 4).toInt ∧ (u 0 4).toInt ≤ 12) : KI l yX0_usesTool wsX0_usesTool ({ frames := 1, cells := 0, slots := 0, locals := 21 } : Room) D (tyX cI cZ cQ) (wX cI cZ cQ a) [.ref (a 0), .int (nI n), .int x] u (fun (r : Int32) (u' : LU) => r = bP (utX u n x) ∧ u' = u) := by
  refine ent_I (own := RX0) (maxL := 4) (cc := cX0_usesTool) (L0 := [(0, .ref (a 0)), (1, .int (nI n)), (2, .int x)]) (by decide) rfl (wX_ok _ _ _ _) rfl (Nat.le_of_ble_eq_true rfl) rfl ?_
  intro p e s m args below meth c A C hr
  have FX : ∀ w ∈ wsX00, w.before args s = true := fun w h => C.2.2.2.2.1 w ((by decide +kernel : ∀ w ∈ wsX00, w ∈ wsX0_usesTool) w h)
  refine g_aload_n (pc' := 1) (q := 0) C dX0_usesTool_0 rfl rfl rfl ?_
  refine g_get (pc' := 4) (v := .ref (a 7)) C FX 0 (by rfl) rfl 6 (by decide) (by decide +kernel) rfl (by rfl) dX0_usesTool_1 rfl ?_
  refine g_iload_n (pc' := 5) (q := 1) C dX0_usesTool_4 rfl rfl rfl ?_
  refine g_iald (pc' := 6) (n := 24) (f := u 7) C 7 0 (by rfl) rfl (vp_in_nI (by omega) (by omega)) (k := n) (nI_clamp (by omega)) dX0_usesTool_5 rfl ?_
  refine g_istore_n (pc' := 7) (L' := [(3, .int (u 7 n)), (0, .ref (a 0)), (1, .int (nI n)), (2, .int x)]) C dX0_usesTool_6 rfl rfl (by decide) rfl ?_
  refine g_aload_n (pc' := 8) (q := 1) C dX0_usesTool_7 rfl rfl rfl ?_
  refine g_iload_n (pc' := 9) (q := 0) C dX0_usesTool_8 rfl rfl rfl ?_
  refine g_calliV (pc' := 12) (As := [.int (u 7 n)]) (st := []) (cells' := 0) (slots' := 0) C (c_X0_isStep _ (u 7 n)) gX0_usesTool_X0_isStep rfl (by decide +kernel) ⟨Nat.le_of_ble_eq_true rfl, Nat.le_of_ble_eq_true rfl⟩ 0 (by rfl) rfl (n := 1) rfl rfl (Nat.le_of_ble_eq_true rfl) dX0_usesTool_9 rfl rfl rfl ⟨Nat.le_of_ble_eq_true rfl, Nat.le_of_ble_eq_true rfl⟩ (fun r_1 u_1 h_2 => ?_)
  obtain ⟨rfl, h_2⟩ := h_2
  refine g_st h_2 ?_
  refine g_ifP_eq (tgt := 29) (pc' := 15) C dX0_usesTool_12 rfl (by decide) (fun (c_3 : ¬ (0 ≤ (u 7 n).toInt ∧ (u 7 n).toInt < (u 0 4).toInt)) => ?_) (fun (c_3 : 0 ≤ (u 7 n).toInt ∧ (u 7 n).toInt < (u 0 4).toInt) => ?_)
  · skip
    refine g_iconst (pc' := 30) (v := 0) C dX0_usesTool_29 rfl (by decide) ?_
    exact g_iret C hr (by decide) ⟨(bP_f (by unfold utX; omega)).symm, rfl⟩ dX0_usesTool_30
  · skip
    refine g_aload_n (pc' := 16) (q := 1) C dX0_usesTool_15 rfl rfl rfl ?_
    refine g_get (pc' := 19) (v := .ref (a 1)) C FX 0 (by rfl) rfl 0 (by decide) (by decide +kernel) rfl (by rfl) dX0_usesTool_16 rfl ?_
    refine g_iload_n (pc' := 20) (q := 0) C dX0_usesTool_19 rfl rfl rfl ?_
    refine g_iald (pc' := 21) (n := 12) (f := u 1) C 2 0 (by rfl) rfl (vp_of (by omega) (by omega)) (k := (u 7 n).toNatClampNeg) rfl dX0_usesTool_20 rfl ?_
    refine g_iload_n (pc' := 22) (q := 3) C dX0_usesTool_21 rfl rfl rfl ?_
    refine g_icmp_ne (tgt := 29) (pc' := 25) C dX0_usesTool_22 rfl (by decide) (fun (c_4 : ¬ (u 1 (u 7 n).toNatClampNeg).toInt = (x).toInt) => ?_) (fun (c_4 : (u 1 (u 7 n).toNatClampNeg).toInt = (x).toInt) => ?_)
    · skip
      refine g_iconst (pc' := 30) (v := 0) C dX0_usesTool_29 rfl (by decide) ?_
      exact g_iret C hr (by decide) ⟨(bP_f (by unfold utX; omega)).symm, rfl⟩ dX0_usesTool_30
    · skip
      refine g_iconst (pc' := 26) (v := 1) C dX0_usesTool_25 rfl (by decide) ?_
      refine g_goto (tgt := 30) C dX0_usesTool_26 (by decide) ?_
      exact g_iret C hr (by decide) ⟨(bP_t (by unfold utX; omega)).symm, rfl⟩ dX0_usesTool_30
set_option maxHeartbeats 4000000 in
set_option maxRecDepth 100000 in
theorem c_X0_isBusy {l : Launch} {D : va_G} {cI cZ cQ : ClassId} {a : Nat → Nat} (u : LU) (x : Int32) (hI : 0 ≤ (u 0 4).toInt ∧ (u 0 4).toInt ≤ 12) (hL : 0 ≤ (u 0 12).toInt ∧ (u 0 12).toInt ≤ 24) : KI l yX0_isBusy wsX0_isBusy ({ frames := 2, cells := 0, slots := 0, locals := 44 } : Room) D (tyX cI cZ cQ) (wX cI cZ cQ a) [.ref (a 0), .int x] u (fun (r : Int32) (u' : LU) => r = bP (buX u x) ∧ u' = u) := by
  refine ent_I (own := RX0) (maxL := 3) (cc := cX0_isBusy) (L0 := [(0, .ref (a 0)), (1, .int x)]) (by decide) rfl (wX_ok _ _ _ _) rfl (Nat.le_of_ble_eq_true rfl) rfl ?_
  intro p e s m args below meth c A C hr
  have FX : ∀ w ∈ wsX00, w.before args s = true := fun w h => C.2.2.2.2.1 w ((by decide +kernel : ∀ w ∈ wsX00, w ∈ wsX0_isBusy) w h)
  refine g_iconst (pc' := 1) (v := 0) C dX0_isBusy_0 rfl (by decide) ?_
  refine g_istore_n (pc' := 2) (L' := [(2, .int 0), (0, .ref (a 0)), (1, .int x)]) C dX0_isBusy_1 rfl rfl (by decide) rfl ?_
  have loop_2 : ∀ (k : Nat) (i : Nat), (i : Int) ≤ (u 0 12).toInt → (u 0 12).toInt + 1 ≤ i + k → (∀ j, j < i → ¬ ((u 6 j).toInt = 1 ∧ utX u j x)) → G p l e ({ frames := 2, cells := 0, slots := 0, locals := 44 } : Room) s m args below meth c D A 3 (wX cI cZ cQ a) 0 0 (MQ below (va_Qi (fun (r : Int32) (u' : LU) => r = bP (buX u x) ∧ u' = u) (KE D (tyX cI cZ cQ) (wX cI cZ cQ a)) A) args s 0 0 A) u 2 [(0, .ref (a 0)), (1, .int x), (2, .int (nI i))] [] := by
    intro k
    induction k with
    | zero =>
      intro i hi hk hinv
      omega
    | succ k ih =>
      intro i hi hk hinv
      refine g_iload_n (pc' := 3) (q := 2) C dX0_isBusy_2 rfl rfl rfl ?_
      refine g_aload_n (pc' := 4) (q := 0) C dX0_isBusy_3 rfl rfl rfl ?_
      refine g_get (pc' := 7) (v := .int (u 0 12)) C FX 0 (by rfl) rfl 12 (by decide) (by decide +kernel) rfl (by rfl) dX0_isBusy_4 rfl ?_
      have t_1 : (nI i).toInt = ((i : Nat) : Int) := nI_toInt (by omega)
      refine g_icmp_ge (tgt := 37) (pc' := 10) C dX0_isBusy_7 rfl (by decide) (fun (c_2 : (u 0 12).toInt ≤ (nI i).toInt) => ?_) (fun (c_2 : ¬ ((u 0 12).toInt ≤ (nI i).toInt)) => ?_)
      · skip
        refine g_iconst (pc' := 38) (v := 0) C dX0_isBusy_37 rfl (by decide) ?_
        exact g_iret C hr (by decide) ⟨(bP_f (fun ⟨j, h1, h2⟩ => hinv j (by omega) h2)).symm, rfl⟩ dX0_isBusy_38
      · skip
        refine g_aload_n (pc' := 11) (q := 0) C dX0_isBusy_10 rfl rfl rfl ?_
        refine g_get (pc' := 14) (v := .ref (a 6)) C FX 0 (by rfl) rfl 5 (by decide) (by decide +kernel) rfl (by rfl) dX0_isBusy_11 rfl ?_
        refine g_iload_n (pc' := 15) (q := 2) C dX0_isBusy_14 rfl rfl rfl ?_
        refine g_iald (pc' := 16) (n := 24) (f := u 6) C 6 0 (by rfl) rfl (vp_in_nI (by omega) (by omega)) (k := i) (nI_clamp (by omega)) dX0_isBusy_15 rfl ?_
        refine g_iconst (pc' := 17) (v := 1) C dX0_isBusy_16 rfl (by decide) ?_
        refine g_icmp_ne (tgt := 31) (pc' := 20) C dX0_isBusy_17 rfl (by decide) (fun (c_3 : ¬ (u 6 i).toInt = 1) => ?_) (fun (c_3 : (u 6 i).toInt = 1) => ?_)
        · skip
          refine g_iinc (pc' := 34) (v := nI (i + 1)) (L' := [(2, .int (nI (i + 1))), (0, .ref (a 0)), (1, .int x)]) C dX0_isBusy_31 rfl (k := 2) rfl (nI_1 _) (by decide) rfl ?_
          refine g_goto (tgt := 2) C dX0_isBusy_34 (by decide) ?_
          refine g_sub (L' := [(0, .ref (a 0)), (1, .int x), (2, .int (nI (i + 1)))]) [1, 2, 0] rfl ?_
          exact ih (i + 1) (by omega) (by omega) (fun j h => (Nat.lt_succ_iff_lt_or_eq.mp h).elim (hinv j) (fun e9 => by subst e9; intro q; first | exact absurd q.1 (by omega) | exact absurd q.2 (by assumption)))
        · skip
          refine g_aload_n (pc' := 21) (q := 0) C dX0_isBusy_20 rfl rfl rfl ?_
          refine g_iload_n (pc' := 22) (q := 2) C dX0_isBusy_21 rfl rfl rfl ?_
          refine g_iload_n (pc' := 23) (q := 1) C dX0_isBusy_22 rfl rfl rfl ?_
          refine g_calliV (pc' := 26) (As := [.int (nI i), .int x]) (st := []) (cells' := 0) (slots' := 0) C (c_X0_usesTool _ i x (by omega) (by omega)) gX0_isBusy_X0_usesTool rfl (by decide +kernel) ⟨Nat.le_of_ble_eq_true rfl, Nat.le_of_ble_eq_true rfl⟩ 0 (by rfl) rfl (n := 2) rfl rfl (Nat.le_of_ble_eq_true rfl) dX0_isBusy_23 rfl rfl rfl ⟨Nat.le_of_ble_eq_true rfl, Nat.le_of_ble_eq_true rfl⟩ (fun r_4 u_4 h_5 => ?_)
          obtain ⟨rfl, h_5⟩ := h_5
          refine g_st h_5 ?_
          refine g_ifP_eq (tgt := 31) (pc' := 29) C dX0_isBusy_26 rfl (by decide) (fun (c_6 : ¬ (utX u i x)) => ?_) (fun (c_6 : utX u i x) => ?_)
          · skip
            refine g_iinc (pc' := 34) (v := nI (i + 1)) (L' := [(2, .int (nI (i + 1))), (0, .ref (a 0)), (1, .int x)]) C dX0_isBusy_31 rfl (k := 2) rfl (nI_1 _) (by decide) rfl ?_
            refine g_goto (tgt := 2) C dX0_isBusy_34 (by decide) ?_
            refine g_sub (L' := [(0, .ref (a 0)), (1, .int x), (2, .int (nI (i + 1)))]) [1, 2, 0] rfl ?_
            exact ih (i + 1) (by omega) (by omega) (fun j h => (Nat.lt_succ_iff_lt_or_eq.mp h).elim (hinv j) (fun e9 => by subst e9; intro q; first | exact absurd q.1 (by omega) | exact absurd q.2 (by assumption)))
          · skip
            refine g_iconst (pc' := 30) (v := 1) C dX0_isBusy_29 rfl (by decide) ?_
            exact g_iret C hr (by decide) ⟨(bP_t ⟨i, by omega, by omega, by assumption⟩).symm, rfl⟩ dX0_isBusy_30
  refine g_sub (L' := [(0, .ref (a 0)), (1, .int x), (2, .int (nI 0))]) [1, 2, 0] rfl ?_
  exact loop_2 25 0 (by omega) (by omega) (fun j h => absurd h (Nat.not_lt_zero j))
set_option maxHeartbeats 4000000 in
set_option maxRecDepth 100000 in
theorem c_X0_parentOrNone {l : Launch} {D : va_G} {cI cZ cQ : ClassId} {a : Nat → Nat} (u : LU) (x : Int32) (hL : 0 ≤ (u 0 12).toInt ∧ (u 0 12).toInt ≤ 24) : KI l yX0_parentOrNone wsX0_parentOrNone ({ frames := 1, cells := 0, slots := 0, locals := 21 } : Room) D (tyX cI cZ cQ) (wX cI cZ cQ a) [.ref (a 0), .int x] u (fun (r : Int32) (u' : LU) => r = ponX u x ∧ u' = u) := by
  refine ent_I (own := RX0) (maxL := 2) (cc := cX0_parentOrNone) (L0 := [(0, .ref (a 0)), (1, .int x)]) (by decide) rfl (wX_ok _ _ _ _) rfl (Nat.le_of_ble_eq_true rfl) rfl ?_
  intro p e s m args below meth c A C hr
  have FX : ∀ w ∈ wsX00, w.before args s = true := fun w h => C.2.2.2.2.1 w ((by decide +kernel : ∀ w ∈ wsX00, w ∈ wsX0_parentOrNone) w h)
  refine g_aload_n (pc' := 1) (q := 0) C dX0_parentOrNone_0 rfl rfl rfl ?_
  refine g_iload_n (pc' := 2) (q := 1) C dX0_parentOrNone_1 rfl rfl rfl ?_
  refine g_calliV (pc' := 5) (As := [.int x]) (st := []) (cells' := 0) (slots' := 0) C (c_X0_isLot _ x) gX0_parentOrNone_X0_isLot rfl (by decide +kernel) ⟨Nat.le_of_ble_eq_true rfl, Nat.le_of_ble_eq_true rfl⟩ 0 (by rfl) rfl (n := 1) rfl rfl (Nat.le_of_ble_eq_true rfl) dX0_parentOrNone_2 rfl rfl rfl ⟨Nat.le_of_ble_eq_true rfl, Nat.le_of_ble_eq_true rfl⟩ (fun r_1 u_1 h_2 => ?_)
  obtain ⟨rfl, h_2⟩ := h_2
  refine g_st h_2 ?_
  refine g_ifP_eq (tgt := 17) (pc' := 8) C dX0_parentOrNone_5 rfl (by decide) (fun (c_3 : ¬ (0 ≤ x.toInt ∧ x.toInt < (u 0 12).toInt)) => ?_) (fun (c_3 : 0 ≤ x.toInt ∧ x.toInt < (u 0 12).toInt) => ?_)
  · skip
    refine g_iconst (pc' := 18) (v := (-1)) C dX0_parentOrNone_17 rfl (by decide) ?_
    exact g_iret C hr rfl ⟨by unfold ponX; (repeat' split) <;> first | rfl | omega, rfl⟩ dX0_parentOrNone_18
  · skip
    refine g_aload_n (pc' := 9) (q := 0) C dX0_parentOrNone_8 rfl rfl rfl ?_
    refine g_get (pc' := 12) (v := .ref (a 11)) C FX 0 (by rfl) rfl 10 (by decide) (by decide +kernel) rfl (by rfl) dX0_parentOrNone_9 rfl ?_
    refine g_iload_n (pc' := 13) (q := 1) C dX0_parentOrNone_12 rfl rfl rfl ?_
    refine g_iald (pc' := 14) (n := 24) (f := u 11) C 11 0 (by rfl) rfl (vp_of (by omega) (by omega)) (k := x.toNatClampNeg) rfl dX0_parentOrNone_13 rfl ?_
    refine g_goto (tgt := 18) C dX0_parentOrNone_14 (by decide) ?_
    exact g_iret C hr rfl ⟨by unfold ponX; (repeat' split) <;> first | rfl | omega, rfl⟩ dX0_parentOrNone_18
