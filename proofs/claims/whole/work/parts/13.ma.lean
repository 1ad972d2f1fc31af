set_option maxHeartbeats 4000000 in
set_option maxRecDepth 100000 in
theorem c_X1_thrown {l : Launch} {D : va_G} {cI cZ cQ : ClassId} {a : Nat → Nat} (u : LU) : KI l yX1_thrown wsX1_thrown ({ frames := 0, cells := 0, slots := 0, locals := 0 } : Room) D (tyX cI cZ cQ) (wM cI cZ a) [.ref (a 0)] u (fun (r : Int32) (u' : LU) => r = u 0 0 ∧ u' = u) := by
  refine ent_I (own := RX1) (maxL := 1) (cc := cX1_thrown) (L0 := [(0, .ref (a 0))]) (by decide) rfl (wM_ok _ _ _) rfl (Nat.le_of_ble_eq_true rfl) rfl ?_
  intro p e s m args below meth c A C hr
  have FM : ∀ w ∈ wsX10, w.before args s = true := fun w h => C.2.2.2.2.1 w ((by decide +kernel : ∀ w ∈ wsX10, w ∈ wsX1_thrown) w h)
  refine g_aload_n (pc' := 1) (q := 0) C dX1_thrown_0 rfl rfl rfl ?_
  refine g_get (pc' := 4) (v := .int (u 0 0)) C FM 0 (by rfl) rfl 0 (by decide) (by decide +kernel) rfl (by rfl) dX1_thrown_1 rfl ?_
  exact g_iret C hr rfl ⟨rfl, rfl⟩ dX1_thrown_4
set_option maxHeartbeats 4000000 in
set_option maxRecDepth 100000 in
theorem c_X1_fails {l : Launch} {D : va_G} {cI cZ cQ : ClassId} {a : Nat → Nat} (u : LU) (x : Int32) : KI l yX1_fails wsX1_fails ({ frames := 0, cells := 0, slots := 0, locals := 0 } : Room) D (tyX cI cZ cQ) (wM cI cZ a) [.ref (a 0), .int x] u (fun (r : Int32) (u' : LU) => r = 0 ∧ u' = thM u x) := by
  refine ent_I (own := RX1) (maxL := 2) (cc := cX1_fails) (L0 := [(0, .ref (a 0)), (1, .int x)]) (by decide) rfl (wM_ok _ _ _) rfl (Nat.le_of_ble_eq_true rfl) rfl ?_
  intro p e s m args below meth c A C hr
  have FM : ∀ w ∈ wsX10, w.before args s = true := fun w h => C.2.2.2.2.1 w ((by decide +kernel : ∀ w ∈ wsX10, w ∈ wsX1_fails) w h)
  refine g_aload_n (pc' := 1) (q := 0) C dX1_fails_0 rfl rfl rfl ?_
  refine g_iload_n (pc' := 2) (q := 1) C dX1_fails_1 rfl rfl rfl ?_
  refine g_putI (pc' := 5) C FM tyX1 tyX1_ok nmX1 0 (by rfl) rfl 0 (by decide) (by decide +kernel) rfl rfl rfl (Nat.le_of_ble_eq_true rfl) dX1_fails_2 rfl (wM_put cI cZ a _ (f := (upd (u 0) 0 (x))) rfl) ?_
  refine g_iconst (pc' := 6) (v := 0) C dX1_fails_5 rfl (by decide) ?_
  exact g_iret C hr rfl ⟨rfl, rfl⟩ dX1_fails_6
set_option maxHeartbeats 4000000 in
set_option maxRecDepth 100000 in
theorem c_X1_in {l : Launch} {D : va_G} {cI cZ cQ : ClassId} {a : Nat → Nat} (u : LU) (x lo hi : Int32) : KI l yX1_in wsX1_in ({ frames := 0, cells := 0, slots := 0, locals := 0 } : Room) D (tyX cI cZ cQ) (wM cI cZ a) [.int x, .int lo, .int hi] u (fun (r : Int32) (u' : LU) => r = bP (lo.toInt ≤ x.toInt ∧ x.toInt ≤ hi.toInt) ∧ u' = u) := by
  refine ent_I (own := RX1) (maxL := 3) (cc := cX1_in) (L0 := [(0, .int x), (1, .int lo), (2, .int hi)]) (by decide) rfl (wM_ok _ _ _) rfl (Nat.le_of_ble_eq_true rfl) rfl ?_
  intro p e s m args below meth c A C hr
  refine g_iload_n (pc' := 1) (q := 0) C dX1_in_0 rfl rfl rfl ?_
  refine g_iload_n (pc' := 2) (q := 1) C dX1_in_1 rfl rfl rfl ?_
  refine g_icmp_lt (tgt := 14) (pc' := 5) C dX1_in_2 rfl (by decide) (fun (c_1 : (x).toInt < (lo).toInt) => ?_) (fun (c_1 : ¬ ((x).toInt < (lo).toInt)) => ?_)
  · skip
    refine g_iconst (pc' := 15) (v := 0) C dX1_in_14 rfl (by decide) ?_
    exact g_iret C hr (by decide) ⟨(bP_f (by omega)).symm, rfl⟩ dX1_in_15
  · skip
    refine g_iload_n (pc' := 6) (q := 0) C dX1_in_5 rfl rfl rfl ?_
    refine g_iload_n (pc' := 7) (q := 2) C dX1_in_6 rfl rfl rfl ?_
    refine g_icmp_gt (tgt := 14) (pc' := 10) C dX1_in_7 rfl (by decide) (fun (c_2 : (hi).toInt < (x).toInt) => ?_) (fun (c_2 : ¬ ((hi).toInt < (x).toInt)) => ?_)
    · skip
      refine g_iconst (pc' := 15) (v := 0) C dX1_in_14 rfl (by decide) ?_
      exact g_iret C hr (by decide) ⟨(bP_f (by omega)).symm, rfl⟩ dX1_in_15
    · skip
      refine g_iconst (pc' := 11) (v := 1) C dX1_in_10 rfl (by decide) ?_
      refine g_goto (tgt := 15) C dX1_in_11 (by decide) ?_
      exact g_iret C hr (by decide) ⟨(bP_t (by omega)).symm, rfl⟩ dX1_in_15
set_option maxHeartbeats 4000000 in
set_option maxRecDepth 100000 in
theorem c_X1_isTool {l : Launch} {D : va_G} {cI cZ cQ : ClassId} {a : Nat → Nat} (u : LU) (x : Int32) : KI l yX1_isTool wsX1_isTool ({ frames := 1, cells := 0, slots := 0, locals := 22 } : Room) D (tyX cI cZ cQ) (wM cI cZ a) [.int x] u (fun (r : Int32) (u' : LU) => r = bP (0 ≤ x.toInt ∧ x.toInt ≤ 5) ∧ u' = u) := by
  refine ent_I (own := RX1) (maxL := 1) (cc := cX1_isTool) (L0 := [(0, .int x)]) (by decide) rfl (wM_ok _ _ _) rfl (Nat.le_of_ble_eq_true rfl) rfl ?_
  intro p e s m args below meth c A C hr
  refine g_iload_n (pc' := 1) (q := 0) C dX1_isTool_0 rfl rfl rfl ?_
  refine g_iconst (pc' := 2) (v := 0) C dX1_isTool_1 rfl (by decide) ?_
  refine g_iconst (pc' := 3) (v := 5) C dX1_isTool_2 rfl (by decide) ?_
  refine g_calliS (pc' := 6) (As := [.int x, .int 0, .int 5]) (st := []) (cells' := 0) (slots' := 0) C (c_X1_in _ x 0 5) gX1_isTool_X1_in rfl (by decide +kernel) ⟨Nat.le_of_ble_eq_true rfl, Nat.le_of_ble_eq_true rfl⟩ (n := 3) rfl rfl (Nat.le_of_ble_eq_true rfl) dX1_isTool_3 rfl rfl rfl ⟨Nat.le_of_ble_eq_true rfl, Nat.le_of_ble_eq_true rfl⟩ (fun r_1 u_1 h_2 => ?_)
  obtain ⟨rfl, h_2⟩ := h_2
  refine g_st h_2 ?_
  exact g_iret C hr (bP_nar _) ⟨rfl, rfl⟩ dX1_isTool_6
set_option maxHeartbeats 4000000 in
set_option maxRecDepth 100000 in
theorem c_X1_isLot {l : Launch} {D : va_G} {cI cZ cQ : ClassId} {a : Nat → Nat} (u : LU) (x : Int32) (hB : 0 ≤ (u 0 7).toInt) : KI l yX1_isLot wsX1_isLot ({ frames := 1, cells := 0, slots := 0, locals := 22 } : Room) D (tyX cI cZ cQ) (wM cI cZ a) [.ref (a 0), .int x] u (fun (r : Int32) (u' : LU) => r = bP (0 ≤ x.toInt ∧ x.toInt < (u 0 7).toInt) ∧ u' = u) := by
  refine ent_I (own := RX1) (maxL := 2) (cc := cX1_isLot) (L0 := [(0, .ref (a 0)), (1, .int x)]) (by decide) rfl (wM_ok _ _ _) rfl (Nat.le_of_ble_eq_true rfl) rfl ?_
  intro p e s m args below meth c A C hr
  have FM : ∀ w ∈ wsX10, w.before args s = true := fun w h => C.2.2.2.2.1 w ((by decide +kernel : ∀ w ∈ wsX10, w ∈ wsX1_isLot) w h)
  have t9 : (u 0 7 - 1).toInt = (u 0 7).toInt - (1 : Int32).toInt := ti_sub (by rw [show (1 : Int32).toInt = 1 from rfl]; omega) (by rw [show (1 : Int32).toInt = 1 from rfl]; have := ti_rng (u 0 7); omega)
  rw [show (1 : Int32).toInt = 1 from rfl] at t9
  refine g_iload_n (pc' := 1) (q := 1) C dX1_isLot_0 rfl rfl rfl ?_
  refine g_iconst (pc' := 2) (v := 0) C dX1_isLot_1 rfl (by decide) ?_
  refine g_aload_n (pc' := 3) (q := 0) C dX1_isLot_2 rfl rfl rfl ?_
  refine g_get (pc' := 6) (v := .int (u 0 7)) C FM 0 (by rfl) rfl 7 (by decide) (by decide +kernel) rfl (by rfl) dX1_isLot_3 rfl ?_
  refine g_iconst (pc' := 7) (v := 1) C dX1_isLot_6 rfl (by decide) ?_
  refine g_isub (pc' := 8) C dX1_isLot_7 rfl ?_
  refine g_calliS (pc' := 11) (As := [.int x, .int 0, .int ((u 0 7) - 1)]) (st := []) (cells' := 0) (slots' := 0) C (c_X1_in _ x 0 ((u 0 7) - 1)) gX1_isLot_X1_in rfl (by decide +kernel) ⟨Nat.le_of_ble_eq_true rfl, Nat.le_of_ble_eq_true rfl⟩ (n := 3) rfl rfl (Nat.le_of_ble_eq_true rfl) dX1_isLot_8 rfl rfl rfl ⟨Nat.le_of_ble_eq_true rfl, Nat.le_of_ble_eq_true rfl⟩ (fun r_1 u_1 h_2 => ?_)
  obtain ⟨rfl, h_2⟩ := h_2
  refine g_st h_2 ?_
  exact g_iret C hr (bP_nar _) ⟨bP_c (P := 0 ≤ x.toInt ∧ x.toInt ≤ ((u 0 7) - 1).toInt) (by omega), rfl⟩ dX1_isLot_11
set_option maxHeartbeats 4000000 in
set_option maxRecDepth 100000 in
theorem c_X1_isWafer {l : Launch} {D : va_G} {cI cZ cQ : ClassId} {a : Nat → Nat} (u : LU) (x : Int32) (hB : 0 ≤ (u 0 15).toInt) : KI l yX1_isWafer wsX1_isWafer ({ frames := 1, cells := 0, slots := 0, locals := 22 } : Room) D (tyX cI cZ cQ) (wM cI cZ a) [.ref (a 0), .int x] u (fun (r : Int32) (u' : LU) => r = bP (0 ≤ x.toInt ∧ x.toInt < (u 0 15).toInt) ∧ u' = u) := by
  refine ent_I (own := RX1) (maxL := 2) (cc := cX1_isWafer) (L0 := [(0, .ref (a 0)), (1, .int x)]) (by decide) rfl (wM_ok _ _ _) rfl (Nat.le_of_ble_eq_true rfl) rfl ?_
  intro p e s m args below meth c A C hr
  have FM : ∀ w ∈ wsX10, w.before args s = true := fun w h => C.2.2.2.2.1 w ((by decide +kernel : ∀ w ∈ wsX10, w ∈ wsX1_isWafer) w h)
  have t9 : (u 0 15 - 1).toInt = (u 0 15).toInt - (1 : Int32).toInt := ti_sub (by rw [show (1 : Int32).toInt = 1 from rfl]; omega) (by rw [show (1 : Int32).toInt = 1 from rfl]; have := ti_rng (u 0 15); omega)
  rw [show (1 : Int32).toInt = 1 from rfl] at t9
  refine g_iload_n (pc' := 1) (q := 1) C dX1_isWafer_0 rfl rfl rfl ?_
  refine g_iconst (pc' := 2) (v := 0) C dX1_isWafer_1 rfl (by decide) ?_
  refine g_aload_n (pc' := 3) (q := 0) C dX1_isWafer_2 rfl rfl rfl ?_
  refine g_get (pc' := 6) (v := .int (u 0 15)) C FM 0 (by rfl) rfl 15 (by decide) (by decide +kernel) rfl (by rfl) dX1_isWafer_3 rfl ?_
  refine g_iconst (pc' := 7) (v := 1) C dX1_isWafer_6 rfl (by decide) ?_
  refine g_isub (pc' := 8) C dX1_isWafer_7 rfl ?_
  refine g_calliS (pc' := 11) (As := [.int x, .int 0, .int ((u 0 15) - 1)]) (st := []) (cells' := 0) (slots' := 0) C (c_X1_in _ x 0 ((u 0 15) - 1)) gX1_isWafer_X1_in rfl (by decide +kernel) ⟨Nat.le_of_ble_eq_true rfl, Nat.le_of_ble_eq_true rfl⟩ (n := 3) rfl rfl (Nat.le_of_ble_eq_true rfl) dX1_isWafer_8 rfl rfl rfl ⟨Nat.le_of_ble_eq_true rfl, Nat.le_of_ble_eq_true rfl⟩ (fun r_1 u_1 h_2 => ?_)
  obtain ⟨rfl, h_2⟩ := h_2
  refine g_st h_2 ?_
  exact g_iret C hr (bP_nar _) ⟨bP_c (P := 0 ≤ x.toInt ∧ x.toInt ≤ ((u 0 15) - 1).toInt) (by omega), rfl⟩ dX1_isWafer_11
set_option maxHeartbeats 4000000 in
set_option maxRecDepth 100000 in
theorem c_X1_waited {l : Launch} {D : va_G} {cI cZ cQ : ClassId} {a : Nat → Nat} (u : LU) (n : Nat) (hn : n < 24) : KI l yX1_waited wsX1_waited ({ frames := 0, cells := 0, slots := 0, locals := 0 } : Room) D (tyX cI cZ cQ) (wM cI cZ a) [.ref (a 0), .int (nI n)] u (fun (r : Int32) (u' : LU) => r = u 0 1 - u 11 n ∧ u' = u) := by
  refine ent_I (own := RX1) (maxL := 2) (cc := cX1_waited) (L0 := [(0, .ref (a 0)), (1, .int (nI n))]) (by decide) rfl (wM_ok _ _ _) rfl (Nat.le_of_ble_eq_true rfl) rfl ?_
  intro p e s m args below meth c A C hr
  have FM : ∀ w ∈ wsX10, w.before args s = true := fun w h => C.2.2.2.2.1 w ((by decide +kernel : ∀ w ∈ wsX10, w ∈ wsX1_waited) w h)
  refine g_aload_n (pc' := 1) (q := 0) C dX1_waited_0 rfl rfl rfl ?_
  refine g_get (pc' := 4) (v := .int (u 0 1)) C FM 0 (by rfl) rfl 1 (by decide) (by decide +kernel) rfl (by rfl) dX1_waited_1 rfl ?_
  refine g_aload_n (pc' := 5) (q := 0) C dX1_waited_4 rfl rfl rfl ?_
  refine g_get (pc' := 8) (v := .ref (a 11)) C FM 0 (by rfl) rfl 10 (by decide) (by decide +kernel) rfl (by rfl) dX1_waited_5 rfl ?_
  refine g_iload_n (pc' := 9) (q := 1) C dX1_waited_8 rfl rfl rfl ?_
  refine g_iald (pc' := 10) (n := 24) (f := u 11) C 7 0 (by rfl) rfl (vp_in_nI (by omega) (by omega)) (k := n) (nI_clamp (by omega)) dX1_waited_9 rfl ?_
  refine g_isub (pc' := 11) C dX1_waited_10 rfl ?_
  exact g_iret C hr rfl ⟨rfl, rfl⟩ dX1_waited_11
set_option maxHeartbeats 4000000 in
set_option maxRecDepth 100000 in
theorem c_X1_tooLate {l : Launch} {D : va_G} {cI cZ cQ : ClassId} {a : Nat → Nat} (u : LU) (n : Nat) (hn : n < 24) (hT : (u 9 n).toInt ≤ 1 → 0 ≤ (u 10 n).toInt ∧ (u 10 n).toInt < 12) : KI l yX1_tooLate wsX1_tooLate ({ frames := 1, cells := 0, slots := 0, locals := 21 } : Room) D (tyX cI cZ cQ) (wM cI cZ a) [.ref (a 0), .int (nI n)] u (fun (r : Int32) (u' : LU) => r = bP (tlM u n) ∧ u' = u) := by
  refine ent_I (own := RX1) (maxL := 2) (cc := cX1_tooLate) (L0 := [(0, .ref (a 0)), (1, .int (nI n))]) (by decide) rfl (wM_ok _ _ _) rfl (Nat.le_of_ble_eq_true rfl) rfl ?_
  intro p e s m args below meth c A C hr
  have FM : ∀ w ∈ wsX10, w.before args s = true := fun w h => C.2.2.2.2.1 w ((by decide +kernel : ∀ w ∈ wsX10, w ∈ wsX1_tooLate) w h)
  refine g_aload_n (pc' := 1) (q := 0) C dX1_tooLate_0 rfl rfl rfl ?_
  refine g_get (pc' := 4) (v := .ref (a 9)) C FM 0 (by rfl) rfl 8 (by decide) (by decide +kernel) rfl (by rfl) dX1_tooLate_1 rfl ?_
  refine g_iload_n (pc' := 5) (q := 1) C dX1_tooLate_4 rfl rfl rfl ?_
  refine g_iald (pc' := 6) (n := 24) (f := u 9) C 5 0 (by rfl) rfl (vp_in_nI (by omega) (by omega)) (k := n) (nI_clamp (by omega)) dX1_tooLate_5 rfl ?_
  refine g_if_ne (tgt := 46) (pc' := 9) C dX1_tooLate_6 rfl (by decide) (fun (c_1 : ¬ (u 9 n).toInt = 0) => ?_) (fun (c_1 : (u 9 n).toInt = 0) => ?_)
  · skip
    refine g_iconst (pc' := 47) (v := 0) C dX1_tooLate_46 rfl (by decide) ?_
    exact g_iret C hr (by decide) ⟨(bP_f (by unfold tlM; omega)).symm, rfl⟩ dX1_tooLate_47
  · skip
    refine g_aload_n (pc' := 10) (q := 0) C dX1_tooLate_9 rfl rfl rfl ?_
    refine g_get (pc' := 13) (v := .ref (a 6)) C FM 0 (by rfl) rfl 5 (by decide) (by decide +kernel) rfl (by rfl) dX1_tooLate_10 rfl ?_
    refine g_aload_n (pc' := 14) (q := 0) C dX1_tooLate_13 rfl rfl rfl ?_
    refine g_get (pc' := 17) (v := .ref (a 10)) C FM 0 (by rfl) rfl 9 (by decide) (by decide +kernel) rfl (by rfl) dX1_tooLate_14 rfl ?_
    refine g_iload_n (pc' := 18) (q := 1) C dX1_tooLate_17 rfl rfl rfl ?_
    refine g_iald (pc' := 19) (n := 24) (f := u 10) C 6 0 (by rfl) rfl (vp_in_nI (by omega) (by omega)) (k := n) (nI_clamp (by omega)) dX1_tooLate_18 rfl ?_
    refine g_iald (pc' := 20) (n := 12) (f := u 6) C 3 0 (by rfl) rfl (vp_of (by omega) (by omega)) (k := (u 10 n).toNatClampNeg) rfl dX1_tooLate_19 rfl ?_
    refine g_if_le (tgt := 46) (pc' := 23) C dX1_tooLate_20 rfl (by decide) (fun (c_2 : (u 6 (u 10 n).toNatClampNeg).toInt ≤ 0) => ?_) (fun (c_2 : ¬ ((u 6 (u 10 n).toNatClampNeg).toInt ≤ 0)) => ?_)
    · skip
      refine g_iconst (pc' := 47) (v := 0) C dX1_tooLate_46 rfl (by decide) ?_
      exact g_iret C hr (by decide) ⟨(bP_f (by unfold tlM; omega)).symm, rfl⟩ dX1_tooLate_47
    · skip
      refine g_aload_n (pc' := 24) (q := 0) C dX1_tooLate_23 rfl rfl rfl ?_
      refine g_iload_n (pc' := 25) (q := 1) C dX1_tooLate_24 rfl rfl rfl ?_
      refine g_calliV (pc' := 28) (As := [.int (nI n)]) (st := []) (cells' := 0) (slots' := 0) C (c_X1_waited _ n (by omega)) gX1_tooLate_X1_waited rfl (by decide +kernel) ⟨Nat.le_of_ble_eq_true rfl, Nat.le_of_ble_eq_true rfl⟩ 0 (by rfl) rfl (n := 1) rfl rfl (Nat.le_of_ble_eq_true rfl) dX1_tooLate_25 rfl rfl rfl ⟨Nat.le_of_ble_eq_true rfl, Nat.le_of_ble_eq_true rfl⟩ (fun r_3 u_3 h_4 => ?_)
      obtain ⟨rfl, h_4⟩ := h_4
      refine g_st h_4 ?_
      refine g_aload_n (pc' := 29) (q := 0) C dX1_tooLate_28 rfl rfl rfl ?_
      refine g_get (pc' := 32) (v := .ref (a 6)) C FM 0 (by rfl) rfl 5 (by decide) (by decide +kernel) rfl (by rfl) dX1_tooLate_29 rfl ?_
      refine g_aload_n (pc' := 33) (q := 0) C dX1_tooLate_32 rfl rfl rfl ?_
      refine g_get (pc' := 36) (v := .ref (a 10)) C FM 0 (by rfl) rfl 9 (by decide) (by decide +kernel) rfl (by rfl) dX1_tooLate_33 rfl ?_
      refine g_iload_n (pc' := 37) (q := 1) C dX1_tooLate_36 rfl rfl rfl ?_
      refine g_iald (pc' := 38) (n := 24) (f := u 10) C 6 0 (by rfl) rfl (vp_in_nI (by omega) (by omega)) (k := n) (nI_clamp (by omega)) dX1_tooLate_37 rfl ?_
      refine g_iald (pc' := 39) (n := 12) (f := u 6) C 3 0 (by rfl) rfl (vp_of (by omega) (by omega)) (k := (u 10 n).toNatClampNeg) rfl dX1_tooLate_38 rfl ?_
      refine g_icmp_le (tgt := 46) (pc' := 42) C dX1_tooLate_39 rfl (by decide) (fun (c_5 : (u 0 1 - u 11 n).toInt ≤ (u 6 (u 10 n).toNatClampNeg).toInt) => ?_) (fun (c_5 : ¬ ((u 0 1 - u 11 n).toInt ≤ (u 6 (u 10 n).toNatClampNeg).toInt)) => ?_)
      · skip
        refine g_iconst (pc' := 47) (v := 0) C dX1_tooLate_46 rfl (by decide) ?_
        exact g_iret C hr (by decide) ⟨(bP_f (by unfold tlM; omega)).symm, rfl⟩ dX1_tooLate_47
      · skip
        refine g_iconst (pc' := 43) (v := 1) C dX1_tooLate_42 rfl (by decide) ?_
        refine g_goto (tgt := 47) C dX1_tooLate_43 (by decide) ?_
        exact g_iret C hr (by decide) ⟨(bP_t (by unfold tlM; omega)).symm, rfl⟩ dX1_tooLate_47
set_option maxHeartbeats 4000000 in
set_option maxRecDepth 100000 in
theorem c_X1_isBusy {l : Launch} {D : va_G} {cI cZ cQ : ClassId} {a : Nat → Nat} (u : LU) (x : Int32) (hL7 : 0 ≤ (u 0 7).toInt ∧ (u 0 7).toInt ≤ 24) (hT10 : ∀ n, n < 24 → (u 9 n).toInt ≤ 1 → 0 ≤ (u 10 n).toInt ∧ (u 10 n).toInt < 12) : KI l yX1_isBusy wsX1_isBusy ({ frames := 0, cells := 0, slots := 0, locals := 0 } : Room) D (tyX cI cZ cQ) (wM cI cZ a) [.ref (a 0), .int x] u (fun (r : Int32) (u' : LU) => r = bP (buM u x) ∧ u' = u) := by
  refine ent_I (own := RX1) (maxL := 4) (cc := cX1_isBusy) (L0 := [(0, .ref (a 0)), (1, .int x)]) (by decide) rfl (wM_ok _ _ _) rfl (Nat.le_of_ble_eq_true rfl) rfl ?_
  intro p e s m args below meth c A C hr
  have FM : ∀ w ∈ wsX10, w.before args s = true := fun w h => C.2.2.2.2.1 w ((by decide +kernel : ∀ w ∈ wsX10, w ∈ wsX1_isBusy) w h)
  refine g_iconst (pc' := 1) (v := 0) C dX1_isBusy_0 rfl (by decide) ?_
  refine g_istore_n (pc' := 2) (L' := [(2, .int 0), (0, .ref (a 0)), (1, .int x)]) C dX1_isBusy_1 rfl rfl (by decide) rfl ?_
  refine g_iconst (pc' := 3) (v := 0) C dX1_isBusy_2 rfl (by decide) ?_
  refine g_istore_n (pc' := 4) (L' := [(3, .int 0), (2, .int 0), (0, .ref (a 0)), (1, .int x)]) C dX1_isBusy_3 rfl rfl (by decide) rfl ?_
  have loop_4 : ∀ (k : Nat) (i : Nat), (i : Int) ≤ (u 0 7).toInt → (u 0 7).toInt + 1 ≤ i + k → G p l e ({ frames := 0, cells := 0, slots := 0, locals := 0 } : Room) s m args below meth c D A 4 (wM cI cZ a) 0 0 (MQ below (va_Qi (fun (r : Int32) (u' : LU) => r = bP (buM u x) ∧ u' = u) (KE D (tyX cI cZ cQ) (wM cI cZ a)) A) args s 0 0 A) u 4 [(0, .ref (a 0)), (1, .int x), (2, .int (bP (buP u x i))), (3, .int (nI i))] [] := by
    intro k
    induction k with
    | zero =>
      intro i hi hk
      omega
    | succ k ih =>
      intro i hi hk
      refine g_iload_n (pc' := 5) (q := 3) C dX1_isBusy_4 rfl rfl rfl ?_
      refine g_aload_n (pc' := 6) (q := 0) C dX1_isBusy_5 rfl rfl rfl ?_
      refine g_get (pc' := 9) (v := .int (u 0 7)) C FM 0 (by rfl) rfl 7 (by decide) (by decide +kernel) rfl (by rfl) dX1_isBusy_6 rfl ?_
      have t_1 : (nI i).toInt = ((i : Nat) : Int) := nI_toInt (by omega)
      refine g_icmp_ge (tgt := 53) (pc' := 12) C dX1_isBusy_9 rfl (by decide) (fun (c_2 : (u 0 7).toInt ≤ (nI i).toInt) => ?_) (fun (c_2 : ¬ ((u 0 7).toInt ≤ (nI i).toInt)) => ?_)
      · skip
        refine g_iload_n (pc' := 54) (q := 2) C dX1_isBusy_53 rfl rfl rfl ?_
        exact g_iret C hr (bP_nar _) ⟨by unfold buM; rw [show (u 0 7).toInt.toNat = i by omega], rfl⟩ dX1_isBusy_54
      · skip
        refine g_iload_n (pc' := 13) (q := 2) C dX1_isBusy_12 rfl rfl rfl ?_
        refine g_ifP_ne (tgt := 41) (pc' := 16) C dX1_isBusy_13 rfl (by decide) (fun (c_3 : buP u x i) => ?_) (fun (c_3 : ¬ (buP u x i)) => ?_)
        · skip
          refine g_iconst (pc' := 42) (v := 1) C dX1_isBusy_41 rfl (by decide) ?_
          refine g_goto (tgt := 46) C dX1_isBusy_42 (by decide) ?_
          refine g_istore_n (pc' := 47) (L' := [(2, .int 1), (0, .ref (a 0)), (1, .int x), (3, .int (nI i))]) C dX1_isBusy_46 rfl rfl (by decide) rfl ?_
          refine g_iinc (pc' := 50) (v := nI (i + 1)) (L' := [(3, .int (nI (i + 1))), (2, .int 1), (0, .ref (a 0)), (1, .int x)]) C dX1_isBusy_47 rfl (k := 3) rfl (nI_1 _) (by decide) rfl ?_
          refine g_goto (tgt := 4) C dX1_isBusy_50 (by decide) ?_
          have e_2 : (1 : Int32) = bP (buP u x (i + 1)) := (bP_t (by first | exact buP_t (by assumption) | exact buP_n (by assumption) (by assumption))).symm
          refine g_sub (L' := [(0, .ref (a 0)), (1, .int x), (2, .int (bP (buP u x (i + 1)))), (3, .int (nI (i + 1)))]) [2, 3, 1, 0] (by rw [← e_2]; rfl) ?_
          exact ih (i + 1) (by omega) (by omega)
        · skip
          refine g_aload_n (pc' := 17) (q := 0) C dX1_isBusy_16 rfl rfl rfl ?_
          refine g_get (pc' := 20) (v := .ref (a 9)) C FM 0 (by rfl) rfl 8 (by decide) (by decide +kernel) rfl (by rfl) dX1_isBusy_17 rfl ?_
          refine g_iload_n (pc' := 21) (q := 3) C dX1_isBusy_20 rfl rfl rfl ?_
          refine g_iald (pc' := 22) (n := 24) (f := u 9) C 5 0 (by rfl) rfl (vp_in_nI (by omega) (by omega)) (k := i) (nI_clamp (by omega)) dX1_isBusy_21 rfl ?_
          refine g_iconst (pc' := 23) (v := 1) C dX1_isBusy_22 rfl (by decide) ?_
          refine g_icmp_ne (tgt := 45) (pc' := 26) C dX1_isBusy_23 rfl (by decide) (fun (c_4 : ¬ (u 9 i).toInt = 1) => ?_) (fun (c_4 : (u 9 i).toInt = 1) => ?_)
          · skip
            refine g_iconst (pc' := 46) (v := 0) C dX1_isBusy_45 rfl (by decide) ?_
            refine g_istore_n (pc' := 47) (L' := [(2, .int 0), (0, .ref (a 0)), (1, .int x), (3, .int (nI i))]) C dX1_isBusy_46 rfl rfl (by decide) rfl ?_
            refine g_iinc (pc' := 50) (v := nI (i + 1)) (L' := [(3, .int (nI (i + 1))), (2, .int 0), (0, .ref (a 0)), (1, .int x)]) C dX1_isBusy_47 rfl (k := 3) rfl (nI_1 _) (by decide) rfl ?_
            refine g_goto (tgt := 4) C dX1_isBusy_50 (by decide) ?_
            have e_2 : (0 : Int32) = bP (buP u x (i + 1)) := (bP_f (buP_f (by assumption) (by intro q9; first | exact absurd q9.1 (by assumption) | exact absurd q9.2 (by assumption)))).symm
            refine g_sub (L' := [(0, .ref (a 0)), (1, .int x), (2, .int (bP (buP u x (i + 1)))), (3, .int (nI (i + 1)))]) [2, 3, 1, 0] (by rw [← e_2]; rfl) ?_
            exact ih (i + 1) (by omega) (by omega)
          · skip
            refine g_aload_n (pc' := 27) (q := 0) C dX1_isBusy_26 rfl rfl rfl ?_
            refine g_get (pc' := 30) (v := .ref (a 4)) C FM 0 (by rfl) rfl 3 (by decide) (by decide +kernel) rfl (by rfl) dX1_isBusy_27 rfl ?_
            refine g_aload_n (pc' := 31) (q := 0) C dX1_isBusy_30 rfl rfl rfl ?_
            refine g_get (pc' := 34) (v := .ref (a 10)) C FM 0 (by rfl) rfl 9 (by decide) (by decide +kernel) rfl (by rfl) dX1_isBusy_31 rfl ?_
            refine g_iload_n (pc' := 35) (q := 3) C dX1_isBusy_34 rfl rfl rfl ?_
            refine g_iald (pc' := 36) (n := 24) (f := u 10) C 6 0 (by rfl) rfl (vp_in_nI (by omega) (by omega)) (k := i) (nI_clamp (by omega)) dX1_isBusy_35 rfl ?_
            refine g_iald (pc' := 37) (n := 12) (f := u 4) C 1 0 (by rfl) rfl (vp_of (by have := hT10 i (by omega); omega) (by have := hT10 i (by omega); omega)) (k := (u 10 i).toNatClampNeg) rfl dX1_isBusy_36 rfl ?_
            refine g_iload_n (pc' := 38) (q := 1) C dX1_isBusy_37 rfl rfl rfl ?_
            refine g_icmp_ne (tgt := 45) (pc' := 41) C dX1_isBusy_38 rfl (by decide) (fun (c_5 : ¬ (u 4 (u 10 i).toNatClampNeg).toInt = (x).toInt) => ?_) (fun (c_5 : (u 4 (u 10 i).toNatClampNeg).toInt = (x).toInt) => ?_)
            · skip
              refine g_iconst (pc' := 46) (v := 0) C dX1_isBusy_45 rfl (by decide) ?_
              refine g_istore_n (pc' := 47) (L' := [(2, .int 0), (0, .ref (a 0)), (1, .int x), (3, .int (nI i))]) C dX1_isBusy_46 rfl rfl (by decide) rfl ?_
              refine g_iinc (pc' := 50) (v := nI (i + 1)) (L' := [(3, .int (nI (i + 1))), (2, .int 0), (0, .ref (a 0)), (1, .int x)]) C dX1_isBusy_47 rfl (k := 3) rfl (nI_1 _) (by decide) rfl ?_
              refine g_goto (tgt := 4) C dX1_isBusy_50 (by decide) ?_
              have e_2 : (0 : Int32) = bP (buP u x (i + 1)) := (bP_f (buP_f (by assumption) (by intro q9; first | exact absurd q9.1 (by assumption) | exact absurd q9.2 (by assumption)))).symm
              refine g_sub (L' := [(0, .ref (a 0)), (1, .int x), (2, .int (bP (buP u x (i + 1)))), (3, .int (nI (i + 1)))]) [2, 3, 1, 0] (by rw [← e_2]; rfl) ?_
              exact ih (i + 1) (by omega) (by omega)
            · skip
              refine g_iconst (pc' := 42) (v := 1) C dX1_isBusy_41 rfl (by decide) ?_
              refine g_goto (tgt := 46) C dX1_isBusy_42 (by decide) ?_
              refine g_istore_n (pc' := 47) (L' := [(2, .int 1), (0, .ref (a 0)), (1, .int x), (3, .int (nI i))]) C dX1_isBusy_46 rfl rfl (by decide) rfl ?_
              refine g_iinc (pc' := 50) (v := nI (i + 1)) (L' := [(3, .int (nI (i + 1))), (2, .int 1), (0, .ref (a 0)), (1, .int x)]) C dX1_isBusy_47 rfl (k := 3) rfl (nI_1 _) (by decide) rfl ?_
              refine g_goto (tgt := 4) C dX1_isBusy_50 (by decide) ?_
              have e_2 : (1 : Int32) = bP (buP u x (i + 1)) := (bP_t (by first | exact buP_t (by assumption) | exact buP_n (by assumption) (by assumption))).symm
              refine g_sub (L' := [(0, .ref (a 0)), (1, .int x), (2, .int (bP (buP u x (i + 1)))), (3, .int (nI (i + 1)))]) [2, 3, 1, 0] (by rw [← e_2]; rfl) ?_
              exact ih (i + 1) (by omega) (by omega)
  refine g_sub (L' := [(0, .ref (a 0)), (1, .int x), (2, .int (bP (buP u x 0))), (3, .int (nI 0))]) [2, 3, 1, 0] (by rw [show bP (buP u x 0) = 0 from bP_f (fun ⟨_, h, _⟩ => absurd h (Nat.not_lt_zero _))]; rfl) ?_
  exact loop_4 25 0 (by omega) (by omega)
set_option maxHeartbeats 4000000 in
set_option maxRecDepth 100000 in
theorem c_X1_count {l : Launch} {D : va_G} {cI cZ cQ : ClassId} {a : Nat → Nat} (u : LU) (x : Int32) (hW15 : 0 ≤ (u 0 15).toInt ∧ (u 0 15).toInt ≤ 60) : KI l yX1_count wsX1_count ({ frames := 0, cells := 0, slots := 0, locals := 0 } : Room) D (tyX cI cZ cQ) (wM cI cZ a) [.ref (a 0), .int x] u (fun (r : Int32) (u' : LU) => r = nI (ctA (u 17) x (u 0 15).toInt.toNat) ∧ u' = u) := by
  refine ent_I (own := RX1) (maxL := 4) (cc := cX1_count) (L0 := [(0, .ref (a 0)), (1, .int x)]) (by decide) rfl (wM_ok _ _ _) rfl (Nat.le_of_ble_eq_true rfl) rfl ?_
  intro p e s m args below meth c A C hr
  have FM : ∀ w ∈ wsX10, w.before args s = true := fun w h => C.2.2.2.2.1 w ((by decide +kernel : ∀ w ∈ wsX10, w ∈ wsX1_count) w h)
  refine g_iconst (pc' := 1) (v := 0) C dX1_count_0 rfl (by decide) ?_
  refine g_istore_n (pc' := 2) (L' := [(2, .int 0), (0, .ref (a 0)), (1, .int x)]) C dX1_count_1 rfl rfl (by decide) rfl ?_
  refine g_iconst (pc' := 3) (v := 0) C dX1_count_2 rfl (by decide) ?_
  refine g_istore_n (pc' := 4) (L' := [(3, .int 0), (2, .int 0), (0, .ref (a 0)), (1, .int x)]) C dX1_count_3 rfl rfl (by decide) rfl ?_
  have loop_4 : ∀ (k : Nat) (i : Nat), (i : Int) ≤ (u 0 15).toInt → (u 0 15).toInt + 1 ≤ i + k → G p l e ({ frames := 0, cells := 0, slots := 0, locals := 0 } : Room) s m args below meth c D A 4 (wM cI cZ a) 0 0 (MQ below (va_Qi (fun (r : Int32) (u' : LU) => r = nI (ctA (u 17) x (u 0 15).toInt.toNat) ∧ u' = u) (KE D (tyX cI cZ cQ) (wM cI cZ a)) A) args s 0 0 A) u 4 [(0, .ref (a 0)), (1, .int x), (2, .int (nI (ctA (u 17) x i))), (3, .int (nI i))] [] := by
    intro k
    induction k with
    | zero =>
      intro i hi hk
      omega
    | succ k ih =>
      intro i hi hk
      refine g_iload_n (pc' := 5) (q := 3) C dX1_count_4 rfl rfl rfl ?_
      refine g_aload_n (pc' := 6) (q := 0) C dX1_count_5 rfl rfl rfl ?_
      refine g_get (pc' := 9) (v := .int (u 0 15)) C FM 0 (by rfl) rfl 15 (by decide) (by decide +kernel) rfl (by rfl) dX1_count_6 rfl ?_
      have t_1 : (nI i).toInt = ((i : Nat) : Int) := nI_toInt (by omega)
      refine g_icmp_ge (tgt := 36) (pc' := 12) C dX1_count_9 rfl (by decide) (fun (c_2 : (u 0 15).toInt ≤ (nI i).toInt) => ?_) (fun (c_2 : ¬ ((u 0 15).toInt ≤ (nI i).toInt)) => ?_)
      · skip
        refine g_iload_n (pc' := 37) (q := 2) C dX1_count_36 rfl rfl rfl ?_
        exact g_iret C hr rfl ⟨by rw [show (u 0 15).toInt.toNat = i by omega], rfl⟩ dX1_count_37
      · skip
        refine g_iload_n (pc' := 13) (q := 2) C dX1_count_12 rfl rfl rfl ?_
        refine g_aload_n (pc' := 14) (q := 0) C dX1_count_13 rfl rfl rfl ?_
        refine g_get (pc' := 17) (v := .ref (a 17)) C FM 0 (by rfl) rfl 16 (by decide) (by decide +kernel) rfl (by rfl) dX1_count_14 rfl ?_
        refine g_iload_n (pc' := 18) (q := 3) C dX1_count_17 rfl rfl rfl ?_
        refine g_iald (pc' := 19) (n := 60) (f := u 17) C 12 0 (by rfl) rfl (vp_in_nI (by omega) (by omega)) (k := i) (nI_clamp (by omega)) dX1_count_18 rfl ?_
        refine g_iload_n (pc' := 20) (q := 1) C dX1_count_19 rfl rfl rfl ?_
        refine g_icmp_ne (tgt := 27) (pc' := 23) C dX1_count_20 rfl (by decide) (fun (c_3 : ¬ (u 17 i).toInt = (x).toInt) => ?_) (fun (c_3 : (u 17 i).toInt = (x).toInt) => ?_)
        · skip
          refine g_iconst (pc' := 28) (v := 0) C dX1_count_27 rfl (by decide) ?_
          refine g_iadd (pc' := 29) C dX1_count_28 rfl ?_
          refine g_istore_n (pc' := 30) (L' := [(2, .int ((nI (ctA (u 17) x i)) + 0)), (0, .ref (a 0)), (1, .int x), (3, .int (nI i))]) C dX1_count_29 rfl rfl (by decide) rfl ?_
          refine g_iinc (pc' := 33) (v := nI (i + 1)) (L' := [(3, .int (nI (i + 1))), (2, .int ((nI (ctA (u 17) x i)) + 0)), (0, .ref (a 0)), (1, .int x)]) C dX1_count_30 rfl (k := 3) rfl (nI_1 _) (by decide) rfl ?_
          refine g_goto (tgt := 4) C dX1_count_33 (by decide) ?_
          have e_2 : ((nI (ctA (u 17) x i)) + 0 : Int32) = nI (ctA (u 17) x (i + 1)) := (ctA_f (by assumption))
          refine g_sub (L' := [(0, .ref (a 0)), (1, .int x), (2, .int (nI (ctA (u 17) x (i + 1)))), (3, .int (nI (i + 1)))]) [2, 3, 1, 0] (by rw [← e_2]; rfl) ?_
          exact ih (i + 1) (by omega) (by omega)
        · skip
          refine g_iconst (pc' := 24) (v := 1) C dX1_count_23 rfl (by decide) ?_
          refine g_goto (tgt := 28) C dX1_count_24 (by decide) ?_
          refine g_iadd (pc' := 29) C dX1_count_28 rfl ?_
          refine g_istore_n (pc' := 30) (L' := [(2, .int ((nI (ctA (u 17) x i)) + 1)), (0, .ref (a 0)), (1, .int x), (3, .int (nI i))]) C dX1_count_29 rfl rfl (by decide) rfl ?_
          refine g_iinc (pc' := 33) (v := nI (i + 1)) (L' := [(3, .int (nI (i + 1))), (2, .int ((nI (ctA (u 17) x i)) + 1)), (0, .ref (a 0)), (1, .int x)]) C dX1_count_30 rfl (k := 3) rfl (nI_1 _) (by decide) rfl ?_
          refine g_goto (tgt := 4) C dX1_count_33 (by decide) ?_
          have e_2 : ((nI (ctA (u 17) x i)) + 1 : Int32) = nI (ctA (u 17) x (i + 1)) := (ctA_t (by assumption))
          refine g_sub (L' := [(0, .ref (a 0)), (1, .int x), (2, .int (nI (ctA (u 17) x (i + 1)))), (3, .int (nI (i + 1)))]) [2, 3, 1, 0] (by rw [← e_2]; rfl) ?_
          exact ih (i + 1) (by omega) (by omega)
  refine g_sub (L' := [(0, .ref (a 0)), (1, .int x), (2, .int (nI (ctA (u 17) x 0))), (3, .int (nI 0))]) [2, 3, 1, 0] rfl ?_
  exact loop_4 61 0 (by omega) (by omega)
set_option maxHeartbeats 4000000 in
set_option maxRecDepth 100000 in
theorem c_X1_puts {l : Launch} {D : va_G} {cI cZ cQ : ClassId} {a : Nat → Nat} (u : LU) (w : Nat) (x : Int32) (hw : w < 60) (hp : 0 ≤ (u 18 w).toInt ∧ (u 18 w).toInt ≤ 47) : KV l yX1_puts wsX1_puts ({ frames := 0, cells := 0, slots := 0, locals := 0 } : Room) D (tyX cI cZ cQ) (wM cI cZ a) [.ref (a 0), .int (nI w), .int x] u (fun (u' : LU) => u' = ptM u w x) := by
  refine ent_V (own := RX1) (maxL := 3) (cc := cX1_puts) (L0 := [(0, .ref (a 0)), (1, .int (nI w)), (2, .int x)]) (by decide) rfl (wM_ok _ _ _) rfl (Nat.le_of_ble_eq_true rfl) rfl ?_
  intro p e s m args below meth c A C hr
  have FM : ∀ w ∈ wsX10, w.before args s = true := fun w h => C.2.2.2.2.1 w ((by decide +kernel : ∀ w ∈ wsX10, w ∈ wsX1_puts) w h)
  refine g_aload_n (pc' := 1) (q := 0) C dX1_puts_0 rfl rfl rfl ?_
  refine g_get (pc' := 4) (v := .ref (a 17)) C FM 0 (by rfl) rfl 16 (by decide) (by decide +kernel) rfl (by rfl) dX1_puts_1 rfl ?_
  refine g_iload_n (pc' := 5) (q := 1) C dX1_puts_4 rfl rfl rfl ?_
  refine g_iload_n (pc' := 6) (q := 2) C dX1_puts_5 rfl rfl rfl ?_
  refine g_iast (pc' := 7) (n := 60) (f := u 17) C 12 0 (by rfl) rfl (vp_in_nI (by omega) (by omega)) (k := w) (nI_clamp (by omega)) dX1_puts_6 rfl (wM_set cI cZ a _ (k := 11) rfl) ?_
  refine g_aload_n (pc' := 8) (q := 0) C dX1_puts_7 rfl rfl rfl ?_
  refine g_get (pc' := 11) (v := .ref (a 19)) C FM 0 (by rfl) rfl 18 (by decide) (by decide +kernel) rfl (by rfl) dX1_puts_8 rfl ?_
  refine g_bipush (pc' := 13) (v := 48) C dX1_puts_11 rfl (by decide) ?_
  refine g_iload_n (pc' := 14) (q := 1) C dX1_puts_13 rfl rfl rfl ?_
  refine g_imul (pc' := 15) C dX1_puts_14 rfl ?_
  refine g_aload_n (pc' := 16) (q := 0) C dX1_puts_15 rfl rfl rfl ?_
  refine g_get (pc' := 19) (v := .ref (a 18)) C FM 0 (by rfl) rfl 17 (by decide) (by decide +kernel) rfl (by rfl) dX1_puts_16 rfl ?_
  refine g_iload_n (pc' := 20) (q := 1) C dX1_puts_19 rfl rfl rfl ?_
  refine g_iald (pc' := 21) (n := 60) (f := u 18) C 13 0 (by rfl) rfl (vp_in_nI (by omega) (by omega)) (k := w) (nI_clamp (by omega)) dX1_puts_20 rfl ?_
  refine g_iadd (pc' := 22) C dX1_puts_21 rfl ?_
  refine g_iload_n (pc' := 23) (q := 2) C dX1_puts_22 rfl rfl rfl ?_
  refine g_iast (pc' := 24) (n := 2880) (f := u 19) C 14 0 (by rfl) rfl (ix48_in hw hp) (k := (48 * w + (u 18 w).toInt.toNat)) (ix48_k hw hp) dX1_puts_23 rfl (wM_set cI cZ a _ (k := 13) rfl) ?_
  refine g_aload_n (pc' := 25) (q := 0) C dX1_puts_24 rfl rfl rfl ?_
  refine g_get (pc' := 28) (v := .ref (a 18)) C FM 0 (by rfl) rfl 17 (by decide) (by decide +kernel) rfl (by rfl) dX1_puts_25 rfl ?_
  refine g_iload_n (pc' := 29) (q := 1) C dX1_puts_28 rfl rfl rfl ?_
  refine g_dup2 (pc' := 30) C dX1_puts_29 rfl rfl rfl ?_
  refine g_iald (pc' := 31) (n := 60) (f := u 18) C 13 0 (by rfl) rfl (vp_in_nI (by omega) (by omega)) (k := w) (nI_clamp (by omega)) dX1_puts_30 rfl ?_
  refine g_iconst (pc' := 32) (v := 1) C dX1_puts_31 rfl (by decide) ?_
  refine g_iadd (pc' := 33) C dX1_puts_32 rfl ?_
  refine g_iast (pc' := 34) (n := 60) (f := u 18) C 13 0 (by rfl) rfl (vp_in_nI (by omega) (by omega)) (k := w) (nI_clamp (by omega)) dX1_puts_33 rfl (wM_set cI cZ a _ (k := 12) rfl) ?_
  exact g_vret C hr rfl dX1_puts_34
set_option maxHeartbeats 4000000 in
set_option maxRecDepth 100000 in
theorem c_X1_canMerge {l : Launch} {D : va_G} {cI cZ cQ : ClassId} {a : Nat → Nat} (u : LU) (n : Nat) (hn : n < 24) : KI l yX1_canMerge wsX1_canMerge ({ frames := 0, cells := 0, slots := 0, locals := 0 } : Room) D (tyX cI cZ cQ) (wM cI cZ a) [.ref (a 0), .int (nI n)] u (fun (r : Int32) (u' : LU) => r = bP ((u 9 n).toInt = 0 ∧ (u 13 n).toInt = 0) ∧ u' = u) := by
  refine ent_I (own := RX1) (maxL := 2) (cc := cX1_canMerge) (L0 := [(0, .ref (a 0)), (1, .int (nI n))]) (by decide) rfl (wM_ok _ _ _) rfl (Nat.le_of_ble_eq_true rfl) rfl ?_
  intro p e s m args below meth c A C hr
  have FM : ∀ w ∈ wsX10, w.before args s = true := fun w h => C.2.2.2.2.1 w ((by decide +kernel : ∀ w ∈ wsX10, w ∈ wsX1_canMerge) w h)
  refine g_aload_n (pc' := 1) (q := 0) C dX1_canMerge_0 rfl rfl rfl ?_
  refine g_get (pc' := 4) (v := .ref (a 9)) C FM 0 (by rfl) rfl 8 (by decide) (by decide +kernel) rfl (by rfl) dX1_canMerge_1 rfl ?_
  refine g_iload_n (pc' := 5) (q := 1) C dX1_canMerge_4 rfl rfl rfl ?_
  refine g_iald (pc' := 6) (n := 24) (f := u 9) C 5 0 (by rfl) rfl (vp_in_nI (by omega) (by omega)) (k := n) (nI_clamp (by omega)) dX1_canMerge_5 rfl ?_
  refine g_if_ne (tgt := 22) (pc' := 9) C dX1_canMerge_6 rfl (by decide) (fun (c_1 : ¬ (u 9 n).toInt = 0) => ?_) (fun (c_1 : (u 9 n).toInt = 0) => ?_)
  · skip
    refine g_iconst (pc' := 23) (v := 0) C dX1_canMerge_22 rfl (by decide) ?_
    exact g_iret C hr (by decide) ⟨(bP_f (by omega)).symm, rfl⟩ dX1_canMerge_23
  · skip
    refine g_aload_n (pc' := 10) (q := 0) C dX1_canMerge_9 rfl rfl rfl ?_
    refine g_get (pc' := 13) (v := .ref (a 13)) C FM 0 (by rfl) rfl 12 (by decide) (by decide +kernel) rfl (by rfl) dX1_canMerge_10 rfl ?_
    refine g_iload_n (pc' := 14) (q := 1) C dX1_canMerge_13 rfl rfl rfl ?_
    refine g_zald (pc' := 15) (n := 24) (f := u 13) C 9 1 (by rfl) rfl (vp_in_nI (by omega) (by omega)) (k := n) (nI_clamp (by omega)) dX1_canMerge_14 rfl ?_
    refine g_if_ne (tgt := 22) (pc' := 18) C dX1_canMerge_15 rfl (by decide) (fun (c_2 : ¬ (u 13 n).toInt = 0) => ?_) (fun (c_2 : (u 13 n).toInt = 0) => ?_)
    · skip
      refine g_iconst (pc' := 23) (v := 0) C dX1_canMerge_22 rfl (by decide) ?_
      exact g_iret C hr (by decide) ⟨(bP_f (by omega)).symm, rfl⟩ dX1_canMerge_23
    · skip
      refine g_iconst (pc' := 19) (v := 1) C dX1_canMerge_18 rfl (by decide) ?_
      refine g_goto (tgt := 23) C dX1_canMerge_19 (by decide) ?_
      exact g_iret C hr (by decide) ⟨(bP_t (by omega)).symm, rfl⟩ dX1_canMerge_23
set_option maxHeartbeats 4000000 in
set_option maxRecDepth 100000 in
theorem c_X1_left {l : Launch} {D : va_G} {cI cZ cQ : ClassId} {a : Nat → Nat} (u : LU) (n : Nat) (hn : n < 24) (hT : 0 ≤ (u 10 n).toInt ∧ (u 10 n).toInt < 12) : KI l yX1_left wsX1_left ({ frames := 1, cells := 0, slots := 0, locals := 21 } : Room) D (tyX cI cZ cQ) (wM cI cZ a) [.ref (a 0), .int (nI n)] u (fun (r : Int32) (u' : LU) => r = lfM u n ∧ u' = u) := by
  refine ent_I (own := RX1) (maxL := 3) (cc := cX1_left) (L0 := [(0, .ref (a 0)), (1, .int (nI n))]) (by decide) rfl (wM_ok _ _ _) rfl (Nat.le_of_ble_eq_true rfl) rfl ?_
  intro p e s m args below meth c A C hr
  have FM : ∀ w ∈ wsX10, w.before args s = true := fun w h => C.2.2.2.2.1 w ((by decide +kernel : ∀ w ∈ wsX10, w ∈ wsX1_left) w h)
  refine g_aload_n (pc' := 1) (q := 0) C dX1_left_0 rfl rfl rfl ?_
  refine g_get (pc' := 4) (v := .ref (a 6)) C FM 0 (by rfl) rfl 5 (by decide) (by decide +kernel) rfl (by rfl) dX1_left_1 rfl ?_
  refine g_aload_n (pc' := 5) (q := 0) C dX1_left_4 rfl rfl rfl ?_
  refine g_get (pc' := 8) (v := .ref (a 10)) C FM 0 (by rfl) rfl 9 (by decide) (by decide +kernel) rfl (by rfl) dX1_left_5 rfl ?_
  refine g_iload_n (pc' := 9) (q := 1) C dX1_left_8 rfl rfl rfl ?_
  refine g_iald (pc' := 10) (n := 24) (f := u 10) C 6 0 (by rfl) rfl (vp_in_nI (by omega) (by omega)) (k := n) (nI_clamp (by omega)) dX1_left_9 rfl ?_
  refine g_iald (pc' := 11) (n := 12) (f := u 6) C 3 0 (by rfl) rfl (vp_of (by omega) (by omega)) (k := (u 10 n).toNatClampNeg) rfl dX1_left_10 rfl ?_
  refine g_istore_n (pc' := 12) (L' := [(2, .int (u 6 (u 10 n).toNatClampNeg)), (0, .ref (a 0)), (1, .int (nI n))]) C dX1_left_11 rfl rfl (by decide) rfl ?_
  refine g_iload_n (pc' := 13) (q := 0) C dX1_left_12 rfl rfl rfl ?_
  refine g_if_ne (tgt := 21) (pc' := 16) C dX1_left_13 rfl (by decide) (fun (c_1 : ¬ (u 6 (u 10 n).toNatClampNeg).toInt = 0) => ?_) (fun (c_1 : (u 6 (u 10 n).toNatClampNeg).toInt = 0) => ?_)
  · skip
    refine g_iload_n (pc' := 22) (q := 0) C dX1_left_21 rfl rfl rfl ?_
    refine g_aload_n (pc' := 23) (q := 1) C dX1_left_22 rfl rfl rfl ?_
    refine g_iload_n (pc' := 24) (q := 2) C dX1_left_23 rfl rfl rfl ?_
    refine g_calliV (pc' := 27) (As := [.int (nI n)]) (st := [.int (u 6 (u 10 n).toNatClampNeg)]) (cells' := 0) (slots' := 0) C (c_X1_waited _ n (by omega)) gX1_left_X1_waited rfl (by decide +kernel) ⟨Nat.le_of_ble_eq_true rfl, Nat.le_of_ble_eq_true rfl⟩ 0 (by rfl) rfl (n := 1) rfl rfl (Nat.le_of_ble_eq_true rfl) dX1_left_24 rfl rfl rfl ⟨Nat.le_of_ble_eq_true rfl, Nat.le_of_ble_eq_true rfl⟩ (fun r_2 u_2 h_3 => ?_)
    obtain ⟨rfl, h_3⟩ := h_3
    refine g_st h_3 ?_
    refine g_isub (pc' := 28) C dX1_left_27 rfl ?_
    exact g_iret C hr rfl ⟨by unfold lfM; (repeat' split) <;> first | rfl | (exfalso; omega), rfl⟩ dX1_left_28
  · skip
    refine g_ldc (pc' := 18) (v := 1000000) C dX1_left_16 rfl (by decide +kernel) ?_
    refine g_goto (tgt := 28) C dX1_left_18 (by decide) ?_
    exact g_iret C hr rfl ⟨by unfold lfM; (repeat' split) <;> first | rfl | (exfalso; omega), rfl⟩ dX1_left_28
