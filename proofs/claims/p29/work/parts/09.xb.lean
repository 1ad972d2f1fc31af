set_option maxHeartbeats 4000000 in
set_option maxRecDepth 100000 in
theorem c_X0_leaveRoute {l : Launch} {D : va_G} {cI cZ cQ : ClassId} {a : Nat → Nat} (u : LU) (n : Nat) (x : Int32) (hn : n < 24) : KV l yX0_leaveRoute wsX0_leaveRoute ({ frames := 0, cells := 0, slots := 0, locals := 0 } : Room) D (tyX cI cZ cQ) (wX cI cZ cQ a) [.ref (a 0), .int (nI n), .int x] u (fun (u' : LU) => u' = lvX u n x) := by
  refine ent_V (own := RX0) (maxL := 3) (cc := cX0_leaveRoute) (L0 := [(0, .ref (a 0)), (1, .int (nI n)), (2, .int x)]) (by decide) rfl (wX_ok _ _ _ _) rfl (Nat.le_of_ble_eq_true rfl) rfl ?_
  intro p e s m args below meth c A C hr
  have FX : ∀ w ∈ wsX00, w.before args s = true := fun w h => C.2.2.2.2.1 w ((by decide +kernel : ∀ w ∈ wsX00, w ∈ wsX0_leaveRoute) w h)
  refine g_aload_n (pc' := 1) (q := 0) C dX0_leaveRoute_0 rfl rfl rfl ?_
  refine g_get (pc' := 4) (v := .ref (a 6)) C FX 0 (by rfl) rfl 5 (by decide) (by decide +kernel) rfl (by rfl) dX0_leaveRoute_1 rfl ?_
  refine g_iload_n (pc' := 5) (q := 1) C dX0_leaveRoute_4 rfl rfl rfl ?_
  refine g_iload_n (pc' := 6) (q := 2) C dX0_leaveRoute_5 rfl rfl rfl ?_
  refine g_iast (pc' := 7) (n := 24) (f := u 6) C 6 0 (by rfl) rfl (vp_in_nI (by omega) (by omega)) (k := n) (nI_clamp (by omega)) dX0_leaveRoute_6 rfl (wX_set cI cZ cQ a _ (k := 4) rfl) ?_
  refine g_aload_n (pc' := 8) (q := 0) C dX0_leaveRoute_7 rfl rfl rfl ?_
  refine g_get (pc' := 11) (v := .ref (a 7)) C FX 0 (by rfl) rfl 6 (by decide) (by decide +kernel) rfl (by rfl) dX0_leaveRoute_8 rfl ?_
  refine g_iload_n (pc' := 12) (q := 1) C dX0_leaveRoute_11 rfl rfl rfl ?_
  refine g_iconst (pc' := 13) (v := (-1)) C dX0_leaveRoute_12 rfl (by decide) ?_
  refine g_iast (pc' := 14) (n := 24) (f := u 7) C 7 0 (by rfl) rfl (vp_in_nI (by omega) (by omega)) (k := n) (nI_clamp (by omega)) dX0_leaveRoute_13 rfl (wX_set cI cZ cQ a _ (k := 5) rfl) ?_
  exact g_vret C hr rfl dX0_leaveRoute_14
set_option maxHeartbeats 4000000 in
set_option maxRecDepth 100000 in
theorem c_X0_endProcessing {l : Launch} {D : va_G} {cI cZ cQ : ClassId} {a : Nat → Nat} (u : LU) (n : Nat) (hn : n < 24) : KV l yX0_endProcessing wsX0_endProcessing ({ frames := 1, cells := 0, slots := 0, locals := 22 } : Room) D (tyX cI cZ cQ) (wX cI cZ cQ a) [.ref (a 0), .int (nI n)] u (fun (u' : LU) => u' = epX u n) := by
  refine ent_V (own := RX0) (maxL := 3) (cc := cX0_endProcessing) (L0 := [(0, .ref (a 0)), (1, .int (nI n))]) (by decide) rfl (wX_ok _ _ _ _) rfl (Nat.le_of_ble_eq_true rfl) rfl ?_
  intro p e s m args below meth c A C hr
  have FX : ∀ w ∈ wsX00, w.before args s = true := fun w h => C.2.2.2.2.1 w ((by decide +kernel : ∀ w ∈ wsX00, w ∈ wsX0_endProcessing) w h)
  refine g_aload_n (pc' := 1) (q := 0) C dX0_endProcessing_0 rfl rfl rfl ?_
  refine g_get (pc' := 4) (v := .ref (a 7)) C FX 0 (by rfl) rfl 6 (by decide) (by decide +kernel) rfl (by rfl) dX0_endProcessing_1 rfl ?_
  refine g_iload_n (pc' := 5) (q := 1) C dX0_endProcessing_4 rfl rfl rfl ?_
  refine g_iald (pc' := 6) (n := 24) (f := u 7) C 7 0 (by rfl) rfl (vp_in_nI (by omega) (by omega)) (k := n) (nI_clamp (by omega)) dX0_endProcessing_5 rfl ?_
  refine g_iconst (pc' := 7) (v := 1) C dX0_endProcessing_6 rfl (by decide) ?_
  refine g_iadd (pc' := 8) C dX0_endProcessing_7 rfl ?_
  refine g_istore_n (pc' := 9) (L' := [(2, .int ((u 7 n) + 1)), (0, .ref (a 0)), (1, .int (nI n))]) C dX0_endProcessing_8 rfl rfl (by decide) rfl ?_
  refine g_aload_n (pc' := 10) (q := 1) C dX0_endProcessing_9 rfl rfl rfl ?_
  refine g_iload_n (pc' := 11) (q := 0) C dX0_endProcessing_10 rfl rfl rfl ?_
  refine g_calliV (pc' := 14) (As := [.int ((u 7 n) + 1)]) (st := []) (cells' := 0) (slots' := 0) C (c_X0_isStep _ ((u 7 n) + 1)) gX0_endProcessing_X0_isStep rfl (by decide +kernel) ⟨Nat.le_of_ble_eq_true rfl, Nat.le_of_ble_eq_true rfl⟩ 0 (by rfl) rfl (n := 1) rfl rfl (Nat.le_of_ble_eq_true rfl) dX0_endProcessing_11 rfl rfl rfl ⟨Nat.le_of_ble_eq_true rfl, Nat.le_of_ble_eq_true rfl⟩ (fun r_1 u_1 h_2 => ?_)
  obtain ⟨rfl, h_2⟩ := h_2
  refine g_st h_2 ?_
  refine g_ifP_eq (tgt := 34) (pc' := 17) C dX0_endProcessing_14 rfl (by decide) (fun (c_3 : ¬ (0 ≤ ((u 7 n) + 1).toInt ∧ ((u 7 n) + 1).toInt < (u 0 4).toInt)) => ?_) (fun (c_3 : 0 ≤ ((u 7 n) + 1).toInt ∧ ((u 7 n) + 1).toInt < (u 0 4).toInt) => ?_)
  · skip
    refine g_aload_n (pc' := 35) (q := 1) C dX0_endProcessing_34 rfl rfl rfl ?_
    refine g_iload_n (pc' := 36) (q := 2) C dX0_endProcessing_35 rfl rfl rfl ?_
    refine g_iconst (pc' := 37) (v := 2) C dX0_endProcessing_36 rfl (by decide) ?_
    refine g_callvV (pc' := 40) (As := [.int (nI n), .int 2]) (st := []) (cells' := 0) (slots' := 0) C (c_X0_leaveRoute _ n 2 (by omega)) gX0_endProcessing_X0_leaveRoute rfl (by decide +kernel) ⟨Nat.le_of_ble_eq_true rfl, Nat.le_of_ble_eq_true rfl⟩ 0 (by rfl) rfl (n := 2) rfl rfl (Nat.le_of_ble_eq_true rfl) dX0_endProcessing_37 rfl rfl rfl ⟨Nat.le_of_ble_eq_true rfl, Nat.le_of_ble_eq_true rfl⟩ (fun  u_4 h_5 => ?_)
    exact g_vret C hr (by unfold epX; (repeat' split) <;> first | rfl | assumption | (exfalso; omega) | contradiction) dX0_endProcessing_40
  · skip
    refine g_aload_n (pc' := 18) (q := 1) C dX0_endProcessing_17 rfl rfl rfl ?_
    refine g_get (pc' := 21) (v := .ref (a 6)) C FX 0 (by rfl) rfl 5 (by decide) (by decide +kernel) rfl (by rfl) dX0_endProcessing_18 rfl ?_
    refine g_iload_n (pc' := 22) (q := 2) C dX0_endProcessing_21 rfl rfl rfl ?_
    refine g_iconst (pc' := 23) (v := 0) C dX0_endProcessing_22 rfl (by decide) ?_
    refine g_iast (pc' := 24) (n := 24) (f := u 6) C 6 0 (by rfl) rfl (vp_in_nI (by omega) (by omega)) (k := n) (nI_clamp (by omega)) dX0_endProcessing_23 rfl (wX_set cI cZ cQ a _ (k := 4) rfl) ?_
    refine g_aload_n (pc' := 25) (q := 1) C dX0_endProcessing_24 rfl rfl rfl ?_
    refine g_get (pc' := 28) (v := .ref (a 7)) C FX 0 (by rfl) rfl 6 (by decide) (by decide +kernel) rfl (by rfl) dX0_endProcessing_25 rfl ?_
    refine g_iload_n (pc' := 29) (q := 2) C dX0_endProcessing_28 rfl rfl rfl ?_
    refine g_iload_n (pc' := 30) (q := 0) C dX0_endProcessing_29 rfl rfl rfl ?_
    refine g_iast (pc' := 31) (n := 24) (f := u 7) C 7 0 (by rfl) rfl (vp_in_nI (by omega) (by omega)) (k := n) (nI_clamp (by omega)) dX0_endProcessing_30 rfl (wX_set cI cZ cQ a _ (k := 5) rfl) ?_
    refine g_goto (tgt := 40) C dX0_endProcessing_31 (by decide) ?_
    exact g_vret C hr (by unfold epX; (repeat' split) <;> first | rfl | assumption | (exfalso; omega) | contradiction) dX0_endProcessing_40
set_option maxHeartbeats 4000000 in
set_option maxRecDepth 100000 in
theorem c_X0_putInto {l : Launch} {D : va_G} {cI cZ cQ : ClassId} {a : Nat → Nat} (u : LU) (w n : Nat) (hw : w < 60) (hn : n < 24) (hq : 0 ≤ (u 16 w).toInt) : KV l yX0_putInto wsX0_putInto ({ frames := 0, cells := 0, slots := 0, locals := 0 } : Room) D (tyX cI cZ cQ) (wX cI cZ cQ a) [.ref (a 0), .int (nI w), .int (nI n)] u (fun (u' : LU) => u' = putX u w n) := by
  refine ent_V (own := RX0) (maxL := 4) (cc := cX0_putInto) (L0 := [(0, .ref (a 0)), (1, .int (nI w)), (2, .int (nI n))]) (by decide) rfl (wX_ok _ _ _ _) rfl (Nat.le_of_ble_eq_true rfl) rfl ?_
  intro p e s m args below meth c A C hr
  have FX : ∀ w ∈ wsX00, w.before args s = true := fun w h => C.2.2.2.2.1 w ((by decide +kernel : ∀ w ∈ wsX00, w ∈ wsX0_putInto) w h)
  refine g_aload_n (pc' := 1) (q := 0) C dX0_putInto_0 rfl rfl rfl ?_
  refine g_get (pc' := 4) (v := .ref (a 14)) C FX 0 (by rfl) rfl 13 (by decide) (by decide +kernel) rfl (by rfl) dX0_putInto_1 rfl ?_
  refine g_iload_n (pc' := 5) (q := 1) C dX0_putInto_4 rfl rfl rfl ?_
  refine g_iload_n (pc' := 6) (q := 2) C dX0_putInto_5 rfl rfl rfl ?_
  refine g_iast (pc' := 7) (n := 60) (f := u 14) C 13 0 (by rfl) rfl (vp_in_nI (by omega) (by omega)) (k := w) (nI_clamp (by omega)) dX0_putInto_6 rfl (wX_set cI cZ cQ a _ (k := 11) rfl) ?_
  refine g_aload_n (pc' := 8) (q := 0) C dX0_putInto_7 rfl rfl rfl ?_
  refine g_get (pc' := 11) (v := .ref (a 12)) C FX 0 (by rfl) rfl 11 (by decide) (by decide +kernel) rfl (by rfl) dX0_putInto_8 rfl ?_
  refine g_iload_n (pc' := 12) (q := 2) C dX0_putInto_11 rfl rfl rfl ?_
  refine g_dup2 (pc' := 13) C dX0_putInto_12 rfl rfl rfl ?_
  refine g_iald (pc' := 14) (n := 24) (f := u 12) C 12 0 (by rfl) rfl (vp_in_nI (by omega) (by omega)) (k := n) (nI_clamp (by omega)) dX0_putInto_13 rfl ?_
  refine g_iconst (pc' := 15) (v := 1) C dX0_putInto_14 rfl (by decide) ?_
  refine g_iadd (pc' := 16) C dX0_putInto_15 rfl ?_
  refine g_iast (pc' := 17) (n := 24) (f := u 12) C 12 0 (by rfl) rfl (vp_in_nI (by omega) (by omega)) (k := n) (nI_clamp (by omega)) dX0_putInto_16 rfl (wX_set cI cZ cQ a _ (k := 10) rfl) ?_
  refine g_aload_n (pc' := 18) (q := 0) C dX0_putInto_17 rfl rfl rfl ?_
  refine g_get (pc' := 21) (v := .ref (a 16)) C FX 0 (by rfl) rfl 15 (by decide) (by decide +kernel) rfl (by rfl) dX0_putInto_18 rfl ?_
  refine g_iload_n (pc' := 22) (q := 1) C dX0_putInto_21 rfl rfl rfl ?_
  refine g_iald (pc' := 23) (n := 60) (f := u 16) C 14 0 (by rfl) rfl (vp_in_nI (by omega) (by omega)) (k := w) (nI_clamp (by omega)) dX0_putInto_22 rfl ?_
  refine g_istore_n (pc' := 24) (L' := [(3, .int (u 16 w)), (0, .ref (a 0)), (1, .int (nI w)), (2, .int (nI n))]) C dX0_putInto_23 rfl rfl (by decide) rfl ?_
  refine g_iload_n (pc' := 25) (q := 0) C dX0_putInto_24 rfl rfl rfl ?_
  refine g_bipush (pc' := 27) (v := 47) C dX0_putInto_25 rfl (by decide) ?_
  refine g_icmp_ge (tgt := 48) (pc' := 30) C dX0_putInto_27 rfl (by decide) (fun (c_1 : 47 ≤ (u 16 w).toInt) => ?_) (fun (c_1 : ¬ (47 ≤ (u 16 w).toInt)) => ?_)
  · skip
    exact g_vret C hr (by unfold putX; (repeat' split) <;> first | rfl | assumption | (exfalso; omega) | contradiction) dX0_putInto_48
  · skip
    refine g_aload_n (pc' := 31) (q := 1) C dX0_putInto_30 rfl rfl rfl ?_
    refine g_get (pc' := 34) (v := .ref (a 15)) C FX 0 (by rfl) rfl 14 (by decide) (by decide +kernel) rfl (by rfl) dX0_putInto_31 rfl ?_
    refine g_iload_n (pc' := 35) (q := 2) C dX0_putInto_34 rfl rfl rfl ?_
    refine g_aald (pc' := 36) (x := a (100 + w)) C 1 2 rfl rfl (vp_in_nI (by omega) (by omega)) (by rw [nI_clamp (by omega)]; exact if_pos (by omega)) dX0_putInto_35 rfl ?_
    refine g_iload_n (pc' := 37) (q := 0) C dX0_putInto_36 rfl rfl rfl ?_
    refine g_iload_n (pc' := 38) (q := 3) C dX0_putInto_37 rfl rfl rfl ?_
    refine g_iast (pc' := 39) C (15 + w) 0 (row_get _ _ _ _ _ (by omega)) rfl (vp_of (by omega) (by omega)) (k := (u 16 w).toNatClampNeg) rfl dX0_putInto_38 rfl (row_set _ _ _ _ _ (by omega)) ?_
    refine g_aload_n (pc' := 40) (q := 1) C dX0_putInto_39 rfl rfl rfl ?_
    refine g_get (pc' := 43) (v := .ref (a 16)) C FX 0 (by rfl) rfl 15 (by decide) (by decide +kernel) rfl (by rfl) dX0_putInto_40 rfl ?_
    refine g_iload_n (pc' := 44) (q := 2) C dX0_putInto_43 rfl rfl rfl ?_
    refine g_iload_n (pc' := 45) (q := 0) C dX0_putInto_44 rfl rfl rfl ?_
    refine g_iconst (pc' := 46) (v := 1) C dX0_putInto_45 rfl (by decide) ?_
    refine g_iadd (pc' := 47) C dX0_putInto_46 rfl ?_
    refine g_iast (pc' := 48) (n := 60) (f := _) C 14 0 (by rfl) rfl (vp_in_nI (by omega) (by omega)) (k := w) (nI_clamp (by omega)) dX0_putInto_47 rfl (wX_set cI cZ cQ a _ (k := 12) rfl) ?_
    exact g_vret C hr (by unfold putX; (repeat' split) <;> first | rfl | assumption | (exfalso; omega) | contradiction) dX0_putInto_48
set_option maxHeartbeats 4000000 in
set_option maxRecDepth 100000 in
theorem c_X0_makeLot {l : Launch} {D : va_G} {cI cZ cQ : ClassId} {a : Nat → Nat} (u : LU) (n : Nat) (x0 si hd rw9 pa : Int32) (hn : n < 24) (hc : u 0 12 = nI n) (hz : vp_nar .boolean hd = hd) : KI l yX0_makeLot wsX0_makeLot ({ frames := 0, cells := 0, slots := 0, locals := 0 } : Room) D (tyX cI cZ cQ) (wX cI cZ cQ a) [.ref (a 0), .int x0, .int si, .int hd, .int rw9, .int pa] u (fun (r : Int32) (u' : LU) => r = nI n ∧ u' = mkLX u n x0 si hd rw9 pa) := by
  refine ent_I (own := RX0) (maxL := 7) (cc := cX0_makeLot) (L0 := [(0, .ref (a 0)), (1, .int x0), (2, .int si), (3, .int hd), (4, .int rw9), (5, .int pa)]) (by decide) rfl (wX_ok _ _ _ _) rfl (Nat.le_of_ble_eq_true rfl) rfl ?_
  intro p e s m args below meth c A C hr
  have FX : ∀ w ∈ wsX00, w.before args s = true := fun w h => C.2.2.2.2.1 w ((by decide +kernel : ∀ w ∈ wsX00, w ∈ wsX0_makeLot) w h)
  refine g_aload_n (pc' := 1) (q := 0) C dX0_makeLot_0 rfl rfl rfl ?_
  refine g_get (pc' := 4) (v := .int (u 0 12)) C FX 0 (by rfl) rfl 12 (by decide) (by decide +kernel) rfl (by rfl) dX0_makeLot_1 rfl ?_
  refine g_conv (show (u 0 12 : Int32) = nI n from hc) ?_
  refine g_istore (pc' := 6) (L' := [(6, .int (nI n)), (0, .ref (a 0)), (1, .int x0), (2, .int si), (3, .int hd), (4, .int rw9), (5, .int pa)]) C dX0_makeLot_4 rfl (by decide) rfl ?_
  refine g_aload_n (pc' := 7) (q := 1) C dX0_makeLot_6 rfl rfl rfl ?_
  refine g_get (pc' := 10) (v := .ref (a 6)) C FX 0 (by rfl) rfl 5 (by decide) (by decide +kernel) rfl (by rfl) dX0_makeLot_7 rfl ?_
  refine g_iload (pc' := 12) (q := 0) C dX0_makeLot_10 rfl rfl ?_
  refine g_iconst (pc' := 13) (v := 0) C dX0_makeLot_12 rfl (by decide) ?_
  refine g_iast (pc' := 14) (n := 24) (f := u 6) C 6 0 (by rfl) rfl (vp_in_nI (by omega) (by omega)) (k := n) (nI_clamp (by omega)) dX0_makeLot_13 rfl (wX_set cI cZ cQ a _ (k := 4) rfl) ?_
  refine g_aload_n (pc' := 15) (q := 1) C dX0_makeLot_14 rfl rfl rfl ?_
  refine g_get (pc' := 18) (v := .ref (a 7)) C FX 0 (by rfl) rfl 6 (by decide) (by decide +kernel) rfl (by rfl) dX0_makeLot_15 rfl ?_
  refine g_iload (pc' := 20) (q := 0) C dX0_makeLot_18 rfl rfl ?_
  refine g_iload_n (pc' := 21) (q := 2) C dX0_makeLot_20 rfl rfl rfl ?_
  refine g_iast (pc' := 22) (n := 24) (f := u 7) C 7 0 (by rfl) rfl (vp_in_nI (by omega) (by omega)) (k := n) (nI_clamp (by omega)) dX0_makeLot_21 rfl (wX_set cI cZ cQ a _ (k := 5) rfl) ?_
  refine g_aload_n (pc' := 23) (q := 1) C dX0_makeLot_22 rfl rfl rfl ?_
  refine g_get (pc' := 26) (v := .ref (a 8)) C FX 0 (by rfl) rfl 7 (by decide) (by decide +kernel) rfl (by rfl) dX0_makeLot_23 rfl ?_
  refine g_iload (pc' := 28) (q := 0) C dX0_makeLot_26 rfl rfl ?_
  refine g_iload_n (pc' := 29) (q := 3) C dX0_makeLot_28 rfl rfl rfl ?_
  refine g_iast (pc' := 30) (n := 24) (f := u 8) C 8 0 (by rfl) rfl (vp_in_nI (by omega) (by omega)) (k := n) (nI_clamp (by omega)) dX0_makeLot_29 rfl (wX_set cI cZ cQ a _ (k := 6) rfl) ?_
  refine g_aload_n (pc' := 31) (q := 1) C dX0_makeLot_30 rfl rfl rfl ?_
  refine g_get (pc' := 34) (v := .ref (a 9)) C FX 0 (by rfl) rfl 8 (by decide) (by decide +kernel) rfl (by rfl) dX0_makeLot_31 rfl ?_
  refine g_iload (pc' := 36) (q := 0) C dX0_makeLot_34 rfl rfl ?_
  refine g_iload_n (pc' := 37) (q := 4) C dX0_makeLot_36 rfl rfl rfl ?_
  refine g_zast (pc' := 38) (n := 24) (f := u 9) C 9 1 (by rfl) rfl hz (vp_in_nI (by omega) (by omega)) (k := n) (nI_clamp (by omega)) dX0_makeLot_37 rfl (wX_set cI cZ cQ a _ (k := 7) rfl) ?_
  refine g_aload_n (pc' := 39) (q := 1) C dX0_makeLot_38 rfl rfl rfl ?_
  refine g_get (pc' := 42) (v := .ref (a 10)) C FX 0 (by rfl) rfl 9 (by decide) (by decide +kernel) rfl (by rfl) dX0_makeLot_39 rfl ?_
  refine g_iload (pc' := 44) (q := 0) C dX0_makeLot_42 rfl rfl ?_
  refine g_iload (pc' := 46) (q := 5) C dX0_makeLot_44 rfl rfl ?_
  refine g_iast (pc' := 47) (n := 24) (f := u 10) C 10 0 (by rfl) rfl (vp_in_nI (by omega) (by omega)) (k := n) (nI_clamp (by omega)) dX0_makeLot_46 rfl (wX_set cI cZ cQ a _ (k := 8) rfl) ?_
  refine g_aload_n (pc' := 48) (q := 1) C dX0_makeLot_47 rfl rfl rfl ?_
  refine g_get (pc' := 51) (v := .ref (a 11)) C FX 0 (by rfl) rfl 10 (by decide) (by decide +kernel) rfl (by rfl) dX0_makeLot_48 rfl ?_
  refine g_iload (pc' := 53) (q := 0) C dX0_makeLot_51 rfl rfl ?_
  refine g_iload (pc' := 55) (q := 6) C dX0_makeLot_53 rfl rfl ?_
  refine g_iast (pc' := 56) (n := 24) (f := u 11) C 11 0 (by rfl) rfl (vp_in_nI (by omega) (by omega)) (k := n) (nI_clamp (by omega)) dX0_makeLot_55 rfl (wX_set cI cZ cQ a _ (k := 9) rfl) ?_
  refine g_aload_n (pc' := 57) (q := 1) C dX0_makeLot_56 rfl rfl rfl ?_
  refine g_get (pc' := 60) (v := .ref (a 12)) C FX 0 (by rfl) rfl 11 (by decide) (by decide +kernel) rfl (by rfl) dX0_makeLot_57 rfl ?_
  refine g_iload (pc' := 62) (q := 0) C dX0_makeLot_60 rfl rfl ?_
  refine g_iconst (pc' := 63) (v := 0) C dX0_makeLot_62 rfl (by decide) ?_
  refine g_iast (pc' := 64) (n := 24) (f := u 12) C 12 0 (by rfl) rfl (vp_in_nI (by omega) (by omega)) (k := n) (nI_clamp (by omega)) dX0_makeLot_63 rfl (wX_set cI cZ cQ a _ (k := 10) rfl) ?_
  refine g_aload_n (pc' := 65) (q := 1) C dX0_makeLot_64 rfl rfl rfl ?_
  refine g_iload (pc' := 67) (q := 0) C dX0_makeLot_65 rfl rfl ?_
  refine g_iconst (pc' := 68) (v := 1) C dX0_makeLot_67 rfl (by decide) ?_
  refine g_iadd (pc' := 69) C dX0_makeLot_68 rfl ?_
  refine g_putI (pc' := 72) C FX tyX0 tyX0_ok nmX0 0 (by rfl) rfl 12 (by decide) (by decide +kernel) rfl rfl rfl (Nat.le_of_ble_eq_true rfl) dX0_makeLot_69 rfl (wX_put cI cZ cQ a _ (f := (upd (u 0) 12 ((nI n) + 1))) rfl) ?_
  refine g_iload (pc' := 74) (q := 0) C dX0_makeLot_72 rfl rfl ?_
  exact g_iret C hr rfl ⟨rfl, rfl⟩ dX0_makeLot_74
set_option maxHeartbeats 4000000 in
set_option maxRecDepth 100000 in
theorem c_X0_makeWafer {l : Launch} {D : va_G} {cI cZ cQ : ClassId} {a : Nat → Nat} (u : LU) (w n : Nat) (hw : w < 60) (hn : n < 24) (hc : u 0 16 = nI w) : KV l yX0_makeWafer wsX0_makeWafer ({ frames := 1, cells := 0, slots := 0, locals := 23 } : Room) D (tyX cI cZ cQ) (wX cI cZ cQ a) [.ref (a 0), .int (nI n)] u (fun (u' : LU) => u' = mwX u w n) := by
  refine ent_V (own := RX0) (maxL := 3) (cc := cX0_makeWafer) (L0 := [(0, .ref (a 0)), (1, .int (nI n))]) (by decide) rfl (wX_ok _ _ _ _) rfl (Nat.le_of_ble_eq_true rfl) rfl ?_
  intro p e s m args below meth c A C hr
  have FX : ∀ w ∈ wsX00, w.before args s = true := fun w h => C.2.2.2.2.1 w ((by decide +kernel : ∀ w ∈ wsX00, w ∈ wsX0_makeWafer) w h)
  refine g_aload_n (pc' := 1) (q := 0) C dX0_makeWafer_0 rfl rfl rfl ?_
  refine g_get (pc' := 4) (v := .int (u 0 16)) C FX 0 (by rfl) rfl 16 (by decide) (by decide +kernel) rfl (by rfl) dX0_makeWafer_1 rfl ?_
  refine g_conv (show (u 0 16 : Int32) = nI w from hc) ?_
  refine g_istore_n (pc' := 5) (L' := [(2, .int (nI w)), (0, .ref (a 0)), (1, .int (nI n))]) C dX0_makeWafer_4 rfl rfl (by decide) rfl ?_
  refine g_aload_n (pc' := 6) (q := 1) C dX0_makeWafer_5 rfl rfl rfl ?_
  refine g_get (pc' := 9) (v := .ref (a 16)) C FX 0 (by rfl) rfl 15 (by decide) (by decide +kernel) rfl (by rfl) dX0_makeWafer_6 rfl ?_
  refine g_iload_n (pc' := 10) (q := 0) C dX0_makeWafer_9 rfl rfl rfl ?_
  refine g_iconst (pc' := 11) (v := 0) C dX0_makeWafer_10 rfl (by decide) ?_
  refine g_iast (pc' := 12) (n := 60) (f := u 16) C 14 0 (by rfl) rfl (vp_in_nI (by omega) (by omega)) (k := w) (nI_clamp (by omega)) dX0_makeWafer_11 rfl (wX_set cI cZ cQ a _ (k := 12) rfl) ?_
  refine g_aload_n (pc' := 13) (q := 1) C dX0_makeWafer_12 rfl rfl rfl ?_
  refine g_iload_n (pc' := 14) (q := 0) C dX0_makeWafer_13 rfl rfl rfl ?_
  refine g_iconst (pc' := 15) (v := 1) C dX0_makeWafer_14 rfl (by decide) ?_
  refine g_iadd (pc' := 16) C dX0_makeWafer_15 rfl ?_
  refine g_putI (pc' := 19) C FX tyX0 tyX0_ok nmX0 0 (by rfl) rfl 16 (by decide) (by decide +kernel) rfl rfl rfl (Nat.le_of_ble_eq_true rfl) dX0_makeWafer_16 rfl (wX_put cI cZ cQ a _ (f := (upd (u 0) 16 ((nI w) + 1))) rfl) ?_
  refine g_aload_n (pc' := 20) (q := 1) C dX0_makeWafer_19 rfl rfl rfl ?_
  refine g_iload_n (pc' := 21) (q := 0) C dX0_makeWafer_20 rfl rfl rfl ?_
  refine g_iload_n (pc' := 22) (q := 2) C dX0_makeWafer_21 rfl rfl rfl ?_
  refine g_callvV (pc' := 25) (As := [.int (nI w), .int (nI n)]) (st := []) (cells' := 0) (slots' := 0) C (c_X0_putInto _ w n (by omega) (by omega) (by show 0 ≤ (upd (u 16) w 0 w).toInt; rw [upd_s]; decide)) gX0_makeWafer_X0_putInto rfl (by decide +kernel) ⟨Nat.le_of_ble_eq_true rfl, Nat.le_of_ble_eq_true rfl⟩ 0 (by rfl) rfl (n := 2) rfl rfl (Nat.le_of_ble_eq_true rfl) dX0_makeWafer_22 rfl rfl rfl ⟨Nat.le_of_ble_eq_true rfl, Nat.le_of_ble_eq_true rfl⟩ (fun  u_1 h_2 => ?_)
  exact g_vret C hr (by assumption) dX0_makeWafer_25
set_option maxHeartbeats 4000000 in
set_option maxRecDepth 100000 in
theorem c_X0_moveWafers {l : Launch} {D : va_G} {cI cZ cQ : ClassId} {a : Nat → Nat} (u : LU) (f t : Nat) (x : Int32) (hf : f < 24) (ht9 : t < 24) (hW : 0 ≤ (u 0 16).toInt ∧ (u 0 16).toInt ≤ 60) (hp9 : ∀ w, w < 60 → 0 ≤ (u 16 w).toInt ∧ (u 16 w).toInt ≤ 47) : KV l yX0_moveWafers wsX0_moveWafers ({ frames := 1, cells := 0, slots := 0, locals := 23 } : Room) D (tyX cI cZ cQ) (wX cI cZ cQ a) [.ref (a 0), .int (nI f), .int (nI t), .int x] u (fun (u' : LU) => u' = (mvX u f t x (u 0 16).toInt.toNat).1) := by
  refine ent_V (own := RX0) (maxL := 6) (cc := cX0_moveWafers) (L0 := [(0, .ref (a 0)), (1, .int (nI f)), (2, .int (nI t)), (3, .int x)]) (by decide) rfl (wX_ok _ _ _ _) rfl (Nat.le_of_ble_eq_true rfl) rfl ?_
  intro p e s m args below meth c A C hr
  have FX : ∀ w ∈ wsX00, w.before args s = true := fun w h => C.2.2.2.2.1 w ((by decide +kernel : ∀ w ∈ wsX00, w ∈ wsX0_moveWafers) w h)
  refine g_iconst (pc' := 1) (v := 0) C dX0_moveWafers_0 rfl (by decide) ?_
  refine g_istore (pc' := 3) (L' := [(4, .int 0), (0, .ref (a 0)), (1, .int (nI f)), (2, .int (nI t)), (3, .int x)]) C dX0_moveWafers_1 rfl (by decide) rfl ?_
  refine g_iconst (pc' := 4) (v := 0) C dX0_moveWafers_3 rfl (by decide) ?_
  refine g_istore (pc' := 6) (L' := [(5, .int 0), (4, .int 0), (0, .ref (a 0)), (1, .int (nI f)), (2, .int (nI t)), (3, .int x)]) C dX0_moveWafers_4 rfl (by decide) rfl ?_
  have loop_6 : ∀ (k : Nat) (i k9 : Nat) (v : LU), (i : Int) ≤ (u 0 16).toInt → (u 0 16).toInt + 1 ≤ i + k → mvX u f t x i = (v, k9) → (v 0 16).toInt = (u 0 16).toInt → (∀ w, w < 60 → 0 ≤ (v 16 w).toInt ∧ (v 16 w).toInt ≤ 47) → k9 ≤ i → G p l e ({ frames := 1, cells := 0, slots := 0, locals := 23 } : Room) s m args below meth c D A 6 (wX cI cZ cQ a) 0 0 (MQ below (va_Qv (fun (u' : LU) => u' = (mvX u f t x (u 0 16).toInt.toNat).1) (KE D (tyX cI cZ cQ) (wX cI cZ cQ a)) A) args s 0 0 A) v 6 [(0, .ref (a 0)), (1, .int (nI f)), (2, .int (nI t)), (3, .int x), (4, .int (nI k9)), (5, .int (nI i))] [] := by
    intro k
    induction k with
    | zero =>
      intro i k9 v hi hk hv h16 hp hk9
      omega
    | succ k ih =>
      intro i k9 v hi hk hv h16 hp hk9
      have tf : (nI f).toInt = (f : Int) := nI_toInt (by omega)
      refine g_iload (pc' := 8) (q := 5) C dX0_moveWafers_6 rfl rfl ?_
      refine g_aload_n (pc' := 9) (q := 0) C dX0_moveWafers_8 rfl rfl rfl ?_
      refine g_get (pc' := 12) (v := .int (v 0 16)) C FX 0 (by rfl) rfl 16 (by decide) (by decide +kernel) rfl (by rfl) dX0_moveWafers_9 rfl ?_
      have t_1 : (nI i).toInt = ((i : Nat) : Int) := nI_toInt (by omega)
      refine g_icmp_ge (tgt := 58) (pc' := 15) C dX0_moveWafers_12 rfl (by decide) (fun (c_2 : (v 0 16).toInt ≤ (nI i).toInt) => ?_) (fun (c_2 : ¬ ((v 0 16).toInt ≤ (nI i).toInt)) => ?_)
      · skip
        exact g_vret C hr (by rw [show v = (mvX u f t x i).1 by rw [hv]]; first | (rw [show (u 0 16).toInt.toNat = i by omega]; done) | (rw [show (u 0 16).toInt.toNat = i + ((u 0 16).toInt.toNat - i) by omega, mvX_stop u f t x (by rw [hv]; omega)]; done)) dX0_moveWafers_58
      · skip
        refine g_iload (pc' := 17) (q := 4) C dX0_moveWafers_15 rfl rfl ?_
        refine g_iload_n (pc' := 18) (q := 3) C dX0_moveWafers_17 rfl rfl rfl ?_
        have t_3 : (nI k9).toInt = ((k9 : Nat) : Int) := nI_toInt (by omega)
        refine g_icmp_ge (tgt := 58) (pc' := 21) C dX0_moveWafers_18 rfl (by decide) (fun (c_4 : (x).toInt ≤ (nI k9).toInt) => ?_) (fun (c_4 : ¬ ((x).toInt ≤ (nI k9).toInt)) => ?_)
        · skip
          exact g_vret C hr (by rw [show v = (mvX u f t x i).1 by rw [hv]]; first | (rw [show (u 0 16).toInt.toNat = i by omega]; done) | (rw [show (u 0 16).toInt.toNat = i + ((u 0 16).toInt.toNat - i) by omega, mvX_stop u f t x (by rw [hv]; omega)]; done)) dX0_moveWafers_58
        · skip
          refine g_aload_n (pc' := 22) (q := 0) C dX0_moveWafers_21 rfl rfl rfl ?_
          refine g_get (pc' := 25) (v := .ref (a 14)) C FX 0 (by rfl) rfl 13 (by decide) (by decide +kernel) rfl (by rfl) dX0_moveWafers_22 rfl ?_
          refine g_iload (pc' := 27) (q := 5) C dX0_moveWafers_25 rfl rfl ?_
          refine g_iald (pc' := 28) (n := 60) (f := v 14) C 13 0 (by rfl) rfl (vp_in_nI (by omega) (by omega)) (k := i) (nI_clamp (by omega)) dX0_moveWafers_27 rfl ?_
          refine g_iload_n (pc' := 29) (q := 1) C dX0_moveWafers_28 rfl rfl rfl ?_
          have t_5 : (nI f).toInt = ((f : Nat) : Int) := nI_toInt (by omega)
          refine g_icmp_ne (tgt := 52) (pc' := 32) C dX0_moveWafers_29 rfl (by decide) (fun (c_6 : ¬ (v 14 i).toInt = (nI f).toInt) => ?_) (fun (c_6 : (v 14 i).toInt = (nI f).toInt) => ?_)
          · skip
            refine g_iinc (pc' := 55) (v := nI (i + 1)) (L' := [(5, .int (nI (i + 1))), (0, .ref (a 0)), (1, .int (nI f)), (2, .int (nI t)), (3, .int x), (4, .int (nI k9))]) C dX0_moveWafers_52 rfl (k := 5) rfl (nI_1 _) (by decide) rfl ?_
            refine g_goto (tgt := 6) C dX0_moveWafers_55 (by decide) ?_
            refine g_sub (L' := [(0, .ref (a 0)), (1, .int (nI f)), (2, .int (nI t)), (3, .int x), (4, .int (nI k9)), (5, .int (nI (i + 1)))]) [1, 2, 3, 4, 5, 0] rfl ?_
            exact ih (i + 1) k9 v (by omega) (by omega) (mvX_f hv (by omega)) h16 hp (by omega)
          · skip
            refine g_aload_n (pc' := 33) (q := 0) C dX0_moveWafers_32 rfl rfl rfl ?_
            refine g_get (pc' := 36) (v := .ref (a 12)) C FX 0 (by rfl) rfl 11 (by decide) (by decide +kernel) rfl (by rfl) dX0_moveWafers_33 rfl ?_
            refine g_iload_n (pc' := 37) (q := 1) C dX0_moveWafers_36 rfl rfl rfl ?_
            refine g_dup2 (pc' := 38) C dX0_moveWafers_37 rfl rfl rfl ?_
            refine g_iald (pc' := 39) (n := 24) (f := v 12) C 12 0 (by rfl) rfl (vp_in_nI (by omega) (by omega)) (k := f) (nI_clamp (by omega)) dX0_moveWafers_38 rfl ?_
            refine g_iconst (pc' := 40) (v := 1) C dX0_moveWafers_39 rfl (by decide) ?_
            refine g_isub (pc' := 41) C dX0_moveWafers_40 rfl ?_
            refine g_iast (pc' := 42) (n := 24) (f := v 12) C 12 0 (by rfl) rfl (vp_in_nI (by omega) (by omega)) (k := f) (nI_clamp (by omega)) dX0_moveWafers_41 rfl (wX_set cI cZ cQ a _ (k := 10) rfl) ?_
            refine g_aload_n (pc' := 43) (q := 0) C dX0_moveWafers_42 rfl rfl rfl ?_
            refine g_iload (pc' := 45) (q := 5) C dX0_moveWafers_43 rfl rfl ?_
            refine g_iload_n (pc' := 46) (q := 2) C dX0_moveWafers_45 rfl rfl rfl ?_
            refine g_callvV (pc' := 49) (As := [.int (nI i), .int (nI t)]) (st := []) (cells' := 0) (slots' := 0) C (c_X0_putInto _ i t (by omega) (by omega) ((hp i (by omega)).1)) gX0_moveWafers_X0_putInto rfl (by decide +kernel) ⟨Nat.le_of_ble_eq_true rfl, Nat.le_of_ble_eq_true rfl⟩ 0 (by rfl) rfl (n := 2) rfl rfl (Nat.le_of_ble_eq_true rfl) dX0_moveWafers_46 rfl rfl rfl ⟨Nat.le_of_ble_eq_true rfl, Nat.le_of_ble_eq_true rfl⟩ (fun  u_7 h_8 => ?_)
            refine g_iinc (pc' := 52) (v := nI (k9 + 1)) (L' := [(4, .int (nI (k9 + 1))), (0, .ref (a 0)), (1, .int (nI f)), (2, .int (nI t)), (3, .int x), (5, .int (nI i))]) C dX0_moveWafers_49 rfl (k := 4) rfl (nI_1 _) (by decide) rfl ?_
            refine g_iinc (pc' := 55) (v := nI (i + 1)) (L' := [(5, .int (nI (i + 1))), (4, .int (nI (k9 + 1))), (0, .ref (a 0)), (1, .int (nI f)), (2, .int (nI t)), (3, .int x)]) C dX0_moveWafers_52 rfl (k := 5) rfl (nI_1 _) (by decide) rfl ?_
            refine g_goto (tgt := 6) C dX0_moveWafers_55 (by decide) ?_
            refine g_sub (L' := [(0, .ref (a 0)), (1, .int (nI f)), (2, .int (nI t)), (3, .int x), (4, .int (nI (k9 + 1))), (5, .int (nI (i + 1)))]) [2, 3, 4, 5, 1, 0] rfl ?_
            exact ih (i + 1) (k9 + 1) u_7 (by omega) (by omega) (by rw [h_8]; exact mvX_t hv (by omega) (by omega)) (by rw [h_8, putX_0]; exact h16) (by rw [h_8]; exact putX_pb (by omega) hp) (by omega)
  refine g_sub (L' := [(0, .ref (a 0)), (1, .int (nI f)), (2, .int (nI t)), (3, .int x), (4, .int (nI 0)), (5, .int (nI 0))]) [2, 3, 4, 5, 1, 0] rfl ?_
  exact loop_6 61 0 0 u (by omega) (by omega) rfl rfl hp9 (by omega)
