set_option maxHeartbeats 4000000 in
set_option maxRecDepth 100000 in
theorem c_X0_time {l : Launch} {D : va_G} {cI cZ cQ : ClassId} {a : Nat → Nat} (u : LU) : KI l yX0_time wsX0_time ({ frames := 0, cells := 0, slots := 0, locals := 0 } : Room) D (tyX cI cZ cQ) (wX cI cZ cQ a) [.ref (a 0)] u (fun (r : Int32) (u' : LU) => r = u 0 17 ∧ u' = u) := by
  refine ent_I (own := RX0) (maxL := 1) (cc := cX0_time) (L0 := [(0, .ref (a 0))]) (by decide) rfl (wX_ok _ _ _ _) rfl (Nat.le_of_ble_eq_true rfl) rfl ?_
  intro p e s m args below meth c A C hr
  have FX : ∀ w ∈ wsX00, w.before args s = true := fun w h => C.2.2.2.2.1 w ((by decide +kernel : ∀ w ∈ wsX00, w ∈ wsX0_time) w h)
  refine g_aload_n (pc' := 1) (q := 0) C dX0_time_0 rfl rfl rfl ?_
  refine g_get (pc' := 4) (v := .int (u 0 17)) C FX 0 (by rfl) rfl 17 (by decide) (by decide +kernel) rfl (by rfl) dX0_time_1 rfl ?_
  exact g_iret C hr rfl ⟨rfl, rfl⟩ dX0_time_4
set_option maxHeartbeats 4000000 in
set_option maxRecDepth 100000 in
theorem c_X0_lots {l : Launch} {D : va_G} {cI cZ cQ : ClassId} {a : Nat → Nat} (u : LU) : KI l yX0_lots wsX0_lots ({ frames := 0, cells := 0, slots := 0, locals := 0 } : Room) D (tyX cI cZ cQ) (wX cI cZ cQ a) [.ref (a 0)] u (fun (r : Int32) (u' : LU) => r = u 0 12 ∧ u' = u) := by
  refine ent_I (own := RX0) (maxL := 1) (cc := cX0_lots) (L0 := [(0, .ref (a 0))]) (by decide) rfl (wX_ok _ _ _ _) rfl (Nat.le_of_ble_eq_true rfl) rfl ?_
  intro p e s m args below meth c A C hr
  have FX : ∀ w ∈ wsX00, w.before args s = true := fun w h => C.2.2.2.2.1 w ((by decide +kernel : ∀ w ∈ wsX00, w ∈ wsX0_lots) w h)
  refine g_aload_n (pc' := 1) (q := 0) C dX0_lots_0 rfl rfl rfl ?_
  refine g_get (pc' := 4) (v := .int (u 0 12)) C FX 0 (by rfl) rfl 12 (by decide) (by decide +kernel) rfl (by rfl) dX0_lots_1 rfl ?_
  exact g_iret C hr rfl ⟨rfl, rfl⟩ dX0_lots_4
set_option maxHeartbeats 4000000 in
set_option maxRecDepth 100000 in
theorem c_X0_wafers {l : Launch} {D : va_G} {cI cZ cQ : ClassId} {a : Nat → Nat} (u : LU) : KI l yX0_wafers wsX0_wafers ({ frames := 0, cells := 0, slots := 0, locals := 0 } : Room) D (tyX cI cZ cQ) (wX cI cZ cQ a) [.ref (a 0)] u (fun (r : Int32) (u' : LU) => r = u 0 16 ∧ u' = u) := by
  refine ent_I (own := RX0) (maxL := 1) (cc := cX0_wafers) (L0 := [(0, .ref (a 0))]) (by decide) rfl (wX_ok _ _ _ _) rfl (Nat.le_of_ble_eq_true rfl) rfl ?_
  intro p e s m args below meth c A C hr
  have FX : ∀ w ∈ wsX00, w.before args s = true := fun w h => C.2.2.2.2.1 w ((by decide +kernel : ∀ w ∈ wsX00, w ∈ wsX0_wafers) w h)
  refine g_aload_n (pc' := 1) (q := 0) C dX0_wafers_0 rfl rfl rfl ?_
  refine g_get (pc' := 4) (v := .int (u 0 16)) C FX 0 (by rfl) rfl 16 (by decide) (by decide +kernel) rfl (by rfl) dX0_wafers_1 rfl ?_
  exact g_iret C hr rfl ⟨rfl, rfl⟩ dX0_wafers_4
set_option maxHeartbeats 4000000 in
set_option maxRecDepth 100000 in
theorem c_X0_state {l : Launch} {D : va_G} {cI cZ cQ : ClassId} {a : Nat → Nat} (u : LU) (x : Int32) (hI : IX u) (hx : (0 ≤ x.toInt ∧ x.toInt < (u 0 12).toInt)) : KI l yX0_state wsX0_state ({ frames := 2, cells := 0, slots := 0, locals := 42 } : Room) D (tyX cI cZ cQ) (wX cI cZ cQ a) [.ref (a 0), .int x] u (fun (r : Int32) (u' : LU) => ∃ n : Nat, x = nI n ∧ (n : Int) < (u 0 12).toInt ∧ r = u 6 n ∧ u' = u) := by
  refine ent_I (own := RX0) (maxL := 2) (cc := cX0_state) (L0 := [(0, .ref (a 0)), (1, .int x)]) (by decide) rfl (wX_ok _ _ _ _) rfl (Nat.le_of_ble_eq_true rfl) rfl ?_
  intro p e s m args below meth c A C hr
  have FX : ∀ w ∈ wsX00, w.before args s = true := fun w h => C.2.2.2.2.1 w ((by decide +kernel : ∀ w ∈ wsX00, w ∈ wsX0_state) w h)
  obtain ⟨hS4, hL12, hW16, hZ9, hP16⟩ := id hI
  refine g_aload_n (pc' := 1) (q := 0) C dX0_state_0 rfl rfl rfl ?_
  refine g_iload_n (pc' := 2) (q := 1) C dX0_state_1 rfl rfl rfl ?_
  refine g_callvV (pc' := 5) (As := [.int x]) (st := []) (cells' := 0) (slots' := 0) C (c_X0_checkLot _ x (by omega)) gX0_state_X0_checkLot rfl (by decide +kernel) ⟨Nat.le_of_ble_eq_true rfl, Nat.le_of_ble_eq_true rfl⟩ 0 (by rfl) rfl (n := 1) rfl rfl (Nat.le_of_ble_eq_true rfl) dX0_state_2 rfl rfl rfl ⟨Nat.le_of_ble_eq_true rfl, Nat.le_of_ble_eq_true rfl⟩ (fun  u_1 h_2 => ?_)
  obtain ⟨qh_2, h_2⟩ := h_2
  refine g_st h_2 ?_
  obtain ⟨n, hn, rfl⟩ := nI_of_ti (n := 24) qh_2.1 (by omega) (by decide)
  have tn : (nI n).toInt = (n : Int) := nI_toInt (by omega)
  rw [tn] at qh_2
  refine g_aload_n (pc' := 6) (q := 0) C dX0_state_5 rfl rfl rfl ?_
  refine g_get (pc' := 9) (v := .ref (a 6)) C FX 0 (by rfl) rfl 5 (by decide) (by decide +kernel) rfl (by rfl) dX0_state_6 rfl ?_
  refine g_iload_n (pc' := 10) (q := 1) C dX0_state_9 rfl rfl rfl ?_
  refine g_iald (pc' := 11) (n := 24) (f := u 6) C 6 0 (by rfl) rfl (vp_in_nI (by omega) (by omega)) (k := n) (nI_clamp (by omega)) dX0_state_10 rfl ?_
  exact g_iret C hr rfl ⟨n, rfl, by omega, rfl, rfl⟩ dX0_state_11
set_option maxHeartbeats 4000000 in
set_option maxRecDepth 100000 in
theorem c_X0_stepOf {l : Launch} {D : va_G} {cI cZ cQ : ClassId} {a : Nat → Nat} (u : LU) (x : Int32) (hI : IX u) (hx : (0 ≤ x.toInt ∧ x.toInt < (u 0 12).toInt)) : KI l yX0_stepOf wsX0_stepOf ({ frames := 2, cells := 0, slots := 0, locals := 42 } : Room) D (tyX cI cZ cQ) (wX cI cZ cQ a) [.ref (a 0), .int x] u (fun (r : Int32) (u' : LU) => ∃ n : Nat, x = nI n ∧ (n : Int) < (u 0 12).toInt ∧ r = u 7 n ∧ u' = u) := by
  refine ent_I (own := RX0) (maxL := 2) (cc := cX0_stepOf) (L0 := [(0, .ref (a 0)), (1, .int x)]) (by decide) rfl (wX_ok _ _ _ _) rfl (Nat.le_of_ble_eq_true rfl) rfl ?_
  intro p e s m args below meth c A C hr
  have FX : ∀ w ∈ wsX00, w.before args s = true := fun w h => C.2.2.2.2.1 w ((by decide +kernel : ∀ w ∈ wsX00, w ∈ wsX0_stepOf) w h)
  obtain ⟨hS4, hL12, hW16, hZ9, hP16⟩ := id hI
  refine g_aload_n (pc' := 1) (q := 0) C dX0_stepOf_0 rfl rfl rfl ?_
  refine g_iload_n (pc' := 2) (q := 1) C dX0_stepOf_1 rfl rfl rfl ?_
  refine g_callvV (pc' := 5) (As := [.int x]) (st := []) (cells' := 0) (slots' := 0) C (c_X0_checkLot _ x (by omega)) gX0_stepOf_X0_checkLot rfl (by decide +kernel) ⟨Nat.le_of_ble_eq_true rfl, Nat.le_of_ble_eq_true rfl⟩ 0 (by rfl) rfl (n := 1) rfl rfl (Nat.le_of_ble_eq_true rfl) dX0_stepOf_2 rfl rfl rfl ⟨Nat.le_of_ble_eq_true rfl, Nat.le_of_ble_eq_true rfl⟩ (fun  u_1 h_2 => ?_)
  obtain ⟨qh_2, h_2⟩ := h_2
  refine g_st h_2 ?_
  obtain ⟨n, hn, rfl⟩ := nI_of_ti (n := 24) qh_2.1 (by omega) (by decide)
  have tn : (nI n).toInt = (n : Int) := nI_toInt (by omega)
  rw [tn] at qh_2
  refine g_aload_n (pc' := 6) (q := 0) C dX0_stepOf_5 rfl rfl rfl ?_
  refine g_get (pc' := 9) (v := .ref (a 7)) C FX 0 (by rfl) rfl 6 (by decide) (by decide +kernel) rfl (by rfl) dX0_stepOf_6 rfl ?_
  refine g_iload_n (pc' := 10) (q := 1) C dX0_stepOf_9 rfl rfl rfl ?_
  refine g_iald (pc' := 11) (n := 24) (f := u 7) C 7 0 (by rfl) rfl (vp_in_nI (by omega) (by omega)) (k := n) (nI_clamp (by omega)) dX0_stepOf_10 rfl ?_
  exact g_iret C hr rfl ⟨n, rfl, by omega, rfl, rfl⟩ dX0_stepOf_11
set_option maxHeartbeats 4000000 in
set_option maxRecDepth 100000 in
theorem c_X0_size {l : Launch} {D : va_G} {cI cZ cQ : ClassId} {a : Nat → Nat} (u : LU) (x : Int32) (hI : IX u) (hx : (0 ≤ x.toInt ∧ x.toInt < (u 0 12).toInt)) : KI l yX0_size wsX0_size ({ frames := 2, cells := 0, slots := 0, locals := 42 } : Room) D (tyX cI cZ cQ) (wX cI cZ cQ a) [.ref (a 0), .int x] u (fun (r : Int32) (u' : LU) => ∃ n : Nat, x = nI n ∧ (n : Int) < (u 0 12).toInt ∧ r = u 12 n ∧ u' = u) := by
  refine ent_I (own := RX0) (maxL := 2) (cc := cX0_size) (L0 := [(0, .ref (a 0)), (1, .int x)]) (by decide) rfl (wX_ok _ _ _ _) rfl (Nat.le_of_ble_eq_true rfl) rfl ?_
  intro p e s m args below meth c A C hr
  have FX : ∀ w ∈ wsX00, w.before args s = true := fun w h => C.2.2.2.2.1 w ((by decide +kernel : ∀ w ∈ wsX00, w ∈ wsX0_size) w h)
  obtain ⟨hS4, hL12, hW16, hZ9, hP16⟩ := id hI
  refine g_aload_n (pc' := 1) (q := 0) C dX0_size_0 rfl rfl rfl ?_
  refine g_iload_n (pc' := 2) (q := 1) C dX0_size_1 rfl rfl rfl ?_
  refine g_callvV (pc' := 5) (As := [.int x]) (st := []) (cells' := 0) (slots' := 0) C (c_X0_checkLot _ x (by omega)) gX0_size_X0_checkLot rfl (by decide +kernel) ⟨Nat.le_of_ble_eq_true rfl, Nat.le_of_ble_eq_true rfl⟩ 0 (by rfl) rfl (n := 1) rfl rfl (Nat.le_of_ble_eq_true rfl) dX0_size_2 rfl rfl rfl ⟨Nat.le_of_ble_eq_true rfl, Nat.le_of_ble_eq_true rfl⟩ (fun  u_1 h_2 => ?_)
  obtain ⟨qh_2, h_2⟩ := h_2
  refine g_st h_2 ?_
  obtain ⟨n, hn, rfl⟩ := nI_of_ti (n := 24) qh_2.1 (by omega) (by decide)
  have tn : (nI n).toInt = (n : Int) := nI_toInt (by omega)
  rw [tn] at qh_2
  refine g_aload_n (pc' := 6) (q := 0) C dX0_size_5 rfl rfl rfl ?_
  refine g_get (pc' := 9) (v := .ref (a 12)) C FX 0 (by rfl) rfl 11 (by decide) (by decide +kernel) rfl (by rfl) dX0_size_6 rfl ?_
  refine g_iload_n (pc' := 10) (q := 1) C dX0_size_9 rfl rfl rfl ?_
  refine g_iald (pc' := 11) (n := 24) (f := u 12) C 12 0 (by rfl) rfl (vp_in_nI (by omega) (by omega)) (k := n) (nI_clamp (by omega)) dX0_size_10 rfl ?_
  exact g_iret C hr rfl ⟨n, rfl, by omega, rfl, rfl⟩ dX0_size_11
set_option maxHeartbeats 4000000 in
set_option maxRecDepth 100000 in
theorem c_X0_reworks {l : Launch} {D : va_G} {cI cZ cQ : ClassId} {a : Nat → Nat} (u : LU) (x : Int32) (hI : IX u) (hx : (0 ≤ x.toInt ∧ x.toInt < (u 0 12).toInt)) : KI l yX0_reworks wsX0_reworks ({ frames := 2, cells := 0, slots := 0, locals := 42 } : Room) D (tyX cI cZ cQ) (wX cI cZ cQ a) [.ref (a 0), .int x] u (fun (r : Int32) (u' : LU) => ∃ n : Nat, x = nI n ∧ (n : Int) < (u 0 12).toInt ∧ r = u 10 n ∧ u' = u) := by
  refine ent_I (own := RX0) (maxL := 2) (cc := cX0_reworks) (L0 := [(0, .ref (a 0)), (1, .int x)]) (by decide) rfl (wX_ok _ _ _ _) rfl (Nat.le_of_ble_eq_true rfl) rfl ?_
  intro p e s m args below meth c A C hr
  have FX : ∀ w ∈ wsX00, w.before args s = true := fun w h => C.2.2.2.2.1 w ((by decide +kernel : ∀ w ∈ wsX00, w ∈ wsX0_reworks) w h)
  obtain ⟨hS4, hL12, hW16, hZ9, hP16⟩ := id hI
  refine g_aload_n (pc' := 1) (q := 0) C dX0_reworks_0 rfl rfl rfl ?_
  refine g_iload_n (pc' := 2) (q := 1) C dX0_reworks_1 rfl rfl rfl ?_
  refine g_callvV (pc' := 5) (As := [.int x]) (st := []) (cells' := 0) (slots' := 0) C (c_X0_checkLot _ x (by omega)) gX0_reworks_X0_checkLot rfl (by decide +kernel) ⟨Nat.le_of_ble_eq_true rfl, Nat.le_of_ble_eq_true rfl⟩ 0 (by rfl) rfl (n := 1) rfl rfl (Nat.le_of_ble_eq_true rfl) dX0_reworks_2 rfl rfl rfl ⟨Nat.le_of_ble_eq_true rfl, Nat.le_of_ble_eq_true rfl⟩ (fun  u_1 h_2 => ?_)
  obtain ⟨qh_2, h_2⟩ := h_2
  refine g_st h_2 ?_
  obtain ⟨n, hn, rfl⟩ := nI_of_ti (n := 24) qh_2.1 (by omega) (by decide)
  have tn : (nI n).toInt = (n : Int) := nI_toInt (by omega)
  rw [tn] at qh_2
  refine g_aload_n (pc' := 6) (q := 0) C dX0_reworks_5 rfl rfl rfl ?_
  refine g_get (pc' := 9) (v := .ref (a 10)) C FX 0 (by rfl) rfl 9 (by decide) (by decide +kernel) rfl (by rfl) dX0_reworks_6 rfl ?_
  refine g_iload_n (pc' := 10) (q := 1) C dX0_reworks_9 rfl rfl rfl ?_
  refine g_iald (pc' := 11) (n := 24) (f := u 10) C 10 0 (by rfl) rfl (vp_in_nI (by omega) (by omega)) (k := n) (nI_clamp (by omega)) dX0_reworks_10 rfl ?_
  exact g_iret C hr rfl ⟨n, rfl, by omega, rfl, rfl⟩ dX0_reworks_11
set_option maxHeartbeats 4000000 in
set_option maxRecDepth 100000 in
theorem c_X0_parentOf {l : Launch} {D : va_G} {cI cZ cQ : ClassId} {a : Nat → Nat} (u : LU) (x : Int32) (hI : IX u) (hx : (0 ≤ x.toInt ∧ x.toInt < (u 0 12).toInt)) : KI l yX0_parentOf wsX0_parentOf ({ frames := 2, cells := 0, slots := 0, locals := 42 } : Room) D (tyX cI cZ cQ) (wX cI cZ cQ a) [.ref (a 0), .int x] u (fun (r : Int32) (u' : LU) => ∃ n : Nat, x = nI n ∧ (n : Int) < (u 0 12).toInt ∧ r = u 11 n ∧ u' = u) := by
  refine ent_I (own := RX0) (maxL := 2) (cc := cX0_parentOf) (L0 := [(0, .ref (a 0)), (1, .int x)]) (by decide) rfl (wX_ok _ _ _ _) rfl (Nat.le_of_ble_eq_true rfl) rfl ?_
  intro p e s m args below meth c A C hr
  have FX : ∀ w ∈ wsX00, w.before args s = true := fun w h => C.2.2.2.2.1 w ((by decide +kernel : ∀ w ∈ wsX00, w ∈ wsX0_parentOf) w h)
  obtain ⟨hS4, hL12, hW16, hZ9, hP16⟩ := id hI
  refine g_aload_n (pc' := 1) (q := 0) C dX0_parentOf_0 rfl rfl rfl ?_
  refine g_iload_n (pc' := 2) (q := 1) C dX0_parentOf_1 rfl rfl rfl ?_
  refine g_callvV (pc' := 5) (As := [.int x]) (st := []) (cells' := 0) (slots' := 0) C (c_X0_checkLot _ x (by omega)) gX0_parentOf_X0_checkLot rfl (by decide +kernel) ⟨Nat.le_of_ble_eq_true rfl, Nat.le_of_ble_eq_true rfl⟩ 0 (by rfl) rfl (n := 1) rfl rfl (Nat.le_of_ble_eq_true rfl) dX0_parentOf_2 rfl rfl rfl ⟨Nat.le_of_ble_eq_true rfl, Nat.le_of_ble_eq_true rfl⟩ (fun  u_1 h_2 => ?_)
  obtain ⟨qh_2, h_2⟩ := h_2
  refine g_st h_2 ?_
  obtain ⟨n, hn, rfl⟩ := nI_of_ti (n := 24) qh_2.1 (by omega) (by decide)
  have tn : (nI n).toInt = (n : Int) := nI_toInt (by omega)
  rw [tn] at qh_2
  refine g_aload_n (pc' := 6) (q := 0) C dX0_parentOf_5 rfl rfl rfl ?_
  refine g_get (pc' := 9) (v := .ref (a 11)) C FX 0 (by rfl) rfl 10 (by decide) (by decide +kernel) rfl (by rfl) dX0_parentOf_6 rfl ?_
  refine g_iload_n (pc' := 10) (q := 1) C dX0_parentOf_9 rfl rfl rfl ?_
  refine g_iald (pc' := 11) (n := 24) (f := u 11) C 11 0 (by rfl) rfl (vp_in_nI (by omega) (by omega)) (k := n) (nI_clamp (by omega)) dX0_parentOf_10 rfl ?_
  exact g_iret C hr rfl ⟨n, rfl, by omega, rfl, rfl⟩ dX0_parentOf_11
set_option maxHeartbeats 4000000 in
set_option maxRecDepth 100000 in
theorem c_X0_lotOf {l : Launch} {D : va_G} {cI cZ cQ : ClassId} {a : Nat → Nat} (u : LU) (x : Int32) (hI : IX u) (hx : (0 ≤ x.toInt ∧ x.toInt < (u 0 16).toInt)) : KI l yX0_lotOf wsX0_lotOf ({ frames := 1, cells := 0, slots := 0, locals := 21 } : Room) D (tyX cI cZ cQ) (wX cI cZ cQ a) [.ref (a 0), .int x] u (fun (r : Int32) (u' : LU) => ∃ w : Nat, x = nI w ∧ (w : Int) < (u 0 16).toInt ∧ r = u 14 w ∧ u' = u) := by
  refine ent_I (own := RX0) (maxL := 2) (cc := cX0_lotOf) (L0 := [(0, .ref (a 0)), (1, .int x)]) (by decide) rfl (wX_ok _ _ _ _) rfl (Nat.le_of_ble_eq_true rfl) rfl ?_
  intro p e s m args below meth c A C hr
  have FX : ∀ w ∈ wsX00, w.before args s = true := fun w h => C.2.2.2.2.1 w ((by decide +kernel : ∀ w ∈ wsX00, w ∈ wsX0_lotOf) w h)
  obtain ⟨hS4, hL12, hW16, hZ9, hP16⟩ := id hI
  refine g_aload_n (pc' := 1) (q := 0) C dX0_lotOf_0 rfl rfl rfl ?_
  refine g_iload_n (pc' := 2) (q := 1) C dX0_lotOf_1 rfl rfl rfl ?_
  refine g_callvV (pc' := 5) (As := [.int x]) (st := []) (cells' := 0) (slots' := 0) C (c_X0_checkWafer _ x (by omega)) gX0_lotOf_X0_checkWafer rfl (by decide +kernel) ⟨Nat.le_of_ble_eq_true rfl, Nat.le_of_ble_eq_true rfl⟩ 0 (by rfl) rfl (n := 1) rfl rfl (Nat.le_of_ble_eq_true rfl) dX0_lotOf_2 rfl rfl rfl ⟨Nat.le_of_ble_eq_true rfl, Nat.le_of_ble_eq_true rfl⟩ (fun  u_1 h_2 => ?_)
  obtain ⟨qh_2, h_2⟩ := h_2
  refine g_st h_2 ?_
  obtain ⟨w, hw, rfl⟩ := nI_of_ti (n := 60) qh_2.1 (by omega) (by decide)
  have tw : (nI w).toInt = (w : Int) := nI_toInt (by omega)
  rw [tw] at qh_2
  refine g_aload_n (pc' := 6) (q := 0) C dX0_lotOf_5 rfl rfl rfl ?_
  refine g_get (pc' := 9) (v := .ref (a 14)) C FX 0 (by rfl) rfl 13 (by decide) (by decide +kernel) rfl (by rfl) dX0_lotOf_6 rfl ?_
  refine g_iload_n (pc' := 10) (q := 1) C dX0_lotOf_9 rfl rfl rfl ?_
  refine g_iald (pc' := 11) (n := 60) (f := u 14) C 13 0 (by rfl) rfl (vp_in_nI (by omega) (by omega)) (k := w) (nI_clamp (by omega)) dX0_lotOf_10 rfl ?_
  exact g_iret C hr rfl ⟨w, rfl, by omega, rfl, rfl⟩ dX0_lotOf_11
set_option maxHeartbeats 4000000 in
set_option maxRecDepth 100000 in
theorem c_X0_path {l : Launch} {D : va_G} {cI cZ cQ : ClassId} {a : Nat → Nat} (u : LU) (x : Int32) (hI : IX u) (hx : (0 ≤ x.toInt ∧ x.toInt < (u 0 16).toInt)) : KI l yX0_path wsX0_path ({ frames := 1, cells := 0, slots := 0, locals := 21 } : Room) D (tyX cI cZ cQ) (wX cI cZ cQ a) [.ref (a 0), .int x] u (fun (r : Int32) (u' : LU) => ∃ w : Nat, x = nI w ∧ (w : Int) < (u 0 16).toInt ∧ r = u 16 w ∧ u' = u) := by
  refine ent_I (own := RX0) (maxL := 2) (cc := cX0_path) (L0 := [(0, .ref (a 0)), (1, .int x)]) (by decide) rfl (wX_ok _ _ _ _) rfl (Nat.le_of_ble_eq_true rfl) rfl ?_
  intro p e s m args below meth c A C hr
  have FX : ∀ w ∈ wsX00, w.before args s = true := fun w h => C.2.2.2.2.1 w ((by decide +kernel : ∀ w ∈ wsX00, w ∈ wsX0_path) w h)
  obtain ⟨hS4, hL12, hW16, hZ9, hP16⟩ := id hI
  refine g_aload_n (pc' := 1) (q := 0) C dX0_path_0 rfl rfl rfl ?_
  refine g_iload_n (pc' := 2) (q := 1) C dX0_path_1 rfl rfl rfl ?_
  refine g_callvV (pc' := 5) (As := [.int x]) (st := []) (cells' := 0) (slots' := 0) C (c_X0_checkWafer _ x (by omega)) gX0_path_X0_checkWafer rfl (by decide +kernel) ⟨Nat.le_of_ble_eq_true rfl, Nat.le_of_ble_eq_true rfl⟩ 0 (by rfl) rfl (n := 1) rfl rfl (Nat.le_of_ble_eq_true rfl) dX0_path_2 rfl rfl rfl ⟨Nat.le_of_ble_eq_true rfl, Nat.le_of_ble_eq_true rfl⟩ (fun  u_1 h_2 => ?_)
  obtain ⟨qh_2, h_2⟩ := h_2
  refine g_st h_2 ?_
  obtain ⟨w, hw, rfl⟩ := nI_of_ti (n := 60) qh_2.1 (by omega) (by decide)
  have tw : (nI w).toInt = (w : Int) := nI_toInt (by omega)
  rw [tw] at qh_2
  refine g_aload_n (pc' := 6) (q := 0) C dX0_path_5 rfl rfl rfl ?_
  refine g_get (pc' := 9) (v := .ref (a 16)) C FX 0 (by rfl) rfl 15 (by decide) (by decide +kernel) rfl (by rfl) dX0_path_6 rfl ?_
  refine g_iload_n (pc' := 10) (q := 1) C dX0_path_9 rfl rfl rfl ?_
  refine g_iald (pc' := 11) (n := 60) (f := u 16) C 14 0 (by rfl) rfl (vp_in_nI (by omega) (by omega)) (k := w) (nI_clamp (by omega)) dX0_path_10 rfl ?_
  exact g_iret C hr rfl ⟨w, rfl, by omega, rfl, rfl⟩ dX0_path_11
set_option maxHeartbeats 4000000 in
set_option maxRecDepth 100000 in
theorem c_X0_slack {l : Launch} {D : va_G} {cI cZ cQ : ClassId} {a : Nat → Nat} (u : LU) (x : Int32) (hI : IX u) (hx : (0 ≤ x.toInt ∧ x.toInt < (u 0 12).toInt)) : KI l yX0_slack wsX0_slack ({ frames := 2, cells := 0, slots := 0, locals := 43 } : Room) D (tyX cI cZ cQ) (wX cI cZ cQ a) [.ref (a 0), .int x] u (fun (r : Int32) (u' : LU) => ∃ n : Nat, x = nI n ∧ (n : Int) < (u 0 12).toInt ∧ r = slX u n ∧ u' = u) := by
  refine ent_I (own := RX0) (maxL := 2) (cc := cX0_slack) (L0 := [(0, .ref (a 0)), (1, .int x)]) (by decide) rfl (wX_ok _ _ _ _) rfl (Nat.le_of_ble_eq_true rfl) rfl ?_
  intro p e s m args below meth c A C hr
  obtain ⟨hS4, hL12, hW16, hZ9, hP16⟩ := id hI
  refine g_aload_n (pc' := 1) (q := 0) C dX0_slack_0 rfl rfl rfl ?_
  refine g_iload_n (pc' := 2) (q := 1) C dX0_slack_1 rfl rfl rfl ?_
  refine g_callvV (pc' := 5) (As := [.int x]) (st := []) (cells' := 0) (slots' := 0) C (c_X0_checkLot _ x (by omega)) gX0_slack_X0_checkLot rfl (by decide +kernel) ⟨Nat.le_of_ble_eq_true rfl, Nat.le_of_ble_eq_true rfl⟩ 0 (by rfl) rfl (n := 1) rfl rfl (Nat.le_of_ble_eq_true rfl) dX0_slack_2 rfl rfl rfl ⟨Nat.le_of_ble_eq_true rfl, Nat.le_of_ble_eq_true rfl⟩ (fun  u_1 h_2 => ?_)
  obtain ⟨qh_2, h_2⟩ := h_2
  refine g_st h_2 ?_
  obtain ⟨n, hn, rfl⟩ := nI_of_ti (n := 24) qh_2.1 (by omega) (by decide)
  have tn : (nI n).toInt = (n : Int) := nI_toInt (by omega)
  rw [tn] at qh_2
  refine g_aload_n (pc' := 6) (q := 0) C dX0_slack_5 rfl rfl rfl ?_
  refine g_iload_n (pc' := 7) (q := 1) C dX0_slack_6 rfl rfl rfl ?_
  refine g_calliV (pc' := 10) (As := [.int (nI n)]) (st := []) (cells' := 0) (slots' := 0) C (c_X0_waitingLeft _ n (by omega) (by omega)) gX0_slack_X0_waitingLeft rfl (by decide +kernel) ⟨Nat.le_of_ble_eq_true rfl, Nat.le_of_ble_eq_true rfl⟩ 0 (by rfl) rfl (n := 1) rfl rfl (Nat.le_of_ble_eq_true rfl) dX0_slack_7 rfl rfl rfl ⟨Nat.le_of_ble_eq_true rfl, Nat.le_of_ble_eq_true rfl⟩ (fun r_3 u_3 h_4 => ?_)
  obtain ⟨rfl, h_4⟩ := h_4
  refine g_st h_4 ?_
  exact g_iret C hr rfl ⟨n, rfl, by omega, rfl, rfl⟩ dX0_slack_10
set_option maxHeartbeats 4000000 in
set_option maxRecDepth 100000 in
theorem c_X0_isLate {l : Launch} {D : va_G} {cI cZ cQ : ClassId} {a : Nat → Nat} (u : LU) (x : Int32) (hI : IX u) (hx : (0 ≤ x.toInt ∧ x.toInt < (u 0 12).toInt)) : KI l yX0_isLate wsX0_isLate ({ frames := 2, cells := 0, slots := 0, locals := 43 } : Room) D (tyX cI cZ cQ) (wX cI cZ cQ a) [.ref (a 0), .int x] u (fun (r : Int32) (u' : LU) => ∃ n : Nat, x = nI n ∧ (n : Int) < (u 0 12).toInt ∧ r = bP ((slX u n).toInt < 0) ∧ u' = u) := by
  refine ent_I (own := RX0) (maxL := 2) (cc := cX0_isLate) (L0 := [(0, .ref (a 0)), (1, .int x)]) (by decide) rfl (wX_ok _ _ _ _) rfl (Nat.le_of_ble_eq_true rfl) rfl ?_
  intro p e s m args below meth c A C hr
  obtain ⟨hS4, hL12, hW16, hZ9, hP16⟩ := id hI
  refine g_aload_n (pc' := 1) (q := 0) C dX0_isLate_0 rfl rfl rfl ?_
  refine g_iload_n (pc' := 2) (q := 1) C dX0_isLate_1 rfl rfl rfl ?_
  refine g_callvV (pc' := 5) (As := [.int x]) (st := []) (cells' := 0) (slots' := 0) C (c_X0_checkLot _ x (by omega)) gX0_isLate_X0_checkLot rfl (by decide +kernel) ⟨Nat.le_of_ble_eq_true rfl, Nat.le_of_ble_eq_true rfl⟩ 0 (by rfl) rfl (n := 1) rfl rfl (Nat.le_of_ble_eq_true rfl) dX0_isLate_2 rfl rfl rfl ⟨Nat.le_of_ble_eq_true rfl, Nat.le_of_ble_eq_true rfl⟩ (fun  u_1 h_2 => ?_)
  obtain ⟨qh_2, h_2⟩ := h_2
  refine g_st h_2 ?_
  obtain ⟨n, hn, rfl⟩ := nI_of_ti (n := 24) qh_2.1 (by omega) (by decide)
  have tn : (nI n).toInt = (n : Int) := nI_toInt (by omega)
  rw [tn] at qh_2
  refine g_aload_n (pc' := 6) (q := 0) C dX0_isLate_5 rfl rfl rfl ?_
  refine g_iload_n (pc' := 7) (q := 1) C dX0_isLate_6 rfl rfl rfl ?_
  refine g_calliV (pc' := 10) (As := [.int (nI n)]) (st := []) (cells' := 0) (slots' := 0) C (c_X0_waitingLeft _ n (by omega) (by omega)) gX0_isLate_X0_waitingLeft rfl (by decide +kernel) ⟨Nat.le_of_ble_eq_true rfl, Nat.le_of_ble_eq_true rfl⟩ 0 (by rfl) rfl (n := 1) rfl rfl (Nat.le_of_ble_eq_true rfl) dX0_isLate_7 rfl rfl rfl ⟨Nat.le_of_ble_eq_true rfl, Nat.le_of_ble_eq_true rfl⟩ (fun r_3 u_3 h_4 => ?_)
  obtain ⟨rfl, h_4⟩ := h_4
  refine g_st h_4 ?_
  refine g_if_ge (tgt := 17) (pc' := 13) C dX0_isLate_10 rfl (by decide) (fun (c_5 : 0 ≤ (slX u n).toInt) => ?_) (fun (c_5 : ¬ (0 ≤ (slX u n).toInt)) => ?_)
  · skip
    refine g_iconst (pc' := 18) (v := 0) C dX0_isLate_17 rfl (by decide) ?_
    exact g_iret C hr (by decide) ⟨n, rfl, by omega, (bP_f (by omega)).symm, rfl⟩ dX0_isLate_18
  · skip
    refine g_iconst (pc' := 14) (v := 1) C dX0_isLate_13 rfl (by decide) ?_
    refine g_goto (tgt := 18) C dX0_isLate_14 (by decide) ?_
    exact g_iret C hr (by decide) ⟨n, rfl, by omega, (bP_t (by omega)).symm, rfl⟩ dX0_isLate_18
set_option maxHeartbeats 4000000 in
set_option maxRecDepth 100000 in
theorem c_X0_addStep {l : Launch} {D : va_G} {cI cZ cQ : ClassId} {a : Nat → Nat} (u : LU) (x y z b : Int32) (hI : IX u) (hx : (0 ≤ x.toInt ∧ x.toInt ≤ 5)) (hy : ((1 ≤ y.toInt ∧ y.toInt ≤ 1000) ∧ (0 ≤ z.toInt ∧ z.toInt ≤ 10000) ∧ (0 ≤ b.toInt ∧ b.toInt ≤ (u 0 4).toInt))) (hz : ((u 0 4).toInt < 12 ∧ (u 0 12).toInt ≤ 0)) : KI l yX0_addStep wsX0_addStep ({ frames := 2, cells := 0, slots := 0, locals := 42 } : Room) D (tyX cI cZ cQ) (wX cI cZ cQ a) [.ref (a 0), .int x, .int y, .int z, .int b] u (fun (r : Int32) (u' : LU) => (0 ≤ x.toInt ∧ x.toInt ≤ 5) ∧ ((1 ≤ y.toInt ∧ y.toInt ≤ 1000) ∧ (0 ≤ z.toInt ∧ z.toInt ≤ 10000) ∧ (0 ≤ b.toInt ∧ b.toInt ≤ (u 0 4).toInt)) ∧ ((u 0 4).toInt < 12 ∧ (u 0 12).toInt ≤ 0) ∧ r = u 0 4 ∧ u' = asX u x y z b) := by
  refine ent_I (own := RX0) (maxL := 6) (cc := cX0_addStep) (L0 := [(0, .ref (a 0)), (1, .int x), (2, .int y), (3, .int z), (4, .int b)]) (by decide) rfl (wX_ok _ _ _ _) rfl (Nat.le_of_ble_eq_true rfl) rfl ?_
  intro p e s m args below meth c A C hr
  have FX : ∀ w ∈ wsX00, w.before args s = true := fun w h => C.2.2.2.2.1 w ((by decide +kernel : ∀ w ∈ wsX00, w ∈ wsX0_addStep) w h)
  obtain ⟨hS4, hL12, hW16, hZ9, hP16⟩ := id hI
  refine g_iload_n (pc' := 1) (q := 1) C dX0_addStep_0 rfl rfl rfl ?_
  refine g_callvS (pc' := 4) (As := [.int x]) (st := []) (cells' := 0) (slots' := 0) C (c_X0_checkTool _ x (by omega)) gX0_addStep_X0_checkTool rfl (by decide +kernel) ⟨Nat.le_of_ble_eq_true rfl, Nat.le_of_ble_eq_true rfl⟩ (n := 1) rfl rfl (Nat.le_of_ble_eq_true rfl) dX0_addStep_1 rfl rfl rfl ⟨Nat.le_of_ble_eq_true rfl, Nat.le_of_ble_eq_true rfl⟩ (fun  u_1 h_2 => ?_)
  obtain ⟨qh_2, h_2⟩ := h_2
  refine g_st h_2 ?_
  refine g_iload_n (pc' := 5) (q := 2) C dX0_addStep_4 rfl rfl rfl ?_
  refine g_iconst (pc' := 6) (v := 1) C dX0_addStep_5 rfl (by decide) ?_
  refine g_sipush (pc' := 9) (v := 1000) C dX0_addStep_6 rfl (by decide) ?_
  refine g_calliS (pc' := 12) (As := [.int y, .int 1, .int 1000]) (st := []) (cells' := 0) (slots' := 0) C (c_X0_isWithin _ y 1 1000) gX0_addStep_X0_isWithin rfl (by decide +kernel) ⟨Nat.le_of_ble_eq_true rfl, Nat.le_of_ble_eq_true rfl⟩ (n := 3) rfl rfl (Nat.le_of_ble_eq_true rfl) dX0_addStep_9 rfl rfl rfl ⟨Nat.le_of_ble_eq_true rfl, Nat.le_of_ble_eq_true rfl⟩ (fun r_3 u_3 h_4 => ?_)
  obtain ⟨rfl, h_4⟩ := h_4
  refine g_st h_4 ?_
  refine g_ifP_eq (tgt := 39) (pc' := 15) C dX0_addStep_12 rfl (by decide) (fun (c_5 : ¬ (1 ≤ y.toInt ∧ y.toInt ≤ 1000)) => ?_) (fun (c_5 : 1 ≤ y.toInt ∧ y.toInt ≤ 1000) => ?_)
  · skip
    exact False.elim (by omega)
  · skip
    refine g_iload_n (pc' := 16) (q := 3) C dX0_addStep_15 rfl rfl rfl ?_
    refine g_iconst (pc' := 17) (v := 0) C dX0_addStep_16 rfl (by decide) ?_
    refine g_sipush (pc' := 20) (v := 10000) C dX0_addStep_17 rfl (by decide) ?_
    refine g_calliS (pc' := 23) (As := [.int z, .int 0, .int 10000]) (st := []) (cells' := 0) (slots' := 0) C (c_X0_isWithin _ z 0 10000) gX0_addStep_X0_isWithin rfl (by decide +kernel) ⟨Nat.le_of_ble_eq_true rfl, Nat.le_of_ble_eq_true rfl⟩ (n := 3) rfl rfl (Nat.le_of_ble_eq_true rfl) dX0_addStep_20 rfl rfl rfl ⟨Nat.le_of_ble_eq_true rfl, Nat.le_of_ble_eq_true rfl⟩ (fun r_6 u_6 h_7 => ?_)
    obtain ⟨rfl, h_7⟩ := h_7
    refine g_st h_7 ?_
    refine g_ifP_eq (tgt := 39) (pc' := 26) C dX0_addStep_23 rfl (by decide) (fun (c_8 : ¬ (0 ≤ z.toInt ∧ z.toInt ≤ 10000)) => ?_) (fun (c_8 : 0 ≤ z.toInt ∧ z.toInt ≤ 10000) => ?_)
    · skip
      exact False.elim (by omega)
    · skip
      refine g_iload (pc' := 28) (q := 4) C dX0_addStep_26 rfl rfl ?_
      refine g_iconst (pc' := 29) (v := 0) C dX0_addStep_28 rfl (by decide) ?_
      refine g_aload_n (pc' := 30) (q := 0) C dX0_addStep_29 rfl rfl rfl ?_
      refine g_get (pc' := 33) (v := .int (u 0 4)) C FX 0 (by rfl) rfl 4 (by decide) (by decide +kernel) rfl (by rfl) dX0_addStep_30 rfl ?_
      refine g_calliS (pc' := 36) (As := [.int b, .int 0, .int (u 0 4)]) (st := []) (cells' := 0) (slots' := 0) C (c_X0_isWithin _ b 0 (u 0 4)) gX0_addStep_X0_isWithin rfl (by decide +kernel) ⟨Nat.le_of_ble_eq_true rfl, Nat.le_of_ble_eq_true rfl⟩ (n := 3) rfl rfl (Nat.le_of_ble_eq_true rfl) dX0_addStep_33 rfl rfl rfl ⟨Nat.le_of_ble_eq_true rfl, Nat.le_of_ble_eq_true rfl⟩ (fun r_9 u_9 h_10 => ?_)
      obtain ⟨rfl, h_10⟩ := h_10
      refine g_st h_10 ?_
      refine g_ifP_ne (tgt := 49) (pc' := 39) C dX0_addStep_36 rfl (by decide) (fun (c_11 : 0 ≤ b.toInt ∧ b.toInt ≤ (u 0 4).toInt) => ?_) (fun (c_11 : ¬ (0 ≤ b.toInt ∧ b.toInt ≤ (u 0 4).toInt)) => ?_)
      · skip
        refine g_aload_n (pc' := 50) (q := 0) C dX0_addStep_49 rfl rfl rfl ?_
        refine g_get (pc' := 53) (v := .int (u 0 4)) C FX 0 (by rfl) rfl 4 (by decide) (by decide +kernel) rfl (by rfl) dX0_addStep_50 rfl ?_
        refine g_bipush (pc' := 55) (v := 12) C dX0_addStep_53 rfl (by decide) ?_
        refine g_icmp_ge (tgt := 65) (pc' := 58) C dX0_addStep_55 rfl (by decide) (fun (c_12 : 12 ≤ (u 0 4).toInt) => ?_) (fun (c_12 : ¬ (12 ≤ (u 0 4).toInt)) => ?_)
        · skip
          exact False.elim (by omega)
        · skip
          refine g_aload_n (pc' := 59) (q := 0) C dX0_addStep_58 rfl rfl rfl ?_
          refine g_get (pc' := 62) (v := .int (u 0 12)) C FX 0 (by rfl) rfl 12 (by decide) (by decide +kernel) rfl (by rfl) dX0_addStep_59 rfl ?_
          refine g_if_le (tgt := 75) (pc' := 65) C dX0_addStep_62 rfl (by decide) (fun (c_13 : (u 0 12).toInt ≤ 0) => ?_) (fun (c_13 : ¬ ((u 0 12).toInt ≤ 0)) => ?_)
          · skip
            refine g_aload_n (pc' := 76) (q := 0) C dX0_addStep_75 rfl rfl rfl ?_
            refine g_get (pc' := 79) (v := .int (u 0 4)) C FX 0 (by rfl) rfl 4 (by decide) (by decide +kernel) rfl (by rfl) dX0_addStep_76 rfl ?_
            refine g_istore (pc' := 81) (L' := [(5, .int (u 0 4)), (0, .ref (a 0)), (1, .int x), (2, .int y), (3, .int z), (4, .int b)]) C dX0_addStep_79 rfl (by decide) rfl ?_
            refine g_aload_n (pc' := 82) (q := 1) C dX0_addStep_81 rfl rfl rfl ?_
            refine g_get (pc' := 85) (v := .ref (a 1)) C FX 0 (by rfl) rfl 0 (by decide) (by decide +kernel) rfl (by rfl) dX0_addStep_82 rfl ?_
            refine g_iload (pc' := 87) (q := 0) C dX0_addStep_85 rfl rfl ?_
            refine g_iload_n (pc' := 88) (q := 2) C dX0_addStep_87 rfl rfl rfl ?_
            refine g_iast (pc' := 89) (n := 12) (f := u 1) C 2 0 (by rfl) rfl (vp_of (by omega) (by omega)) (k := (u 0 4).toNatClampNeg) rfl dX0_addStep_88 rfl (wX_set cI cZ cQ a _ (k := 0) rfl) ?_
            refine g_aload_n (pc' := 90) (q := 1) C dX0_addStep_89 rfl rfl rfl ?_
            refine g_get (pc' := 93) (v := .ref (a 2)) C FX 0 (by rfl) rfl 1 (by decide) (by decide +kernel) rfl (by rfl) dX0_addStep_90 rfl ?_
            refine g_iload (pc' := 95) (q := 0) C dX0_addStep_93 rfl rfl ?_
            refine g_iload_n (pc' := 96) (q := 3) C dX0_addStep_95 rfl rfl rfl ?_
            refine g_iast (pc' := 97) (n := 12) (f := u 2) C 3 0 (by rfl) rfl (vp_of (by omega) (by omega)) (k := (u 0 4).toNatClampNeg) rfl dX0_addStep_96 rfl (wX_set cI cZ cQ a _ (k := 1) rfl) ?_
            refine g_aload_n (pc' := 98) (q := 1) C dX0_addStep_97 rfl rfl rfl ?_
            refine g_get (pc' := 101) (v := .ref (a 3)) C FX 0 (by rfl) rfl 2 (by decide) (by decide +kernel) rfl (by rfl) dX0_addStep_98 rfl ?_
            refine g_iload (pc' := 103) (q := 0) C dX0_addStep_101 rfl rfl ?_
            refine g_iload_n (pc' := 104) (q := 4) C dX0_addStep_103 rfl rfl rfl ?_
            refine g_iast (pc' := 105) (n := 12) (f := u 3) C 4 0 (by rfl) rfl (vp_of (by omega) (by omega)) (k := (u 0 4).toNatClampNeg) rfl dX0_addStep_104 rfl (wX_set cI cZ cQ a _ (k := 2) rfl) ?_
            refine g_aload_n (pc' := 106) (q := 1) C dX0_addStep_105 rfl rfl rfl ?_
            refine g_get (pc' := 109) (v := .ref (a 4)) C FX 0 (by rfl) rfl 3 (by decide) (by decide +kernel) rfl (by rfl) dX0_addStep_106 rfl ?_
            refine g_iload (pc' := 111) (q := 0) C dX0_addStep_109 rfl rfl ?_
            refine g_iload (pc' := 113) (q := 5) C dX0_addStep_111 rfl rfl ?_
            refine g_iast (pc' := 114) (n := 12) (f := u 4) C 5 0 (by rfl) rfl (vp_of (by omega) (by omega)) (k := (u 0 4).toNatClampNeg) rfl dX0_addStep_113 rfl (wX_set cI cZ cQ a _ (k := 3) rfl) ?_
            refine g_aload_n (pc' := 115) (q := 1) C dX0_addStep_114 rfl rfl rfl ?_
            refine g_iload (pc' := 117) (q := 0) C dX0_addStep_115 rfl rfl ?_
            refine g_iconst (pc' := 118) (v := 1) C dX0_addStep_117 rfl (by decide) ?_
            refine g_iadd (pc' := 119) C dX0_addStep_118 rfl ?_
            refine g_putI (pc' := 122) C FX tyX0 tyX0_ok nmX0 0 (by rfl) rfl 4 (by decide) (by decide +kernel) rfl rfl rfl (Nat.le_of_ble_eq_true rfl) dX0_addStep_119 rfl (wX_put cI cZ cQ a _ (f := (upd (u 0) 4 ((u 0 4) + 1))) rfl) ?_
            refine g_iload (pc' := 124) (q := 0) C dX0_addStep_122 rfl rfl ?_
            exact g_iret C hr rfl ⟨by omega, by omega, by omega, rfl, rfl⟩ dX0_addStep_124
          · skip
            exact False.elim (by omega)
      · skip
        exact False.elim (by omega)
set_option maxHeartbeats 4000000 in
set_option maxRecDepth 100000 in
theorem c_X0_start {l : Launch} {D : va_G} {cI cZ cQ : ClassId} {a : Nat → Nat} (u : LU) (x : Int32) (hI : IX u) (hx : (0 ≤ x.toInt ∧ x.toInt < (u 0 12).toInt)) (hy : ∀ n : Nat, n < 24 → x = nI n → (rdX u n ∧ (0 ≤ (u 7 n).toInt ∧ (u 7 n).toInt < (u 0 4).toInt) ∧ ¬ buX u (u 1 (u 7 n).toNatClampNeg))) : KI l yX0_start wsX0_start ({ frames := 3, cells := 0, slots := 0, locals := 66 } : Room) D (tyX cI cZ cQ) (wX cI cZ cQ a) [.ref (a 0), .int x] u (fun (r : Int32) (u' : LU) => ∃ n : Nat, x = nI n ∧ (n : Int) < (u 0 12).toInt ∧ (rdX u n ∧ (0 ≤ (u 7 n).toInt ∧ (u 7 n).toInt < (u 0 4).toInt) ∧ ¬ buX u (u 1 (u 7 n).toNatClampNeg)) ∧ r = u 0 17 + u 2 (u 7 n).toNatClampNeg ∧ u' = saX u n) := by
  refine ent_I (own := RX0) (maxL := 3) (cc := cX0_start) (L0 := [(0, .ref (a 0)), (1, .int x)]) (by decide) rfl (wX_ok _ _ _ _) rfl (Nat.le_of_ble_eq_true rfl) rfl ?_
  intro p e s m args below meth c A C hr
  have FX : ∀ w ∈ wsX00, w.before args s = true := fun w h => C.2.2.2.2.1 w ((by decide +kernel : ∀ w ∈ wsX00, w ∈ wsX0_start) w h)
  obtain ⟨hS4, hL12, hW16, hZ9, hP16⟩ := id hI
  refine g_aload_n (pc' := 1) (q := 0) C dX0_start_0 rfl rfl rfl ?_
  refine g_iload_n (pc' := 2) (q := 1) C dX0_start_1 rfl rfl rfl ?_
  refine g_callvV (pc' := 5) (As := [.int x]) (st := []) (cells' := 0) (slots' := 0) C (c_X0_checkLot _ x (by omega)) gX0_start_X0_checkLot rfl (by decide +kernel) ⟨Nat.le_of_ble_eq_true rfl, Nat.le_of_ble_eq_true rfl⟩ 0 (by rfl) rfl (n := 1) rfl rfl (Nat.le_of_ble_eq_true rfl) dX0_start_2 rfl rfl rfl ⟨Nat.le_of_ble_eq_true rfl, Nat.le_of_ble_eq_true rfl⟩ (fun  u_1 h_2 => ?_)
  obtain ⟨qh_2, h_2⟩ := h_2
  refine g_st h_2 ?_
  obtain ⟨n, hn, rfl⟩ := nI_of_ti (n := 24) qh_2.1 (by omega) (by decide)
  have tn : (nI n).toInt = (n : Int) := nI_toInt (by omega)
  rw [tn] at qh_2
  refine g_aload_n (pc' := 6) (q := 0) C dX0_start_5 rfl rfl rfl ?_
  refine g_get (pc' := 9) (v := .ref (a 7)) C FX 0 (by rfl) rfl 6 (by decide) (by decide +kernel) rfl (by rfl) dX0_start_6 rfl ?_
  refine g_iload_n (pc' := 10) (q := 1) C dX0_start_9 rfl rfl rfl ?_
  refine g_iald (pc' := 11) (n := 24) (f := u 7) C 7 0 (by rfl) rfl (vp_in_nI (by omega) (by omega)) (k := n) (nI_clamp (by omega)) dX0_start_10 rfl ?_
  refine g_istore_n (pc' := 12) (L' := [(2, .int (u 7 n)), (0, .ref (a 0)), (1, .int (nI n))]) C dX0_start_11 rfl rfl (by decide) rfl ?_
  refine g_aload_n (pc' := 13) (q := 1) C dX0_start_12 rfl rfl rfl ?_
  refine g_iload_n (pc' := 14) (q := 2) C dX0_start_13 rfl rfl rfl ?_
  refine g_calliV (pc' := 17) (As := [.int (nI n)]) (st := []) (cells' := 0) (slots' := 0) C (c_X0_isReady _ n (by omega) (by omega)) gX0_start_X0_isReady rfl (by decide +kernel) ⟨Nat.le_of_ble_eq_true rfl, Nat.le_of_ble_eq_true rfl⟩ 0 (by rfl) rfl (n := 1) rfl rfl (Nat.le_of_ble_eq_true rfl) dX0_start_14 rfl rfl rfl ⟨Nat.le_of_ble_eq_true rfl, Nat.le_of_ble_eq_true rfl⟩ (fun r_3 u_3 h_4 => ?_)
  obtain ⟨rfl, h_4⟩ := h_4
  refine g_st h_4 ?_
  refine g_ifP_eq (tgt := 41) (pc' := 20) C dX0_start_17 rfl (by decide) (fun (c_5 : ¬ (rdX u n)) => ?_) (fun (c_5 : rdX u n) => ?_)
  · skip
    exact False.elim (by have q9 := hy n (by omega) rfl; simp_all)
  · skip
    refine g_aload_n (pc' := 21) (q := 1) C dX0_start_20 rfl rfl rfl ?_
    refine g_iload_n (pc' := 22) (q := 0) C dX0_start_21 rfl rfl rfl ?_
    refine g_calliV (pc' := 25) (As := [.int (u 7 n)]) (st := []) (cells' := 0) (slots' := 0) C (c_X0_isStep _ (u 7 n)) gX0_start_X0_isStep rfl (by decide +kernel) ⟨Nat.le_of_ble_eq_true rfl, Nat.le_of_ble_eq_true rfl⟩ 0 (by rfl) rfl (n := 1) rfl rfl (Nat.le_of_ble_eq_true rfl) dX0_start_22 rfl rfl rfl ⟨Nat.le_of_ble_eq_true rfl, Nat.le_of_ble_eq_true rfl⟩ (fun r_6 u_6 h_7 => ?_)
    obtain ⟨rfl, h_7⟩ := h_7
    refine g_st h_7 ?_
    refine g_ifP_eq (tgt := 41) (pc' := 28) C dX0_start_25 rfl (by decide) (fun (c_8 : ¬ (0 ≤ (u 7 n).toInt ∧ (u 7 n).toInt < (u 0 4).toInt)) => ?_) (fun (c_8 : 0 ≤ (u 7 n).toInt ∧ (u 7 n).toInt < (u 0 4).toInt) => ?_)
    · skip
      exact False.elim (by have q9 := hy n (by omega) rfl; simp_all)
    · skip
      refine g_aload_n (pc' := 29) (q := 1) C dX0_start_28 rfl rfl rfl ?_
      refine g_aload_n (pc' := 30) (q := 1) C dX0_start_29 rfl rfl rfl ?_
      refine g_get (pc' := 33) (v := .ref (a 1)) C FX 0 (by rfl) rfl 0 (by decide) (by decide +kernel) rfl (by rfl) dX0_start_30 rfl ?_
      refine g_iload_n (pc' := 34) (q := 0) C dX0_start_33 rfl rfl rfl ?_
      refine g_iald (pc' := 35) (n := 12) (f := u 1) C 2 0 (by rfl) rfl (vp_of (by omega) (by omega)) (k := (u 7 n).toNatClampNeg) rfl dX0_start_34 rfl ?_
      refine g_calliV (pc' := 38) (As := [.int (u 1 (u 7 n).toNatClampNeg)]) (st := []) (cells' := 0) (slots' := 0) C (c_X0_isBusy _ (u 1 (u 7 n).toNatClampNeg) (by omega) (by omega)) gX0_start_X0_isBusy rfl (by decide +kernel) ⟨Nat.le_of_ble_eq_true rfl, Nat.le_of_ble_eq_true rfl⟩ 0 (by rfl) rfl (n := 1) rfl rfl (Nat.le_of_ble_eq_true rfl) dX0_start_35 rfl rfl rfl ⟨Nat.le_of_ble_eq_true rfl, Nat.le_of_ble_eq_true rfl⟩ (fun r_9 u_9 h_10 => ?_)
      obtain ⟨rfl, h_10⟩ := h_10
      refine g_st h_10 ?_
      refine g_ifP_eq (tgt := 51) (pc' := 41) C dX0_start_38 rfl (by decide) (fun (c_11 : ¬ (buX u (u 1 (u 7 n).toNatClampNeg))) => ?_) (fun (c_11 : buX u (u 1 (u 7 n).toNatClampNeg)) => ?_)
      · skip
        refine g_aload_n (pc' := 52) (q := 1) C dX0_start_51 rfl rfl rfl ?_
        refine g_get (pc' := 55) (v := .ref (a 6)) C FX 0 (by rfl) rfl 5 (by decide) (by decide +kernel) rfl (by rfl) dX0_start_52 rfl ?_
        refine g_iload_n (pc' := 56) (q := 2) C dX0_start_55 rfl rfl rfl ?_
        refine g_iconst (pc' := 57) (v := 1) C dX0_start_56 rfl (by decide) ?_
        refine g_iast (pc' := 58) (n := 24) (f := u 6) C 6 0 (by rfl) rfl (vp_in_nI (by omega) (by omega)) (k := n) (nI_clamp (by omega)) dX0_start_57 rfl (wX_set cI cZ cQ a _ (k := 4) rfl) ?_
        refine g_aload_n (pc' := 59) (q := 1) C dX0_start_58 rfl rfl rfl ?_
        refine g_get (pc' := 62) (v := .ref (a 8)) C FX 0 (by rfl) rfl 7 (by decide) (by decide +kernel) rfl (by rfl) dX0_start_59 rfl ?_
        refine g_iload_n (pc' := 63) (q := 2) C dX0_start_62 rfl rfl rfl ?_
        refine g_aload_n (pc' := 64) (q := 1) C dX0_start_63 rfl rfl rfl ?_
        refine g_get (pc' := 67) (v := .int (u 0 17)) C FX 0 (by rfl) rfl 17 (by decide) (by decide +kernel) rfl (by rfl) dX0_start_64 rfl ?_
        refine g_aload_n (pc' := 68) (q := 1) C dX0_start_67 rfl rfl rfl ?_
        refine g_get (pc' := 71) (v := .ref (a 2)) C FX 0 (by rfl) rfl 1 (by decide) (by decide +kernel) rfl (by rfl) dX0_start_68 rfl ?_
        refine g_iload_n (pc' := 72) (q := 0) C dX0_start_71 rfl rfl rfl ?_
        refine g_iald (pc' := 73) (n := 12) (f := u 2) C 3 0 (by rfl) rfl (vp_of (by omega) (by omega)) (k := (u 7 n).toNatClampNeg) rfl dX0_start_72 rfl ?_
        refine g_iadd (pc' := 74) C dX0_start_73 rfl ?_
        refine g_iast (pc' := 75) (n := 24) (f := u 8) C 8 0 (by rfl) rfl (vp_in_nI (by omega) (by omega)) (k := n) (nI_clamp (by omega)) dX0_start_74 rfl (wX_set cI cZ cQ a _ (k := 6) rfl) ?_
        refine g_aload_n (pc' := 76) (q := 1) C dX0_start_75 rfl rfl rfl ?_
        refine g_get (pc' := 79) (v := .ref (a 8)) C FX 0 (by rfl) rfl 7 (by decide) (by decide +kernel) rfl (by rfl) dX0_start_76 rfl ?_
        refine g_iload_n (pc' := 80) (q := 2) C dX0_start_79 rfl rfl rfl ?_
        refine g_iald (pc' := 81) (n := 24) (f := (upd (u 8) n ((u 0 17) + (u 2 (u 7 n).toNatClampNeg)))) C 8 0 (by rfl) rfl (vp_in_nI (by omega) (by omega)) (k := n) (nI_clamp (by omega)) dX0_start_80 rfl ?_
        refine g_conv (show (upd (u 8) n ((u 0 17) + (u 2 (u 7 n).toNatClampNeg))) n = (u 0 17) + (u 2 (u 7 n).toNatClampNeg) from pk_us) ?_
        exact g_iret C hr rfl ⟨n, rfl, by omega, ⟨by assumption, by assumption, by assumption⟩, rfl, rfl⟩ dX0_start_81
      · skip
        exact False.elim (by have q9 := hy n (by omega) rfl; simp_all)
set_option maxHeartbeats 4000000 in
set_option maxRecDepth 100000 in
theorem c_X0_hold {l : Launch} {D : va_G} {cI cZ cQ : ClassId} {a : Nat → Nat} (u : LU) (x : Int32) (P9 : Prop) (hI : IX u) (hx : (0 ≤ x.toInt ∧ x.toInt < (u 0 12).toInt)) (hy : ∀ n : Nat, n < 24 → x = nI n → (¬ (u 6 n).toInt = 2 ∧ ¬ (u 6 n).toInt = 3)) : KI l yX0_hold wsX0_hold ({ frames := 2, cells := 0, slots := 0, locals := 42 } : Room) D (tyX cI cZ cQ) (wX cI cZ cQ a) [.ref (a 0), .int x, .int (bP P9)] u (fun (r : Int32) (u' : LU) => ∃ n : Nat, x = nI n ∧ (n : Int) < (u 0 12).toInt ∧ (¬ (u 6 n).toInt = 2 ∧ ¬ (u 6 n).toInt = 3) ∧ r = u 9 n ∧ u' = up u 9 (upd (u 9) n (bP P9))) := by
  refine ent_I (own := RX0) (maxL := 4) (cc := cX0_hold) (L0 := [(0, .ref (a 0)), (1, .int x), (2, .int (bP (P9)))]) (by decide) rfl (wX_ok _ _ _ _) rfl (Nat.le_of_ble_eq_true rfl) rfl ?_
  intro p e s m args below meth c A C hr
  have FX : ∀ w ∈ wsX00, w.before args s = true := fun w h => C.2.2.2.2.1 w ((by decide +kernel : ∀ w ∈ wsX00, w ∈ wsX0_hold) w h)
  obtain ⟨hS4, hL12, hW16, hZ9, hP16⟩ := id hI
  refine g_aload_n (pc' := 1) (q := 0) C dX0_hold_0 rfl rfl rfl ?_
  refine g_iload_n (pc' := 2) (q := 1) C dX0_hold_1 rfl rfl rfl ?_
  refine g_callvV (pc' := 5) (As := [.int x]) (st := []) (cells' := 0) (slots' := 0) C (c_X0_checkLot _ x (by omega)) gX0_hold_X0_checkLot rfl (by decide +kernel) ⟨Nat.le_of_ble_eq_true rfl, Nat.le_of_ble_eq_true rfl⟩ 0 (by rfl) rfl (n := 1) rfl rfl (Nat.le_of_ble_eq_true rfl) dX0_hold_2 rfl rfl rfl ⟨Nat.le_of_ble_eq_true rfl, Nat.le_of_ble_eq_true rfl⟩ (fun  u_1 h_2 => ?_)
  obtain ⟨qh_2, h_2⟩ := h_2
  refine g_st h_2 ?_
  obtain ⟨n, hn, rfl⟩ := nI_of_ti (n := 24) qh_2.1 (by omega) (by decide)
  have tn : (nI n).toInt = (n : Int) := nI_toInt (by omega)
  rw [tn] at qh_2
  refine g_aload_n (pc' := 6) (q := 0) C dX0_hold_5 rfl rfl rfl ?_
  refine g_get (pc' := 9) (v := .ref (a 6)) C FX 0 (by rfl) rfl 5 (by decide) (by decide +kernel) rfl (by rfl) dX0_hold_6 rfl ?_
  refine g_iload_n (pc' := 10) (q := 1) C dX0_hold_9 rfl rfl rfl ?_
  refine g_iald (pc' := 11) (n := 24) (f := u 6) C 6 0 (by rfl) rfl (vp_in_nI (by omega) (by omega)) (k := n) (nI_clamp (by omega)) dX0_hold_10 rfl ?_
  refine g_iconst (pc' := 12) (v := 2) C dX0_hold_11 rfl (by decide) ?_
  refine g_icmp_eq (tgt := 25) (pc' := 15) C dX0_hold_12 rfl (by decide) (fun (c_3 : (u 6 n).toInt = 2) => ?_) (fun (c_3 : ¬ ((u 6 n).toInt = 2)) => ?_)
  · skip
    exact False.elim (by have q9 := hy n (by omega) rfl; omega)
  · skip
    refine g_aload_n (pc' := 16) (q := 0) C dX0_hold_15 rfl rfl rfl ?_
    refine g_get (pc' := 19) (v := .ref (a 6)) C FX 0 (by rfl) rfl 5 (by decide) (by decide +kernel) rfl (by rfl) dX0_hold_16 rfl ?_
    refine g_iload_n (pc' := 20) (q := 1) C dX0_hold_19 rfl rfl rfl ?_
    refine g_iald (pc' := 21) (n := 24) (f := u 6) C 6 0 (by rfl) rfl (vp_in_nI (by omega) (by omega)) (k := n) (nI_clamp (by omega)) dX0_hold_20 rfl ?_
    refine g_iconst (pc' := 22) (v := 3) C dX0_hold_21 rfl (by decide) ?_
    refine g_icmp_ne (tgt := 35) (pc' := 25) C dX0_hold_22 rfl (by decide) (fun (c_4 : ¬ (u 6 n).toInt = 3) => ?_) (fun (c_4 : (u 6 n).toInt = 3) => ?_)
    · skip
      refine g_aload_n (pc' := 36) (q := 0) C dX0_hold_35 rfl rfl rfl ?_
      refine g_get (pc' := 39) (v := .ref (a 9)) C FX 0 (by rfl) rfl 8 (by decide) (by decide +kernel) rfl (by rfl) dX0_hold_36 rfl ?_
      refine g_iload_n (pc' := 40) (q := 1) C dX0_hold_39 rfl rfl rfl ?_
      refine g_zald (pc' := 41) (n := 24) (f := u 9) C 9 1 (by rfl) rfl (vp_in_nI (by omega) (by omega)) (k := n) (nI_clamp (by omega)) dX0_hold_40 rfl ?_
      refine g_istore_n (pc' := 42) (L' := [(3, .int (u 9 n)), (0, .ref (a 0)), (1, .int (nI n)), (2, .int (bP (P9)))]) C dX0_hold_41 rfl rfl (by decide) rfl ?_
      refine g_aload_n (pc' := 43) (q := 1) C dX0_hold_42 rfl rfl rfl ?_
      refine g_get (pc' := 46) (v := .ref (a 9)) C FX 0 (by rfl) rfl 8 (by decide) (by decide +kernel) rfl (by rfl) dX0_hold_43 rfl ?_
      refine g_iload_n (pc' := 47) (q := 2) C dX0_hold_46 rfl rfl rfl ?_
      refine g_iload_n (pc' := 48) (q := 3) C dX0_hold_47 rfl rfl rfl ?_
      refine g_zast (pc' := 49) (n := 24) (f := u 9) C 9 1 (by rfl) rfl (bP_vp _) (vp_in_nI (by omega) (by omega)) (k := n) (nI_clamp (by omega)) dX0_hold_48 rfl (wX_set cI cZ cQ a _ (k := 7) rfl) ?_
      refine g_iload_n (pc' := 50) (q := 0) C dX0_hold_49 rfl rfl rfl ?_
      exact g_iret C hr ((hZ9 n (by omega)).2) ⟨n, rfl, by omega, by omega, rfl, rfl⟩ dX0_hold_50
    · skip
      exact False.elim (by have q9 := hy n (by omega) rfl; omega)
