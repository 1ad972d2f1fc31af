set_option maxHeartbeats 4000000 in
set_option maxRecDepth 100000 in
theorem c_X1_addStep {l : Launch} {D : va_G} {cI cZ cQ : ClassId} {a : Nat → Nat} (u : LU) (x y z b : Int32) (hI : IM u) : KI l yX1_addStep wsX1_addStep ({ frames := 2, cells := 0, slots := 0, locals := 42 } : Room) D (tyX cI cZ cQ) (wM cI cZ a) [.ref (a 0), .int x, .int y, .int z, .int b] u (fun (r : Int32) (u' : LU) => (¬ (0 ≤ x.toInt ∧ x.toInt ≤ 5) ∧ u' = thM u 1) ∨ ((0 ≤ x.toInt ∧ x.toInt ≤ 5) ∧ ¬ ((1 ≤ y.toInt ∧ y.toInt ≤ 1000) ∧ (0 ≤ z.toInt ∧ z.toInt ≤ 10000) ∧ (0 ≤ b.toInt ∧ b.toInt ≤ (u 0 2).toInt)) ∧ u' = thM u 2) ∨ ((0 ≤ x.toInt ∧ x.toInt ≤ 5) ∧ ((1 ≤ y.toInt ∧ y.toInt ≤ 1000) ∧ (0 ≤ z.toInt ∧ z.toInt ≤ 10000) ∧ (0 ≤ b.toInt ∧ b.toInt ≤ (u 0 2).toInt)) ∧ ¬ (¬ (u 0 2).toInt = 12 ∧ (u 0 7).toInt ≤ 0) ∧ u' = thM u 3) ∨ ((0 ≤ x.toInt ∧ x.toInt ≤ 5) ∧ ((1 ≤ y.toInt ∧ y.toInt ≤ 1000) ∧ (0 ≤ z.toInt ∧ z.toInt ≤ 10000) ∧ (0 ≤ b.toInt ∧ b.toInt ≤ (u 0 2).toInt)) ∧ (¬ (u 0 2).toInt = 12 ∧ (u 0 7).toInt ≤ 0) ∧ r = u 0 2 + 1 - 1 ∧ u' = asM u x y z b)) := by
  refine ent_I (own := RX1) (maxL := 6) (cc := cX1_addStep) (L0 := [(0, .ref (a 0)), (1, .int x), (2, .int y), (3, .int z), (4, .int b)]) (by decide) rfl (wM_ok _ _ _) rfl (Nat.le_of_ble_eq_true rfl) rfl ?_
  intro p e s m args below meth c A C hr
  have FM : ∀ w ∈ wsX10, w.before args s = true := fun w h => C.2.2.2.2.1 w ((by decide +kernel : ∀ w ∈ wsX10, w ∈ wsX1_addStep) w h)
  obtain ⟨hS2, hL7, hW15, hT10, hZ13, hP18, hO17, hR15⟩ := id hI
  refine g_iload_n (pc' := 1) (q := 2) C dX1_addStep_0 rfl rfl rfl ?_
  refine g_iconst (pc' := 2) (v := 1) C dX1_addStep_1 rfl (by decide) ?_
  refine g_sipush (pc' := 5) (v := 1000) C dX1_addStep_2 rfl (by decide) ?_
  refine g_calliS (pc' := 8) (As := [.int y, .int 1, .int 1000]) (st := []) (cells' := 0) (slots' := 0) C (c_X1_in _ y 1 1000) gX1_addStep_X1_in rfl (by decide +kernel) ⟨Nat.le_of_ble_eq_true rfl, Nat.le_of_ble_eq_true rfl⟩ (n := 3) rfl rfl (Nat.le_of_ble_eq_true rfl) dX1_addStep_5 rfl rfl rfl ⟨Nat.le_of_ble_eq_true rfl, Nat.le_of_ble_eq_true rfl⟩ (fun r_1 u_1 h_2 => ?_)
  obtain ⟨rfl, h_2⟩ := h_2
  refine g_st h_2 ?_
  refine g_ifP_eq (tgt := 39) (pc' := 11) C dX1_addStep_8 rfl (by decide) (fun (c_3 : ¬ (1 ≤ y.toInt ∧ y.toInt ≤ 1000)) => ?_) (fun (c_3 : 1 ≤ y.toInt ∧ y.toInt ≤ 1000) => ?_)
  · skip
    refine g_iconst (pc' := 40) (v := 0) C dX1_addStep_39 rfl (by decide) ?_
    refine g_istore (pc' := 42) (L' := [(5, .int 0), (0, .ref (a 0)), (1, .int x), (2, .int y), (3, .int z), (4, .int b)]) C dX1_addStep_40 rfl (by decide) rfl ?_
    refine g_aload_n (pc' := 43) (q := 1) C dX1_addStep_42 rfl rfl rfl ?_
    refine g_iload_n (pc' := 44) (q := 2) C dX1_addStep_43 rfl rfl rfl ?_
    refine g_calliS (pc' := 47) (As := [.int x]) (st := [.ref (a 0)]) (cells' := 0) (slots' := 0) C (c_X1_isTool _ x) gX1_addStep_X1_isTool rfl (by decide +kernel) ⟨Nat.le_of_ble_eq_true rfl, Nat.le_of_ble_eq_true rfl⟩ (n := 1) rfl rfl (Nat.le_of_ble_eq_true rfl) dX1_addStep_44 rfl rfl rfl ⟨Nat.le_of_ble_eq_true rfl, Nat.le_of_ble_eq_true rfl⟩ (fun r_4 u_4 h_5 => ?_)
    obtain ⟨rfl, h_5⟩ := h_5
    refine g_st h_5 ?_
    refine g_ifP_ne (tgt := 54) (pc' := 50) C dX1_addStep_47 rfl (by decide) (fun (c_6 : 0 ≤ x.toInt ∧ x.toInt ≤ 5) => ?_) (fun (c_6 : ¬ (0 ≤ x.toInt ∧ x.toInt ≤ 5)) => ?_)
    · skip
      refine g_iload (pc' := 56) (q := 0) C dX1_addStep_54 rfl rfl ?_
      refine g_if_ne (tgt := 63) (pc' := 59) C dX1_addStep_56 rfl (by decide) (fun h => absurd h (by decide)) (fun _ => ?_)
      refine g_iconst (pc' := 60) (v := 2) C dX1_addStep_59 rfl (by decide) ?_
      refine g_goto (tgt := 84) C dX1_addStep_60 (by decide) ?_
      refine g_putI (pc' := 87) C FM tyX1 tyX1_ok nmX1 0 (by rfl) rfl 0 (by decide) (by decide +kernel) rfl rfl rfl (Nat.le_of_ble_eq_true rfl) dX1_addStep_84 rfl (wM_put cI cZ a _ (f := (upd (u 0) 0 (2))) rfl) ?_
      refine g_aload_n (pc' := 88) (q := 1) C dX1_addStep_87 rfl rfl rfl ?_
      refine g_get (pc' := 91) (v := .int 2) C FM 0 (by rfl) rfl 0 (by decide) (by decide +kernel) rfl (by rfl) dX1_addStep_88 rfl ?_
      refine g_if_le (tgt := 96) (pc' := 94) C dX1_addStep_91 rfl (by decide) (fun h => absurd h (by decide)) (fun _ => ?_)
      refine g_iconst (pc' := 95) (v := 0) C dX1_addStep_94 rfl (by decide) ?_
      exact g_iret C hr rfl (Or.inr (Or.inl ⟨by omega, by omega, rfl⟩)) dX1_addStep_95
    · skip
      refine g_iconst (pc' := 51) (v := 1) C dX1_addStep_50 rfl (by decide) ?_
      refine g_goto (tgt := 84) C dX1_addStep_51 (by decide) ?_
      refine g_putI (pc' := 87) C FM tyX1 tyX1_ok nmX1 0 (by rfl) rfl 0 (by decide) (by decide +kernel) rfl rfl rfl (Nat.le_of_ble_eq_true rfl) dX1_addStep_84 rfl (wM_put cI cZ a _ (f := (upd (u 0) 0 (1))) rfl) ?_
      refine g_aload_n (pc' := 88) (q := 1) C dX1_addStep_87 rfl rfl rfl ?_
      refine g_get (pc' := 91) (v := .int 1) C FM 0 (by rfl) rfl 0 (by decide) (by decide +kernel) rfl (by rfl) dX1_addStep_88 rfl ?_
      refine g_if_le (tgt := 96) (pc' := 94) C dX1_addStep_91 rfl (by decide) (fun h => absurd h (by decide)) (fun _ => ?_)
      refine g_iconst (pc' := 95) (v := 0) C dX1_addStep_94 rfl (by decide) ?_
      exact g_iret C hr rfl (Or.inl ⟨by omega, rfl⟩) dX1_addStep_95
  · skip
    refine g_iload_n (pc' := 12) (q := 3) C dX1_addStep_11 rfl rfl rfl ?_
    refine g_iconst (pc' := 13) (v := 0) C dX1_addStep_12 rfl (by decide) ?_
    refine g_sipush (pc' := 16) (v := 10000) C dX1_addStep_13 rfl (by decide) ?_
    refine g_calliS (pc' := 19) (As := [.int z, .int 0, .int 10000]) (st := []) (cells' := 0) (slots' := 0) C (c_X1_in _ z 0 10000) gX1_addStep_X1_in rfl (by decide +kernel) ⟨Nat.le_of_ble_eq_true rfl, Nat.le_of_ble_eq_true rfl⟩ (n := 3) rfl rfl (Nat.le_of_ble_eq_true rfl) dX1_addStep_16 rfl rfl rfl ⟨Nat.le_of_ble_eq_true rfl, Nat.le_of_ble_eq_true rfl⟩ (fun r_7 u_7 h_8 => ?_)
    obtain ⟨rfl, h_8⟩ := h_8
    refine g_st h_8 ?_
    refine g_ifP_eq (tgt := 39) (pc' := 22) C dX1_addStep_19 rfl (by decide) (fun (c_9 : ¬ (0 ≤ z.toInt ∧ z.toInt ≤ 10000)) => ?_) (fun (c_9 : 0 ≤ z.toInt ∧ z.toInt ≤ 10000) => ?_)
    · skip
      refine g_iconst (pc' := 40) (v := 0) C dX1_addStep_39 rfl (by decide) ?_
      refine g_istore (pc' := 42) (L' := [(5, .int 0), (0, .ref (a 0)), (1, .int x), (2, .int y), (3, .int z), (4, .int b)]) C dX1_addStep_40 rfl (by decide) rfl ?_
      refine g_aload_n (pc' := 43) (q := 1) C dX1_addStep_42 rfl rfl rfl ?_
      refine g_iload_n (pc' := 44) (q := 2) C dX1_addStep_43 rfl rfl rfl ?_
      refine g_calliS (pc' := 47) (As := [.int x]) (st := [.ref (a 0)]) (cells' := 0) (slots' := 0) C (c_X1_isTool _ x) gX1_addStep_X1_isTool rfl (by decide +kernel) ⟨Nat.le_of_ble_eq_true rfl, Nat.le_of_ble_eq_true rfl⟩ (n := 1) rfl rfl (Nat.le_of_ble_eq_true rfl) dX1_addStep_44 rfl rfl rfl ⟨Nat.le_of_ble_eq_true rfl, Nat.le_of_ble_eq_true rfl⟩ (fun r_10 u_10 h_11 => ?_)
      obtain ⟨rfl, h_11⟩ := h_11
      refine g_st h_11 ?_
      refine g_ifP_ne (tgt := 54) (pc' := 50) C dX1_addStep_47 rfl (by decide) (fun (c_12 : 0 ≤ x.toInt ∧ x.toInt ≤ 5) => ?_) (fun (c_12 : ¬ (0 ≤ x.toInt ∧ x.toInt ≤ 5)) => ?_)
      · skip
        refine g_iload (pc' := 56) (q := 0) C dX1_addStep_54 rfl rfl ?_
        refine g_if_ne (tgt := 63) (pc' := 59) C dX1_addStep_56 rfl (by decide) (fun h => absurd h (by decide)) (fun _ => ?_)
        refine g_iconst (pc' := 60) (v := 2) C dX1_addStep_59 rfl (by decide) ?_
        refine g_goto (tgt := 84) C dX1_addStep_60 (by decide) ?_
        refine g_putI (pc' := 87) C FM tyX1 tyX1_ok nmX1 0 (by rfl) rfl 0 (by decide) (by decide +kernel) rfl rfl rfl (Nat.le_of_ble_eq_true rfl) dX1_addStep_84 rfl (wM_put cI cZ a _ (f := (upd (u 0) 0 (2))) rfl) ?_
        refine g_aload_n (pc' := 88) (q := 1) C dX1_addStep_87 rfl rfl rfl ?_
        refine g_get (pc' := 91) (v := .int 2) C FM 0 (by rfl) rfl 0 (by decide) (by decide +kernel) rfl (by rfl) dX1_addStep_88 rfl ?_
        refine g_if_le (tgt := 96) (pc' := 94) C dX1_addStep_91 rfl (by decide) (fun h => absurd h (by decide)) (fun _ => ?_)
        refine g_iconst (pc' := 95) (v := 0) C dX1_addStep_94 rfl (by decide) ?_
        exact g_iret C hr rfl (Or.inr (Or.inl ⟨by omega, by omega, rfl⟩)) dX1_addStep_95
      · skip
        refine g_iconst (pc' := 51) (v := 1) C dX1_addStep_50 rfl (by decide) ?_
        refine g_goto (tgt := 84) C dX1_addStep_51 (by decide) ?_
        refine g_putI (pc' := 87) C FM tyX1 tyX1_ok nmX1 0 (by rfl) rfl 0 (by decide) (by decide +kernel) rfl rfl rfl (Nat.le_of_ble_eq_true rfl) dX1_addStep_84 rfl (wM_put cI cZ a _ (f := (upd (u 0) 0 (1))) rfl) ?_
        refine g_aload_n (pc' := 88) (q := 1) C dX1_addStep_87 rfl rfl rfl ?_
        refine g_get (pc' := 91) (v := .int 1) C FM 0 (by rfl) rfl 0 (by decide) (by decide +kernel) rfl (by rfl) dX1_addStep_88 rfl ?_
        refine g_if_le (tgt := 96) (pc' := 94) C dX1_addStep_91 rfl (by decide) (fun h => absurd h (by decide)) (fun _ => ?_)
        refine g_iconst (pc' := 95) (v := 0) C dX1_addStep_94 rfl (by decide) ?_
        exact g_iret C hr rfl (Or.inl ⟨by omega, rfl⟩) dX1_addStep_95
    · skip
      refine g_iload (pc' := 24) (q := 4) C dX1_addStep_22 rfl rfl ?_
      refine g_iconst (pc' := 25) (v := 0) C dX1_addStep_24 rfl (by decide) ?_
      refine g_aload_n (pc' := 26) (q := 0) C dX1_addStep_25 rfl rfl rfl ?_
      refine g_get (pc' := 29) (v := .int (u 0 2)) C FM 0 (by rfl) rfl 2 (by decide) (by decide +kernel) rfl (by rfl) dX1_addStep_26 rfl ?_
      refine g_calliS (pc' := 32) (As := [.int b, .int 0, .int (u 0 2)]) (st := []) (cells' := 0) (slots' := 0) C (c_X1_in _ b 0 (u 0 2)) gX1_addStep_X1_in rfl (by decide +kernel) ⟨Nat.le_of_ble_eq_true rfl, Nat.le_of_ble_eq_true rfl⟩ (n := 3) rfl rfl (Nat.le_of_ble_eq_true rfl) dX1_addStep_29 rfl rfl rfl ⟨Nat.le_of_ble_eq_true rfl, Nat.le_of_ble_eq_true rfl⟩ (fun r_13 u_13 h_14 => ?_)
      obtain ⟨rfl, h_14⟩ := h_14
      refine g_st h_14 ?_
      refine g_ifP_eq (tgt := 39) (pc' := 35) C dX1_addStep_32 rfl (by decide) (fun (c_15 : ¬ (0 ≤ b.toInt ∧ b.toInt ≤ (u 0 2).toInt)) => ?_) (fun (c_15 : 0 ≤ b.toInt ∧ b.toInt ≤ (u 0 2).toInt) => ?_)
      · skip
        refine g_iconst (pc' := 40) (v := 0) C dX1_addStep_39 rfl (by decide) ?_
        refine g_istore (pc' := 42) (L' := [(5, .int 0), (0, .ref (a 0)), (1, .int x), (2, .int y), (3, .int z), (4, .int b)]) C dX1_addStep_40 rfl (by decide) rfl ?_
        refine g_aload_n (pc' := 43) (q := 1) C dX1_addStep_42 rfl rfl rfl ?_
        refine g_iload_n (pc' := 44) (q := 2) C dX1_addStep_43 rfl rfl rfl ?_
        refine g_calliS (pc' := 47) (As := [.int x]) (st := [.ref (a 0)]) (cells' := 0) (slots' := 0) C (c_X1_isTool _ x) gX1_addStep_X1_isTool rfl (by decide +kernel) ⟨Nat.le_of_ble_eq_true rfl, Nat.le_of_ble_eq_true rfl⟩ (n := 1) rfl rfl (Nat.le_of_ble_eq_true rfl) dX1_addStep_44 rfl rfl rfl ⟨Nat.le_of_ble_eq_true rfl, Nat.le_of_ble_eq_true rfl⟩ (fun r_16 u_16 h_17 => ?_)
        obtain ⟨rfl, h_17⟩ := h_17
        refine g_st h_17 ?_
        refine g_ifP_ne (tgt := 54) (pc' := 50) C dX1_addStep_47 rfl (by decide) (fun (c_18 : 0 ≤ x.toInt ∧ x.toInt ≤ 5) => ?_) (fun (c_18 : ¬ (0 ≤ x.toInt ∧ x.toInt ≤ 5)) => ?_)
        · skip
          refine g_iload (pc' := 56) (q := 0) C dX1_addStep_54 rfl rfl ?_
          refine g_if_ne (tgt := 63) (pc' := 59) C dX1_addStep_56 rfl (by decide) (fun h => absurd h (by decide)) (fun _ => ?_)
          refine g_iconst (pc' := 60) (v := 2) C dX1_addStep_59 rfl (by decide) ?_
          refine g_goto (tgt := 84) C dX1_addStep_60 (by decide) ?_
          refine g_putI (pc' := 87) C FM tyX1 tyX1_ok nmX1 0 (by rfl) rfl 0 (by decide) (by decide +kernel) rfl rfl rfl (Nat.le_of_ble_eq_true rfl) dX1_addStep_84 rfl (wM_put cI cZ a _ (f := (upd (u 0) 0 (2))) rfl) ?_
          refine g_aload_n (pc' := 88) (q := 1) C dX1_addStep_87 rfl rfl rfl ?_
          refine g_get (pc' := 91) (v := .int 2) C FM 0 (by rfl) rfl 0 (by decide) (by decide +kernel) rfl (by rfl) dX1_addStep_88 rfl ?_
          refine g_if_le (tgt := 96) (pc' := 94) C dX1_addStep_91 rfl (by decide) (fun h => absurd h (by decide)) (fun _ => ?_)
          refine g_iconst (pc' := 95) (v := 0) C dX1_addStep_94 rfl (by decide) ?_
          exact g_iret C hr rfl (Or.inr (Or.inl ⟨by omega, by omega, rfl⟩)) dX1_addStep_95
        · skip
          refine g_iconst (pc' := 51) (v := 1) C dX1_addStep_50 rfl (by decide) ?_
          refine g_goto (tgt := 84) C dX1_addStep_51 (by decide) ?_
          refine g_putI (pc' := 87) C FM tyX1 tyX1_ok nmX1 0 (by rfl) rfl 0 (by decide) (by decide +kernel) rfl rfl rfl (Nat.le_of_ble_eq_true rfl) dX1_addStep_84 rfl (wM_put cI cZ a _ (f := (upd (u 0) 0 (1))) rfl) ?_
          refine g_aload_n (pc' := 88) (q := 1) C dX1_addStep_87 rfl rfl rfl ?_
          refine g_get (pc' := 91) (v := .int 1) C FM 0 (by rfl) rfl 0 (by decide) (by decide +kernel) rfl (by rfl) dX1_addStep_88 rfl ?_
          refine g_if_le (tgt := 96) (pc' := 94) C dX1_addStep_91 rfl (by decide) (fun h => absurd h (by decide)) (fun _ => ?_)
          refine g_iconst (pc' := 95) (v := 0) C dX1_addStep_94 rfl (by decide) ?_
          exact g_iret C hr rfl (Or.inl ⟨by omega, rfl⟩) dX1_addStep_95
      · skip
        refine g_iconst (pc' := 36) (v := 1) C dX1_addStep_35 rfl (by decide) ?_
        refine g_goto (tgt := 40) C dX1_addStep_36 (by decide) ?_
        refine g_istore (pc' := 42) (L' := [(5, .int 1), (0, .ref (a 0)), (1, .int x), (2, .int y), (3, .int z), (4, .int b)]) C dX1_addStep_40 rfl (by decide) rfl ?_
        refine g_aload_n (pc' := 43) (q := 1) C dX1_addStep_42 rfl rfl rfl ?_
        refine g_iload_n (pc' := 44) (q := 2) C dX1_addStep_43 rfl rfl rfl ?_
        refine g_calliS (pc' := 47) (As := [.int x]) (st := [.ref (a 0)]) (cells' := 0) (slots' := 0) C (c_X1_isTool _ x) gX1_addStep_X1_isTool rfl (by decide +kernel) ⟨Nat.le_of_ble_eq_true rfl, Nat.le_of_ble_eq_true rfl⟩ (n := 1) rfl rfl (Nat.le_of_ble_eq_true rfl) dX1_addStep_44 rfl rfl rfl ⟨Nat.le_of_ble_eq_true rfl, Nat.le_of_ble_eq_true rfl⟩ (fun r_19 u_19 h_20 => ?_)
        obtain ⟨rfl, h_20⟩ := h_20
        refine g_st h_20 ?_
        refine g_ifP_ne (tgt := 54) (pc' := 50) C dX1_addStep_47 rfl (by decide) (fun (c_21 : 0 ≤ x.toInt ∧ x.toInt ≤ 5) => ?_) (fun (c_21 : ¬ (0 ≤ x.toInt ∧ x.toInt ≤ 5)) => ?_)
        · skip
          refine g_iload (pc' := 56) (q := 0) C dX1_addStep_54 rfl rfl ?_
          refine g_if_ne (tgt := 63) (pc' := 59) C dX1_addStep_56 rfl (by decide) (fun _ => ?_) (fun h => absurd h (by decide))
          refine g_aload_n (pc' := 64) (q := 1) C dX1_addStep_63 rfl rfl rfl ?_
          refine g_get (pc' := 67) (v := .int (u 0 2)) C FM 0 (by rfl) rfl 2 (by decide) (by decide +kernel) rfl (by rfl) dX1_addStep_64 rfl ?_
          refine g_bipush (pc' := 69) (v := 12) C dX1_addStep_67 rfl (by decide) ?_
          refine g_icmp_eq (tgt := 79) (pc' := 72) C dX1_addStep_69 rfl (by decide) (fun (c_22 : (u 0 2).toInt = 12) => ?_) (fun (c_22 : ¬ ((u 0 2).toInt = 12)) => ?_)
          · skip
            refine g_iconst (pc' := 80) (v := 3) C dX1_addStep_79 rfl (by decide) ?_
            refine g_goto (tgt := 84) C dX1_addStep_80 (by decide) ?_
            refine g_putI (pc' := 87) C FM tyX1 tyX1_ok nmX1 0 (by rfl) rfl 0 (by decide) (by decide +kernel) rfl rfl rfl (Nat.le_of_ble_eq_true rfl) dX1_addStep_84 rfl (wM_put cI cZ a _ (f := (upd (u 0) 0 (3))) rfl) ?_
            refine g_aload_n (pc' := 88) (q := 1) C dX1_addStep_87 rfl rfl rfl ?_
            refine g_get (pc' := 91) (v := .int 3) C FM 0 (by rfl) rfl 0 (by decide) (by decide +kernel) rfl (by rfl) dX1_addStep_88 rfl ?_
            refine g_if_le (tgt := 96) (pc' := 94) C dX1_addStep_91 rfl (by decide) (fun h => absurd h (by decide)) (fun _ => ?_)
            refine g_iconst (pc' := 95) (v := 0) C dX1_addStep_94 rfl (by decide) ?_
            exact g_iret C hr rfl (Or.inr (Or.inr (Or.inl ⟨by omega, by omega, by omega, rfl⟩))) dX1_addStep_95
          · skip
            refine g_aload_n (pc' := 73) (q := 1) C dX1_addStep_72 rfl rfl rfl ?_
            refine g_get (pc' := 76) (v := .int (u 0 7)) C FM 0 (by rfl) rfl 7 (by decide) (by decide +kernel) rfl (by rfl) dX1_addStep_73 rfl ?_
            refine g_if_le (tgt := 83) (pc' := 79) C dX1_addStep_76 rfl (by decide) (fun (c_23 : (u 0 7).toInt ≤ 0) => ?_) (fun (c_23 : ¬ ((u 0 7).toInt ≤ 0)) => ?_)
            · skip
              refine g_iconst (pc' := 84) (v := 0) C dX1_addStep_83 rfl (by decide) ?_
              refine g_putI (pc' := 87) C FM tyX1 tyX1_ok nmX1 0 (by rfl) rfl 0 (by decide) (by decide +kernel) rfl rfl rfl (Nat.le_of_ble_eq_true rfl) dX1_addStep_84 rfl (wM_put cI cZ a _ (f := (upd (u 0) 0 (0))) rfl) ?_
              refine g_aload_n (pc' := 88) (q := 1) C dX1_addStep_87 rfl rfl rfl ?_
              refine g_get (pc' := 91) (v := .int 0) C FM 0 (by rfl) rfl 0 (by decide) (by decide +kernel) rfl (by rfl) dX1_addStep_88 rfl ?_
              refine g_if_le (tgt := 96) (pc' := 94) C dX1_addStep_91 rfl (by decide) (fun _ => ?_) (fun h => absurd h (by decide))
              refine g_aload_n (pc' := 97) (q := 1) C dX1_addStep_96 rfl rfl rfl ?_
              refine g_get (pc' := 100) (v := .ref (a 4)) C FM 0 (by rfl) rfl 3 (by decide) (by decide +kernel) rfl (by rfl) dX1_addStep_97 rfl ?_
              refine g_aload_n (pc' := 101) (q := 1) C dX1_addStep_100 rfl rfl rfl ?_
              refine g_get (pc' := 104) (v := .int (u 0 2)) C FM 0 (by rfl) rfl 2 (by decide) (by decide +kernel) rfl (by rfl) dX1_addStep_101 rfl ?_
              refine g_iload_n (pc' := 105) (q := 2) C dX1_addStep_104 rfl rfl rfl ?_
              refine g_iast (pc' := 106) (n := 12) (f := u 4) C 1 0 (by rfl) rfl (vp_of (by omega) (by omega)) (k := (u 0 2).toNatClampNeg) rfl dX1_addStep_105 rfl (wM_set cI cZ a _ (k := 0) rfl) ?_
              refine g_aload_n (pc' := 107) (q := 1) C dX1_addStep_106 rfl rfl rfl ?_
              refine g_get (pc' := 110) (v := .ref (a 5)) C FM 0 (by rfl) rfl 4 (by decide) (by decide +kernel) rfl (by rfl) dX1_addStep_107 rfl ?_
              refine g_aload_n (pc' := 111) (q := 1) C dX1_addStep_110 rfl rfl rfl ?_
              refine g_get (pc' := 114) (v := .int (u 0 2)) C FM 0 (by rfl) rfl 2 (by decide) (by decide +kernel) rfl (by rfl) dX1_addStep_111 rfl ?_
              refine g_iload_n (pc' := 115) (q := 3) C dX1_addStep_114 rfl rfl rfl ?_
              refine g_iast (pc' := 116) (n := 12) (f := u 5) C 2 0 (by rfl) rfl (vp_of (by omega) (by omega)) (k := (u 0 2).toNatClampNeg) rfl dX1_addStep_115 rfl (wM_set cI cZ a _ (k := 1) rfl) ?_
              refine g_aload_n (pc' := 117) (q := 1) C dX1_addStep_116 rfl rfl rfl ?_
              refine g_get (pc' := 120) (v := .ref (a 6)) C FM 0 (by rfl) rfl 5 (by decide) (by decide +kernel) rfl (by rfl) dX1_addStep_117 rfl ?_
              refine g_aload_n (pc' := 121) (q := 1) C dX1_addStep_120 rfl rfl rfl ?_
              refine g_get (pc' := 124) (v := .int (u 0 2)) C FM 0 (by rfl) rfl 2 (by decide) (by decide +kernel) rfl (by rfl) dX1_addStep_121 rfl ?_
              refine g_iload_n (pc' := 125) (q := 4) C dX1_addStep_124 rfl rfl rfl ?_
              refine g_iast (pc' := 126) (n := 12) (f := u 6) C 3 0 (by rfl) rfl (vp_of (by omega) (by omega)) (k := (u 0 2).toNatClampNeg) rfl dX1_addStep_125 rfl (wM_set cI cZ a _ (k := 2) rfl) ?_
              refine g_aload_n (pc' := 127) (q := 1) C dX1_addStep_126 rfl rfl rfl ?_
              refine g_get (pc' := 130) (v := .ref (a 7)) C FM 0 (by rfl) rfl 6 (by decide) (by decide +kernel) rfl (by rfl) dX1_addStep_127 rfl ?_
              refine g_aload_n (pc' := 131) (q := 1) C dX1_addStep_130 rfl rfl rfl ?_
              refine g_get (pc' := 134) (v := .int (u 0 2)) C FM 0 (by rfl) rfl 2 (by decide) (by decide +kernel) rfl (by rfl) dX1_addStep_131 rfl ?_
              refine g_iload (pc' := 136) (q := 5) C dX1_addStep_134 rfl rfl ?_
              refine g_iast (pc' := 137) (n := 12) (f := u 7) C 4 0 (by rfl) rfl (vp_of (by omega) (by omega)) (k := (u 0 2).toNatClampNeg) rfl dX1_addStep_136 rfl (wM_set cI cZ a _ (k := 3) rfl) ?_
              refine g_aload_n (pc' := 138) (q := 1) C dX1_addStep_137 rfl rfl rfl ?_
              refine g_dup (pc' := 139) C dX1_addStep_138 rfl rfl ?_
              refine g_get (pc' := 142) (v := .int (u 0 2)) C FM 0 (by rfl) rfl 2 (by decide) (by decide +kernel) rfl (by rfl) dX1_addStep_139 rfl ?_
              refine g_iconst (pc' := 143) (v := 1) C dX1_addStep_142 rfl (by decide) ?_
              refine g_iadd (pc' := 144) C dX1_addStep_143 rfl ?_
              refine g_putI (pc' := 147) C FM tyX1 tyX1_ok nmX1 0 (by rfl) rfl 2 (by decide) (by decide +kernel) rfl rfl rfl (Nat.le_of_ble_eq_true rfl) dX1_addStep_144 rfl (wM_put cI cZ a _ (f := (upd (upd (u 0) 0 (0)) 2 ((u 0 2) + 1))) rfl) ?_
              refine g_aload_n (pc' := 148) (q := 1) C dX1_addStep_147 rfl rfl rfl ?_
              refine g_get (pc' := 151) (v := .int ((u 0 2) + 1)) C FM 0 (by rfl) rfl 2 (by decide) (by decide +kernel) rfl (by rfl) dX1_addStep_148 rfl ?_
              refine g_iconst (pc' := 152) (v := 1) C dX1_addStep_151 rfl (by decide) ?_
              refine g_isub (pc' := 153) C dX1_addStep_152 rfl ?_
              exact g_iret C hr rfl (Or.inr (Or.inr (Or.inr ⟨by omega, by omega, by omega, rfl, rfl⟩))) dX1_addStep_153
            · skip
              refine g_iconst (pc' := 80) (v := 3) C dX1_addStep_79 rfl (by decide) ?_
              refine g_goto (tgt := 84) C dX1_addStep_80 (by decide) ?_
              refine g_putI (pc' := 87) C FM tyX1 tyX1_ok nmX1 0 (by rfl) rfl 0 (by decide) (by decide +kernel) rfl rfl rfl (Nat.le_of_ble_eq_true rfl) dX1_addStep_84 rfl (wM_put cI cZ a _ (f := (upd (u 0) 0 (3))) rfl) ?_
              refine g_aload_n (pc' := 88) (q := 1) C dX1_addStep_87 rfl rfl rfl ?_
              refine g_get (pc' := 91) (v := .int 3) C FM 0 (by rfl) rfl 0 (by decide) (by decide +kernel) rfl (by rfl) dX1_addStep_88 rfl ?_
              refine g_if_le (tgt := 96) (pc' := 94) C dX1_addStep_91 rfl (by decide) (fun h => absurd h (by decide)) (fun _ => ?_)
              refine g_iconst (pc' := 95) (v := 0) C dX1_addStep_94 rfl (by decide) ?_
              exact g_iret C hr rfl (Or.inr (Or.inr (Or.inl ⟨by omega, by omega, by omega, rfl⟩))) dX1_addStep_95
        · skip
          refine g_iconst (pc' := 51) (v := 1) C dX1_addStep_50 rfl (by decide) ?_
          refine g_goto (tgt := 84) C dX1_addStep_51 (by decide) ?_
          refine g_putI (pc' := 87) C FM tyX1 tyX1_ok nmX1 0 (by rfl) rfl 0 (by decide) (by decide +kernel) rfl rfl rfl (Nat.le_of_ble_eq_true rfl) dX1_addStep_84 rfl (wM_put cI cZ a _ (f := (upd (u 0) 0 (1))) rfl) ?_
          refine g_aload_n (pc' := 88) (q := 1) C dX1_addStep_87 rfl rfl rfl ?_
          refine g_get (pc' := 91) (v := .int 1) C FM 0 (by rfl) rfl 0 (by decide) (by decide +kernel) rfl (by rfl) dX1_addStep_88 rfl ?_
          refine g_if_le (tgt := 96) (pc' := 94) C dX1_addStep_91 rfl (by decide) (fun h => absurd h (by decide)) (fun _ => ?_)
          refine g_iconst (pc' := 95) (v := 0) C dX1_addStep_94 rfl (by decide) ?_
          exact g_iret C hr rfl (Or.inl ⟨by omega, rfl⟩) dX1_addStep_95
set_option maxHeartbeats 4000000 in
set_option maxRecDepth 100000 in
theorem c_X1_start {l : Launch} {D : va_G} {cI cZ cQ : ClassId} {a : Nat → Nat} (u : LU) (x : Int32) (hI : IM u) : KI l yX1_start wsX1_start ({ frames := 2, cells := 0, slots := 0, locals := 43 } : Room) D (tyX cI cZ cQ) (wM cI cZ a) [.ref (a 0), .int x] u (fun (r : Int32) (u' : LU) => (¬ (0 ≤ x.toInt ∧ x.toInt < (u 0 7).toInt) ∧ u' = thM u 1) ∨ (∃ n : Nat, x = nI n ∧ (n : Int) < (u 0 7).toInt ∧ ((¬ ((u 9 n).toInt = 0 ∧ (u 13 n).toInt = 0 ∧ ¬ tlM u n ∧ ¬ buM u (u 4 (u 10 n).toNatClampNeg)) ∧ u' = thM (thM u 0) 2) ∨ (((u 9 n).toInt = 0 ∧ (u 13 n).toInt = 0 ∧ ¬ tlM u n ∧ ¬ buM u (u 4 (u 10 n).toNatClampNeg)) ∧ r = u 0 1 + u 5 (u 10 n).toNatClampNeg ∧ u' = saM u n)))) := by
  refine ent_I (own := RX1) (maxL := 2) (cc := cX1_start) (L0 := [(0, .ref (a 0)), (1, .int x)]) (by decide) rfl (wM_ok _ _ _) rfl (Nat.le_of_ble_eq_true rfl) rfl ?_
  intro p e s m args below meth c A C hr
  have FM : ∀ w ∈ wsX10, w.before args s = true := fun w h => C.2.2.2.2.1 w ((by decide +kernel : ∀ w ∈ wsX10, w ∈ wsX1_start) w h)
  obtain ⟨hS2, hL7, hW15, hT10, hZ13, hP18, hO17, hR15⟩ := id hI
  refine g_aload_n (pc' := 1) (q := 0) C dX1_start_0 rfl rfl rfl ?_
  refine g_aload_n (pc' := 2) (q := 0) C dX1_start_1 rfl rfl rfl ?_
  refine g_iload_n (pc' := 3) (q := 1) C dX1_start_2 rfl rfl rfl ?_
  refine g_calliV (pc' := 6) (As := [.int x]) (st := [.ref (a 0)]) (cells' := 0) (slots' := 0) C (c_X1_isLot _ x (by show 0 ≤ (u 0 7).toInt; omega)) gX1_start_X1_isLot rfl (by decide +kernel) ⟨Nat.le_of_ble_eq_true rfl, Nat.le_of_ble_eq_true rfl⟩ 0 (by rfl) rfl (n := 1) rfl rfl (Nat.le_of_ble_eq_true rfl) dX1_start_3 rfl rfl rfl ⟨Nat.le_of_ble_eq_true rfl, Nat.le_of_ble_eq_true rfl⟩ (fun r_1 u_1 h_2 => ?_)
  obtain ⟨rfl, h_2⟩ := h_2
  refine g_st h_2 ?_
  refine g_ifP_eq (tgt := 13) (pc' := 9) C dX1_start_6 rfl (by decide) (fun (c_3 : ¬ (0 ≤ x.toInt ∧ x.toInt < (u 0 7).toInt)) => ?_) (fun (c_3 : 0 ≤ x.toInt ∧ x.toInt < (u 0 7).toInt) => ?_)
  · skip
    refine g_iconst (pc' := 14) (v := 1) C dX1_start_13 rfl (by decide) ?_
    refine g_putI (pc' := 17) C FM tyX1 tyX1_ok nmX1 0 (by rfl) rfl 0 (by decide) (by decide +kernel) rfl rfl rfl (Nat.le_of_ble_eq_true rfl) dX1_start_14 rfl (wM_put cI cZ a _ (f := (upd (u 0) 0 (1))) rfl) ?_
    refine g_aload_n (pc' := 18) (q := 0) C dX1_start_17 rfl rfl rfl ?_
    refine g_get (pc' := 21) (v := .int 1) C FM 0 (by rfl) rfl 0 (by decide) (by decide +kernel) rfl (by rfl) dX1_start_18 rfl ?_
    refine g_if_le (tgt := 26) (pc' := 24) C dX1_start_21 rfl (by decide) (fun h => absurd h (by decide)) (fun _ => ?_)
    refine g_iconst (pc' := 25) (v := 0) C dX1_start_24 rfl (by decide) ?_
    exact g_iret C hr rfl (Or.inl ⟨by omega, rfl⟩) dX1_start_25
  · skip
    refine g_iconst (pc' := 10) (v := 0) C dX1_start_9 rfl (by decide) ?_
    refine g_goto (tgt := 14) C dX1_start_10 (by decide) ?_
    refine g_putI (pc' := 17) C FM tyX1 tyX1_ok nmX1 0 (by rfl) rfl 0 (by decide) (by decide +kernel) rfl rfl rfl (Nat.le_of_ble_eq_true rfl) dX1_start_14 rfl (wM_put cI cZ a _ (f := (upd (u 0) 0 (0))) rfl) ?_
    refine g_aload_n (pc' := 18) (q := 0) C dX1_start_17 rfl rfl rfl ?_
    refine g_get (pc' := 21) (v := .int 0) C FM 0 (by rfl) rfl 0 (by decide) (by decide +kernel) rfl (by rfl) dX1_start_18 rfl ?_
    refine g_if_le (tgt := 26) (pc' := 24) C dX1_start_21 rfl (by decide) (fun _ => ?_) (fun h => absurd h (by decide))
    obtain ⟨n, hn, rfl⟩ := nI_of_ti (x := x) (n := 24) (by omega) (by omega) (by decide)
    have tn : (nI n).toInt = (n : Int) := nI_toInt (by omega)
    refine g_aload_n (pc' := 27) (q := 0) C dX1_start_26 rfl rfl rfl ?_
    refine g_aload_n (pc' := 28) (q := 0) C dX1_start_27 rfl rfl rfl ?_
    refine g_get (pc' := 31) (v := .ref (a 9)) C FM 0 (by rfl) rfl 8 (by decide) (by decide +kernel) rfl (by rfl) dX1_start_28 rfl ?_
    refine g_iload_n (pc' := 32) (q := 1) C dX1_start_31 rfl rfl rfl ?_
    refine g_iald (pc' := 33) (n := 24) (f := u 9) C 5 0 (by rfl) rfl (vp_in_nI (by omega) (by omega)) (k := n) (nI_clamp (by omega)) dX1_start_32 rfl ?_
    refine g_if_ne (tgt := 71) (pc' := 36) C dX1_start_33 rfl (by decide) (fun (c_4 : ¬ (u 9 n).toInt = 0) => ?_) (fun (c_4 : (u 9 n).toInt = 0) => ?_)
    · skip
      refine g_iconst (pc' := 72) (v := 2) C dX1_start_71 rfl (by decide) ?_
      refine g_goto (tgt := 76) C dX1_start_72 (by decide) ?_
      refine g_putI (pc' := 79) C FM tyX1 tyX1_ok nmX1 0 (by rfl) rfl 0 (by decide) (by decide +kernel) rfl rfl rfl (Nat.le_of_ble_eq_true rfl) dX1_start_76 rfl (wM_put cI cZ a _ (f := (upd (upd (u 0) 0 (0)) 0 (2))) rfl) ?_
      refine g_aload_n (pc' := 80) (q := 0) C dX1_start_79 rfl rfl rfl ?_
      refine g_get (pc' := 83) (v := .int 2) C FM 0 (by rfl) rfl 0 (by decide) (by decide +kernel) rfl (by rfl) dX1_start_80 rfl ?_
      refine g_if_le (tgt := 88) (pc' := 86) C dX1_start_83 rfl (by decide) (fun h => absurd h (by decide)) (fun _ => ?_)
      refine g_iconst (pc' := 87) (v := 0) C dX1_start_86 rfl (by decide) ?_
      exact g_iret C hr rfl (Or.inr ⟨n, rfl, by omega, Or.inl ⟨(by rintro ⟨q1, q2, q3, q4⟩; first | exact absurd q1 (by assumption) | exact absurd q2 (by assumption) | exact absurd (by assumption) q3 | exact absurd (by assumption) q4), rfl⟩⟩) dX1_start_87
    · skip
      refine g_aload_n (pc' := 37) (q := 0) C dX1_start_36 rfl rfl rfl ?_
      refine g_get (pc' := 40) (v := .ref (a 13)) C FM 0 (by rfl) rfl 12 (by decide) (by decide +kernel) rfl (by rfl) dX1_start_37 rfl ?_
      refine g_iload_n (pc' := 41) (q := 1) C dX1_start_40 rfl rfl rfl ?_
      refine g_zald (pc' := 42) (n := 24) (f := u 13) C 9 1 (by rfl) rfl (vp_in_nI (by omega) (by omega)) (k := n) (nI_clamp (by omega)) dX1_start_41 rfl ?_
      refine g_if_ne (tgt := 71) (pc' := 45) C dX1_start_42 rfl (by decide) (fun (c_5 : ¬ (u 13 n).toInt = 0) => ?_) (fun (c_5 : (u 13 n).toInt = 0) => ?_)
      · skip
        refine g_iconst (pc' := 72) (v := 2) C dX1_start_71 rfl (by decide) ?_
        refine g_goto (tgt := 76) C dX1_start_72 (by decide) ?_
        refine g_putI (pc' := 79) C FM tyX1 tyX1_ok nmX1 0 (by rfl) rfl 0 (by decide) (by decide +kernel) rfl rfl rfl (Nat.le_of_ble_eq_true rfl) dX1_start_76 rfl (wM_put cI cZ a _ (f := (upd (upd (u 0) 0 (0)) 0 (2))) rfl) ?_
        refine g_aload_n (pc' := 80) (q := 0) C dX1_start_79 rfl rfl rfl ?_
        refine g_get (pc' := 83) (v := .int 2) C FM 0 (by rfl) rfl 0 (by decide) (by decide +kernel) rfl (by rfl) dX1_start_80 rfl ?_
        refine g_if_le (tgt := 88) (pc' := 86) C dX1_start_83 rfl (by decide) (fun h => absurd h (by decide)) (fun _ => ?_)
        refine g_iconst (pc' := 87) (v := 0) C dX1_start_86 rfl (by decide) ?_
        exact g_iret C hr rfl (Or.inr ⟨n, rfl, by omega, Or.inl ⟨(by rintro ⟨q1, q2, q3, q4⟩; first | exact absurd q1 (by assumption) | exact absurd q2 (by assumption) | exact absurd (by assumption) q3 | exact absurd (by assumption) q4), rfl⟩⟩) dX1_start_87
      · skip
        refine g_aload_n (pc' := 46) (q := 0) C dX1_start_45 rfl rfl rfl ?_
        refine g_iload_n (pc' := 47) (q := 1) C dX1_start_46 rfl rfl rfl ?_
        refine g_calliV (pc' := 50) (As := [.int (nI n)]) (st := [.ref (a 0)]) (cells' := 0) (slots' := 0) C (c_X1_tooLate _ n (by omega) (by exact hT10 _ (by omega))) gX1_start_X1_tooLate rfl (by decide +kernel) ⟨Nat.le_of_ble_eq_true rfl, Nat.le_of_ble_eq_true rfl⟩ 0 (by rfl) rfl (n := 1) rfl rfl (Nat.le_of_ble_eq_true rfl) dX1_start_47 rfl rfl rfl ⟨Nat.le_of_ble_eq_true rfl, Nat.le_of_ble_eq_true rfl⟩ (fun r_6 u_6 h_7 => ?_)
        obtain ⟨rfl, h_7⟩ := h_7
        refine g_st h_7 ?_
        refine g_ifP_ne (tgt := 71) (pc' := 53) C dX1_start_50 rfl (by decide) (fun (c_8 : tlM u n) => ?_) (fun (c_8 : ¬ (tlM u n)) => ?_)
        · skip
          refine g_iconst (pc' := 72) (v := 2) C dX1_start_71 rfl (by decide) ?_
          refine g_goto (tgt := 76) C dX1_start_72 (by decide) ?_
          refine g_putI (pc' := 79) C FM tyX1 tyX1_ok nmX1 0 (by rfl) rfl 0 (by decide) (by decide +kernel) rfl rfl rfl (Nat.le_of_ble_eq_true rfl) dX1_start_76 rfl (wM_put cI cZ a _ (f := (upd (upd (u 0) 0 (0)) 0 (2))) rfl) ?_
          refine g_aload_n (pc' := 80) (q := 0) C dX1_start_79 rfl rfl rfl ?_
          refine g_get (pc' := 83) (v := .int 2) C FM 0 (by rfl) rfl 0 (by decide) (by decide +kernel) rfl (by rfl) dX1_start_80 rfl ?_
          refine g_if_le (tgt := 88) (pc' := 86) C dX1_start_83 rfl (by decide) (fun h => absurd h (by decide)) (fun _ => ?_)
          refine g_iconst (pc' := 87) (v := 0) C dX1_start_86 rfl (by decide) ?_
          exact g_iret C hr rfl (Or.inr ⟨n, rfl, by omega, Or.inl ⟨(by rintro ⟨q1, q2, q3, q4⟩; first | exact absurd q1 (by assumption) | exact absurd q2 (by assumption) | exact absurd (by assumption) q3 | exact absurd (by assumption) q4), rfl⟩⟩) dX1_start_87
        · skip
          have hTn := hT10 n (by omega) (by omega)
          refine g_aload_n (pc' := 54) (q := 0) C dX1_start_53 rfl rfl rfl ?_
          refine g_aload_n (pc' := 55) (q := 0) C dX1_start_54 rfl rfl rfl ?_
          refine g_get (pc' := 58) (v := .ref (a 4)) C FM 0 (by rfl) rfl 3 (by decide) (by decide +kernel) rfl (by rfl) dX1_start_55 rfl ?_
          refine g_aload_n (pc' := 59) (q := 0) C dX1_start_58 rfl rfl rfl ?_
          refine g_get (pc' := 62) (v := .ref (a 10)) C FM 0 (by rfl) rfl 9 (by decide) (by decide +kernel) rfl (by rfl) dX1_start_59 rfl ?_
          refine g_iload_n (pc' := 63) (q := 1) C dX1_start_62 rfl rfl rfl ?_
          refine g_iald (pc' := 64) (n := 24) (f := u 10) C 6 0 (by rfl) rfl (vp_in_nI (by omega) (by omega)) (k := n) (nI_clamp (by omega)) dX1_start_63 rfl ?_
          refine g_iald (pc' := 65) (n := 12) (f := u 4) C 1 0 (by rfl) rfl (vp_of (by omega) (by omega)) (k := (u 10 n).toNatClampNeg) rfl dX1_start_64 rfl ?_
          refine g_calliV (pc' := 68) (As := [.int (u 4 (u 10 n).toNatClampNeg)]) (st := [.ref (a 0)]) (cells' := 0) (slots' := 0) C (c_X1_isBusy _ (u 4 (u 10 n).toNatClampNeg) (by exact hL7) (by exact hT10)) gX1_start_X1_isBusy rfl (by decide +kernel) ⟨Nat.le_of_ble_eq_true rfl, Nat.le_of_ble_eq_true rfl⟩ 0 (by rfl) rfl (n := 1) rfl rfl (Nat.le_of_ble_eq_true rfl) dX1_start_65 rfl rfl rfl ⟨Nat.le_of_ble_eq_true rfl, Nat.le_of_ble_eq_true rfl⟩ (fun r_9 u_9 h_10 => ?_)
          obtain ⟨rfl, h_10⟩ := h_10
          refine g_st h_10 ?_
          refine g_ifP_eq (tgt := 75) (pc' := 71) C dX1_start_68 rfl (by decide) (fun (c_11 : ¬ (buM u (u 4 (u 10 n).toNatClampNeg))) => ?_) (fun (c_11 : buM u (u 4 (u 10 n).toNatClampNeg)) => ?_)
          · skip
            refine g_iconst (pc' := 76) (v := 0) C dX1_start_75 rfl (by decide) ?_
            refine g_putI (pc' := 79) C FM tyX1 tyX1_ok nmX1 0 (by rfl) rfl 0 (by decide) (by decide +kernel) rfl rfl rfl (Nat.le_of_ble_eq_true rfl) dX1_start_76 rfl (wM_put cI cZ a _ (f := (upd (upd (u 0) 0 (0)) 0 (0))) rfl) ?_
            refine g_aload_n (pc' := 80) (q := 0) C dX1_start_79 rfl rfl rfl ?_
            refine g_get (pc' := 83) (v := .int 0) C FM 0 (by rfl) rfl 0 (by decide) (by decide +kernel) rfl (by rfl) dX1_start_80 rfl ?_
            refine g_if_le (tgt := 88) (pc' := 86) C dX1_start_83 rfl (by decide) (fun _ => ?_) (fun h => absurd h (by decide))
            refine g_aload_n (pc' := 89) (q := 0) C dX1_start_88 rfl rfl rfl ?_
            refine g_get (pc' := 92) (v := .ref (a 9)) C FM 0 (by rfl) rfl 8 (by decide) (by decide +kernel) rfl (by rfl) dX1_start_89 rfl ?_
            refine g_iload_n (pc' := 93) (q := 1) C dX1_start_92 rfl rfl rfl ?_
            refine g_iconst (pc' := 94) (v := 1) C dX1_start_93 rfl (by decide) ?_
            refine g_iast (pc' := 95) (n := 24) (f := u 9) C 5 0 (by rfl) rfl (vp_in_nI (by omega) (by omega)) (k := n) (nI_clamp (by omega)) dX1_start_94 rfl (wM_set cI cZ a _ (k := 4) rfl) ?_
            refine g_aload_n (pc' := 96) (q := 0) C dX1_start_95 rfl rfl rfl ?_
            refine g_get (pc' := 99) (v := .ref (a 12)) C FM 0 (by rfl) rfl 11 (by decide) (by decide +kernel) rfl (by rfl) dX1_start_96 rfl ?_
            refine g_iload_n (pc' := 100) (q := 1) C dX1_start_99 rfl rfl rfl ?_
            refine g_aload_n (pc' := 101) (q := 0) C dX1_start_100 rfl rfl rfl ?_
            refine g_get (pc' := 104) (v := .int (u 0 1)) C FM 0 (by rfl) rfl 1 (by decide) (by decide +kernel) rfl (by rfl) dX1_start_101 rfl ?_
            refine g_aload_n (pc' := 105) (q := 0) C dX1_start_104 rfl rfl rfl ?_
            refine g_get (pc' := 108) (v := .ref (a 5)) C FM 0 (by rfl) rfl 4 (by decide) (by decide +kernel) rfl (by rfl) dX1_start_105 rfl ?_
            refine g_aload_n (pc' := 109) (q := 0) C dX1_start_108 rfl rfl rfl ?_
            refine g_get (pc' := 112) (v := .ref (a 10)) C FM 0 (by rfl) rfl 9 (by decide) (by decide +kernel) rfl (by rfl) dX1_start_109 rfl ?_
            refine g_iload_n (pc' := 113) (q := 1) C dX1_start_112 rfl rfl rfl ?_
            refine g_iald (pc' := 114) (n := 24) (f := u 10) C 6 0 (by rfl) rfl (vp_in_nI (by omega) (by omega)) (k := n) (nI_clamp (by omega)) dX1_start_113 rfl ?_
            refine g_iald (pc' := 115) (n := 12) (f := u 5) C 2 0 (by rfl) rfl (vp_of (by omega) (by omega)) (k := (u 10 n).toNatClampNeg) rfl dX1_start_114 rfl ?_
            refine g_iadd (pc' := 116) C dX1_start_115 rfl ?_
            refine g_iast (pc' := 117) (n := 24) (f := u 12) C 8 0 (by rfl) rfl (vp_in_nI (by omega) (by omega)) (k := n) (nI_clamp (by omega)) dX1_start_116 rfl (wM_set cI cZ a _ (k := 7) rfl) ?_
            refine g_aload_n (pc' := 118) (q := 0) C dX1_start_117 rfl rfl rfl ?_
            refine g_get (pc' := 121) (v := .ref (a 12)) C FM 0 (by rfl) rfl 11 (by decide) (by decide +kernel) rfl (by rfl) dX1_start_118 rfl ?_
            refine g_iload_n (pc' := 122) (q := 1) C dX1_start_121 rfl rfl rfl ?_
            refine g_iald (pc' := 123) (n := 24) (f := (upd (u 12) n ((u 0 1) + (u 5 (u 10 n).toNatClampNeg)))) C 8 0 (by rfl) rfl (vp_in_nI (by omega) (by omega)) (k := n) (nI_clamp (by omega)) dX1_start_122 rfl ?_
            refine g_conv (show (upd (u 12) n ((u 0 1) + (u 5 (u 10 n).toNatClampNeg))) n = (u 0 1) + (u 5 (u 10 n).toNatClampNeg) from pk_us) ?_
            exact g_iret C hr rfl (Or.inr ⟨n, rfl, by omega, Or.inr ⟨⟨by assumption, by assumption, by assumption, by assumption⟩, rfl, rfl⟩⟩) dX1_start_123
          · skip
            refine g_iconst (pc' := 72) (v := 2) C dX1_start_71 rfl (by decide) ?_
            refine g_goto (tgt := 76) C dX1_start_72 (by decide) ?_
            refine g_putI (pc' := 79) C FM tyX1 tyX1_ok nmX1 0 (by rfl) rfl 0 (by decide) (by decide +kernel) rfl rfl rfl (Nat.le_of_ble_eq_true rfl) dX1_start_76 rfl (wM_put cI cZ a _ (f := (upd (upd (u 0) 0 (0)) 0 (2))) rfl) ?_
            refine g_aload_n (pc' := 80) (q := 0) C dX1_start_79 rfl rfl rfl ?_
            refine g_get (pc' := 83) (v := .int 2) C FM 0 (by rfl) rfl 0 (by decide) (by decide +kernel) rfl (by rfl) dX1_start_80 rfl ?_
            refine g_if_le (tgt := 88) (pc' := 86) C dX1_start_83 rfl (by decide) (fun h => absurd h (by decide)) (fun _ => ?_)
            refine g_iconst (pc' := 87) (v := 0) C dX1_start_86 rfl (by decide) ?_
            exact g_iret C hr rfl (Or.inr ⟨n, rfl, by omega, Or.inl ⟨(by rintro ⟨q1, q2, q3, q4⟩; first | exact absurd q1 (by assumption) | exact absurd q2 (by assumption) | exact absurd (by assumption) q3 | exact absurd (by assumption) q4), rfl⟩⟩) dX1_start_87
set_option maxHeartbeats 4000000 in
set_option maxRecDepth 100000 in
theorem c_X1_rework {l : Launch} {D : va_G} {cI cZ cQ : ClassId} {a : Nat → Nat} (u : LU) (x : Int32) (hI : IM u) : KI l yX1_rework wsX1_rework ({ frames := 2, cells := 0, slots := 0, locals := 43 } : Room) D (tyX cI cZ cQ) (wM cI cZ a) [.ref (a 0), .int x] u (fun (r : Int32) (u' : LU) => (¬ (0 ≤ x.toInt ∧ x.toInt < (u 0 7).toInt) ∧ u' = thM u 1) ∨ (∃ n : Nat, x = nI n ∧ (n : Int) < (u 0 7).toInt ∧ ((¬ ((u 9 n).toInt = 0 ∧ (u 13 n).toInt = 0 ∧ ¬ (u 14 n).toInt = 2) ∧ u' = thM u 2) ∨ (((u 9 n).toInt = 0 ∧ (u 13 n).toInt = 0 ∧ ¬ (u 14 n).toInt = 2) ∧ r = u 7 (u 10 n).toNatClampNeg ∧ u' = rwM u n)))) := by
  refine ent_I (own := RX1) (maxL := 2) (cc := cX1_rework) (L0 := [(0, .ref (a 0)), (1, .int x)]) (by decide) rfl (wM_ok _ _ _) rfl (Nat.le_of_ble_eq_true rfl) rfl ?_
  intro p e s m args below meth c A C hr
  have FM : ∀ w ∈ wsX10, w.before args s = true := fun w h => C.2.2.2.2.1 w ((by decide +kernel : ∀ w ∈ wsX10, w ∈ wsX1_rework) w h)
  obtain ⟨hS2, hL7, hW15, hT10, hZ13, hP18, hO17, hR15⟩ := id hI
  refine g_aload_n (pc' := 1) (q := 0) C dX1_rework_0 rfl rfl rfl ?_
  refine g_aload_n (pc' := 2) (q := 0) C dX1_rework_1 rfl rfl rfl ?_
  refine g_iload_n (pc' := 3) (q := 1) C dX1_rework_2 rfl rfl rfl ?_
  refine g_calliV (pc' := 6) (As := [.int x]) (st := [.ref (a 0)]) (cells' := 0) (slots' := 0) C (c_X1_isLot _ x (by show 0 ≤ (u 0 7).toInt; omega)) gX1_rework_X1_isLot rfl (by decide +kernel) ⟨Nat.le_of_ble_eq_true rfl, Nat.le_of_ble_eq_true rfl⟩ 0 (by rfl) rfl (n := 1) rfl rfl (Nat.le_of_ble_eq_true rfl) dX1_rework_3 rfl rfl rfl ⟨Nat.le_of_ble_eq_true rfl, Nat.le_of_ble_eq_true rfl⟩ (fun r_1 u_1 h_2 => ?_)
  obtain ⟨rfl, h_2⟩ := h_2
  refine g_st h_2 ?_
  refine g_ifP_ne (tgt := 13) (pc' := 9) C dX1_rework_6 rfl (by decide) (fun (c_3 : 0 ≤ x.toInt ∧ x.toInt < (u 0 7).toInt) => ?_) (fun (c_3 : ¬ (0 ≤ x.toInt ∧ x.toInt < (u 0 7).toInt)) => ?_)
  · skip
    obtain ⟨n, hn, rfl⟩ := nI_of_ti (x := x) (n := 24) (by omega) (by omega) (by decide)
    have tn : (nI n).toInt = (n : Int) := nI_toInt (by omega)
    refine g_aload_n (pc' := 14) (q := 0) C dX1_rework_13 rfl rfl rfl ?_
    refine g_get (pc' := 17) (v := .ref (a 9)) C FM 0 (by rfl) rfl 8 (by decide) (by decide +kernel) rfl (by rfl) dX1_rework_14 rfl ?_
    refine g_iload_n (pc' := 18) (q := 1) C dX1_rework_17 rfl rfl rfl ?_
    refine g_iald (pc' := 19) (n := 24) (f := u 9) C 5 0 (by rfl) rfl (vp_in_nI (by omega) (by omega)) (k := n) (nI_clamp (by omega)) dX1_rework_18 rfl ?_
    refine g_if_ne (tgt := 41) (pc' := 22) C dX1_rework_19 rfl (by decide) (fun (c_4 : ¬ (u 9 n).toInt = 0) => ?_) (fun (c_4 : (u 9 n).toInt = 0) => ?_)
    · skip
      refine g_iconst (pc' := 42) (v := 2) C dX1_rework_41 rfl (by decide) ?_
      refine g_goto (tgt := 46) C dX1_rework_42 (by decide) ?_
      refine g_putI (pc' := 49) C FM tyX1 tyX1_ok nmX1 0 (by rfl) rfl 0 (by decide) (by decide +kernel) rfl rfl rfl (Nat.le_of_ble_eq_true rfl) dX1_rework_46 rfl (wM_put cI cZ a _ (f := (upd (u 0) 0 (2))) rfl) ?_
      refine g_aload_n (pc' := 50) (q := 0) C dX1_rework_49 rfl rfl rfl ?_
      refine g_get (pc' := 53) (v := .int 2) C FM 0 (by rfl) rfl 0 (by decide) (by decide +kernel) rfl (by rfl) dX1_rework_50 rfl ?_
      refine g_if_le (tgt := 58) (pc' := 56) C dX1_rework_53 rfl (by decide) (fun h => absurd h (by decide)) (fun _ => ?_)
      refine g_iconst (pc' := 57) (v := 0) C dX1_rework_56 rfl (by decide) ?_
      exact g_iret C hr rfl (Or.inr ⟨n, rfl, by omega, Or.inl ⟨by omega, rfl⟩⟩) dX1_rework_57
    · skip
      refine g_aload_n (pc' := 23) (q := 0) C dX1_rework_22 rfl rfl rfl ?_
      refine g_get (pc' := 26) (v := .ref (a 13)) C FM 0 (by rfl) rfl 12 (by decide) (by decide +kernel) rfl (by rfl) dX1_rework_23 rfl ?_
      refine g_iload_n (pc' := 27) (q := 1) C dX1_rework_26 rfl rfl rfl ?_
      refine g_zald (pc' := 28) (n := 24) (f := u 13) C 9 1 (by rfl) rfl (vp_in_nI (by omega) (by omega)) (k := n) (nI_clamp (by omega)) dX1_rework_27 rfl ?_
      refine g_if_ne (tgt := 41) (pc' := 31) C dX1_rework_28 rfl (by decide) (fun (c_5 : ¬ (u 13 n).toInt = 0) => ?_) (fun (c_5 : (u 13 n).toInt = 0) => ?_)
      · skip
        refine g_iconst (pc' := 42) (v := 2) C dX1_rework_41 rfl (by decide) ?_
        refine g_goto (tgt := 46) C dX1_rework_42 (by decide) ?_
        refine g_putI (pc' := 49) C FM tyX1 tyX1_ok nmX1 0 (by rfl) rfl 0 (by decide) (by decide +kernel) rfl rfl rfl (Nat.le_of_ble_eq_true rfl) dX1_rework_46 rfl (wM_put cI cZ a _ (f := (upd (u 0) 0 (2))) rfl) ?_
        refine g_aload_n (pc' := 50) (q := 0) C dX1_rework_49 rfl rfl rfl ?_
        refine g_get (pc' := 53) (v := .int 2) C FM 0 (by rfl) rfl 0 (by decide) (by decide +kernel) rfl (by rfl) dX1_rework_50 rfl ?_
        refine g_if_le (tgt := 58) (pc' := 56) C dX1_rework_53 rfl (by decide) (fun h => absurd h (by decide)) (fun _ => ?_)
        refine g_iconst (pc' := 57) (v := 0) C dX1_rework_56 rfl (by decide) ?_
        exact g_iret C hr rfl (Or.inr ⟨n, rfl, by omega, Or.inl ⟨by omega, rfl⟩⟩) dX1_rework_57
      · skip
        refine g_aload_n (pc' := 32) (q := 0) C dX1_rework_31 rfl rfl rfl ?_
        refine g_get (pc' := 35) (v := .ref (a 14)) C FM 0 (by rfl) rfl 13 (by decide) (by decide +kernel) rfl (by rfl) dX1_rework_32 rfl ?_
        refine g_iload_n (pc' := 36) (q := 1) C dX1_rework_35 rfl rfl rfl ?_
        refine g_iald (pc' := 37) (n := 24) (f := u 14) C 10 0 (by rfl) rfl (vp_in_nI (by omega) (by omega)) (k := n) (nI_clamp (by omega)) dX1_rework_36 rfl ?_
        refine g_iconst (pc' := 38) (v := 2) C dX1_rework_37 rfl (by decide) ?_
        refine g_icmp_ne (tgt := 45) (pc' := 41) C dX1_rework_38 rfl (by decide) (fun (c_6 : ¬ (u 14 n).toInt = 2) => ?_) (fun (c_6 : (u 14 n).toInt = 2) => ?_)
        · skip
          refine g_iconst (pc' := 46) (v := 0) C dX1_rework_45 rfl (by decide) ?_
          refine g_putI (pc' := 49) C FM tyX1 tyX1_ok nmX1 0 (by rfl) rfl 0 (by decide) (by decide +kernel) rfl rfl rfl (Nat.le_of_ble_eq_true rfl) dX1_rework_46 rfl (wM_put cI cZ a _ (f := (upd (u 0) 0 (0))) rfl) ?_
          refine g_aload_n (pc' := 50) (q := 0) C dX1_rework_49 rfl rfl rfl ?_
          refine g_get (pc' := 53) (v := .int 0) C FM 0 (by rfl) rfl 0 (by decide) (by decide +kernel) rfl (by rfl) dX1_rework_50 rfl ?_
          refine g_if_le (tgt := 58) (pc' := 56) C dX1_rework_53 rfl (by decide) (fun _ => ?_) (fun h => absurd h (by decide))
          have hTn := hT10 n (by omega) (by omega)
          refine g_aload_n (pc' := 59) (q := 0) C dX1_rework_58 rfl rfl rfl ?_
          refine g_get (pc' := 62) (v := .ref (a 10)) C FM 0 (by rfl) rfl 9 (by decide) (by decide +kernel) rfl (by rfl) dX1_rework_59 rfl ?_
          refine g_iload_n (pc' := 63) (q := 1) C dX1_rework_62 rfl rfl rfl ?_
          refine g_aload_n (pc' := 64) (q := 0) C dX1_rework_63 rfl rfl rfl ?_
          refine g_get (pc' := 67) (v := .ref (a 7)) C FM 0 (by rfl) rfl 6 (by decide) (by decide +kernel) rfl (by rfl) dX1_rework_64 rfl ?_
          refine g_aload_n (pc' := 68) (q := 0) C dX1_rework_67 rfl rfl rfl ?_
          refine g_get (pc' := 71) (v := .ref (a 10)) C FM 0 (by rfl) rfl 9 (by decide) (by decide +kernel) rfl (by rfl) dX1_rework_68 rfl ?_
          refine g_iload_n (pc' := 72) (q := 1) C dX1_rework_71 rfl rfl rfl ?_
          refine g_iald (pc' := 73) (n := 24) (f := u 10) C 6 0 (by rfl) rfl (vp_in_nI (by omega) (by omega)) (k := n) (nI_clamp (by omega)) dX1_rework_72 rfl ?_
          refine g_iald (pc' := 74) (n := 12) (f := u 7) C 4 0 (by rfl) rfl (vp_of (by omega) (by omega)) (k := (u 10 n).toNatClampNeg) rfl dX1_rework_73 rfl ?_
          refine g_iast (pc' := 75) (n := 24) (f := u 10) C 6 0 (by rfl) rfl (vp_in_nI (by omega) (by omega)) (k := n) (nI_clamp (by omega)) dX1_rework_74 rfl (wM_set cI cZ a _ (k := 5) rfl) ?_
          refine g_aload_n (pc' := 76) (q := 0) C dX1_rework_75 rfl rfl rfl ?_
          refine g_get (pc' := 79) (v := .ref (a 11)) C FM 0 (by rfl) rfl 10 (by decide) (by decide +kernel) rfl (by rfl) dX1_rework_76 rfl ?_
          refine g_iload_n (pc' := 80) (q := 1) C dX1_rework_79 rfl rfl rfl ?_
          refine g_aload_n (pc' := 81) (q := 0) C dX1_rework_80 rfl rfl rfl ?_
          refine g_get (pc' := 84) (v := .int (u 0 1)) C FM 0 (by rfl) rfl 1 (by decide) (by decide +kernel) rfl (by rfl) dX1_rework_81 rfl ?_
          refine g_iast (pc' := 85) (n := 24) (f := u 11) C 7 0 (by rfl) rfl (vp_in_nI (by omega) (by omega)) (k := n) (nI_clamp (by omega)) dX1_rework_84 rfl (wM_set cI cZ a _ (k := 6) rfl) ?_
          refine g_aload_n (pc' := 86) (q := 0) C dX1_rework_85 rfl rfl rfl ?_
          refine g_get (pc' := 89) (v := .ref (a 14)) C FM 0 (by rfl) rfl 13 (by decide) (by decide +kernel) rfl (by rfl) dX1_rework_86 rfl ?_
          refine g_iload_n (pc' := 90) (q := 1) C dX1_rework_89 rfl rfl rfl ?_
          refine g_dup2 (pc' := 91) C dX1_rework_90 rfl rfl rfl ?_
          refine g_iald (pc' := 92) (n := 24) (f := u 14) C 10 0 (by rfl) rfl (vp_in_nI (by omega) (by omega)) (k := n) (nI_clamp (by omega)) dX1_rework_91 rfl ?_
          refine g_iconst (pc' := 93) (v := 1) C dX1_rework_92 rfl (by decide) ?_
          refine g_iadd (pc' := 94) C dX1_rework_93 rfl ?_
          refine g_iast (pc' := 95) (n := 24) (f := u 14) C 10 0 (by rfl) rfl (vp_in_nI (by omega) (by omega)) (k := n) (nI_clamp (by omega)) dX1_rework_94 rfl (wM_set cI cZ a _ (k := 9) rfl) ?_
          refine g_aload_n (pc' := 96) (q := 0) C dX1_rework_95 rfl rfl rfl ?_
          refine g_get (pc' := 99) (v := .ref (a 10)) C FM 0 (by rfl) rfl 9 (by decide) (by decide +kernel) rfl (by rfl) dX1_rework_96 rfl ?_
          refine g_iload_n (pc' := 100) (q := 1) C dX1_rework_99 rfl rfl rfl ?_
          refine g_iald (pc' := 101) (n := 24) (f := (upd (u 10) n (u 7 (u 10 n).toNatClampNeg))) C 6 0 (by rfl) rfl (vp_in_nI (by omega) (by omega)) (k := n) (nI_clamp (by omega)) dX1_rework_100 rfl ?_
          refine g_conv (show (upd (u 10) n (u 7 (u 10 n).toNatClampNeg)) n = u 7 (u 10 n).toNatClampNeg from pk_us) ?_
          exact g_iret C hr rfl (Or.inr ⟨n, rfl, by omega, Or.inr ⟨by omega, rfl, rfl⟩⟩) dX1_rework_101
        · skip
          refine g_iconst (pc' := 42) (v := 2) C dX1_rework_41 rfl (by decide) ?_
          refine g_goto (tgt := 46) C dX1_rework_42 (by decide) ?_
          refine g_putI (pc' := 49) C FM tyX1 tyX1_ok nmX1 0 (by rfl) rfl 0 (by decide) (by decide +kernel) rfl rfl rfl (Nat.le_of_ble_eq_true rfl) dX1_rework_46 rfl (wM_put cI cZ a _ (f := (upd (u 0) 0 (2))) rfl) ?_
          refine g_aload_n (pc' := 50) (q := 0) C dX1_rework_49 rfl rfl rfl ?_
          refine g_get (pc' := 53) (v := .int 2) C FM 0 (by rfl) rfl 0 (by decide) (by decide +kernel) rfl (by rfl) dX1_rework_50 rfl ?_
          refine g_if_le (tgt := 58) (pc' := 56) C dX1_rework_53 rfl (by decide) (fun h => absurd h (by decide)) (fun _ => ?_)
          refine g_iconst (pc' := 57) (v := 0) C dX1_rework_56 rfl (by decide) ?_
          exact g_iret C hr rfl (Or.inr ⟨n, rfl, by omega, Or.inl ⟨by omega, rfl⟩⟩) dX1_rework_57
  · skip
    refine g_iconst (pc' := 10) (v := 1) C dX1_rework_9 rfl (by decide) ?_
    refine g_goto (tgt := 46) C dX1_rework_10 (by decide) ?_
    refine g_putI (pc' := 49) C FM tyX1 tyX1_ok nmX1 0 (by rfl) rfl 0 (by decide) (by decide +kernel) rfl rfl rfl (Nat.le_of_ble_eq_true rfl) dX1_rework_46 rfl (wM_put cI cZ a _ (f := (upd (u 0) 0 (1))) rfl) ?_
    refine g_aload_n (pc' := 50) (q := 0) C dX1_rework_49 rfl rfl rfl ?_
    refine g_get (pc' := 53) (v := .int 1) C FM 0 (by rfl) rfl 0 (by decide) (by decide +kernel) rfl (by rfl) dX1_rework_50 rfl ?_
    refine g_if_le (tgt := 58) (pc' := 56) C dX1_rework_53 rfl (by decide) (fun h => absurd h (by decide)) (fun _ => ?_)
    refine g_iconst (pc' := 57) (v := 0) C dX1_rework_56 rfl (by decide) ?_
    exact g_iret C hr rfl (Or.inl ⟨by omega, rfl⟩) dX1_rework_57
set_option maxHeartbeats 4000000 in
set_option maxRecDepth 100000 in
theorem c_X1_hold {l : Launch} {D : va_G} {cI cZ cQ : ClassId} {a : Nat → Nat} (u : LU) (x : Int32) (P9 : Prop) (hI : IM u) : KI l yX1_hold wsX1_hold ({ frames := 2, cells := 0, slots := 0, locals := 43 } : Room) D (tyX cI cZ cQ) (wM cI cZ a) [.ref (a 0), .int x, .int (bP P9)] u (fun (r : Int32) (u' : LU) => (¬ (0 ≤ x.toInt ∧ x.toInt < (u 0 7).toInt) ∧ u' = thM u 1) ∨ (∃ n : Nat, x = nI n ∧ (n : Int) < (u 0 7).toInt ∧ ((¬ (u 9 n).toInt ≤ 1 ∧ u' = thM u 2) ∨ ((u 9 n).toInt ≤ 1 ∧ r = u 13 n ∧ u' = up (thM u 0) 13 (upd (u 13) n (bP P9)))))) := by
  refine ent_I (own := RX1) (maxL := 4) (cc := cX1_hold) (L0 := [(0, .ref (a 0)), (1, .int x), (2, .int (bP (P9)))]) (by decide) rfl (wM_ok _ _ _) rfl (Nat.le_of_ble_eq_true rfl) rfl ?_
  intro p e s m args below meth c A C hr
  have FM : ∀ w ∈ wsX10, w.before args s = true := fun w h => C.2.2.2.2.1 w ((by decide +kernel : ∀ w ∈ wsX10, w ∈ wsX1_hold) w h)
  obtain ⟨hS2, hL7, hW15, hT10, hZ13, hP18, hO17, hR15⟩ := id hI
  refine g_aload_n (pc' := 1) (q := 0) C dX1_hold_0 rfl rfl rfl ?_
  refine g_aload_n (pc' := 2) (q := 0) C dX1_hold_1 rfl rfl rfl ?_
  refine g_iload_n (pc' := 3) (q := 1) C dX1_hold_2 rfl rfl rfl ?_
  refine g_calliV (pc' := 6) (As := [.int x]) (st := [.ref (a 0)]) (cells' := 0) (slots' := 0) C (c_X1_isLot _ x (by show 0 ≤ (u 0 7).toInt; omega)) gX1_hold_X1_isLot rfl (by decide +kernel) ⟨Nat.le_of_ble_eq_true rfl, Nat.le_of_ble_eq_true rfl⟩ 0 (by rfl) rfl (n := 1) rfl rfl (Nat.le_of_ble_eq_true rfl) dX1_hold_3 rfl rfl rfl ⟨Nat.le_of_ble_eq_true rfl, Nat.le_of_ble_eq_true rfl⟩ (fun r_1 u_1 h_2 => ?_)
  obtain ⟨rfl, h_2⟩ := h_2
  refine g_st h_2 ?_
  refine g_ifP_ne (tgt := 13) (pc' := 9) C dX1_hold_6 rfl (by decide) (fun (c_3 : 0 ≤ x.toInt ∧ x.toInt < (u 0 7).toInt) => ?_) (fun (c_3 : ¬ (0 ≤ x.toInt ∧ x.toInt < (u 0 7).toInt)) => ?_)
  · skip
    obtain ⟨n, hn, rfl⟩ := nI_of_ti (x := x) (n := 24) (by omega) (by omega) (by decide)
    have tn : (nI n).toInt = (n : Int) := nI_toInt (by omega)
    refine g_aload_n (pc' := 14) (q := 0) C dX1_hold_13 rfl rfl rfl ?_
    refine g_get (pc' := 17) (v := .ref (a 9)) C FM 0 (by rfl) rfl 8 (by decide) (by decide +kernel) rfl (by rfl) dX1_hold_14 rfl ?_
    refine g_iload_n (pc' := 18) (q := 1) C dX1_hold_17 rfl rfl rfl ?_
    refine g_iald (pc' := 19) (n := 24) (f := u 9) C 5 0 (by rfl) rfl (vp_in_nI (by omega) (by omega)) (k := n) (nI_clamp (by omega)) dX1_hold_18 rfl ?_
    refine g_iconst (pc' := 20) (v := 1) C dX1_hold_19 rfl (by decide) ?_
    refine g_icmp_le (tgt := 27) (pc' := 23) C dX1_hold_20 rfl (by decide) (fun (c_4 : (u 9 n).toInt ≤ 1) => ?_) (fun (c_4 : ¬ ((u 9 n).toInt ≤ 1)) => ?_)
    · skip
      refine g_iconst (pc' := 28) (v := 0) C dX1_hold_27 rfl (by decide) ?_
      refine g_putI (pc' := 31) C FM tyX1 tyX1_ok nmX1 0 (by rfl) rfl 0 (by decide) (by decide +kernel) rfl rfl rfl (Nat.le_of_ble_eq_true rfl) dX1_hold_28 rfl (wM_put cI cZ a _ (f := (upd (u 0) 0 (0))) rfl) ?_
      refine g_aload_n (pc' := 32) (q := 0) C dX1_hold_31 rfl rfl rfl ?_
      refine g_get (pc' := 35) (v := .int 0) C FM 0 (by rfl) rfl 0 (by decide) (by decide +kernel) rfl (by rfl) dX1_hold_32 rfl ?_
      refine g_if_le (tgt := 40) (pc' := 38) C dX1_hold_35 rfl (by decide) (fun _ => ?_) (fun h => absurd h (by decide))
      refine g_aload_n (pc' := 41) (q := 0) C dX1_hold_40 rfl rfl rfl ?_
      refine g_get (pc' := 44) (v := .ref (a 13)) C FM 0 (by rfl) rfl 12 (by decide) (by decide +kernel) rfl (by rfl) dX1_hold_41 rfl ?_
      refine g_iload_n (pc' := 45) (q := 1) C dX1_hold_44 rfl rfl rfl ?_
      refine g_zald (pc' := 46) (n := 24) (f := u 13) C 9 1 (by rfl) rfl (vp_in_nI (by omega) (by omega)) (k := n) (nI_clamp (by omega)) dX1_hold_45 rfl ?_
      refine g_istore_n (pc' := 47) (L' := [(3, .int (u 13 n)), (0, .ref (a 0)), (1, .int (nI n)), (2, .int (bP (P9)))]) C dX1_hold_46 rfl rfl (by decide) rfl ?_
      refine g_aload_n (pc' := 48) (q := 1) C dX1_hold_47 rfl rfl rfl ?_
      refine g_get (pc' := 51) (v := .ref (a 13)) C FM 0 (by rfl) rfl 12 (by decide) (by decide +kernel) rfl (by rfl) dX1_hold_48 rfl ?_
      refine g_iload_n (pc' := 52) (q := 2) C dX1_hold_51 rfl rfl rfl ?_
      refine g_iload_n (pc' := 53) (q := 3) C dX1_hold_52 rfl rfl rfl ?_
      refine g_zast (pc' := 54) (n := 24) (f := u 13) C 9 1 (by rfl) rfl (bP_vp _) (vp_in_nI (by omega) (by omega)) (k := n) (nI_clamp (by omega)) dX1_hold_53 rfl (wM_set cI cZ a _ (k := 8) rfl) ?_
      refine g_iload_n (pc' := 55) (q := 0) C dX1_hold_54 rfl rfl rfl ?_
      exact g_iret C hr ((hZ13 n (by omega)).2) (Or.inr ⟨n, rfl, by omega, Or.inr ⟨by omega, rfl, rfl⟩⟩) dX1_hold_55
    · skip
      refine g_iconst (pc' := 24) (v := 2) C dX1_hold_23 rfl (by decide) ?_
      refine g_goto (tgt := 28) C dX1_hold_24 (by decide) ?_
      refine g_putI (pc' := 31) C FM tyX1 tyX1_ok nmX1 0 (by rfl) rfl 0 (by decide) (by decide +kernel) rfl rfl rfl (Nat.le_of_ble_eq_true rfl) dX1_hold_28 rfl (wM_put cI cZ a _ (f := (upd (u 0) 0 (2))) rfl) ?_
      refine g_aload_n (pc' := 32) (q := 0) C dX1_hold_31 rfl rfl rfl ?_
      refine g_get (pc' := 35) (v := .int 2) C FM 0 (by rfl) rfl 0 (by decide) (by decide +kernel) rfl (by rfl) dX1_hold_32 rfl ?_
      refine g_if_le (tgt := 40) (pc' := 38) C dX1_hold_35 rfl (by decide) (fun h => absurd h (by decide)) (fun _ => ?_)
      refine g_iconst (pc' := 39) (v := 0) C dX1_hold_38 rfl (by decide) ?_
      exact g_iret C hr (by decide) (Or.inr ⟨n, rfl, by omega, Or.inl ⟨by omega, rfl⟩⟩) dX1_hold_39
  · skip
    refine g_iconst (pc' := 10) (v := 1) C dX1_hold_9 rfl (by decide) ?_
    refine g_goto (tgt := 28) C dX1_hold_10 (by decide) ?_
    refine g_putI (pc' := 31) C FM tyX1 tyX1_ok nmX1 0 (by rfl) rfl 0 (by decide) (by decide +kernel) rfl rfl rfl (Nat.le_of_ble_eq_true rfl) dX1_hold_28 rfl (wM_put cI cZ a _ (f := (upd (u 0) 0 (1))) rfl) ?_
    refine g_aload_n (pc' := 32) (q := 0) C dX1_hold_31 rfl rfl rfl ?_
    refine g_get (pc' := 35) (v := .int 1) C FM 0 (by rfl) rfl 0 (by decide) (by decide +kernel) rfl (by rfl) dX1_hold_32 rfl ?_
    refine g_if_le (tgt := 40) (pc' := 38) C dX1_hold_35 rfl (by decide) (fun h => absurd h (by decide)) (fun _ => ?_)
    refine g_iconst (pc' := 39) (v := 0) C dX1_hold_38 rfl (by decide) ?_
    exact g_iret C hr (by decide) (Or.inl ⟨by omega, rfl⟩) dX1_hold_39
set_option maxHeartbeats 4000000 in
set_option maxRecDepth 100000 in
theorem c_X1_scrap {l : Launch} {D : va_G} {cI cZ cQ : ClassId} {a : Nat → Nat} (u : LU) (x : Int32) (hI : IM u) : KI l yX1_scrap wsX1_scrap ({ frames := 2, cells := 0, slots := 0, locals := 43 } : Room) D (tyX cI cZ cQ) (wM cI cZ a) [.ref (a 0), .int x] u (fun (r : Int32) (u' : LU) => (¬ (0 ≤ x.toInt ∧ x.toInt < (u 0 15).toInt) ∧ u' = thM u 1) ∨ (∃ n : Nat, x = nI n ∧ (n : Int) < (u 0 15).toInt ∧ ((¬ (¬ (u 17 n).toInt = -1 ∧ (u 9 (u 17 n).toNatClampNeg).toInt = 0) ∧ u' = thM u 2) ∨ ((¬ (u 17 n).toInt = -1 ∧ (u 9 (u 17 n).toNatClampNeg).toInt = 0) ∧ r = nI (ctA (upd (u 17) n (-1)) (u 17 n) (u 0 15).toInt.toNat) ∧ u' = scM u n)))) := by
  refine ent_I (own := RX1) (maxL := 3) (cc := cX1_scrap) (L0 := [(0, .ref (a 0)), (1, .int x)]) (by decide) rfl (wM_ok _ _ _) rfl (Nat.le_of_ble_eq_true rfl) rfl ?_
  intro p e s m args below meth c A C hr
  have FM : ∀ w ∈ wsX10, w.before args s = true := fun w h => C.2.2.2.2.1 w ((by decide +kernel : ∀ w ∈ wsX10, w ∈ wsX1_scrap) w h)
  obtain ⟨hS2, hL7, hW15, hT10, hZ13, hP18, hO17, hR15⟩ := id hI
  refine g_aload_n (pc' := 1) (q := 0) C dX1_scrap_0 rfl rfl rfl ?_
  refine g_aload_n (pc' := 2) (q := 0) C dX1_scrap_1 rfl rfl rfl ?_
  refine g_iload_n (pc' := 3) (q := 1) C dX1_scrap_2 rfl rfl rfl ?_
  refine g_calliV (pc' := 6) (As := [.int x]) (st := [.ref (a 0)]) (cells' := 0) (slots' := 0) C (c_X1_isWafer _ x (by show 0 ≤ (u 0 15).toInt; omega)) gX1_scrap_X1_isWafer rfl (by decide +kernel) ⟨Nat.le_of_ble_eq_true rfl, Nat.le_of_ble_eq_true rfl⟩ 0 (by rfl) rfl (n := 1) rfl rfl (Nat.le_of_ble_eq_true rfl) dX1_scrap_3 rfl rfl rfl ⟨Nat.le_of_ble_eq_true rfl, Nat.le_of_ble_eq_true rfl⟩ (fun r_1 u_1 h_2 => ?_)
  obtain ⟨rfl, h_2⟩ := h_2
  refine g_st h_2 ?_
  refine g_ifP_ne (tgt := 13) (pc' := 9) C dX1_scrap_6 rfl (by decide) (fun (c_3 : 0 ≤ x.toInt ∧ x.toInt < (u 0 15).toInt) => ?_) (fun (c_3 : ¬ (0 ≤ x.toInt ∧ x.toInt < (u 0 15).toInt)) => ?_)
  · skip
    obtain ⟨n, hn, rfl⟩ := nI_of_ti (x := x) (n := 60) (by omega) (by omega) (by decide)
    have tn : (nI n).toInt = (n : Int) := nI_toInt (by omega)
    have hOn := hO17 n (by omega)
    refine g_aload_n (pc' := 14) (q := 0) C dX1_scrap_13 rfl rfl rfl ?_
    refine g_get (pc' := 17) (v := .ref (a 17)) C FM 0 (by rfl) rfl 16 (by decide) (by decide +kernel) rfl (by rfl) dX1_scrap_14 rfl ?_
    refine g_iload_n (pc' := 18) (q := 1) C dX1_scrap_17 rfl rfl rfl ?_
    refine g_iald (pc' := 19) (n := 60) (f := u 17) C 12 0 (by rfl) rfl (vp_in_nI (by omega) (by omega)) (k := n) (nI_clamp (by omega)) dX1_scrap_18 rfl ?_
    refine g_iconst (pc' := 20) (v := (-1)) C dX1_scrap_19 rfl (by decide) ?_
    refine g_icmp_eq (tgt := 37) (pc' := 23) C dX1_scrap_20 rfl (by decide) (fun (c_4 : (u 17 n).toInt = -1) => ?_) (fun (c_4 : ¬ ((u 17 n).toInt = -1)) => ?_)
    · skip
      refine g_iconst (pc' := 38) (v := 2) C dX1_scrap_37 rfl (by decide) ?_
      refine g_goto (tgt := 42) C dX1_scrap_38 (by decide) ?_
      refine g_putI (pc' := 45) C FM tyX1 tyX1_ok nmX1 0 (by rfl) rfl 0 (by decide) (by decide +kernel) rfl rfl rfl (Nat.le_of_ble_eq_true rfl) dX1_scrap_42 rfl (wM_put cI cZ a _ (f := (upd (u 0) 0 (2))) rfl) ?_
      refine g_aload_n (pc' := 46) (q := 0) C dX1_scrap_45 rfl rfl rfl ?_
      refine g_get (pc' := 49) (v := .int 2) C FM 0 (by rfl) rfl 0 (by decide) (by decide +kernel) rfl (by rfl) dX1_scrap_46 rfl ?_
      refine g_if_le (tgt := 54) (pc' := 52) C dX1_scrap_49 rfl (by decide) (fun h => absurd h (by decide)) (fun _ => ?_)
      refine g_iconst (pc' := 53) (v := 0) C dX1_scrap_52 rfl (by decide) ?_
      exact g_iret C hr rfl (Or.inr ⟨n, rfl, by omega, Or.inl ⟨by omega, rfl⟩⟩) dX1_scrap_53
    · skip
      refine g_aload_n (pc' := 24) (q := 0) C dX1_scrap_23 rfl rfl rfl ?_
      refine g_get (pc' := 27) (v := .ref (a 9)) C FM 0 (by rfl) rfl 8 (by decide) (by decide +kernel) rfl (by rfl) dX1_scrap_24 rfl ?_
      refine g_aload_n (pc' := 28) (q := 0) C dX1_scrap_27 rfl rfl rfl ?_
      refine g_get (pc' := 31) (v := .ref (a 17)) C FM 0 (by rfl) rfl 16 (by decide) (by decide +kernel) rfl (by rfl) dX1_scrap_28 rfl ?_
      refine g_iload_n (pc' := 32) (q := 1) C dX1_scrap_31 rfl rfl rfl ?_
      refine g_iald (pc' := 33) (n := 60) (f := u 17) C 12 0 (by rfl) rfl (vp_in_nI (by omega) (by omega)) (k := n) (nI_clamp (by omega)) dX1_scrap_32 rfl ?_
      refine g_iald (pc' := 34) (n := 24) (f := u 9) C 5 0 (by rfl) rfl (vp_of (by omega) (by omega)) (k := (u 17 n).toNatClampNeg) rfl dX1_scrap_33 rfl ?_
      refine g_if_eq (tgt := 41) (pc' := 37) C dX1_scrap_34 rfl (by decide) (fun (c_5 : (u 9 (u 17 n).toNatClampNeg).toInt = 0) => ?_) (fun (c_5 : ¬ ((u 9 (u 17 n).toNatClampNeg).toInt = 0)) => ?_)
      · skip
        refine g_iconst (pc' := 42) (v := 0) C dX1_scrap_41 rfl (by decide) ?_
        refine g_putI (pc' := 45) C FM tyX1 tyX1_ok nmX1 0 (by rfl) rfl 0 (by decide) (by decide +kernel) rfl rfl rfl (Nat.le_of_ble_eq_true rfl) dX1_scrap_42 rfl (wM_put cI cZ a _ (f := (upd (u 0) 0 (0))) rfl) ?_
        refine g_aload_n (pc' := 46) (q := 0) C dX1_scrap_45 rfl rfl rfl ?_
        refine g_get (pc' := 49) (v := .int 0) C FM 0 (by rfl) rfl 0 (by decide) (by decide +kernel) rfl (by rfl) dX1_scrap_46 rfl ?_
        refine g_if_le (tgt := 54) (pc' := 52) C dX1_scrap_49 rfl (by decide) (fun _ => ?_) (fun h => absurd h (by decide))
        refine g_aload_n (pc' := 55) (q := 0) C dX1_scrap_54 rfl rfl rfl ?_
        refine g_get (pc' := 58) (v := .ref (a 17)) C FM 0 (by rfl) rfl 16 (by decide) (by decide +kernel) rfl (by rfl) dX1_scrap_55 rfl ?_
        refine g_iload_n (pc' := 59) (q := 1) C dX1_scrap_58 rfl rfl rfl ?_
        refine g_iald (pc' := 60) (n := 60) (f := u 17) C 12 0 (by rfl) rfl (vp_in_nI (by omega) (by omega)) (k := n) (nI_clamp (by omega)) dX1_scrap_59 rfl ?_
        refine g_istore_n (pc' := 61) (L' := [(2, .int (u 17 n)), (0, .ref (a 0)), (1, .int (nI n))]) C dX1_scrap_60 rfl rfl (by decide) rfl ?_
        refine g_aload_n (pc' := 62) (q := 1) C dX1_scrap_61 rfl rfl rfl ?_
        refine g_get (pc' := 65) (v := .ref (a 17)) C FM 0 (by rfl) rfl 16 (by decide) (by decide +kernel) rfl (by rfl) dX1_scrap_62 rfl ?_
        refine g_iload_n (pc' := 66) (q := 2) C dX1_scrap_65 rfl rfl rfl ?_
        refine g_iconst (pc' := 67) (v := (-1)) C dX1_scrap_66 rfl (by decide) ?_
        refine g_iast (pc' := 68) (n := 60) (f := u 17) C 12 0 (by rfl) rfl (vp_in_nI (by omega) (by omega)) (k := n) (nI_clamp (by omega)) dX1_scrap_67 rfl (wM_set cI cZ a _ (k := 11) rfl) ?_
        refine g_aload_n (pc' := 69) (q := 1) C dX1_scrap_68 rfl rfl rfl ?_
        refine g_get (pc' := 72) (v := .ref (a 9)) C FM 0 (by rfl) rfl 8 (by decide) (by decide +kernel) rfl (by rfl) dX1_scrap_69 rfl ?_
        refine g_iload_n (pc' := 73) (q := 0) C dX1_scrap_72 rfl rfl rfl ?_
        refine g_aload_n (pc' := 74) (q := 1) C dX1_scrap_73 rfl rfl rfl ?_
        refine g_iload_n (pc' := 75) (q := 0) C dX1_scrap_74 rfl rfl rfl ?_
        refine g_calliV (pc' := 78) (As := [.int (u 17 n)]) (st := [.int (u 17 n), .ref (a 9)]) (cells' := 0) (slots' := 0) C (c_X1_count _ (u 17 n) (by show 0 ≤ (u 0 15).toInt ∧ (u 0 15).toInt ≤ 60; omega)) gX1_scrap_X1_count rfl (by decide +kernel) ⟨Nat.le_of_ble_eq_true rfl, Nat.le_of_ble_eq_true rfl⟩ 0 (by rfl) rfl (n := 1) rfl rfl (Nat.le_of_ble_eq_true rfl) dX1_scrap_75 rfl rfl rfl ⟨Nat.le_of_ble_eq_true rfl, Nat.le_of_ble_eq_true rfl⟩ (fun r_6 u_6 h_7 => ?_)
        obtain ⟨rfl, h_7⟩ := h_7
        refine g_st h_7 ?_
        have b_8 := ctA_le ((upd (u 17) n ((-1)))) (u 17 n) (u 0 15).toInt.toNat
        have t_9 : (nI (ctA ((upd (u 17) n ((-1)))) (u 17 n) (u 0 15).toInt.toNat)).toInt = ((ctA ((upd (u 17) n ((-1)))) (u 17 n) (u 0 15).toInt.toNat : Nat) : Int) := nI_toInt (by omega)
        refine g_if_ne (tgt := 85) (pc' := 81) C dX1_scrap_78 rfl (by decide) (fun (c_10 : ¬ (nI (ctA ((upd (u 17) n ((-1)))) (u 17 n) (u 0 15).toInt.toNat)).toInt = 0) => ?_) (fun (c_10 : (nI (ctA ((upd (u 17) n ((-1)))) (u 17 n) (u 0 15).toInt.toNat)).toInt = 0) => ?_)
        · skip
          refine g_aload_n (pc' := 86) (q := 1) C dX1_scrap_85 rfl rfl rfl ?_
          refine g_get (pc' := 89) (v := .ref (a 9)) C FM 0 (by rfl) rfl 8 (by decide) (by decide +kernel) rfl (by rfl) dX1_scrap_86 rfl ?_
          refine g_iload_n (pc' := 90) (q := 0) C dX1_scrap_89 rfl rfl rfl ?_
          refine g_iald (pc' := 91) (n := 24) (f := u 9) C 5 0 (by rfl) rfl (vp_of (by omega) (by omega)) (k := (u 17 n).toNatClampNeg) rfl dX1_scrap_90 rfl ?_
          refine g_iast (pc' := 92) (n := 24) (f := u 9) C 5 0 (by rfl) rfl (vp_of (by omega) (by omega)) (k := (u 17 n).toNatClampNeg) rfl dX1_scrap_91 rfl (wM_set cI cZ a _ (k := 4) rfl) ?_
          refine g_aload_n (pc' := 93) (q := 1) C dX1_scrap_92 rfl rfl rfl ?_
          refine g_iload_n (pc' := 94) (q := 0) C dX1_scrap_93 rfl rfl rfl ?_
          refine g_calliV (pc' := 97) (As := [.int (u 17 n)]) (st := []) (cells' := 0) (slots' := 0) C (c_X1_count _ (u 17 n) (by show 0 ≤ (u 0 15).toInt ∧ (u 0 15).toInt ≤ 60; omega)) gX1_scrap_X1_count rfl (by decide +kernel) ⟨Nat.le_of_ble_eq_true rfl, Nat.le_of_ble_eq_true rfl⟩ 0 (by rfl) rfl (n := 1) rfl rfl (Nat.le_of_ble_eq_true rfl) dX1_scrap_94 rfl rfl rfl ⟨Nat.le_of_ble_eq_true rfl, Nat.le_of_ble_eq_true rfl⟩ (fun r_11 u_11 h_12 => ?_)
          obtain ⟨rfl, h_12⟩ := h_12
          refine g_st h_12 ?_
          exact g_iret C hr rfl (Or.inr ⟨n, rfl, by omega, Or.inr ⟨by omega, rfl, by unfold scM; (repeat' split) <;> first | rfl | contradiction⟩⟩) dX1_scrap_97
        · skip
          refine g_iconst (pc' := 82) (v := 3) C dX1_scrap_81 rfl (by decide) ?_
          refine g_goto (tgt := 91) C dX1_scrap_82 (by decide) ?_
          refine g_iast (pc' := 92) (n := 24) (f := u 9) C 5 0 (by rfl) rfl (vp_of (by omega) (by omega)) (k := (u 17 n).toNatClampNeg) rfl dX1_scrap_91 rfl (wM_set cI cZ a _ (k := 4) rfl) ?_
          refine g_aload_n (pc' := 93) (q := 1) C dX1_scrap_92 rfl rfl rfl ?_
          refine g_iload_n (pc' := 94) (q := 0) C dX1_scrap_93 rfl rfl rfl ?_
          refine g_calliV (pc' := 97) (As := [.int (u 17 n)]) (st := []) (cells' := 0) (slots' := 0) C (c_X1_count _ (u 17 n) (by show 0 ≤ (u 0 15).toInt ∧ (u 0 15).toInt ≤ 60; omega)) gX1_scrap_X1_count rfl (by decide +kernel) ⟨Nat.le_of_ble_eq_true rfl, Nat.le_of_ble_eq_true rfl⟩ 0 (by rfl) rfl (n := 1) rfl rfl (Nat.le_of_ble_eq_true rfl) dX1_scrap_94 rfl rfl rfl ⟨Nat.le_of_ble_eq_true rfl, Nat.le_of_ble_eq_true rfl⟩ (fun r_13 u_13 h_14 => ?_)
          obtain ⟨rfl, h_14⟩ := h_14
          refine g_st h_14 ?_
          exact g_iret C hr rfl (Or.inr ⟨n, rfl, by omega, Or.inr ⟨by omega, rfl, by unfold scM; (repeat' split) <;> first | rfl | contradiction⟩⟩) dX1_scrap_97
      · skip
        refine g_iconst (pc' := 38) (v := 2) C dX1_scrap_37 rfl (by decide) ?_
        refine g_goto (tgt := 42) C dX1_scrap_38 (by decide) ?_
        refine g_putI (pc' := 45) C FM tyX1 tyX1_ok nmX1 0 (by rfl) rfl 0 (by decide) (by decide +kernel) rfl rfl rfl (Nat.le_of_ble_eq_true rfl) dX1_scrap_42 rfl (wM_put cI cZ a _ (f := (upd (u 0) 0 (2))) rfl) ?_
        refine g_aload_n (pc' := 46) (q := 0) C dX1_scrap_45 rfl rfl rfl ?_
        refine g_get (pc' := 49) (v := .int 2) C FM 0 (by rfl) rfl 0 (by decide) (by decide +kernel) rfl (by rfl) dX1_scrap_46 rfl ?_
        refine g_if_le (tgt := 54) (pc' := 52) C dX1_scrap_49 rfl (by decide) (fun h => absurd h (by decide)) (fun _ => ?_)
        refine g_iconst (pc' := 53) (v := 0) C dX1_scrap_52 rfl (by decide) ?_
        exact g_iret C hr rfl (Or.inr ⟨n, rfl, by omega, Or.inl ⟨by omega, rfl⟩⟩) dX1_scrap_53
  · skip
    refine g_iconst (pc' := 10) (v := 1) C dX1_scrap_9 rfl (by decide) ?_
    refine g_goto (tgt := 42) C dX1_scrap_10 (by decide) ?_
    refine g_putI (pc' := 45) C FM tyX1 tyX1_ok nmX1 0 (by rfl) rfl 0 (by decide) (by decide +kernel) rfl rfl rfl (Nat.le_of_ble_eq_true rfl) dX1_scrap_42 rfl (wM_put cI cZ a _ (f := (upd (u 0) 0 (1))) rfl) ?_
    refine g_aload_n (pc' := 46) (q := 0) C dX1_scrap_45 rfl rfl rfl ?_
    refine g_get (pc' := 49) (v := .int 1) C FM 0 (by rfl) rfl 0 (by decide) (by decide +kernel) rfl (by rfl) dX1_scrap_46 rfl ?_
    refine g_if_le (tgt := 54) (pc' := 52) C dX1_scrap_49 rfl (by decide) (fun h => absurd h (by decide)) (fun _ => ?_)
    refine g_iconst (pc' := 53) (v := 0) C dX1_scrap_52 rfl (by decide) ?_
    exact g_iret C hr rfl (Or.inl ⟨by omega, rfl⟩) dX1_scrap_53
set_option maxHeartbeats 4000000 in
set_option maxRecDepth 100000 in
theorem c_X1_time {l : Launch} {D : va_G} {cI cZ cQ : ClassId} {a : Nat → Nat} (u : LU) : KI l yX1_time wsX1_time ({ frames := 0, cells := 0, slots := 0, locals := 0 } : Room) D (tyX cI cZ cQ) (wM cI cZ a) [.ref (a 0)] u (fun (r : Int32) (u' : LU) => r = u 0 1 ∧ u' = thM u 0) := by
  refine ent_I (own := RX1) (maxL := 1) (cc := cX1_time) (L0 := [(0, .ref (a 0))]) (by decide) rfl (wM_ok _ _ _) rfl (Nat.le_of_ble_eq_true rfl) rfl ?_
  intro p e s m args below meth c A C hr
  have FM : ∀ w ∈ wsX10, w.before args s = true := fun w h => C.2.2.2.2.1 w ((by decide +kernel : ∀ w ∈ wsX10, w ∈ wsX1_time) w h)
  refine g_aload_n (pc' := 1) (q := 0) C dX1_time_0 rfl rfl rfl ?_
  refine g_iconst (pc' := 2) (v := 0) C dX1_time_1 rfl (by decide) ?_
  refine g_putI (pc' := 5) C FM tyX1 tyX1_ok nmX1 0 (by rfl) rfl 0 (by decide) (by decide +kernel) rfl rfl rfl (Nat.le_of_ble_eq_true rfl) dX1_time_2 rfl (wM_put cI cZ a _ (f := (upd (u 0) 0 (0))) rfl) ?_
  refine g_aload_n (pc' := 6) (q := 0) C dX1_time_5 rfl rfl rfl ?_
  refine g_get (pc' := 9) (v := .int (u 0 1)) C FM 0 (by rfl) rfl 1 (by decide) (by decide +kernel) rfl (by rfl) dX1_time_6 rfl ?_
  exact g_iret C hr rfl ⟨rfl, rfl⟩ dX1_time_9
set_option maxHeartbeats 4000000 in
set_option maxRecDepth 100000 in
theorem c_X1_lots {l : Launch} {D : va_G} {cI cZ cQ : ClassId} {a : Nat → Nat} (u : LU) : KI l yX1_lots wsX1_lots ({ frames := 0, cells := 0, slots := 0, locals := 0 } : Room) D (tyX cI cZ cQ) (wM cI cZ a) [.ref (a 0)] u (fun (r : Int32) (u' : LU) => r = u 0 7 ∧ u' = thM u 0) := by
  refine ent_I (own := RX1) (maxL := 1) (cc := cX1_lots) (L0 := [(0, .ref (a 0))]) (by decide) rfl (wM_ok _ _ _) rfl (Nat.le_of_ble_eq_true rfl) rfl ?_
  intro p e s m args below meth c A C hr
  have FM : ∀ w ∈ wsX10, w.before args s = true := fun w h => C.2.2.2.2.1 w ((by decide +kernel : ∀ w ∈ wsX10, w ∈ wsX1_lots) w h)
  refine g_aload_n (pc' := 1) (q := 0) C dX1_lots_0 rfl rfl rfl ?_
  refine g_iconst (pc' := 2) (v := 0) C dX1_lots_1 rfl (by decide) ?_
  refine g_putI (pc' := 5) C FM tyX1 tyX1_ok nmX1 0 (by rfl) rfl 0 (by decide) (by decide +kernel) rfl rfl rfl (Nat.le_of_ble_eq_true rfl) dX1_lots_2 rfl (wM_put cI cZ a _ (f := (upd (u 0) 0 (0))) rfl) ?_
  refine g_aload_n (pc' := 6) (q := 0) C dX1_lots_5 rfl rfl rfl ?_
  refine g_get (pc' := 9) (v := .int (u 0 7)) C FM 0 (by rfl) rfl 7 (by decide) (by decide +kernel) rfl (by rfl) dX1_lots_6 rfl ?_
  exact g_iret C hr rfl ⟨rfl, rfl⟩ dX1_lots_9
set_option maxHeartbeats 4000000 in
set_option maxRecDepth 100000 in
theorem c_X1_wafers {l : Launch} {D : va_G} {cI cZ cQ : ClassId} {a : Nat → Nat} (u : LU) : KI l yX1_wafers wsX1_wafers ({ frames := 0, cells := 0, slots := 0, locals := 0 } : Room) D (tyX cI cZ cQ) (wM cI cZ a) [.ref (a 0)] u (fun (r : Int32) (u' : LU) => r = u 0 15 ∧ u' = thM u 0) := by
  refine ent_I (own := RX1) (maxL := 1) (cc := cX1_wafers) (L0 := [(0, .ref (a 0))]) (by decide) rfl (wM_ok _ _ _) rfl (Nat.le_of_ble_eq_true rfl) rfl ?_
  intro p e s m args below meth c A C hr
  have FM : ∀ w ∈ wsX10, w.before args s = true := fun w h => C.2.2.2.2.1 w ((by decide +kernel : ∀ w ∈ wsX10, w ∈ wsX1_wafers) w h)
  refine g_aload_n (pc' := 1) (q := 0) C dX1_wafers_0 rfl rfl rfl ?_
  refine g_iconst (pc' := 2) (v := 0) C dX1_wafers_1 rfl (by decide) ?_
  refine g_putI (pc' := 5) C FM tyX1 tyX1_ok nmX1 0 (by rfl) rfl 0 (by decide) (by decide +kernel) rfl rfl rfl (Nat.le_of_ble_eq_true rfl) dX1_wafers_2 rfl (wM_put cI cZ a _ (f := (upd (u 0) 0 (0))) rfl) ?_
  refine g_aload_n (pc' := 6) (q := 0) C dX1_wafers_5 rfl rfl rfl ?_
  refine g_get (pc' := 9) (v := .int (u 0 15)) C FM 0 (by rfl) rfl 15 (by decide) (by decide +kernel) rfl (by rfl) dX1_wafers_6 rfl ?_
  exact g_iret C hr rfl ⟨rfl, rfl⟩ dX1_wafers_9
set_option maxHeartbeats 4000000 in
set_option maxRecDepth 100000 in
theorem c_X1_told {l : Launch} {D : va_G} {cI cZ cQ : ClassId} {a : Nat → Nat} (u : LU) (j q0 : Nat) (x : Int32) (hj : (arM cI cZ)[q0]? = some (j, cI, 24)) (hj0 : ¬ j = 0) (hL7 : 0 ≤ (u 0 7).toInt ∧ (u 0 7).toInt ≤ 24) : KI l yX1_told wsX1_told ({ frames := 2, cells := 0, slots := 0, locals := 43 } : Room) D (tyX cI cZ cQ) (wM cI cZ a) [.ref (a 0), .ref (a j), .int x] u (fun (r : Int32) (u' : LU) => ((0 ≤ x.toInt ∧ x.toInt < (u 0 7).toInt) ∧ r = u j x.toNatClampNeg ∧ u' = thM u 0) ∨ (¬ (0 ≤ x.toInt ∧ x.toInt < (u 0 7).toInt) ∧ u' = thM (thM u 0) 1)) := by
  refine ent_I (own := RX1) (maxL := 3) (cc := cX1_told) (L0 := [(0, .ref (a 0)), (1, .ref (a j)), (2, .int x)]) (by decide) rfl (wM_ok _ _ _) rfl (Nat.le_of_ble_eq_true rfl) rfl ?_
  intro p e s m args below meth c A C hr
  have FM : ∀ w ∈ wsX10, w.before args s = true := fun w h => C.2.2.2.2.1 w ((by decide +kernel : ∀ w ∈ wsX10, w ∈ wsX1_told) w h)
  refine g_aload_n (pc' := 1) (q := 0) C dX1_told_0 rfl rfl rfl ?_
  refine g_iconst (pc' := 2) (v := 0) C dX1_told_1 rfl (by decide) ?_
  refine g_putI (pc' := 5) C FM tyX1 tyX1_ok nmX1 0 (by rfl) rfl 0 (by decide) (by decide +kernel) rfl rfl rfl (Nat.le_of_ble_eq_true rfl) dX1_told_2 rfl (wM_put cI cZ a _ (f := (upd (u 0) 0 (0))) rfl) ?_
  refine g_aload_n (pc' := 6) (q := 0) C dX1_told_5 rfl rfl rfl ?_
  refine g_iload_n (pc' := 7) (q := 2) C dX1_told_6 rfl rfl rfl ?_
  refine g_calliV (pc' := 10) (As := [.int x]) (st := []) (cells' := 0) (slots' := 0) C (c_X1_isLot _ x (by show 0 ≤ (u 0 7).toInt; omega)) gX1_told_X1_isLot rfl (by decide +kernel) ⟨Nat.le_of_ble_eq_true rfl, Nat.le_of_ble_eq_true rfl⟩ 0 (by rfl) rfl (n := 1) rfl rfl (Nat.le_of_ble_eq_true rfl) dX1_told_7 rfl rfl rfl ⟨Nat.le_of_ble_eq_true rfl, Nat.le_of_ble_eq_true rfl⟩ (fun r_1 u_1 h_2 => ?_)
  obtain ⟨rfl, h_2⟩ := h_2
  refine g_st h_2 ?_
  refine g_ifP_eq (tgt := 19) (pc' := 13) C dX1_told_10 rfl (by decide) (fun (c_3 : ¬ (0 ≤ x.toInt ∧ x.toInt < (u 0 7).toInt)) => ?_) (fun (c_3 : 0 ≤ x.toInt ∧ x.toInt < (u 0 7).toInt) => ?_)
  · skip
    refine g_aload_n (pc' := 20) (q := 0) C dX1_told_19 rfl rfl rfl ?_
    refine g_iconst (pc' := 21) (v := 1) C dX1_told_20 rfl (by decide) ?_
    refine g_calliV (pc' := 24) (As := [.int 1]) (st := []) (cells' := 0) (slots' := 0) C (c_X1_fails _ 1) gX1_told_X1_fails rfl (by decide +kernel) ⟨Nat.le_of_ble_eq_true rfl, Nat.le_of_ble_eq_true rfl⟩ 0 (by rfl) rfl (n := 1) rfl rfl (Nat.le_of_ble_eq_true rfl) dX1_told_21 rfl rfl rfl ⟨Nat.le_of_ble_eq_true rfl, Nat.le_of_ble_eq_true rfl⟩ (fun r_4 u_4 h_5 => ?_)
    obtain ⟨rfl, h_5⟩ := h_5
    exact g_iret C hr rfl (Or.inr ⟨by omega, by assumption⟩) dX1_told_24
  · skip
    refine g_aload_n (pc' := 14) (q := 1) C dX1_told_13 rfl rfl rfl ?_
    refine g_iload_n (pc' := 15) (q := 2) C dX1_told_14 rfl rfl rfl ?_
    refine g_iald (pc' := 16) (n := 24) (f := thM u 0 j) C (q0 + 1) 0 (wM_get cI cZ a _ hj) rfl (vp_of (by omega) (by omega)) (k := x.toNatClampNeg) rfl dX1_told_15 rfl ?_
    refine g_goto (tgt := 24) C dX1_told_16 (by decide) ?_
    exact g_iret C hr rfl (Or.inl ⟨by omega, by unfold thM; rw [up_n _ _ _ hj0], rfl⟩) dX1_told_24
set_option maxHeartbeats 4000000 in
set_option maxRecDepth 100000 in
theorem c_X1_state {l : Launch} {D : va_G} {cI cZ cQ : ClassId} {a : Nat → Nat} (u : LU) (x : Int32) (hI : IM u) : KI l yX1_state wsX1_state ({ frames := 3, cells := 0, slots := 0, locals := 65 } : Room) D (tyX cI cZ cQ) (wM cI cZ a) [.ref (a 0), .int x] u (fun (r : Int32) (u' : LU) => ((0 ≤ x.toInt ∧ x.toInt < (u 0 7).toInt) ∧ r = u 9 x.toNatClampNeg ∧ u' = thM u 0) ∨ (¬ (0 ≤ x.toInt ∧ x.toInt < (u 0 7).toInt) ∧ u' = thM (thM u 0) 1)) := by
  refine ent_I (own := RX1) (maxL := 2) (cc := cX1_state) (L0 := [(0, .ref (a 0)), (1, .int x)]) (by decide) rfl (wM_ok _ _ _) rfl (Nat.le_of_ble_eq_true rfl) rfl ?_
  intro p e s m args below meth c A C hr
  have FM : ∀ w ∈ wsX10, w.before args s = true := fun w h => C.2.2.2.2.1 w ((by decide +kernel : ∀ w ∈ wsX10, w ∈ wsX1_state) w h)
  obtain ⟨hS2, hL7, hW15, hT10, hZ13, hP18, hO17, hR15⟩ := id hI
  refine g_aload_n (pc' := 1) (q := 0) C dX1_state_0 rfl rfl rfl ?_
  refine g_aload_n (pc' := 2) (q := 0) C dX1_state_1 rfl rfl rfl ?_
  refine g_get (pc' := 5) (v := .ref (a 9)) C FM 0 (by rfl) rfl 8 (by decide) (by decide +kernel) rfl (by rfl) dX1_state_2 rfl ?_
  refine g_iload_n (pc' := 6) (q := 1) C dX1_state_5 rfl rfl rfl ?_
  refine g_calliV (pc' := 9) (As := [.ref (a 9), .int x]) (st := []) (cells' := 0) (slots' := 0) C (c_X1_told _ 9 4 x rfl (by decide) hL7) gX1_state_X1_told rfl (by decide +kernel) ⟨Nat.le_of_ble_eq_true rfl, Nat.le_of_ble_eq_true rfl⟩ 0 (by rfl) rfl (n := 2) rfl rfl (Nat.le_of_ble_eq_true rfl) dX1_state_6 rfl rfl rfl ⟨Nat.le_of_ble_eq_true rfl, Nat.le_of_ble_eq_true rfl⟩ (fun r_1 u_1 h_2 => ?_)
  exact g_iret C hr rfl (by assumption) dX1_state_9
set_option maxHeartbeats 4000000 in
set_option maxRecDepth 100000 in
theorem c_X1_reworks {l : Launch} {D : va_G} {cI cZ cQ : ClassId} {a : Nat → Nat} (u : LU) (x : Int32) (hI : IM u) : KI l yX1_reworks wsX1_reworks ({ frames := 3, cells := 0, slots := 0, locals := 65 } : Room) D (tyX cI cZ cQ) (wM cI cZ a) [.ref (a 0), .int x] u (fun (r : Int32) (u' : LU) => ((0 ≤ x.toInt ∧ x.toInt < (u 0 7).toInt) ∧ r = u 14 x.toNatClampNeg ∧ u' = thM u 0) ∨ (¬ (0 ≤ x.toInt ∧ x.toInt < (u 0 7).toInt) ∧ u' = thM (thM u 0) 1)) := by
  refine ent_I (own := RX1) (maxL := 2) (cc := cX1_reworks) (L0 := [(0, .ref (a 0)), (1, .int x)]) (by decide) rfl (wM_ok _ _ _) rfl (Nat.le_of_ble_eq_true rfl) rfl ?_
  intro p e s m args below meth c A C hr
  have FM : ∀ w ∈ wsX10, w.before args s = true := fun w h => C.2.2.2.2.1 w ((by decide +kernel : ∀ w ∈ wsX10, w ∈ wsX1_reworks) w h)
  obtain ⟨hS2, hL7, hW15, hT10, hZ13, hP18, hO17, hR15⟩ := id hI
  refine g_aload_n (pc' := 1) (q := 0) C dX1_reworks_0 rfl rfl rfl ?_
  refine g_aload_n (pc' := 2) (q := 0) C dX1_reworks_1 rfl rfl rfl ?_
  refine g_get (pc' := 5) (v := .ref (a 14)) C FM 0 (by rfl) rfl 13 (by decide) (by decide +kernel) rfl (by rfl) dX1_reworks_2 rfl ?_
  refine g_iload_n (pc' := 6) (q := 1) C dX1_reworks_5 rfl rfl rfl ?_
  refine g_calliV (pc' := 9) (As := [.ref (a 14), .int x]) (st := []) (cells' := 0) (slots' := 0) C (c_X1_told _ 14 9 x rfl (by decide) hL7) gX1_reworks_X1_told rfl (by decide +kernel) ⟨Nat.le_of_ble_eq_true rfl, Nat.le_of_ble_eq_true rfl⟩ 0 (by rfl) rfl (n := 2) rfl rfl (Nat.le_of_ble_eq_true rfl) dX1_reworks_6 rfl rfl rfl ⟨Nat.le_of_ble_eq_true rfl, Nat.le_of_ble_eq_true rfl⟩ (fun r_1 u_1 h_2 => ?_)
  exact g_iret C hr rfl (by assumption) dX1_reworks_9
set_option maxHeartbeats 4000000 in
set_option maxRecDepth 100000 in
theorem c_X1_parentOf {l : Launch} {D : va_G} {cI cZ cQ : ClassId} {a : Nat → Nat} (u : LU) (x : Int32) (hI : IM u) : KI l yX1_parentOf wsX1_parentOf ({ frames := 3, cells := 0, slots := 0, locals := 65 } : Room) D (tyX cI cZ cQ) (wM cI cZ a) [.ref (a 0), .int x] u (fun (r : Int32) (u' : LU) => ((0 ≤ x.toInt ∧ x.toInt < (u 0 7).toInt) ∧ r = u 15 x.toNatClampNeg ∧ u' = thM u 0) ∨ (¬ (0 ≤ x.toInt ∧ x.toInt < (u 0 7).toInt) ∧ u' = thM (thM u 0) 1)) := by
  refine ent_I (own := RX1) (maxL := 2) (cc := cX1_parentOf) (L0 := [(0, .ref (a 0)), (1, .int x)]) (by decide) rfl (wM_ok _ _ _) rfl (Nat.le_of_ble_eq_true rfl) rfl ?_
  intro p e s m args below meth c A C hr
  have FM : ∀ w ∈ wsX10, w.before args s = true := fun w h => C.2.2.2.2.1 w ((by decide +kernel : ∀ w ∈ wsX10, w ∈ wsX1_parentOf) w h)
  obtain ⟨hS2, hL7, hW15, hT10, hZ13, hP18, hO17, hR15⟩ := id hI
  refine g_aload_n (pc' := 1) (q := 0) C dX1_parentOf_0 rfl rfl rfl ?_
  refine g_aload_n (pc' := 2) (q := 0) C dX1_parentOf_1 rfl rfl rfl ?_
  refine g_get (pc' := 5) (v := .ref (a 15)) C FM 0 (by rfl) rfl 14 (by decide) (by decide +kernel) rfl (by rfl) dX1_parentOf_2 rfl ?_
  refine g_iload_n (pc' := 6) (q := 1) C dX1_parentOf_5 rfl rfl rfl ?_
  refine g_calliV (pc' := 9) (As := [.ref (a 15), .int x]) (st := []) (cells' := 0) (slots' := 0) C (c_X1_told _ 15 10 x rfl (by decide) hL7) gX1_parentOf_X1_told rfl (by decide +kernel) ⟨Nat.le_of_ble_eq_true rfl, Nat.le_of_ble_eq_true rfl⟩ 0 (by rfl) rfl (n := 2) rfl rfl (Nat.le_of_ble_eq_true rfl) dX1_parentOf_6 rfl rfl rfl ⟨Nat.le_of_ble_eq_true rfl, Nat.le_of_ble_eq_true rfl⟩ (fun r_1 u_1 h_2 => ?_)
  exact g_iret C hr rfl (by assumption) dX1_parentOf_9
set_option maxHeartbeats 4000000 in
set_option maxRecDepth 100000 in
theorem c_X1_stepOf {l : Launch} {D : va_G} {cI cZ cQ : ClassId} {a : Nat → Nat} (u : LU) (x : Int32) (hI : IM u) : KI l yX1_stepOf wsX1_stepOf ({ frames := 3, cells := 0, slots := 0, locals := 65 } : Room) D (tyX cI cZ cQ) (wM cI cZ a) [.ref (a 0), .int x] u (fun (r : Int32) (u' : LU) => ((0 ≤ x.toInt ∧ x.toInt < (u 0 7).toInt) ∧ r = (if (u 9 x.toNatClampNeg).toInt ≤ 1 then u 10 x.toNatClampNeg else -1) ∧ u' = thM u 0) ∨ (¬ (0 ≤ x.toInt ∧ x.toInt < (u 0 7).toInt) ∧ u' = thM (thM u 0) 1)) := by
  refine ent_I (own := RX1) (maxL := 3) (cc := cX1_stepOf) (L0 := [(0, .ref (a 0)), (1, .int x)]) (by decide) rfl (wM_ok _ _ _) rfl (Nat.le_of_ble_eq_true rfl) rfl ?_
  intro p e s m args below meth c A C hr
  have FM : ∀ w ∈ wsX10, w.before args s = true := fun w h => C.2.2.2.2.1 w ((by decide +kernel : ∀ w ∈ wsX10, w ∈ wsX1_stepOf) w h)
  obtain ⟨hS2, hL7, hW15, hT10, hZ13, hP18, hO17, hR15⟩ := id hI
  refine g_aload_n (pc' := 1) (q := 0) C dX1_stepOf_0 rfl rfl rfl ?_
  refine g_aload_n (pc' := 2) (q := 0) C dX1_stepOf_1 rfl rfl rfl ?_
  refine g_get (pc' := 5) (v := .ref (a 10)) C FM 0 (by rfl) rfl 9 (by decide) (by decide +kernel) rfl (by rfl) dX1_stepOf_2 rfl ?_
  refine g_iload_n (pc' := 6) (q := 1) C dX1_stepOf_5 rfl rfl rfl ?_
  refine g_calliV (pc' := 9) (As := [.ref (a 10), .int x]) (st := []) (cells' := 0) (slots' := 0) C (c_X1_told _ 10 5 x rfl (by decide) hL7) gX1_stepOf_X1_told rfl (by decide +kernel) ⟨Nat.le_of_ble_eq_true rfl, Nat.le_of_ble_eq_true rfl⟩ 0 (by rfl) rfl (n := 2) rfl rfl (Nat.le_of_ble_eq_true rfl) dX1_stepOf_6 rfl rfl rfl ⟨Nat.le_of_ble_eq_true rfl, Nat.le_of_ble_eq_true rfl⟩ (fun r_1 u_1 h_2 => ?_)
  have ht0 : ((u_1 0 0).toInt = 0 ∧ 0 ≤ x.toInt ∧ x.toInt < (u 0 7).toInt) ∨ ((u_1 0 0).toInt = 1 ∧ ¬ (0 ≤ x.toInt ∧ x.toInt < (u 0 7).toInt)) := by
    rcases h_2 with ⟨hv9, hr9, hu9⟩ | ⟨hv9, hu9⟩
    · exact Or.inl ⟨by rw [hu9]; rfl, hv9⟩
    · exact Or.inr ⟨by rw [hu9]; rfl, hv9⟩
  have h9 : u_1 9 = u 9 := by
    rcases h_2 with ⟨hv9, hr9, hu9⟩ | ⟨hv9, hu9⟩ <;> rw [hu9] <;> rfl
  refine g_istore_n (pc' := 10) (L' := [(2, .int r_1), (0, .ref (a 0)), (1, .int x)]) C dX1_stepOf_9 rfl rfl (by decide) rfl ?_
  refine g_aload_n (pc' := 11) (q := 1) C dX1_stepOf_10 rfl rfl rfl ?_
  refine g_get (pc' := 14) (v := .int (u_1 0 0)) C FM 0 (by rfl) rfl 0 (by decide) (by decide +kernel) rfl (by rfl) dX1_stepOf_11 rfl ?_
  refine g_if_ne (tgt := 31) (pc' := 17) C dX1_stepOf_14 rfl (by decide) (fun (c_3 : ¬ (u_1 0 0).toInt = 0) => ?_) (fun (c_3 : (u_1 0 0).toInt = 0) => ?_)
  · skip
    refine g_iload_n (pc' := 32) (q := 0) C dX1_stepOf_31 rfl rfl rfl ?_
    exact g_iret C hr rfl (by rw [h9] at *; rcases h_2 with ⟨hv9, hr9, hu9⟩ | ⟨hv9, hu9⟩ <;> first | exact Or.inl ⟨hv9, by first | (rw [if_pos (by omega)]; exact hr9) | (rw [if_neg (by omega)]; done) , hu9⟩ | exact Or.inr ⟨hv9, hu9⟩ | (exfalso; omega)) dX1_stepOf_32
  · skip
    refine g_aload_n (pc' := 18) (q := 1) C dX1_stepOf_17 rfl rfl rfl ?_
    refine g_get (pc' := 21) (v := .ref (a 9)) C FM 0 (by rfl) rfl 8 (by decide) (by decide +kernel) rfl (by rfl) dX1_stepOf_18 rfl ?_
    refine g_iload_n (pc' := 22) (q := 2) C dX1_stepOf_21 rfl rfl rfl ?_
    refine g_iald (pc' := 23) (n := 24) (f := u_1 9) C 5 0 (by rfl) rfl (vp_of (by omega) (by omega)) (k := x.toNatClampNeg) rfl dX1_stepOf_22 rfl ?_
    refine g_iconst (pc' := 24) (v := 1) C dX1_stepOf_23 rfl (by decide) ?_
    refine g_icmp_le (tgt := 31) (pc' := 27) C dX1_stepOf_24 rfl (by decide) (fun (c_4 : (u_1 9 x.toNatClampNeg).toInt ≤ 1) => ?_) (fun (c_4 : ¬ ((u_1 9 x.toNatClampNeg).toInt ≤ 1)) => ?_)
    · skip
      refine g_iload_n (pc' := 32) (q := 0) C dX1_stepOf_31 rfl rfl rfl ?_
      exact g_iret C hr rfl (by rw [h9] at *; rcases h_2 with ⟨hv9, hr9, hu9⟩ | ⟨hv9, hu9⟩ <;> first | exact Or.inl ⟨hv9, by first | (rw [if_pos (by omega)]; exact hr9) | (rw [if_neg (by omega)]; done) , hu9⟩ | exact Or.inr ⟨hv9, hu9⟩ | (exfalso; omega)) dX1_stepOf_32
    · skip
      refine g_iconst (pc' := 28) (v := (-1)) C dX1_stepOf_27 rfl (by decide) ?_
      refine g_goto (tgt := 32) C dX1_stepOf_28 (by decide) ?_
      exact g_iret C hr rfl (by rw [h9] at *; rcases h_2 with ⟨hv9, hr9, hu9⟩ | ⟨hv9, hu9⟩ <;> first | exact Or.inl ⟨hv9, by first | (rw [if_pos (by omega)]; exact hr9) | (rw [if_neg (by omega)]; done) , hu9⟩ | exact Or.inr ⟨hv9, hu9⟩ | (exfalso; omega)) dX1_stepOf_32
set_option maxHeartbeats 4000000 in
set_option maxRecDepth 100000 in
theorem c_X1_size {l : Launch} {D : va_G} {cI cZ cQ : ClassId} {a : Nat → Nat} (u : LU) (x : Int32) (hI : IM u) : KI l yX1_size wsX1_size ({ frames := 2, cells := 0, slots := 0, locals := 43 } : Room) D (tyX cI cZ cQ) (wM cI cZ a) [.ref (a 0), .int x] u (fun (r : Int32) (u' : LU) => ((0 ≤ x.toInt ∧ x.toInt < (u 0 7).toInt) ∧ r = nI (ctA (u 17) x (u 0 15).toInt.toNat) ∧ u' = thM u 0) ∨ (¬ (0 ≤ x.toInt ∧ x.toInt < (u 0 7).toInt) ∧ u' = thM (thM u 0) 1)) := by
  refine ent_I (own := RX1) (maxL := 2) (cc := cX1_size) (L0 := [(0, .ref (a 0)), (1, .int x)]) (by decide) rfl (wM_ok _ _ _) rfl (Nat.le_of_ble_eq_true rfl) rfl ?_
  intro p e s m args below meth c A C hr
  have FM : ∀ w ∈ wsX10, w.before args s = true := fun w h => C.2.2.2.2.1 w ((by decide +kernel : ∀ w ∈ wsX10, w ∈ wsX1_size) w h)
  obtain ⟨hS2, hL7, hW15, hT10, hZ13, hP18, hO17, hR15⟩ := id hI
  refine g_aload_n (pc' := 1) (q := 0) C dX1_size_0 rfl rfl rfl ?_
  refine g_iconst (pc' := 2) (v := 0) C dX1_size_1 rfl (by decide) ?_
  refine g_putI (pc' := 5) C FM tyX1 tyX1_ok nmX1 0 (by rfl) rfl 0 (by decide) (by decide +kernel) rfl rfl rfl (Nat.le_of_ble_eq_true rfl) dX1_size_2 rfl (wM_put cI cZ a _ (f := (upd (u 0) 0 (0))) rfl) ?_
  refine g_aload_n (pc' := 6) (q := 0) C dX1_size_5 rfl rfl rfl ?_
  refine g_iload_n (pc' := 7) (q := 1) C dX1_size_6 rfl rfl rfl ?_
  refine g_calliV (pc' := 10) (As := [.int x]) (st := []) (cells' := 0) (slots' := 0) C (c_X1_isLot _ x (by show 0 ≤ (u 0 7).toInt; omega)) gX1_size_X1_isLot rfl (by decide +kernel) ⟨Nat.le_of_ble_eq_true rfl, Nat.le_of_ble_eq_true rfl⟩ 0 (by rfl) rfl (n := 1) rfl rfl (Nat.le_of_ble_eq_true rfl) dX1_size_7 rfl rfl rfl ⟨Nat.le_of_ble_eq_true rfl, Nat.le_of_ble_eq_true rfl⟩ (fun r_1 u_1 h_2 => ?_)
  obtain ⟨rfl, h_2⟩ := h_2
  refine g_st h_2 ?_
  refine g_ifP_eq (tgt := 21) (pc' := 13) C dX1_size_10 rfl (by decide) (fun (c_3 : ¬ (0 ≤ x.toInt ∧ x.toInt < (u 0 7).toInt)) => ?_) (fun (c_3 : 0 ≤ x.toInt ∧ x.toInt < (u 0 7).toInt) => ?_)
  · skip
    refine g_aload_n (pc' := 22) (q := 0) C dX1_size_21 rfl rfl rfl ?_
    refine g_iconst (pc' := 23) (v := 1) C dX1_size_22 rfl (by decide) ?_
    refine g_calliV (pc' := 26) (As := [.int 1]) (st := []) (cells' := 0) (slots' := 0) C (c_X1_fails _ 1) gX1_size_X1_fails rfl (by decide +kernel) ⟨Nat.le_of_ble_eq_true rfl, Nat.le_of_ble_eq_true rfl⟩ 0 (by rfl) rfl (n := 1) rfl rfl (Nat.le_of_ble_eq_true rfl) dX1_size_23 rfl rfl rfl ⟨Nat.le_of_ble_eq_true rfl, Nat.le_of_ble_eq_true rfl⟩ (fun r_4 u_4 h_5 => ?_)
    obtain ⟨rfl, h_5⟩ := h_5
    exact g_iret C hr rfl (Or.inr ⟨by omega, by assumption⟩) dX1_size_26
  · skip
    refine g_aload_n (pc' := 14) (q := 0) C dX1_size_13 rfl rfl rfl ?_
    refine g_iload_n (pc' := 15) (q := 1) C dX1_size_14 rfl rfl rfl ?_
    refine g_calliV (pc' := 18) (As := [.int x]) (st := []) (cells' := 0) (slots' := 0) C (c_X1_count _ x (by show 0 ≤ (u 0 15).toInt ∧ (u 0 15).toInt ≤ 60; omega)) gX1_size_X1_count rfl (by decide +kernel) ⟨Nat.le_of_ble_eq_true rfl, Nat.le_of_ble_eq_true rfl⟩ 0 (by rfl) rfl (n := 1) rfl rfl (Nat.le_of_ble_eq_true rfl) dX1_size_15 rfl rfl rfl ⟨Nat.le_of_ble_eq_true rfl, Nat.le_of_ble_eq_true rfl⟩ (fun r_6 u_6 h_7 => ?_)
    obtain ⟨rfl, h_7⟩ := h_7
    refine g_st h_7 ?_
    refine g_goto (tgt := 26) C dX1_size_18 (by decide) ?_
    exact g_iret C hr rfl (Or.inl ⟨by omega, rfl, rfl⟩) dX1_size_26
set_option maxHeartbeats 4000000 in
set_option maxRecDepth 100000 in
theorem c_X1_lotOf {l : Launch} {D : va_G} {cI cZ cQ : ClassId} {a : Nat → Nat} (u : LU) (x : Int32) (hI : IM u) : KI l yX1_lotOf wsX1_lotOf ({ frames := 2, cells := 0, slots := 0, locals := 43 } : Room) D (tyX cI cZ cQ) (wM cI cZ a) [.ref (a 0), .int x] u (fun (r : Int32) (u' : LU) => ((0 ≤ x.toInt ∧ x.toInt < (u 0 15).toInt) ∧ r = u 17 x.toNatClampNeg ∧ u' = thM u 0) ∨ (¬ (0 ≤ x.toInt ∧ x.toInt < (u 0 15).toInt) ∧ u' = thM (thM u 0) 1)) := by
  refine ent_I (own := RX1) (maxL := 2) (cc := cX1_lotOf) (L0 := [(0, .ref (a 0)), (1, .int x)]) (by decide) rfl (wM_ok _ _ _) rfl (Nat.le_of_ble_eq_true rfl) rfl ?_
  intro p e s m args below meth c A C hr
  have FM : ∀ w ∈ wsX10, w.before args s = true := fun w h => C.2.2.2.2.1 w ((by decide +kernel : ∀ w ∈ wsX10, w ∈ wsX1_lotOf) w h)
  obtain ⟨hS2, hL7, hW15, hT10, hZ13, hP18, hO17, hR15⟩ := id hI
  refine g_aload_n (pc' := 1) (q := 0) C dX1_lotOf_0 rfl rfl rfl ?_
  refine g_iconst (pc' := 2) (v := 0) C dX1_lotOf_1 rfl (by decide) ?_
  refine g_putI (pc' := 5) C FM tyX1 tyX1_ok nmX1 0 (by rfl) rfl 0 (by decide) (by decide +kernel) rfl rfl rfl (Nat.le_of_ble_eq_true rfl) dX1_lotOf_2 rfl (wM_put cI cZ a _ (f := (upd (u 0) 0 (0))) rfl) ?_
  refine g_aload_n (pc' := 6) (q := 0) C dX1_lotOf_5 rfl rfl rfl ?_
  refine g_iload_n (pc' := 7) (q := 1) C dX1_lotOf_6 rfl rfl rfl ?_
  refine g_calliV (pc' := 10) (As := [.int x]) (st := []) (cells' := 0) (slots' := 0) C (c_X1_isWafer _ x (by show 0 ≤ (u 0 15).toInt; omega)) gX1_lotOf_X1_isWafer rfl (by decide +kernel) ⟨Nat.le_of_ble_eq_true rfl, Nat.le_of_ble_eq_true rfl⟩ 0 (by rfl) rfl (n := 1) rfl rfl (Nat.le_of_ble_eq_true rfl) dX1_lotOf_7 rfl rfl rfl ⟨Nat.le_of_ble_eq_true rfl, Nat.le_of_ble_eq_true rfl⟩ (fun r_1 u_1 h_2 => ?_)
  obtain ⟨rfl, h_2⟩ := h_2
  refine g_st h_2 ?_
  refine g_ifP_eq (tgt := 22) (pc' := 13) C dX1_lotOf_10 rfl (by decide) (fun (c_3 : ¬ (0 ≤ x.toInt ∧ x.toInt < (u 0 15).toInt)) => ?_) (fun (c_3 : 0 ≤ x.toInt ∧ x.toInt < (u 0 15).toInt) => ?_)
  · skip
    refine g_aload_n (pc' := 23) (q := 0) C dX1_lotOf_22 rfl rfl rfl ?_
    refine g_iconst (pc' := 24) (v := 1) C dX1_lotOf_23 rfl (by decide) ?_
    refine g_calliV (pc' := 27) (As := [.int 1]) (st := []) (cells' := 0) (slots' := 0) C (c_X1_fails _ 1) gX1_lotOf_X1_fails rfl (by decide +kernel) ⟨Nat.le_of_ble_eq_true rfl, Nat.le_of_ble_eq_true rfl⟩ 0 (by rfl) rfl (n := 1) rfl rfl (Nat.le_of_ble_eq_true rfl) dX1_lotOf_24 rfl rfl rfl ⟨Nat.le_of_ble_eq_true rfl, Nat.le_of_ble_eq_true rfl⟩ (fun r_4 u_4 h_5 => ?_)
    obtain ⟨rfl, h_5⟩ := h_5
    exact g_iret C hr rfl (Or.inr ⟨by omega, by assumption⟩) dX1_lotOf_27
  · skip
    refine g_aload_n (pc' := 14) (q := 0) C dX1_lotOf_13 rfl rfl rfl ?_
    refine g_get (pc' := 17) (v := .ref (a 17)) C FM 0 (by rfl) rfl 16 (by decide) (by decide +kernel) rfl (by rfl) dX1_lotOf_14 rfl ?_
    refine g_iload_n (pc' := 18) (q := 1) C dX1_lotOf_17 rfl rfl rfl ?_
    refine g_iald (pc' := 19) (n := 60) (f := u 17) C 12 0 (by rfl) rfl (vp_of (by omega) (by omega)) (k := x.toNatClampNeg) rfl dX1_lotOf_18 rfl ?_
    refine g_goto (tgt := 27) C dX1_lotOf_19 (by decide) ?_
    exact g_iret C hr rfl (Or.inl ⟨by omega, rfl, rfl⟩) dX1_lotOf_27
set_option maxHeartbeats 4000000 in
set_option maxRecDepth 100000 in
theorem c_X1_path {l : Launch} {D : va_G} {cI cZ cQ : ClassId} {a : Nat → Nat} (u : LU) (x : Int32) (hI : IM u) : KI l yX1_path wsX1_path ({ frames := 2, cells := 0, slots := 0, locals := 43 } : Room) D (tyX cI cZ cQ) (wM cI cZ a) [.ref (a 0), .int x] u (fun (r : Int32) (u' : LU) => ((0 ≤ x.toInt ∧ x.toInt < (u 0 15).toInt) ∧ r = u 18 x.toNatClampNeg ∧ u' = thM u 0) ∨ (¬ (0 ≤ x.toInt ∧ x.toInt < (u 0 15).toInt) ∧ u' = thM (thM u 0) 1)) := by
  refine ent_I (own := RX1) (maxL := 2) (cc := cX1_path) (L0 := [(0, .ref (a 0)), (1, .int x)]) (by decide) rfl (wM_ok _ _ _) rfl (Nat.le_of_ble_eq_true rfl) rfl ?_
  intro p e s m args below meth c A C hr
  have FM : ∀ w ∈ wsX10, w.before args s = true := fun w h => C.2.2.2.2.1 w ((by decide +kernel : ∀ w ∈ wsX10, w ∈ wsX1_path) w h)
  obtain ⟨hS2, hL7, hW15, hT10, hZ13, hP18, hO17, hR15⟩ := id hI
  refine g_aload_n (pc' := 1) (q := 0) C dX1_path_0 rfl rfl rfl ?_
  refine g_iconst (pc' := 2) (v := 0) C dX1_path_1 rfl (by decide) ?_
  refine g_putI (pc' := 5) C FM tyX1 tyX1_ok nmX1 0 (by rfl) rfl 0 (by decide) (by decide +kernel) rfl rfl rfl (Nat.le_of_ble_eq_true rfl) dX1_path_2 rfl (wM_put cI cZ a _ (f := (upd (u 0) 0 (0))) rfl) ?_
  refine g_aload_n (pc' := 6) (q := 0) C dX1_path_5 rfl rfl rfl ?_
  refine g_iload_n (pc' := 7) (q := 1) C dX1_path_6 rfl rfl rfl ?_
  refine g_calliV (pc' := 10) (As := [.int x]) (st := []) (cells' := 0) (slots' := 0) C (c_X1_isWafer _ x (by show 0 ≤ (u 0 15).toInt; omega)) gX1_path_X1_isWafer rfl (by decide +kernel) ⟨Nat.le_of_ble_eq_true rfl, Nat.le_of_ble_eq_true rfl⟩ 0 (by rfl) rfl (n := 1) rfl rfl (Nat.le_of_ble_eq_true rfl) dX1_path_7 rfl rfl rfl ⟨Nat.le_of_ble_eq_true rfl, Nat.le_of_ble_eq_true rfl⟩ (fun r_1 u_1 h_2 => ?_)
  obtain ⟨rfl, h_2⟩ := h_2
  refine g_st h_2 ?_
  refine g_ifP_eq (tgt := 22) (pc' := 13) C dX1_path_10 rfl (by decide) (fun (c_3 : ¬ (0 ≤ x.toInt ∧ x.toInt < (u 0 15).toInt)) => ?_) (fun (c_3 : 0 ≤ x.toInt ∧ x.toInt < (u 0 15).toInt) => ?_)
  · skip
    refine g_aload_n (pc' := 23) (q := 0) C dX1_path_22 rfl rfl rfl ?_
    refine g_iconst (pc' := 24) (v := 1) C dX1_path_23 rfl (by decide) ?_
    refine g_calliV (pc' := 27) (As := [.int 1]) (st := []) (cells' := 0) (slots' := 0) C (c_X1_fails _ 1) gX1_path_X1_fails rfl (by decide +kernel) ⟨Nat.le_of_ble_eq_true rfl, Nat.le_of_ble_eq_true rfl⟩ 0 (by rfl) rfl (n := 1) rfl rfl (Nat.le_of_ble_eq_true rfl) dX1_path_24 rfl rfl rfl ⟨Nat.le_of_ble_eq_true rfl, Nat.le_of_ble_eq_true rfl⟩ (fun r_4 u_4 h_5 => ?_)
    obtain ⟨rfl, h_5⟩ := h_5
    exact g_iret C hr rfl (Or.inr ⟨by omega, by assumption⟩) dX1_path_27
  · skip
    refine g_aload_n (pc' := 14) (q := 0) C dX1_path_13 rfl rfl rfl ?_
    refine g_get (pc' := 17) (v := .ref (a 18)) C FM 0 (by rfl) rfl 17 (by decide) (by decide +kernel) rfl (by rfl) dX1_path_14 rfl ?_
    refine g_iload_n (pc' := 18) (q := 1) C dX1_path_17 rfl rfl rfl ?_
    refine g_iald (pc' := 19) (n := 60) (f := u 18) C 13 0 (by rfl) rfl (vp_of (by omega) (by omega)) (k := x.toNatClampNeg) rfl dX1_path_18 rfl ?_
    refine g_goto (tgt := 27) C dX1_path_19 (by decide) ?_
    exact g_iret C hr rfl (Or.inl ⟨by omega, rfl, rfl⟩) dX1_path_27
set_option maxHeartbeats 4000000 in
set_option maxRecDepth 100000 in
theorem c_X1_slack {l : Launch} {D : va_G} {cI cZ cQ : ClassId} {a : Nat → Nat} (u : LU) (x : Int32) (hI : IM u) : KI l yX1_slack wsX1_slack ({ frames := 2, cells := 0, slots := 0, locals := 43 } : Room) D (tyX cI cZ cQ) (wM cI cZ a) [.ref (a 0), .int x] u (fun (r : Int32) (u' : LU) => (¬ (0 ≤ x.toInt ∧ x.toInt < (u 0 7).toInt) ∧ u' = thM u 1) ∨ (∃ n : Nat, x = nI n ∧ (n : Int) < (u 0 7).toInt ∧ r = (if (u 9 n).toInt = 0 then lfM u n else 2000000) ∧ u' = thM u 0)) := by
  refine ent_I (own := RX1) (maxL := 2) (cc := cX1_slack) (L0 := [(0, .ref (a 0)), (1, .int x)]) (by decide) rfl (wM_ok _ _ _) rfl (Nat.le_of_ble_eq_true rfl) rfl ?_
  intro p e s m args below meth c A C hr
  have FM : ∀ w ∈ wsX10, w.before args s = true := fun w h => C.2.2.2.2.1 w ((by decide +kernel : ∀ w ∈ wsX10, w ∈ wsX1_slack) w h)
  obtain ⟨hS2, hL7, hW15, hT10, hZ13, hP18, hO17, hR15⟩ := id hI
  refine g_aload_n (pc' := 1) (q := 0) C dX1_slack_0 rfl rfl rfl ?_
  refine g_aload_n (pc' := 2) (q := 0) C dX1_slack_1 rfl rfl rfl ?_
  refine g_iload_n (pc' := 3) (q := 1) C dX1_slack_2 rfl rfl rfl ?_
  refine g_calliV (pc' := 6) (As := [.int x]) (st := [.ref (a 0)]) (cells' := 0) (slots' := 0) C (c_X1_isLot _ x (by show 0 ≤ (u 0 7).toInt; omega)) gX1_slack_X1_isLot rfl (by decide +kernel) ⟨Nat.le_of_ble_eq_true rfl, Nat.le_of_ble_eq_true rfl⟩ 0 (by rfl) rfl (n := 1) rfl rfl (Nat.le_of_ble_eq_true rfl) dX1_slack_3 rfl rfl rfl ⟨Nat.le_of_ble_eq_true rfl, Nat.le_of_ble_eq_true rfl⟩ (fun r_1 u_1 h_2 => ?_)
  obtain ⟨rfl, h_2⟩ := h_2
  refine g_st h_2 ?_
  refine g_ifP_eq (tgt := 13) (pc' := 9) C dX1_slack_6 rfl (by decide) (fun (c_3 : ¬ (0 ≤ x.toInt ∧ x.toInt < (u 0 7).toInt)) => ?_) (fun (c_3 : 0 ≤ x.toInt ∧ x.toInt < (u 0 7).toInt) => ?_)
  · skip
    refine g_iconst (pc' := 14) (v := 1) C dX1_slack_13 rfl (by decide) ?_
    refine g_putI (pc' := 17) C FM tyX1 tyX1_ok nmX1 0 (by rfl) rfl 0 (by decide) (by decide +kernel) rfl rfl rfl (Nat.le_of_ble_eq_true rfl) dX1_slack_14 rfl (wM_put cI cZ a _ (f := (upd (u 0) 0 (1))) rfl) ?_
    refine g_aload_n (pc' := 18) (q := 0) C dX1_slack_17 rfl rfl rfl ?_
    refine g_get (pc' := 21) (v := .int 1) C FM 0 (by rfl) rfl 0 (by decide) (by decide +kernel) rfl (by rfl) dX1_slack_18 rfl ?_
    refine g_if_le (tgt := 28) (pc' := 24) C dX1_slack_21 rfl (by decide) (fun h => absurd h (by decide)) (fun _ => ?_)
    refine g_iconst (pc' := 25) (v := 0) C dX1_slack_24 rfl (by decide) ?_
    refine g_goto (tgt := 47) C dX1_slack_25 (by decide) ?_
    exact g_iret C hr rfl (Or.inl ⟨by omega, rfl⟩) dX1_slack_47
  · skip
    refine g_iconst (pc' := 10) (v := 0) C dX1_slack_9 rfl (by decide) ?_
    refine g_goto (tgt := 14) C dX1_slack_10 (by decide) ?_
    refine g_putI (pc' := 17) C FM tyX1 tyX1_ok nmX1 0 (by rfl) rfl 0 (by decide) (by decide +kernel) rfl rfl rfl (Nat.le_of_ble_eq_true rfl) dX1_slack_14 rfl (wM_put cI cZ a _ (f := (upd (u 0) 0 (0))) rfl) ?_
    refine g_aload_n (pc' := 18) (q := 0) C dX1_slack_17 rfl rfl rfl ?_
    refine g_get (pc' := 21) (v := .int 0) C FM 0 (by rfl) rfl 0 (by decide) (by decide +kernel) rfl (by rfl) dX1_slack_18 rfl ?_
    refine g_if_le (tgt := 28) (pc' := 24) C dX1_slack_21 rfl (by decide) (fun _ => ?_) (fun h => absurd h (by decide))
    obtain ⟨n, hn, rfl⟩ := nI_of_ti (x := x) (n := 24) (by omega) (by omega) (by decide)
    have tn : (nI n).toInt = (n : Int) := nI_toInt (by omega)
    refine g_aload_n (pc' := 29) (q := 0) C dX1_slack_28 rfl rfl rfl ?_
    refine g_get (pc' := 32) (v := .ref (a 9)) C FM 0 (by rfl) rfl 8 (by decide) (by decide +kernel) rfl (by rfl) dX1_slack_29 rfl ?_
    refine g_iload_n (pc' := 33) (q := 1) C dX1_slack_32 rfl rfl rfl ?_
    refine g_iald (pc' := 34) (n := 24) (f := u 9) C 5 0 (by rfl) rfl (vp_in_nI (by omega) (by omega)) (k := n) (nI_clamp (by omega)) dX1_slack_33 rfl ?_
    refine g_if_ne (tgt := 45) (pc' := 37) C dX1_slack_34 rfl (by decide) (fun (c_4 : ¬ (u 9 n).toInt = 0) => ?_) (fun (c_4 : (u 9 n).toInt = 0) => ?_)
    · skip
      refine g_ldc (pc' := 47) (v := 2000000) C dX1_slack_45 rfl (by decide +kernel) ?_
      exact g_iret C hr rfl (Or.inr ⟨n, rfl, by omega, by first | (rw [if_neg (by omega)]; done) | (rw [if_neg (by omega)]; rfl), rfl⟩) dX1_slack_47
    · skip
      refine g_aload_n (pc' := 38) (q := 0) C dX1_slack_37 rfl rfl rfl ?_
      refine g_iload_n (pc' := 39) (q := 1) C dX1_slack_38 rfl rfl rfl ?_
      refine g_calliV (pc' := 42) (As := [.int (nI n)]) (st := []) (cells' := 0) (slots' := 0) C (c_X1_left _ n (by omega) (by have := hT10 n (by omega) (by omega); exact this)) gX1_slack_X1_left rfl (by decide +kernel) ⟨Nat.le_of_ble_eq_true rfl, Nat.le_of_ble_eq_true rfl⟩ 0 (by rfl) rfl (n := 1) rfl rfl (Nat.le_of_ble_eq_true rfl) dX1_slack_39 rfl rfl rfl ⟨Nat.le_of_ble_eq_true rfl, Nat.le_of_ble_eq_true rfl⟩ (fun r_5 u_5 h_6 => ?_)
      obtain ⟨rfl, h_6⟩ := h_6
      refine g_st h_6 ?_
      refine g_goto (tgt := 47) C dX1_slack_42 (by decide) ?_
      exact g_iret C hr rfl (Or.inr ⟨n, rfl, by omega, by first | (rw [if_pos (by omega)]; done) | (rw [if_pos (by omega)]; rfl), rfl⟩) dX1_slack_47
set_option maxHeartbeats 4000000 in
set_option maxRecDepth 100000 in
theorem c_X1_isLate {l : Launch} {D : va_G} {cI cZ cQ : ClassId} {a : Nat → Nat} (u : LU) (x : Int32) (hI : IM u) : KI l yX1_isLate wsX1_isLate ({ frames := 2, cells := 0, slots := 0, locals := 43 } : Room) D (tyX cI cZ cQ) (wM cI cZ a) [.ref (a 0), .int x] u (fun (r : Int32) (u' : LU) => (¬ (0 ≤ x.toInt ∧ x.toInt < (u 0 7).toInt) ∧ u' = thM u 1) ∨ (∃ n : Nat, x = nI n ∧ (n : Int) < (u 0 7).toInt ∧ r = bP (tlM u n) ∧ u' = thM u 0)) := by
  refine ent_I (own := RX1) (maxL := 2) (cc := cX1_isLate) (L0 := [(0, .ref (a 0)), (1, .int x)]) (by decide) rfl (wM_ok _ _ _) rfl (Nat.le_of_ble_eq_true rfl) rfl ?_
  intro p e s m args below meth c A C hr
  have FM : ∀ w ∈ wsX10, w.before args s = true := fun w h => C.2.2.2.2.1 w ((by decide +kernel : ∀ w ∈ wsX10, w ∈ wsX1_isLate) w h)
  obtain ⟨hS2, hL7, hW15, hT10, hZ13, hP18, hO17, hR15⟩ := id hI
  refine g_aload_n (pc' := 1) (q := 0) C dX1_isLate_0 rfl rfl rfl ?_
  refine g_aload_n (pc' := 2) (q := 0) C dX1_isLate_1 rfl rfl rfl ?_
  refine g_iload_n (pc' := 3) (q := 1) C dX1_isLate_2 rfl rfl rfl ?_
  refine g_calliV (pc' := 6) (As := [.int x]) (st := [.ref (a 0)]) (cells' := 0) (slots' := 0) C (c_X1_isLot _ x (by show 0 ≤ (u 0 7).toInt; omega)) gX1_isLate_X1_isLot rfl (by decide +kernel) ⟨Nat.le_of_ble_eq_true rfl, Nat.le_of_ble_eq_true rfl⟩ 0 (by rfl) rfl (n := 1) rfl rfl (Nat.le_of_ble_eq_true rfl) dX1_isLate_3 rfl rfl rfl ⟨Nat.le_of_ble_eq_true rfl, Nat.le_of_ble_eq_true rfl⟩ (fun r_1 u_1 h_2 => ?_)
  obtain ⟨rfl, h_2⟩ := h_2
  refine g_st h_2 ?_
  refine g_ifP_eq (tgt := 13) (pc' := 9) C dX1_isLate_6 rfl (by decide) (fun (c_3 : ¬ (0 ≤ x.toInt ∧ x.toInt < (u 0 7).toInt)) => ?_) (fun (c_3 : 0 ≤ x.toInt ∧ x.toInt < (u 0 7).toInt) => ?_)
  · skip
    refine g_iconst (pc' := 14) (v := 1) C dX1_isLate_13 rfl (by decide) ?_
    refine g_putI (pc' := 17) C FM tyX1 tyX1_ok nmX1 0 (by rfl) rfl 0 (by decide) (by decide +kernel) rfl rfl rfl (Nat.le_of_ble_eq_true rfl) dX1_isLate_14 rfl (wM_put cI cZ a _ (f := (upd (u 0) 0 (1))) rfl) ?_
    refine g_aload_n (pc' := 18) (q := 0) C dX1_isLate_17 rfl rfl rfl ?_
    refine g_get (pc' := 21) (v := .int 1) C FM 0 (by rfl) rfl 0 (by decide) (by decide +kernel) rfl (by rfl) dX1_isLate_18 rfl ?_
    refine g_if_ne (tgt := 36) (pc' := 24) C dX1_isLate_21 rfl (by decide) (fun _ => ?_) (fun h => absurd h (by decide))
    refine g_iconst (pc' := 37) (v := 0) C dX1_isLate_36 rfl (by decide) ?_
    exact g_iret C hr (by decide) (Or.inl ⟨by omega, rfl⟩) dX1_isLate_37
  · skip
    refine g_iconst (pc' := 10) (v := 0) C dX1_isLate_9 rfl (by decide) ?_
    refine g_goto (tgt := 14) C dX1_isLate_10 (by decide) ?_
    refine g_putI (pc' := 17) C FM tyX1 tyX1_ok nmX1 0 (by rfl) rfl 0 (by decide) (by decide +kernel) rfl rfl rfl (Nat.le_of_ble_eq_true rfl) dX1_isLate_14 rfl (wM_put cI cZ a _ (f := (upd (u 0) 0 (0))) rfl) ?_
    refine g_aload_n (pc' := 18) (q := 0) C dX1_isLate_17 rfl rfl rfl ?_
    refine g_get (pc' := 21) (v := .int 0) C FM 0 (by rfl) rfl 0 (by decide) (by decide +kernel) rfl (by rfl) dX1_isLate_18 rfl ?_
    refine g_if_ne (tgt := 36) (pc' := 24) C dX1_isLate_21 rfl (by decide) (fun h => absurd h (by decide)) (fun _ => ?_)
    obtain ⟨n, hn, rfl⟩ := nI_of_ti (x := x) (n := 24) (by omega) (by omega) (by decide)
    have tn : (nI n).toInt = (n : Int) := nI_toInt (by omega)
    refine g_aload_n (pc' := 25) (q := 0) C dX1_isLate_24 rfl rfl rfl ?_
    refine g_iload_n (pc' := 26) (q := 1) C dX1_isLate_25 rfl rfl rfl ?_
    refine g_calliV (pc' := 29) (As := [.int (nI n)]) (st := []) (cells' := 0) (slots' := 0) C (c_X1_tooLate _ n (by omega) (by exact hT10 _ (by omega))) gX1_isLate_X1_tooLate rfl (by decide +kernel) ⟨Nat.le_of_ble_eq_true rfl, Nat.le_of_ble_eq_true rfl⟩ 0 (by rfl) rfl (n := 1) rfl rfl (Nat.le_of_ble_eq_true rfl) dX1_isLate_26 rfl rfl rfl ⟨Nat.le_of_ble_eq_true rfl, Nat.le_of_ble_eq_true rfl⟩ (fun r_4 u_4 h_5 => ?_)
    obtain ⟨rfl, h_5⟩ := h_5
    refine g_st h_5 ?_
    refine g_ifP_eq (tgt := 36) (pc' := 32) C dX1_isLate_29 rfl (by decide) (fun (c_6 : ¬ (tlM u n)) => ?_) (fun (c_6 : tlM u n) => ?_)
    · skip
      refine g_iconst (pc' := 37) (v := 0) C dX1_isLate_36 rfl (by decide) ?_
      exact g_iret C hr (by decide) (Or.inr ⟨n, rfl, by omega, (bP_f (by assumption)).symm, rfl⟩) dX1_isLate_37
    · skip
      refine g_iconst (pc' := 33) (v := 1) C dX1_isLate_32 rfl (by decide) ?_
      refine g_goto (tgt := 37) C dX1_isLate_33 (by decide) ?_
      exact g_iret C hr (by decide) (Or.inr ⟨n, rfl, by omega, (bP_t (by assumption)).symm, rfl⟩) dX1_isLate_37
