set_option maxHeartbeats 4000000 in
set_option maxRecDepth 100000 in
theorem c_X0_enter {l : Launch} {D : va_G} {cI cZ cQ : ClassId} {a : Nat → Nat} (u : LU) (x : Int32) (hI : IX u) (hx : (1 ≤ x.toInt ∧ x.toInt ≤ 12)) (hy : (¬ (u 0 4).toInt = 0 ∧ (u 0 12).toInt < 24 ∧ (u 0 16).toInt + x.toInt ≤ 60)) : KI l yX0_enter wsX0_enter ({ frames := 2, cells := 0, slots := 0, locals := 45 } : Room) D (tyX cI cZ cQ) (wX cI cZ cQ a) [.ref (a 0), .int x] u (fun (r : Int32) (u' : LU) => (1 ≤ x.toInt ∧ x.toInt ≤ 12) ∧ (¬ (u 0 4).toInt = 0 ∧ (u 0 12).toInt < 24 ∧ (u 0 16).toInt + x.toInt ≤ 60) ∧ ∃ n w0 : Nat, n < 24 ∧ w0 < 60 ∧ u 0 12 = nI n ∧ u 0 16 = nI w0 ∧ r = nI n ∧ u' = enX (mkLX u n 0 (u 0 17) 0 0 (-1)) w0 n x.toInt.toNat) := by
  refine ent_I (own := RX0) (maxL := 4) (cc := cX0_enter) (L0 := [(0, .ref (a 0)), (1, .int x)]) (by decide) rfl (wX_ok _ _ _ _) rfl (Nat.le_of_ble_eq_true rfl) rfl ?_
  intro p e s m args below meth c A C hr
  have FX : ∀ w ∈ wsX00, w.before args s = true := fun w h => C.2.2.2.2.1 w ((by decide +kernel : ∀ w ∈ wsX00, w ∈ wsX0_enter) w h)
  obtain ⟨hS4, hL12, hW16, hZ9, hP16⟩ := id hI
  refine g_iload_n (pc' := 1) (q := 1) C dX0_enter_0 rfl rfl rfl ?_
  refine g_iconst (pc' := 2) (v := 1) C dX0_enter_1 rfl (by decide) ?_
  refine g_bipush (pc' := 4) (v := 12) C dX0_enter_2 rfl (by decide) ?_
  refine g_calliS (pc' := 7) (As := [.int x, .int 1, .int 12]) (st := []) (cells' := 0) (slots' := 0) C (c_X0_isWithin _ x 1 12) gX0_enter_X0_isWithin rfl (by decide +kernel) ⟨Nat.le_of_ble_eq_true rfl, Nat.le_of_ble_eq_true rfl⟩ (n := 3) rfl rfl (Nat.le_of_ble_eq_true rfl) dX0_enter_4 rfl rfl rfl ⟨Nat.le_of_ble_eq_true rfl, Nat.le_of_ble_eq_true rfl⟩ (fun r_1 u_1 h_2 => ?_)
  obtain ⟨rfl, h_2⟩ := h_2
  refine g_st h_2 ?_
  refine g_ifP_ne (tgt := 20) (pc' := 10) C dX0_enter_7 rfl (by decide) (fun (c_3 : 1 ≤ x.toInt ∧ x.toInt ≤ 12) => ?_) (fun (c_3 : ¬ (1 ≤ x.toInt ∧ x.toInt ≤ 12)) => ?_)
  · skip
    refine g_aload_n (pc' := 21) (q := 0) C dX0_enter_20 rfl rfl rfl ?_
    refine g_get (pc' := 24) (v := .int (u 0 4)) C FX 0 (by rfl) rfl 4 (by decide) (by decide +kernel) rfl (by rfl) dX0_enter_21 rfl ?_
    refine g_if_eq (tgt := 47) (pc' := 27) C dX0_enter_24 rfl (by decide) (fun (c_4 : (u 0 4).toInt = 0) => ?_) (fun (c_4 : ¬ ((u 0 4).toInt = 0)) => ?_)
    · skip
      exact False.elim (by omega)
    · skip
      refine g_aload_n (pc' := 28) (q := 0) C dX0_enter_27 rfl rfl rfl ?_
      refine g_get (pc' := 31) (v := .int (u 0 12)) C FX 0 (by rfl) rfl 12 (by decide) (by decide +kernel) rfl (by rfl) dX0_enter_28 rfl ?_
      refine g_bipush (pc' := 33) (v := 24) C dX0_enter_31 rfl (by decide) ?_
      refine g_icmp_ge (tgt := 47) (pc' := 36) C dX0_enter_33 rfl (by decide) (fun (c_5 : 24 ≤ (u 0 12).toInt) => ?_) (fun (c_5 : ¬ (24 ≤ (u 0 12).toInt)) => ?_)
      · skip
        exact False.elim (by omega)
      · skip
        refine g_aload_n (pc' := 37) (q := 0) C dX0_enter_36 rfl rfl rfl ?_
        refine g_get (pc' := 40) (v := .int (u 0 16)) C FX 0 (by rfl) rfl 16 (by decide) (by decide +kernel) rfl (by rfl) dX0_enter_37 rfl ?_
        refine g_iload_n (pc' := 41) (q := 1) C dX0_enter_40 rfl rfl rfl ?_
        refine g_iadd (pc' := 42) C dX0_enter_41 rfl ?_
        refine g_bipush (pc' := 44) (v := 60) C dX0_enter_42 rfl (by decide) ?_
        have t9 : (u 0 16 + x).toInt = (u 0 16).toInt + x.toInt := ti_add (by omega) (by omega)
        refine g_icmp_le (tgt := 57) (pc' := 47) C dX0_enter_44 rfl (by decide) (fun (c_6 : ((u 0 16) + x).toInt ≤ 60) => ?_) (fun (c_6 : ¬ (((u 0 16) + x).toInt ≤ 60)) => ?_)
        · skip
          obtain ⟨n, hn, hc⟩ := nI_of_ti (x := u 0 12) (n := 24) (by omega) (by omega) (by decide)
          obtain ⟨w0, hw0, hcw⟩ := nI_of_ti (x := u 0 16) (n := 60) (by omega) (by omega) (by decide)
          have tw : (u 0 16).toInt = (w0 : Int) := by rw [hcw]; exact nI_toInt (by omega)
          refine g_aload_n (pc' := 58) (q := 0) C dX0_enter_57 rfl rfl rfl ?_
          refine g_iconst (pc' := 59) (v := 0) C dX0_enter_58 rfl (by decide) ?_
          refine g_aload_n (pc' := 60) (q := 0) C dX0_enter_59 rfl rfl rfl ?_
          refine g_get (pc' := 63) (v := .int (u 0 17)) C FX 0 (by rfl) rfl 17 (by decide) (by decide +kernel) rfl (by rfl) dX0_enter_60 rfl ?_
          refine g_iconst (pc' := 64) (v := 0) C dX0_enter_63 rfl (by decide) ?_
          refine g_iconst (pc' := 65) (v := 0) C dX0_enter_64 rfl (by decide) ?_
          refine g_iconst (pc' := 66) (v := (-1)) C dX0_enter_65 rfl (by decide) ?_
          refine g_calliV (pc' := 69) (As := [.int 0, .int (u 0 17), .int 0, .int 0, .int ((-1))]) (st := []) (cells' := 0) (slots' := 0) C (c_X0_makeLot _ n 0 (u 0 17) 0 0 ((-1)) (by omega) (by assumption) (by decide)) gX0_enter_X0_makeLot rfl (by decide +kernel) ⟨Nat.le_of_ble_eq_true rfl, Nat.le_of_ble_eq_true rfl⟩ 0 (by rfl) rfl (n := 5) rfl rfl (Nat.le_of_ble_eq_true rfl) dX0_enter_66 rfl rfl rfl ⟨Nat.le_of_ble_eq_true rfl, Nat.le_of_ble_eq_true rfl⟩ (fun r_7 u_7 h_8 => ?_)
          obtain ⟨rfl, h_8⟩ := h_8
          refine g_istore_n (pc' := 70) (L' := [(2, .int (nI n)), (0, .ref (a 0)), (1, .int x)]) C dX0_enter_69 rfl rfl (by decide) rfl ?_
          refine g_iconst (pc' := 71) (v := 0) C dX0_enter_70 rfl (by decide) ?_
          refine g_istore_n (pc' := 72) (L' := [(3, .int 0), (2, .int (nI n)), (0, .ref (a 0)), (1, .int x)]) C dX0_enter_71 rfl rfl (by decide) rfl ?_
          have loop_72 : ∀ (k : Nat) (i : Nat) (v : LU), (i : Int) ≤ x.toInt → x.toInt + 1 ≤ i + k → v = enX u_7 w0 n i → v 0 16 = nI (w0 + i) → G p l e ({ frames := 2, cells := 0, slots := 0, locals := 45 } : Room) s m args below meth c D A 4 (wX cI cZ cQ a) 0 0 (MQ below (va_Qi (fun (r : Int32) (u' : LU) => (1 ≤ x.toInt ∧ x.toInt ≤ 12) ∧ (¬ (u 0 4).toInt = 0 ∧ (u 0 12).toInt < 24 ∧ (u 0 16).toInt + x.toInt ≤ 60) ∧ ∃ n w0 : Nat, n < 24 ∧ w0 < 60 ∧ u 0 12 = nI n ∧ u 0 16 = nI w0 ∧ r = nI n ∧ u' = enX (mkLX u n 0 (u 0 17) 0 0 (-1)) w0 n x.toInt.toNat) (KE D (tyX cI cZ cQ) (wX cI cZ cQ a)) A) args s 0 0 A) v 72 [(0, .ref (a 0)), (1, .int x), (2, .int (nI n)), (3, .int (nI i))] [] := by
            intro k
            induction k with
            | zero =>
              intro i v hi hk hv h16
              omega
            | succ k ih =>
              intro i v hi hk hv h16
              refine g_iload_n (pc' := 73) (q := 3) C dX0_enter_72 rfl rfl rfl ?_
              refine g_iload_n (pc' := 74) (q := 1) C dX0_enter_73 rfl rfl rfl ?_
              have t_9 : (nI i).toInt = ((i : Nat) : Int) := nI_toInt (by omega)
              refine g_icmp_ge (tgt := 88) (pc' := 77) C dX0_enter_74 rfl (by decide) (fun (c_10 : (x).toInt ≤ (nI i).toInt) => ?_) (fun (c_10 : ¬ ((x).toInt ≤ (nI i).toInt)) => ?_)
              · skip
                refine g_iload_n (pc' := 89) (q := 2) C dX0_enter_88 rfl rfl rfl ?_
                exact g_iret C hr rfl ⟨by omega, by omega, n, w0, hn, hw0, hc, hcw, rfl, by rw [hv, h_8, show x.toInt.toNat = i by omega]⟩ dX0_enter_89
              · skip
                refine g_aload_n (pc' := 78) (q := 0) C dX0_enter_77 rfl rfl rfl ?_
                refine g_iload_n (pc' := 79) (q := 2) C dX0_enter_78 rfl rfl rfl ?_
                refine g_callvV (pc' := 82) (As := [.int (nI n)]) (st := []) (cells' := 0) (slots' := 0) C (c_X0_makeWafer _ (w0 + i) n (by omega) (by omega) (by assumption)) gX0_enter_X0_makeWafer rfl (by decide +kernel) ⟨Nat.le_of_ble_eq_true rfl, Nat.le_of_ble_eq_true rfl⟩ 0 (by rfl) rfl (n := 1) rfl rfl (Nat.le_of_ble_eq_true rfl) dX0_enter_79 rfl rfl rfl ⟨Nat.le_of_ble_eq_true rfl, Nat.le_of_ble_eq_true rfl⟩ (fun  u_11 h_12 => ?_)
                refine g_iinc (pc' := 85) (v := nI (i + 1)) (L' := [(3, .int (nI (i + 1))), (0, .ref (a 0)), (1, .int x), (2, .int (nI n))]) C dX0_enter_82 rfl (k := 3) rfl (nI_1 _) (by decide) rfl ?_
                refine g_goto (tgt := 72) C dX0_enter_85 (by decide) ?_
                refine g_sub (L' := [(0, .ref (a 0)), (1, .int x), (2, .int (nI n)), (3, .int (nI (i + 1)))]) [1, 2, 3, 0] rfl ?_
                exact ih (i + 1) u_11 (by omega) (by omega) (by rw [h_12, hv]; rfl) (by rw [h_12]; exact mwX_16 _ _ _)
          refine g_sub (L' := [(0, .ref (a 0)), (1, .int x), (2, .int (nI n)), (3, .int (nI 0))]) [2, 3, 1, 0] rfl ?_
          exact loop_72 13 0 u_7 (by omega) (by omega) rfl (by rw [h_8]; exact hcw)
        · skip
          exact False.elim (by omega)
  · skip
    exact False.elim (by omega)
set_option maxHeartbeats 4000000 in
set_option maxRecDepth 100000 in
theorem c_X0_split {l : Launch} {D : va_G} {cI cZ cQ : ClassId} {a : Nat → Nat} (u : LU) (x y : Int32) (hI : IX u) (hx : (0 ≤ x.toInt ∧ x.toInt < (u 0 12).toInt)) (hy : ∀ n : Nat, n < 24 → x = nI n → (1 ≤ y.toInt ∧ y.toInt ≤ (u 12 n - 1).toInt) ∧ ((u 6 n).toInt = 0 ∧ (u 0 12).toInt < 24)) : KI l yX0_split wsX0_split ({ frames := 2, cells := 0, slots := 0, locals := 48 } : Room) D (tyX cI cZ cQ) (wX cI cZ cQ a) [.ref (a 0), .int x, .int y] u (fun (r : Int32) (u' : LU) => ∃ n k : Nat, x = nI n ∧ (n : Int) < (u 0 12).toInt ∧ (1 ≤ y.toInt ∧ y.toInt ≤ (u 12 n - 1).toInt) ∧ ((u 6 n).toInt = 0 ∧ (u 0 12).toInt < 24) ∧ k < 24 ∧ u 0 12 = nI k ∧ r = nI k ∧ u' = spX u n k y) := by
  refine ent_I (own := RX0) (maxL := 4) (cc := cX0_split) (L0 := [(0, .ref (a 0)), (1, .int x), (2, .int y)]) (by decide) rfl (wX_ok _ _ _ _) rfl (Nat.le_of_ble_eq_true rfl) rfl ?_
  intro p e s m args below meth c A C hr
  have FX : ∀ w ∈ wsX00, w.before args s = true := fun w h => C.2.2.2.2.1 w ((by decide +kernel : ∀ w ∈ wsX00, w ∈ wsX0_split) w h)
  obtain ⟨hS4, hL12, hW16, hZ9, hP16⟩ := id hI
  refine g_aload_n (pc' := 1) (q := 0) C dX0_split_0 rfl rfl rfl ?_
  refine g_iload_n (pc' := 2) (q := 1) C dX0_split_1 rfl rfl rfl ?_
  refine g_callvV (pc' := 5) (As := [.int x]) (st := []) (cells' := 0) (slots' := 0) C (c_X0_checkLot _ x (by omega)) gX0_split_X0_checkLot rfl (by decide +kernel) ⟨Nat.le_of_ble_eq_true rfl, Nat.le_of_ble_eq_true rfl⟩ 0 (by rfl) rfl (n := 1) rfl rfl (Nat.le_of_ble_eq_true rfl) dX0_split_2 rfl rfl rfl ⟨Nat.le_of_ble_eq_true rfl, Nat.le_of_ble_eq_true rfl⟩ (fun  u_1 h_2 => ?_)
  obtain ⟨qh_2, h_2⟩ := h_2
  refine g_st h_2 ?_
  obtain ⟨n, hn, rfl⟩ := nI_of_ti (n := 24) qh_2.1 (by omega) (by decide)
  have tn : (nI n).toInt = (n : Int) := nI_toInt (by omega)
  rw [tn] at qh_2
  refine g_iload_n (pc' := 6) (q := 2) C dX0_split_5 rfl rfl rfl ?_
  refine g_iconst (pc' := 7) (v := 1) C dX0_split_6 rfl (by decide) ?_
  refine g_aload_n (pc' := 8) (q := 0) C dX0_split_7 rfl rfl rfl ?_
  refine g_get (pc' := 11) (v := .ref (a 12)) C FX 0 (by rfl) rfl 11 (by decide) (by decide +kernel) rfl (by rfl) dX0_split_8 rfl ?_
  refine g_iload_n (pc' := 12) (q := 1) C dX0_split_11 rfl rfl rfl ?_
  refine g_iald (pc' := 13) (n := 24) (f := u 12) C 12 0 (by rfl) rfl (vp_in_nI (by omega) (by omega)) (k := n) (nI_clamp (by omega)) dX0_split_12 rfl ?_
  refine g_iconst (pc' := 14) (v := 1) C dX0_split_13 rfl (by decide) ?_
  refine g_isub (pc' := 15) C dX0_split_14 rfl ?_
  refine g_calliS (pc' := 18) (As := [.int y, .int 1, .int ((u 12 n) - 1)]) (st := []) (cells' := 0) (slots' := 0) C (c_X0_isWithin _ y 1 ((u 12 n) - 1)) gX0_split_X0_isWithin rfl (by decide +kernel) ⟨Nat.le_of_ble_eq_true rfl, Nat.le_of_ble_eq_true rfl⟩ (n := 3) rfl rfl (Nat.le_of_ble_eq_true rfl) dX0_split_15 rfl rfl rfl ⟨Nat.le_of_ble_eq_true rfl, Nat.le_of_ble_eq_true rfl⟩ (fun r_3 u_3 h_4 => ?_)
  obtain ⟨rfl, h_4⟩ := h_4
  refine g_st h_4 ?_
  refine g_ifP_ne (tgt := 31) (pc' := 21) C dX0_split_18 rfl (by decide) (fun (c_5 : 1 ≤ y.toInt ∧ y.toInt ≤ ((u 12 n) - 1).toInt) => ?_) (fun (c_5 : ¬ (1 ≤ y.toInt ∧ y.toInt ≤ ((u 12 n) - 1).toInt)) => ?_)
  · skip
    refine g_aload_n (pc' := 32) (q := 0) C dX0_split_31 rfl rfl rfl ?_
    refine g_get (pc' := 35) (v := .ref (a 6)) C FX 0 (by rfl) rfl 5 (by decide) (by decide +kernel) rfl (by rfl) dX0_split_32 rfl ?_
    refine g_iload_n (pc' := 36) (q := 1) C dX0_split_35 rfl rfl rfl ?_
    refine g_iald (pc' := 37) (n := 24) (f := u 6) C 6 0 (by rfl) rfl (vp_in_nI (by omega) (by omega)) (k := n) (nI_clamp (by omega)) dX0_split_36 rfl ?_
    refine g_if_ne (tgt := 49) (pc' := 40) C dX0_split_37 rfl (by decide) (fun (c_6 : ¬ (u 6 n).toInt = 0) => ?_) (fun (c_6 : (u 6 n).toInt = 0) => ?_)
    · skip
      exact False.elim (by have q9 := hy n (by omega) rfl; omega)
    · skip
      refine g_aload_n (pc' := 41) (q := 0) C dX0_split_40 rfl rfl rfl ?_
      refine g_get (pc' := 44) (v := .int (u 0 12)) C FX 0 (by rfl) rfl 12 (by decide) (by decide +kernel) rfl (by rfl) dX0_split_41 rfl ?_
      refine g_bipush (pc' := 46) (v := 24) C dX0_split_44 rfl (by decide) ?_
      refine g_icmp_lt (tgt := 59) (pc' := 49) C dX0_split_46 rfl (by decide) (fun (c_7 : (u 0 12).toInt < 24) => ?_) (fun (c_7 : ¬ ((u 0 12).toInt < 24)) => ?_)
      · skip
        obtain ⟨k, hk, hc⟩ := nI_of_ti (x := u 0 12) (n := 24) (by omega) (by omega) (by decide)
        refine g_aload_n (pc' := 60) (q := 0) C dX0_split_59 rfl rfl rfl ?_
        refine g_aload_n (pc' := 61) (q := 0) C dX0_split_60 rfl rfl rfl ?_
        refine g_get (pc' := 64) (v := .ref (a 7)) C FX 0 (by rfl) rfl 6 (by decide) (by decide +kernel) rfl (by rfl) dX0_split_61 rfl ?_
        refine g_iload_n (pc' := 65) (q := 1) C dX0_split_64 rfl rfl rfl ?_
        refine g_iald (pc' := 66) (n := 24) (f := u 7) C 7 0 (by rfl) rfl (vp_in_nI (by omega) (by omega)) (k := n) (nI_clamp (by omega)) dX0_split_65 rfl ?_
        refine g_aload_n (pc' := 67) (q := 0) C dX0_split_66 rfl rfl rfl ?_
        refine g_get (pc' := 70) (v := .ref (a 8)) C FX 0 (by rfl) rfl 7 (by decide) (by decide +kernel) rfl (by rfl) dX0_split_67 rfl ?_
        refine g_iload_n (pc' := 71) (q := 1) C dX0_split_70 rfl rfl rfl ?_
        refine g_iald (pc' := 72) (n := 24) (f := u 8) C 8 0 (by rfl) rfl (vp_in_nI (by omega) (by omega)) (k := n) (nI_clamp (by omega)) dX0_split_71 rfl ?_
        refine g_aload_n (pc' := 73) (q := 0) C dX0_split_72 rfl rfl rfl ?_
        refine g_get (pc' := 76) (v := .ref (a 9)) C FX 0 (by rfl) rfl 8 (by decide) (by decide +kernel) rfl (by rfl) dX0_split_73 rfl ?_
        refine g_iload_n (pc' := 77) (q := 1) C dX0_split_76 rfl rfl rfl ?_
        refine g_zald (pc' := 78) (n := 24) (f := u 9) C 9 1 (by rfl) rfl (vp_in_nI (by omega) (by omega)) (k := n) (nI_clamp (by omega)) dX0_split_77 rfl ?_
        refine g_aload_n (pc' := 79) (q := 0) C dX0_split_78 rfl rfl rfl ?_
        refine g_get (pc' := 82) (v := .ref (a 10)) C FX 0 (by rfl) rfl 9 (by decide) (by decide +kernel) rfl (by rfl) dX0_split_79 rfl ?_
        refine g_iload_n (pc' := 83) (q := 1) C dX0_split_82 rfl rfl rfl ?_
        refine g_iald (pc' := 84) (n := 24) (f := u 10) C 10 0 (by rfl) rfl (vp_in_nI (by omega) (by omega)) (k := n) (nI_clamp (by omega)) dX0_split_83 rfl ?_
        refine g_iload_n (pc' := 85) (q := 1) C dX0_split_84 rfl rfl rfl ?_
        refine g_calliV (pc' := 88) (As := [.int (u 7 n), .int (u 8 n), .int (u 9 n), .int (u 10 n), .int (nI n)]) (st := []) (cells' := 0) (slots' := 0) C (c_X0_makeLot _ k (u 7 n) (u 8 n) (u 9 n) (u 10 n) (nI n) (by omega) (by assumption) ((hZ9 n (by omega)).1)) gX0_split_X0_makeLot rfl (by decide +kernel) ⟨Nat.le_of_ble_eq_true rfl, Nat.le_of_ble_eq_true rfl⟩ 0 (by rfl) rfl (n := 5) rfl rfl (Nat.le_of_ble_eq_true rfl) dX0_split_85 rfl rfl rfl ⟨Nat.le_of_ble_eq_true rfl, Nat.le_of_ble_eq_true rfl⟩ (fun r_8 u_8 h_9 => ?_)
        obtain ⟨rfl, h_9⟩ := h_9
        refine g_istore_n (pc' := 89) (L' := [(3, .int (nI k)), (0, .ref (a 0)), (1, .int (nI n)), (2, .int y)]) C dX0_split_88 rfl rfl (by decide) rfl ?_
        refine g_aload_n (pc' := 90) (q := 1) C dX0_split_89 rfl rfl rfl ?_
        refine g_iload_n (pc' := 91) (q := 2) C dX0_split_90 rfl rfl rfl ?_
        refine g_iload_n (pc' := 92) (q := 0) C dX0_split_91 rfl rfl rfl ?_
        refine g_iload_n (pc' := 93) (q := 3) C dX0_split_92 rfl rfl rfl ?_
        refine g_callvV (pc' := 96) (As := [.int (nI n), .int (nI k), .int y]) (st := []) (cells' := 0) (slots' := 0) C (c_X0_moveWafers _ n k y (by omega) (by omega) (by rw [h_9]; exact hW16) (by rw [h_9]; exact hP16)) gX0_split_X0_moveWafers rfl (by decide +kernel) ⟨Nat.le_of_ble_eq_true rfl, Nat.le_of_ble_eq_true rfl⟩ 0 (by rfl) rfl (n := 3) rfl rfl (Nat.le_of_ble_eq_true rfl) dX0_split_93 rfl rfl rfl ⟨Nat.le_of_ble_eq_true rfl, Nat.le_of_ble_eq_true rfl⟩ (fun  u_10 h_11 => ?_)
        refine g_iload_n (pc' := 97) (q := 0) C dX0_split_96 rfl rfl rfl ?_
        exact g_iret C hr rfl ⟨n, k, rfl, by omega, by omega, by omega, hk, hc, rfl, by rw [h_11, h_9]; rfl⟩ dX0_split_97
      · skip
        exact False.elim (by have q9 := hy n (by omega) rfl; omega)
  · skip
    exact False.elim (by have q9 := hy n (by omega) rfl; omega)
set_option maxHeartbeats 4000000 in
set_option maxRecDepth 100000 in
theorem c_X0_scrap {l : Launch} {D : va_G} {cI cZ cQ : ClassId} {a : Nat → Nat} (u : LU) (x : Int32) (hI : IX u) (hx : (0 ≤ x.toInt ∧ x.toInt < (u 0 16).toInt)) (hy : ∀ w : Nat, w < 60 → x = nI w → (∃ k : Nat, u 14 w = nI k ∧ (k : Int) < (u 0 12).toInt ∧ (u 6 k).toInt = 0)) : KI l yX0_scrap wsX0_scrap ({ frames := 1, cells := 0, slots := 0, locals := 22 } : Room) D (tyX cI cZ cQ) (wX cI cZ cQ a) [.ref (a 0), .int x] u (fun (r : Int32) (u' : LU) => ∃ w k : Nat, x = nI w ∧ (w : Int) < (u 0 16).toInt ∧ u 14 w = nI k ∧ (k : Int) < (u 0 12).toInt ∧ (u 6 k).toInt = 0 ∧ r = u 12 k - 1 ∧ u' = scX u w k) := by
  refine ent_I (own := RX0) (maxL := 3) (cc := cX0_scrap) (L0 := [(0, .ref (a 0)), (1, .int x)]) (by decide) rfl (wX_ok _ _ _ _) rfl (Nat.le_of_ble_eq_true rfl) rfl ?_
  intro p e s m args below meth c A C hr
  have FX : ∀ w ∈ wsX00, w.before args s = true := fun w h => C.2.2.2.2.1 w ((by decide +kernel : ∀ w ∈ wsX00, w ∈ wsX0_scrap) w h)
  obtain ⟨hS4, hL12, hW16, hZ9, hP16⟩ := id hI
  refine g_aload_n (pc' := 1) (q := 0) C dX0_scrap_0 rfl rfl rfl ?_
  refine g_iload_n (pc' := 2) (q := 1) C dX0_scrap_1 rfl rfl rfl ?_
  refine g_callvV (pc' := 5) (As := [.int x]) (st := []) (cells' := 0) (slots' := 0) C (c_X0_checkWafer _ x (by omega)) gX0_scrap_X0_checkWafer rfl (by decide +kernel) ⟨Nat.le_of_ble_eq_true rfl, Nat.le_of_ble_eq_true rfl⟩ 0 (by rfl) rfl (n := 1) rfl rfl (Nat.le_of_ble_eq_true rfl) dX0_scrap_2 rfl rfl rfl ⟨Nat.le_of_ble_eq_true rfl, Nat.le_of_ble_eq_true rfl⟩ (fun  u_1 h_2 => ?_)
  obtain ⟨qh_2, h_2⟩ := h_2
  refine g_st h_2 ?_
  obtain ⟨w, hw, rfl⟩ := nI_of_ti (n := 60) qh_2.1 (by omega) (by decide)
  have tw : (nI w).toInt = (w : Int) := nI_toInt (by omega)
  rw [tw] at qh_2
  refine g_aload_n (pc' := 6) (q := 0) C dX0_scrap_5 rfl rfl rfl ?_
  refine g_get (pc' := 9) (v := .ref (a 14)) C FX 0 (by rfl) rfl 13 (by decide) (by decide +kernel) rfl (by rfl) dX0_scrap_6 rfl ?_
  refine g_iload_n (pc' := 10) (q := 1) C dX0_scrap_9 rfl rfl rfl ?_
  refine g_iald (pc' := 11) (n := 60) (f := u 14) C 13 0 (by rfl) rfl (vp_in_nI (by omega) (by omega)) (k := w) (nI_clamp (by omega)) dX0_scrap_10 rfl ?_
  refine g_istore_n (pc' := 12) (L' := [(2, .int (u 14 w)), (0, .ref (a 0)), (1, .int (nI w))]) C dX0_scrap_11 rfl rfl (by decide) rfl ?_
  refine g_aload_n (pc' := 13) (q := 1) C dX0_scrap_12 rfl rfl rfl ?_
  refine g_iload_n (pc' := 14) (q := 0) C dX0_scrap_13 rfl rfl rfl ?_
  refine g_calliV (pc' := 17) (As := [.int (u 14 w)]) (st := []) (cells' := 0) (slots' := 0) C (c_X0_isLot _ (u 14 w)) gX0_scrap_X0_isLot rfl (by decide +kernel) ⟨Nat.le_of_ble_eq_true rfl, Nat.le_of_ble_eq_true rfl⟩ 0 (by rfl) rfl (n := 1) rfl rfl (Nat.le_of_ble_eq_true rfl) dX0_scrap_14 rfl rfl rfl ⟨Nat.le_of_ble_eq_true rfl, Nat.le_of_ble_eq_true rfl⟩ (fun r_3 u_3 h_4 => ?_)
  obtain ⟨rfl, h_4⟩ := h_4
  refine g_st h_4 ?_
  refine g_ifP_eq (tgt := 29) (pc' := 20) C dX0_scrap_17 rfl (by decide) (fun (c_5 : ¬ (0 ≤ (u 14 w).toInt ∧ (u 14 w).toInt < (u 0 12).toInt)) => ?_) (fun (c_5 : 0 ≤ (u 14 w).toInt ∧ (u 14 w).toInt < (u 0 12).toInt) => ?_)
  · skip
    exact False.elim (scX_no (by first | exact Or.inl (by omega) | exact Or.inr ⟨k, hkk, hk, by omega⟩) (hy w (by omega) rfl))
  · skip
    obtain ⟨k, hk, hkk⟩ := nI_of_ti (x := u 14 w) (n := 24) (by omega) (by omega) (by decide)
    have tk : (u 14 w).toInt = (k : Int) := by rw [hkk]; exact nI_toInt (by omega)
    refine g_sub (L' := [(2, .int (nI k)), (0, .ref (a 0)), (1, .int (nI w))]) [0, 1, 2] (by rw [← hkk]; rfl) ?_
    refine g_aload_n (pc' := 21) (q := 1) C dX0_scrap_20 rfl rfl rfl ?_
    refine g_get (pc' := 24) (v := .ref (a 6)) C FX 0 (by rfl) rfl 5 (by decide) (by decide +kernel) rfl (by rfl) dX0_scrap_21 rfl ?_
    refine g_iload_n (pc' := 25) (q := 0) C dX0_scrap_24 rfl rfl rfl ?_
    refine g_iald (pc' := 26) (n := 24) (f := u 6) C 6 0 (by rfl) rfl (vp_in_nI (by omega) (by omega)) (k := k) (nI_clamp (by omega)) dX0_scrap_25 rfl ?_
    refine g_if_eq (tgt := 39) (pc' := 29) C dX0_scrap_26 rfl (by decide) (fun (c_6 : (u 6 k).toInt = 0) => ?_) (fun (c_6 : ¬ ((u 6 k).toInt = 0)) => ?_)
    · skip
      refine g_aload_n (pc' := 40) (q := 1) C dX0_scrap_39 rfl rfl rfl ?_
      refine g_get (pc' := 43) (v := .ref (a 14)) C FX 0 (by rfl) rfl 13 (by decide) (by decide +kernel) rfl (by rfl) dX0_scrap_40 rfl ?_
      refine g_iload_n (pc' := 44) (q := 2) C dX0_scrap_43 rfl rfl rfl ?_
      refine g_iconst (pc' := 45) (v := (-1)) C dX0_scrap_44 rfl (by decide) ?_
      refine g_iast (pc' := 46) (n := 60) (f := u 14) C 13 0 (by rfl) rfl (vp_in_nI (by omega) (by omega)) (k := w) (nI_clamp (by omega)) dX0_scrap_45 rfl (wX_set cI cZ cQ a _ (k := 11) rfl) ?_
      refine g_aload_n (pc' := 47) (q := 1) C dX0_scrap_46 rfl rfl rfl ?_
      refine g_get (pc' := 50) (v := .ref (a 12)) C FX 0 (by rfl) rfl 11 (by decide) (by decide +kernel) rfl (by rfl) dX0_scrap_47 rfl ?_
      refine g_iload_n (pc' := 51) (q := 0) C dX0_scrap_50 rfl rfl rfl ?_
      refine g_dup2 (pc' := 52) C dX0_scrap_51 rfl rfl rfl ?_
      refine g_iald (pc' := 53) (n := 24) (f := u 12) C 12 0 (by rfl) rfl (vp_in_nI (by omega) (by omega)) (k := k) (nI_clamp (by omega)) dX0_scrap_52 rfl ?_
      refine g_iconst (pc' := 54) (v := 1) C dX0_scrap_53 rfl (by decide) ?_
      refine g_isub (pc' := 55) C dX0_scrap_54 rfl ?_
      refine g_iast (pc' := 56) (n := 24) (f := u 12) C 12 0 (by rfl) rfl (vp_in_nI (by omega) (by omega)) (k := k) (nI_clamp (by omega)) dX0_scrap_55 rfl (wX_set cI cZ cQ a _ (k := 10) rfl) ?_
      refine g_aload_n (pc' := 57) (q := 1) C dX0_scrap_56 rfl rfl rfl ?_
      refine g_get (pc' := 60) (v := .ref (a 12)) C FX 0 (by rfl) rfl 11 (by decide) (by decide +kernel) rfl (by rfl) dX0_scrap_57 rfl ?_
      refine g_iload_n (pc' := 61) (q := 0) C dX0_scrap_60 rfl rfl rfl ?_
      refine g_iald (pc' := 62) (n := 24) (f := (upd (u 12) k ((u 12 k) - 1))) C 12 0 (by rfl) rfl (vp_in_nI (by omega) (by omega)) (k := k) (nI_clamp (by omega)) dX0_scrap_61 rfl ?_
      refine g_conv (show (upd (u 12) k ((u 12 k) - 1)) k = (u 12 k) - 1 from pk_us) ?_
      refine g_if_ne (tgt := 71) (pc' := 65) C dX0_scrap_62 rfl (by decide) (fun (c_7 : ¬ ((u 12 k) - 1).toInt = 0) => ?_) (fun (c_7 : ((u 12 k) - 1).toInt = 0) => ?_)
      · skip
        refine g_aload_n (pc' := 72) (q := 1) C dX0_scrap_71 rfl rfl rfl ?_
        refine g_get (pc' := 75) (v := .ref (a 12)) C FX 0 (by rfl) rfl 11 (by decide) (by decide +kernel) rfl (by rfl) dX0_scrap_72 rfl ?_
        refine g_iload_n (pc' := 76) (q := 0) C dX0_scrap_75 rfl rfl rfl ?_
        refine g_iald (pc' := 77) (n := 24) (f := (upd (u 12) k ((u 12 k) - 1))) C 12 0 (by rfl) rfl (vp_in_nI (by omega) (by omega)) (k := k) (nI_clamp (by omega)) dX0_scrap_76 rfl ?_
        refine g_conv (show (upd (u 12) k ((u 12 k) - 1)) k = (u 12 k) - 1 from pk_us) ?_
        exact g_iret C hr rfl ⟨w, k, rfl, by omega, hkk, by omega, by omega, rfl, by unfold scX; rw [if_neg (by assumption)]; rfl⟩ dX0_scrap_77
      · skip
        refine g_aload_n (pc' := 66) (q := 1) C dX0_scrap_65 rfl rfl rfl ?_
        refine g_iload_n (pc' := 67) (q := 0) C dX0_scrap_66 rfl rfl rfl ?_
        refine g_iconst (pc' := 68) (v := 3) C dX0_scrap_67 rfl (by decide) ?_
        refine g_callvV (pc' := 71) (As := [.int (nI k), .int 3]) (st := []) (cells' := 0) (slots' := 0) C (c_X0_leaveRoute _ k 3 (by omega)) gX0_scrap_X0_leaveRoute rfl (by decide +kernel) ⟨Nat.le_of_ble_eq_true rfl, Nat.le_of_ble_eq_true rfl⟩ 0 (by rfl) rfl (n := 2) rfl rfl (Nat.le_of_ble_eq_true rfl) dX0_scrap_68 rfl rfl rfl ⟨Nat.le_of_ble_eq_true rfl, Nat.le_of_ble_eq_true rfl⟩ (fun  u_8 h_9 => ?_)
        refine g_aload_n (pc' := 72) (q := 1) C dX0_scrap_71 rfl rfl rfl ?_
        refine g_get (pc' := 75) (v := .ref (a 12)) C FX 0 (by rfl) rfl 11 (by decide) (by decide +kernel) rfl (by rfl) dX0_scrap_72 rfl ?_
        refine g_iload_n (pc' := 76) (q := 0) C dX0_scrap_75 rfl rfl rfl ?_
        refine g_iald (pc' := 77) (n := 24) (f := u_8 12) C 12 0 (by rfl) rfl (vp_in_nI (by omega) (by omega)) (k := k) (nI_clamp (by omega)) dX0_scrap_76 rfl ?_
        exact g_iret C hr rfl ⟨w, k, rfl, by omega, hkk, by omega, by omega, by rw [h_9]; exact pk_us, by rw [h_9]; unfold scX; rw [if_pos (by assumption)]; rfl⟩ dX0_scrap_77
    · skip
      exact False.elim (scX_no (by first | exact Or.inl (by omega) | exact Or.inr ⟨k, hkk, hk, by omega⟩) (hy w (by omega) rfl))
set_option maxHeartbeats 4000000 in
set_option maxRecDepth 100000 in
theorem c_X0_advance {l : Launch} {D : va_G} {cI cZ cQ : ClassId} {a : Nat → Nat} (u : LU) (x : Int32) (hI : IX u) (hx : (1 ≤ x.toInt ∧ x.toInt ≤ 10000)) : KI l yX0_advance wsX0_advance ({ frames := 2, cells := 0, slots := 0, locals := 44 } : Room) D (tyX cI cZ cQ) (wX cI cZ cQ a) [.ref (a 0), .int x] u (fun (r : Int32) (u' : LU) => (1 ≤ x.toInt ∧ x.toInt ≤ 10000) ∧ r = nI (avX (up u 0 (upd (u 0) 17 (u 0 17 + x))) (u 0 12).toInt.toNat).2 ∧ u' = (avX (up u 0 (upd (u 0) 17 (u 0 17 + x))) (u 0 12).toInt.toNat).1) := by
  refine ent_I (own := RX0) (maxL := 4) (cc := cX0_advance) (L0 := [(0, .ref (a 0)), (1, .int x)]) (by decide) rfl (wX_ok _ _ _ _) rfl (Nat.le_of_ble_eq_true rfl) rfl ?_
  intro p e s m args below meth c A C hr
  have FX : ∀ w ∈ wsX00, w.before args s = true := fun w h => C.2.2.2.2.1 w ((by decide +kernel : ∀ w ∈ wsX00, w ∈ wsX0_advance) w h)
  obtain ⟨hS4, hL12, hW16, hZ9, hP16⟩ := id hI
  refine g_iload_n (pc' := 1) (q := 1) C dX0_advance_0 rfl rfl rfl ?_
  refine g_iconst (pc' := 2) (v := 1) C dX0_advance_1 rfl (by decide) ?_
  refine g_sipush (pc' := 5) (v := 10000) C dX0_advance_2 rfl (by decide) ?_
  refine g_calliS (pc' := 8) (As := [.int x, .int 1, .int 10000]) (st := []) (cells' := 0) (slots' := 0) C (c_X0_isWithin _ x 1 10000) gX0_advance_X0_isWithin rfl (by decide +kernel) ⟨Nat.le_of_ble_eq_true rfl, Nat.le_of_ble_eq_true rfl⟩ (n := 3) rfl rfl (Nat.le_of_ble_eq_true rfl) dX0_advance_5 rfl rfl rfl ⟨Nat.le_of_ble_eq_true rfl, Nat.le_of_ble_eq_true rfl⟩ (fun r_1 u_1 h_2 => ?_)
  obtain ⟨rfl, h_2⟩ := h_2
  refine g_st h_2 ?_
  refine g_ifP_ne (tgt := 21) (pc' := 11) C dX0_advance_8 rfl (by decide) (fun (c_3 : 1 ≤ x.toInt ∧ x.toInt ≤ 10000) => ?_) (fun (c_3 : ¬ (1 ≤ x.toInt ∧ x.toInt ≤ 10000)) => ?_)
  · skip
    refine g_aload_n (pc' := 22) (q := 0) C dX0_advance_21 rfl rfl rfl ?_
    refine g_dup (pc' := 23) C dX0_advance_22 rfl rfl ?_
    refine g_get (pc' := 26) (v := .int (u 0 17)) C FX 0 (by rfl) rfl 17 (by decide) (by decide +kernel) rfl (by rfl) dX0_advance_23 rfl ?_
    refine g_iload_n (pc' := 27) (q := 1) C dX0_advance_26 rfl rfl rfl ?_
    refine g_iadd (pc' := 28) C dX0_advance_27 rfl ?_
    refine g_putI (pc' := 31) C FX tyX0 tyX0_ok nmX0 0 (by rfl) rfl 17 (by decide) (by decide +kernel) rfl rfl rfl (Nat.le_of_ble_eq_true rfl) dX0_advance_28 rfl (wX_put cI cZ cQ a _ (f := (upd (u 0) 17 ((u 0 17) + x))) rfl) ?_
    refine g_iconst (pc' := 32) (v := 0) C dX0_advance_31 rfl (by decide) ?_
    refine g_istore_n (pc' := 33) (L' := [(2, .int 0), (0, .ref (a 0)), (1, .int x)]) C dX0_advance_32 rfl rfl (by decide) rfl ?_
    refine g_iconst (pc' := 34) (v := 0) C dX0_advance_33 rfl (by decide) ?_
    refine g_istore_n (pc' := 35) (L' := [(3, .int 0), (2, .int 0), (0, .ref (a 0)), (1, .int x)]) C dX0_advance_34 rfl rfl (by decide) rfl ?_
    have loop_35 : ∀ (k : Nat) (i k9 : Nat) (v : LU), (i : Int) ≤ (u 0 12).toInt → (u 0 12).toInt + 1 ≤ i + k → avX (up u 0 (upd (u 0) 17 (u 0 17 + x))) i = (v, k9) → v 0 = upd (u 0) 17 (u 0 17 + x) → G p l e ({ frames := 2, cells := 0, slots := 0, locals := 44 } : Room) s m args below meth c D A 4 (wX cI cZ cQ a) 0 0 (MQ below (va_Qi (fun (r : Int32) (u' : LU) => (1 ≤ x.toInt ∧ x.toInt ≤ 10000) ∧ r = nI (avX (up u 0 (upd (u 0) 17 (u 0 17 + x))) (u 0 12).toInt.toNat).2 ∧ u' = (avX (up u 0 (upd (u 0) 17 (u 0 17 + x))) (u 0 12).toInt.toNat).1) (KE D (tyX cI cZ cQ) (wX cI cZ cQ a)) A) args s 0 0 A) v 35 [(0, .ref (a 0)), (1, .int x), (2, .int (nI k9)), (3, .int (nI i))] [] := by
      intro k
      induction k with
      | zero =>
        intro i k9 v hi hk hv h12
        omega
      | succ k ih =>
        intro i k9 v hi hk hv h12
        have t12 : (v 0 12).toInt = (u 0 12).toInt := by rw [h12]; rfl
        refine g_iload_n (pc' := 36) (q := 3) C dX0_advance_35 rfl rfl rfl ?_
        refine g_aload_n (pc' := 37) (q := 0) C dX0_advance_36 rfl rfl rfl ?_
        refine g_get (pc' := 40) (v := .int (v 0 12)) C FX 0 (by rfl) rfl 12 (by decide) (by decide +kernel) rfl (by rfl) dX0_advance_37 rfl ?_
        have t_4 : (nI i).toInt = ((i : Nat) : Int) := nI_toInt (by omega)
        refine g_icmp_ge (tgt := 80) (pc' := 43) C dX0_advance_40 rfl (by decide) (fun (c_5 : (v 0 12).toInt ≤ (nI i).toInt) => ?_) (fun (c_5 : ¬ ((v 0 12).toInt ≤ (nI i).toInt)) => ?_)
        · skip
          refine g_iload_n (pc' := 81) (q := 2) C dX0_advance_80 rfl rfl rfl ?_
          exact g_iret C hr rfl ⟨by omega, by rw [show (u 0 12).toInt.toNat = i by omega, hv], by rw [show (u 0 12).toInt.toNat = i by omega, hv]⟩ dX0_advance_81
        · skip
          refine g_aload_n (pc' := 44) (q := 0) C dX0_advance_43 rfl rfl rfl ?_
          refine g_get (pc' := 47) (v := .ref (a 6)) C FX 0 (by rfl) rfl 5 (by decide) (by decide +kernel) rfl (by rfl) dX0_advance_44 rfl ?_
          refine g_iload_n (pc' := 48) (q := 3) C dX0_advance_47 rfl rfl rfl ?_
          refine g_iald (pc' := 49) (n := 24) (f := v 6) C 6 0 (by rfl) rfl (vp_in_nI (by omega) (by omega)) (k := i) (nI_clamp (by omega)) dX0_advance_48 rfl ?_
          refine g_iconst (pc' := 50) (v := 1) C dX0_advance_49 rfl (by decide) ?_
          refine g_icmp_ne (tgt := 74) (pc' := 53) C dX0_advance_50 rfl (by decide) (fun (c_6 : ¬ (v 6 i).toInt = 1) => ?_) (fun (c_6 : (v 6 i).toInt = 1) => ?_)
          · skip
            refine g_iinc (pc' := 77) (v := nI (i + 1)) (L' := [(3, .int (nI (i + 1))), (0, .ref (a 0)), (1, .int x), (2, .int (nI k9))]) C dX0_advance_74 rfl (k := 3) rfl (nI_1 _) (by decide) rfl ?_
            refine g_goto (tgt := 35) C dX0_advance_77 (by decide) ?_
            refine g_sub (L' := [(0, .ref (a 0)), (1, .int x), (2, .int (nI k9)), (3, .int (nI (i + 1)))]) [1, 2, 3, 0] rfl ?_
            exact ih (i + 1) k9 v (by omega) (by omega) (avX_f hv (by omega)) h12
          · skip
            refine g_aload_n (pc' := 54) (q := 0) C dX0_advance_53 rfl rfl rfl ?_
            refine g_get (pc' := 57) (v := .ref (a 8)) C FX 0 (by rfl) rfl 7 (by decide) (by decide +kernel) rfl (by rfl) dX0_advance_54 rfl ?_
            refine g_iload_n (pc' := 58) (q := 3) C dX0_advance_57 rfl rfl rfl ?_
            refine g_iald (pc' := 59) (n := 24) (f := v 8) C 8 0 (by rfl) rfl (vp_in_nI (by omega) (by omega)) (k := i) (nI_clamp (by omega)) dX0_advance_58 rfl ?_
            refine g_aload_n (pc' := 60) (q := 0) C dX0_advance_59 rfl rfl rfl ?_
            refine g_get (pc' := 63) (v := .int (v 0 17)) C FX 0 (by rfl) rfl 17 (by decide) (by decide +kernel) rfl (by rfl) dX0_advance_60 rfl ?_
            refine g_icmp_gt (tgt := 74) (pc' := 66) C dX0_advance_63 rfl (by decide) (fun (c_7 : (v 0 17).toInt < (v 8 i).toInt) => ?_) (fun (c_7 : ¬ ((v 0 17).toInt < (v 8 i).toInt)) => ?_)
            · skip
              refine g_iinc (pc' := 77) (v := nI (i + 1)) (L' := [(3, .int (nI (i + 1))), (0, .ref (a 0)), (1, .int x), (2, .int (nI k9))]) C dX0_advance_74 rfl (k := 3) rfl (nI_1 _) (by decide) rfl ?_
              refine g_goto (tgt := 35) C dX0_advance_77 (by decide) ?_
              refine g_sub (L' := [(0, .ref (a 0)), (1, .int x), (2, .int (nI k9)), (3, .int (nI (i + 1)))]) [1, 2, 3, 0] rfl ?_
              exact ih (i + 1) k9 v (by omega) (by omega) (avX_f hv (by omega)) h12
            · skip
              refine g_aload_n (pc' := 67) (q := 0) C dX0_advance_66 rfl rfl rfl ?_
              refine g_iload_n (pc' := 68) (q := 3) C dX0_advance_67 rfl rfl rfl ?_
              refine g_callvV (pc' := 71) (As := [.int (nI i)]) (st := []) (cells' := 0) (slots' := 0) C (c_X0_endProcessing _ i (by omega)) gX0_advance_X0_endProcessing rfl (by decide +kernel) ⟨Nat.le_of_ble_eq_true rfl, Nat.le_of_ble_eq_true rfl⟩ 0 (by rfl) rfl (n := 1) rfl rfl (Nat.le_of_ble_eq_true rfl) dX0_advance_68 rfl rfl rfl ⟨Nat.le_of_ble_eq_true rfl, Nat.le_of_ble_eq_true rfl⟩ (fun  u_8 h_9 => ?_)
              refine g_iinc (pc' := 74) (v := nI (k9 + 1)) (L' := [(2, .int (nI (k9 + 1))), (0, .ref (a 0)), (1, .int x), (3, .int (nI i))]) C dX0_advance_71 rfl (k := 2) rfl (nI_1 _) (by decide) rfl ?_
              refine g_iinc (pc' := 77) (v := nI (i + 1)) (L' := [(3, .int (nI (i + 1))), (2, .int (nI (k9 + 1))), (0, .ref (a 0)), (1, .int x)]) C dX0_advance_74 rfl (k := 3) rfl (nI_1 _) (by decide) rfl ?_
              refine g_goto (tgt := 35) C dX0_advance_77 (by decide) ?_
              refine g_sub (L' := [(0, .ref (a 0)), (1, .int x), (2, .int (nI (k9 + 1))), (3, .int (nI (i + 1)))]) [2, 3, 1, 0] rfl ?_
              exact ih (i + 1) (k9 + 1) u_8 (by omega) (by omega) (by rw [h_9]; exact avX_t hv (by omega) (by omega)) (by rw [h_9, epX_0]; exact h12)
    refine g_sub (L' := [(0, .ref (a 0)), (1, .int x), (2, .int (nI 0)), (3, .int (nI 0))]) [2, 3, 1, 0] rfl ?_
    exact loop_35 25 0 0 _ (by omega) (by omega) rfl rfl
  · skip
    exact False.elim (by omega)
set_option maxHeartbeats 4000000 in
set_option maxRecDepth 100000 in
theorem c_X0_nextFor {l : Launch} {D : va_G} {cI cZ cQ : ClassId} {a : Nat → Nat} (u : LU) (x : Int32) (hI : IX u) (hx : (0 ≤ x.toInt ∧ x.toInt ≤ 5)) : KI l yX0_nextFor wsX0_nextFor ({ frames := 3, cells := 0, slots := 0, locals := 66 } : Room) D (tyX cI cZ cQ) (wX cI cZ cQ a) [.ref (a 0), .int x] u (fun (r : Int32) (u' : LU) => (0 ≤ x.toInt ∧ x.toInt ≤ 5) ∧ ((buX u x ∧ r = -1) ∨ (¬ buX u x ∧ r = (nfX u x (u 0 12).toInt.toNat).1)) ∧ u' = u) := by
  refine ent_I (own := RX0) (maxL := 5) (cc := cX0_nextFor) (L0 := [(0, .ref (a 0)), (1, .int x)]) (by decide) rfl (wX_ok _ _ _ _) rfl (Nat.le_of_ble_eq_true rfl) rfl ?_
  intro p e s m args below meth c A C hr
  have FX : ∀ w ∈ wsX00, w.before args s = true := fun w h => C.2.2.2.2.1 w ((by decide +kernel : ∀ w ∈ wsX00, w ∈ wsX0_nextFor) w h)
  obtain ⟨hS4, hL12, hW16, hZ9, hP16⟩ := id hI
  refine g_iload_n (pc' := 1) (q := 1) C dX0_nextFor_0 rfl rfl rfl ?_
  refine g_callvS (pc' := 4) (As := [.int x]) (st := []) (cells' := 0) (slots' := 0) C (c_X0_checkTool _ x (by omega)) gX0_nextFor_X0_checkTool rfl (by decide +kernel) ⟨Nat.le_of_ble_eq_true rfl, Nat.le_of_ble_eq_true rfl⟩ (n := 1) rfl rfl (Nat.le_of_ble_eq_true rfl) dX0_nextFor_1 rfl rfl rfl ⟨Nat.le_of_ble_eq_true rfl, Nat.le_of_ble_eq_true rfl⟩ (fun  u_1 h_2 => ?_)
  obtain ⟨qh_2, h_2⟩ := h_2
  refine g_st h_2 ?_
  refine g_aload_n (pc' := 5) (q := 0) C dX0_nextFor_4 rfl rfl rfl ?_
  refine g_iload_n (pc' := 6) (q := 1) C dX0_nextFor_5 rfl rfl rfl ?_
  refine g_calliV (pc' := 9) (As := [.int x]) (st := []) (cells' := 0) (slots' := 0) C (c_X0_isBusy _ x (by omega) (by omega)) gX0_nextFor_X0_isBusy rfl (by decide +kernel) ⟨Nat.le_of_ble_eq_true rfl, Nat.le_of_ble_eq_true rfl⟩ 0 (by rfl) rfl (n := 1) rfl rfl (Nat.le_of_ble_eq_true rfl) dX0_nextFor_6 rfl rfl rfl ⟨Nat.le_of_ble_eq_true rfl, Nat.le_of_ble_eq_true rfl⟩ (fun r_3 u_3 h_4 => ?_)
  obtain ⟨rfl, h_4⟩ := h_4
  refine g_st h_4 ?_
  refine g_ifP_eq (tgt := 14) (pc' := 12) C dX0_nextFor_9 rfl (by decide) (fun (c_5 : ¬ (buX u x)) => ?_) (fun (c_5 : buX u x) => ?_)
  · skip
    refine g_iconst (pc' := 15) (v := (-1)) C dX0_nextFor_14 rfl (by decide) ?_
    refine g_istore_n (pc' := 16) (L' := [(2, .int ((-1))), (0, .ref (a 0)), (1, .int x)]) C dX0_nextFor_15 rfl rfl (by decide) rfl ?_
    refine g_ldc (pc' := 18) (v := 2000000) C dX0_nextFor_16 rfl (by decide +kernel) ?_
    refine g_istore_n (pc' := 19) (L' := [(3, .int 2000000), (2, .int ((-1))), (0, .ref (a 0)), (1, .int x)]) C dX0_nextFor_18 rfl rfl (by decide) rfl ?_
    refine g_iconst (pc' := 20) (v := 0) C dX0_nextFor_19 rfl (by decide) ?_
    refine g_istore (pc' := 22) (L' := [(4, .int 0), (3, .int 2000000), (2, .int ((-1))), (0, .ref (a 0)), (1, .int x)]) C dX0_nextFor_20 rfl (by decide) rfl ?_
    have loop_22 : ∀ (k : Nat) (i : Nat) (b9 s9 : Int32), (i : Int) ≤ (u 0 12).toInt → (u 0 12).toInt + 1 ≤ i + k → nfX u x i = (b9, s9) → G p l e ({ frames := 3, cells := 0, slots := 0, locals := 66 } : Room) s m args below meth c D A 5 (wX cI cZ cQ a) 0 0 (MQ below (va_Qi (fun (r : Int32) (u' : LU) => (0 ≤ x.toInt ∧ x.toInt ≤ 5) ∧ ((buX u x ∧ r = -1) ∨ (¬ buX u x ∧ r = (nfX u x (u 0 12).toInt.toNat).1)) ∧ u' = u) (KE D (tyX cI cZ cQ) (wX cI cZ cQ a)) A) args s 0 0 A) u 22 [(0, .ref (a 0)), (1, .int x), (2, .int b9), (3, .int s9), (4, .int (nI i))] [] := by
      intro k
      induction k with
      | zero =>
        intro i b9 s9 hi hk hv
        omega
      | succ k ih =>
        intro i b9 s9 hi hk hv
        refine g_iload (pc' := 24) (q := 4) C dX0_nextFor_22 rfl rfl ?_
        refine g_aload_n (pc' := 25) (q := 0) C dX0_nextFor_24 rfl rfl rfl ?_
        refine g_get (pc' := 28) (v := .int (u 0 12)) C FX 0 (by rfl) rfl 12 (by decide) (by decide +kernel) rfl (by rfl) dX0_nextFor_25 rfl ?_
        have t_6 : (nI i).toInt = ((i : Nat) : Int) := nI_toInt (by omega)
        refine g_icmp_ge (tgt := 76) (pc' := 31) C dX0_nextFor_28 rfl (by decide) (fun (c_7 : (u 0 12).toInt ≤ (nI i).toInt) => ?_) (fun (c_7 : ¬ ((u 0 12).toInt ≤ (nI i).toInt)) => ?_)
        · skip
          refine g_iload_n (pc' := 77) (q := 2) C dX0_nextFor_76 rfl rfl rfl ?_
          exact g_iret C hr rfl ⟨by omega, Or.inr ⟨by assumption, by rw [show (u 0 12).toInt.toNat = i by omega, hv]⟩, rfl⟩ dX0_nextFor_77
        · skip
          refine g_aload_n (pc' := 32) (q := 0) C dX0_nextFor_31 rfl rfl rfl ?_
          refine g_iload (pc' := 34) (q := 4) C dX0_nextFor_32 rfl rfl ?_
          refine g_calliV (pc' := 37) (As := [.int (nI i)]) (st := []) (cells' := 0) (slots' := 0) C (c_X0_isReady _ i (by omega) (by omega)) gX0_nextFor_X0_isReady rfl (by decide +kernel) ⟨Nat.le_of_ble_eq_true rfl, Nat.le_of_ble_eq_true rfl⟩ 0 (by rfl) rfl (n := 1) rfl rfl (Nat.le_of_ble_eq_true rfl) dX0_nextFor_34 rfl rfl rfl ⟨Nat.le_of_ble_eq_true rfl, Nat.le_of_ble_eq_true rfl⟩ (fun r_8 u_8 h_9 => ?_)
          obtain ⟨rfl, h_9⟩ := h_9
          refine g_st h_9 ?_
          refine g_ifP_eq (tgt := 70) (pc' := 40) C dX0_nextFor_37 rfl (by decide) (fun (c_10 : ¬ (rdX u i)) => ?_) (fun (c_10 : rdX u i) => ?_)
          · skip
            refine g_iinc (pc' := 73) (v := nI (i + 1)) (L' := [(4, .int (nI (i + 1))), (0, .ref (a 0)), (1, .int x), (2, .int b9), (3, .int s9)]) C dX0_nextFor_70 rfl (k := 4) rfl (nI_1 _) (by decide) rfl ?_
            refine g_goto (tgt := 22) C dX0_nextFor_73 (by decide) ?_
            refine g_sub (L' := [(0, .ref (a 0)), (1, .int x), (2, .int b9), (3, .int s9), (4, .int (nI (i + 1)))]) [1, 2, 3, 4, 0] rfl ?_
            exact ih (i + 1) b9 s9 (by omega) (by omega) (nfX_f hv (by intro q9; first | exact absurd q9.1 (by assumption) | exact absurd q9.2.1 (by assumption) | exact absurd q9.2.2 (by omega)))
          · skip
            refine g_aload_n (pc' := 41) (q := 0) C dX0_nextFor_40 rfl rfl rfl ?_
            refine g_iload (pc' := 43) (q := 4) C dX0_nextFor_41 rfl rfl ?_
            refine g_iload_n (pc' := 44) (q := 1) C dX0_nextFor_43 rfl rfl rfl ?_
            refine g_calliV (pc' := 47) (As := [.int (nI i), .int x]) (st := []) (cells' := 0) (slots' := 0) C (c_X0_usesTool _ i x (by omega) (by omega)) gX0_nextFor_X0_usesTool rfl (by decide +kernel) ⟨Nat.le_of_ble_eq_true rfl, Nat.le_of_ble_eq_true rfl⟩ 0 (by rfl) rfl (n := 2) rfl rfl (Nat.le_of_ble_eq_true rfl) dX0_nextFor_44 rfl rfl rfl ⟨Nat.le_of_ble_eq_true rfl, Nat.le_of_ble_eq_true rfl⟩ (fun r_11 u_11 h_12 => ?_)
            obtain ⟨rfl, h_12⟩ := h_12
            refine g_st h_12 ?_
            refine g_ifP_eq (tgt := 70) (pc' := 50) C dX0_nextFor_47 rfl (by decide) (fun (c_13 : ¬ (utX u i x)) => ?_) (fun (c_13 : utX u i x) => ?_)
            · skip
              refine g_iinc (pc' := 73) (v := nI (i + 1)) (L' := [(4, .int (nI (i + 1))), (0, .ref (a 0)), (1, .int x), (2, .int b9), (3, .int s9)]) C dX0_nextFor_70 rfl (k := 4) rfl (nI_1 _) (by decide) rfl ?_
              refine g_goto (tgt := 22) C dX0_nextFor_73 (by decide) ?_
              refine g_sub (L' := [(0, .ref (a 0)), (1, .int x), (2, .int b9), (3, .int s9), (4, .int (nI (i + 1)))]) [1, 2, 3, 4, 0] rfl ?_
              exact ih (i + 1) b9 s9 (by omega) (by omega) (nfX_f hv (by intro q9; first | exact absurd q9.1 (by assumption) | exact absurd q9.2.1 (by assumption) | exact absurd q9.2.2 (by omega)))
            · skip
              refine g_aload_n (pc' := 51) (q := 0) C dX0_nextFor_50 rfl rfl rfl ?_
              refine g_iload (pc' := 53) (q := 4) C dX0_nextFor_51 rfl rfl ?_
              refine g_calliV (pc' := 56) (As := [.int (nI i)]) (st := []) (cells' := 0) (slots' := 0) C (c_X0_waitingLeft _ i (by omega) (by omega)) gX0_nextFor_X0_waitingLeft rfl (by decide +kernel) ⟨Nat.le_of_ble_eq_true rfl, Nat.le_of_ble_eq_true rfl⟩ 0 (by rfl) rfl (n := 1) rfl rfl (Nat.le_of_ble_eq_true rfl) dX0_nextFor_53 rfl rfl rfl ⟨Nat.le_of_ble_eq_true rfl, Nat.le_of_ble_eq_true rfl⟩ (fun r_14 u_14 h_15 => ?_)
              obtain ⟨rfl, h_15⟩ := h_15
              refine g_st h_15 ?_
              refine g_iload_n (pc' := 57) (q := 3) C dX0_nextFor_56 rfl rfl rfl ?_
              refine g_icmp_ge (tgt := 70) (pc' := 60) C dX0_nextFor_57 rfl (by decide) (fun (c_16 : (s9).toInt ≤ (slX u i).toInt) => ?_) (fun (c_16 : ¬ ((s9).toInt ≤ (slX u i).toInt)) => ?_)
              · skip
                refine g_iinc (pc' := 73) (v := nI (i + 1)) (L' := [(4, .int (nI (i + 1))), (0, .ref (a 0)), (1, .int x), (2, .int b9), (3, .int s9)]) C dX0_nextFor_70 rfl (k := 4) rfl (nI_1 _) (by decide) rfl ?_
                refine g_goto (tgt := 22) C dX0_nextFor_73 (by decide) ?_
                refine g_sub (L' := [(0, .ref (a 0)), (1, .int x), (2, .int b9), (3, .int s9), (4, .int (nI (i + 1)))]) [1, 2, 3, 4, 0] rfl ?_
                exact ih (i + 1) b9 s9 (by omega) (by omega) (nfX_f hv (by intro q9; first | exact absurd q9.1 (by assumption) | exact absurd q9.2.1 (by assumption) | exact absurd q9.2.2 (by omega)))
              · skip
                refine g_iload (pc' := 62) (q := 4) C dX0_nextFor_60 rfl rfl ?_
                refine g_istore_n (pc' := 63) (L' := [(2, .int (nI i)), (0, .ref (a 0)), (1, .int x), (3, .int s9), (4, .int (nI i))]) C dX0_nextFor_62 rfl rfl (by decide) rfl ?_
                refine g_aload_n (pc' := 64) (q := 1) C dX0_nextFor_63 rfl rfl rfl ?_
                refine g_iload (pc' := 66) (q := 4) C dX0_nextFor_64 rfl rfl ?_
                refine g_calliV (pc' := 69) (As := [.int (nI i)]) (st := []) (cells' := 0) (slots' := 0) C (c_X0_waitingLeft _ i (by omega) (by omega)) gX0_nextFor_X0_waitingLeft rfl (by decide +kernel) ⟨Nat.le_of_ble_eq_true rfl, Nat.le_of_ble_eq_true rfl⟩ 0 (by rfl) rfl (n := 1) rfl rfl (Nat.le_of_ble_eq_true rfl) dX0_nextFor_66 rfl rfl rfl ⟨Nat.le_of_ble_eq_true rfl, Nat.le_of_ble_eq_true rfl⟩ (fun r_17 u_17 h_18 => ?_)
                obtain ⟨rfl, h_18⟩ := h_18
                refine g_st h_18 ?_
                refine g_istore_n (pc' := 70) (L' := [(3, .int (slX u i)), (2, .int (nI i)), (0, .ref (a 0)), (1, .int x), (4, .int (nI i))]) C dX0_nextFor_69 rfl rfl (by decide) rfl ?_
                refine g_iinc (pc' := 73) (v := nI (i + 1)) (L' := [(4, .int (nI (i + 1))), (3, .int (slX u i)), (2, .int (nI i)), (0, .ref (a 0)), (1, .int x)]) C dX0_nextFor_70 rfl (k := 4) rfl (nI_1 _) (by decide) rfl ?_
                refine g_goto (tgt := 22) C dX0_nextFor_73 (by decide) ?_
                refine g_sub (L' := [(0, .ref (a 0)), (1, .int x), (2, .int (nI i)), (3, .int (slX u i)), (4, .int (nI (i + 1)))]) [3, 4, 2, 1, 0] rfl ?_
                exact ih (i + 1) _ _ (by omega) (by omega) (nfX_t hv (by assumption) (by assumption) (by omega))
    refine g_sub (L' := [(0, .ref (a 0)), (1, .int x), (2, .int ((-1))), (3, .int 2000000), (4, .int (nI 0))]) [3, 4, 2, 1, 0] rfl ?_
    exact loop_22 25 0 _ _ (by omega) (by omega) rfl
  · skip
    refine g_iconst (pc' := 13) (v := (-1)) C dX0_nextFor_12 rfl (by decide) ?_
    exact g_iret C hr rfl ⟨by omega, Or.inl ⟨by assumption, rfl⟩, rfl⟩ dX0_nextFor_13
set_option maxHeartbeats 4000000 in
set_option maxRecDepth 100000 in
theorem c_X0_wafersAt {l : Launch} {D : va_G} {cI cZ cQ : ClassId} {a : Nat → Nat} (u : LU) (x : Int32) (hI : IX u) (hx : (0 ≤ x.toInt ∧ x.toInt < (u 0 4).toInt)) : KI l yX0_wafersAt wsX0_wafersAt ({ frames := 2, cells := 0, slots := 0, locals := 42 } : Room) D (tyX cI cZ cQ) (wX cI cZ cQ a) [.ref (a 0), .int x] u (fun (r : Int32) (u' : LU) => (0 ≤ x.toInt ∧ x.toInt < (u 0 4).toInt) ∧ r = waX u x (u 0 12).toInt.toNat ∧ u' = u) := by
  refine ent_I (own := RX0) (maxL := 4) (cc := cX0_wafersAt) (L0 := [(0, .ref (a 0)), (1, .int x)]) (by decide) rfl (wX_ok _ _ _ _) rfl (Nat.le_of_ble_eq_true rfl) rfl ?_
  intro p e s m args below meth c A C hr
  have FX : ∀ w ∈ wsX00, w.before args s = true := fun w h => C.2.2.2.2.1 w ((by decide +kernel : ∀ w ∈ wsX00, w ∈ wsX0_wafersAt) w h)
  obtain ⟨hS4, hL12, hW16, hZ9, hP16⟩ := id hI
  refine g_aload_n (pc' := 1) (q := 0) C dX0_wafersAt_0 rfl rfl rfl ?_
  refine g_iload_n (pc' := 2) (q := 1) C dX0_wafersAt_1 rfl rfl rfl ?_
  refine g_callvV (pc' := 5) (As := [.int x]) (st := []) (cells' := 0) (slots' := 0) C (c_X0_checkStep _ x (by omega)) gX0_wafersAt_X0_checkStep rfl (by decide +kernel) ⟨Nat.le_of_ble_eq_true rfl, Nat.le_of_ble_eq_true rfl⟩ 0 (by rfl) rfl (n := 1) rfl rfl (Nat.le_of_ble_eq_true rfl) dX0_wafersAt_2 rfl rfl rfl ⟨Nat.le_of_ble_eq_true rfl, Nat.le_of_ble_eq_true rfl⟩ (fun  u_1 h_2 => ?_)
  obtain ⟨qh_2, h_2⟩ := h_2
  refine g_st h_2 ?_
  refine g_iconst (pc' := 6) (v := 0) C dX0_wafersAt_5 rfl (by decide) ?_
  refine g_istore_n (pc' := 7) (L' := [(2, .int 0), (0, .ref (a 0)), (1, .int x)]) C dX0_wafersAt_6 rfl rfl (by decide) rfl ?_
  refine g_iconst (pc' := 8) (v := 0) C dX0_wafersAt_7 rfl (by decide) ?_
  refine g_istore_n (pc' := 9) (L' := [(3, .int 0), (2, .int 0), (0, .ref (a 0)), (1, .int x)]) C dX0_wafersAt_8 rfl rfl (by decide) rfl ?_
  have loop_9 : ∀ (k : Nat) (i : Nat), (i : Int) ≤ (u 0 12).toInt → (u 0 12).toInt + 1 ≤ i + k → G p l e ({ frames := 2, cells := 0, slots := 0, locals := 42 } : Room) s m args below meth c D A 4 (wX cI cZ cQ a) 0 0 (MQ below (va_Qi (fun (r : Int32) (u' : LU) => (0 ≤ x.toInt ∧ x.toInt < (u 0 4).toInt) ∧ r = waX u x (u 0 12).toInt.toNat ∧ u' = u) (KE D (tyX cI cZ cQ) (wX cI cZ cQ a)) A) args s 0 0 A) u 9 [(0, .ref (a 0)), (1, .int x), (2, .int (waX u x i)), (3, .int (nI i))] [] := by
    intro k
    induction k with
    | zero =>
      intro i hi hk
      omega
    | succ k ih =>
      intro i hi hk
      refine g_iload_n (pc' := 10) (q := 3) C dX0_wafersAt_9 rfl rfl rfl ?_
      refine g_aload_n (pc' := 11) (q := 0) C dX0_wafersAt_10 rfl rfl rfl ?_
      refine g_get (pc' := 14) (v := .int (u 0 12)) C FX 0 (by rfl) rfl 12 (by decide) (by decide +kernel) rfl (by rfl) dX0_wafersAt_11 rfl ?_
      have t_3 : (nI i).toInt = ((i : Nat) : Int) := nI_toInt (by omega)
      refine g_icmp_ge (tgt := 42) (pc' := 17) C dX0_wafersAt_14 rfl (by decide) (fun (c_4 : (u 0 12).toInt ≤ (nI i).toInt) => ?_) (fun (c_4 : ¬ ((u 0 12).toInt ≤ (nI i).toInt)) => ?_)
      · skip
        refine g_iload_n (pc' := 43) (q := 2) C dX0_wafersAt_42 rfl rfl rfl ?_
        exact g_iret C hr rfl ⟨by omega, by rw [show (u 0 12).toInt.toNat = i by omega], rfl⟩ dX0_wafersAt_43
      · skip
        refine g_aload_n (pc' := 18) (q := 0) C dX0_wafersAt_17 rfl rfl rfl ?_
        refine g_get (pc' := 21) (v := .ref (a 7)) C FX 0 (by rfl) rfl 6 (by decide) (by decide +kernel) rfl (by rfl) dX0_wafersAt_18 rfl ?_
        refine g_iload_n (pc' := 22) (q := 3) C dX0_wafersAt_21 rfl rfl rfl ?_
        refine g_iald (pc' := 23) (n := 24) (f := u 7) C 7 0 (by rfl) rfl (vp_in_nI (by omega) (by omega)) (k := i) (nI_clamp (by omega)) dX0_wafersAt_22 rfl ?_
        refine g_iload_n (pc' := 24) (q := 1) C dX0_wafersAt_23 rfl rfl rfl ?_
        refine g_icmp_ne (tgt := 36) (pc' := 27) C dX0_wafersAt_24 rfl (by decide) (fun (c_5 : ¬ (u 7 i).toInt = (x).toInt) => ?_) (fun (c_5 : (u 7 i).toInt = (x).toInt) => ?_)
        · skip
          refine g_iinc (pc' := 39) (v := nI (i + 1)) (L' := [(3, .int (nI (i + 1))), (0, .ref (a 0)), (1, .int x), (2, .int (waX u x i))]) C dX0_wafersAt_36 rfl (k := 3) rfl (nI_1 _) (by decide) rfl ?_
          refine g_goto (tgt := 9) C dX0_wafersAt_39 (by decide) ?_
          have e_2 : (waX u x i : Int32) = waX u x (i + 1) := (by simp only [waX]; rw [if_neg (by assumption)])
          refine g_sub (L' := [(0, .ref (a 0)), (1, .int x), (2, .int (waX u x (i + 1))), (3, .int (nI (i + 1)))]) [1, 2, 3, 0] (by rw [← e_2]; rfl) ?_
          exact ih (i + 1) (by omega) (by omega)
        · skip
          refine g_iload_n (pc' := 28) (q := 2) C dX0_wafersAt_27 rfl rfl rfl ?_
          refine g_aload_n (pc' := 29) (q := 0) C dX0_wafersAt_28 rfl rfl rfl ?_
          refine g_get (pc' := 32) (v := .ref (a 12)) C FX 0 (by rfl) rfl 11 (by decide) (by decide +kernel) rfl (by rfl) dX0_wafersAt_29 rfl ?_
          refine g_iload_n (pc' := 33) (q := 3) C dX0_wafersAt_32 rfl rfl rfl ?_
          refine g_iald (pc' := 34) (n := 24) (f := u 12) C 12 0 (by rfl) rfl (vp_in_nI (by omega) (by omega)) (k := i) (nI_clamp (by omega)) dX0_wafersAt_33 rfl ?_
          refine g_iadd (pc' := 35) C dX0_wafersAt_34 rfl ?_
          refine g_istore_n (pc' := 36) (L' := [(2, .int ((waX u x i) + (u 12 i))), (0, .ref (a 0)), (1, .int x), (3, .int (nI i))]) C dX0_wafersAt_35 rfl rfl (by decide) rfl ?_
          refine g_iinc (pc' := 39) (v := nI (i + 1)) (L' := [(3, .int (nI (i + 1))), (2, .int ((waX u x i) + (u 12 i))), (0, .ref (a 0)), (1, .int x)]) C dX0_wafersAt_36 rfl (k := 3) rfl (nI_1 _) (by decide) rfl ?_
          refine g_goto (tgt := 9) C dX0_wafersAt_39 (by decide) ?_
          have e_2 : ((waX u x i) + (u 12 i) : Int32) = waX u x (i + 1) := (by simp only [waX]; rw [if_pos (by assumption)])
          refine g_sub (L' := [(0, .ref (a 0)), (1, .int x), (2, .int (waX u x (i + 1))), (3, .int (nI (i + 1)))]) [2, 3, 1, 0] (by rw [← e_2]; rfl) ?_
          exact ih (i + 1) (by omega) (by omega)
  refine g_sub (L' := [(0, .ref (a 0)), (1, .int x), (2, .int (waX u x 0)), (3, .int (nI 0))]) [2, 3, 1, 0] rfl ?_
  exact loop_9 25 0 (by omega) (by omega)
set_option maxHeartbeats 4000000 in
set_option maxRecDepth 100000 in
theorem c_X0_wafersAtByWafers {l : Launch} {D : va_G} {cI cZ cQ : ClassId} {a : Nat → Nat} (u : LU) (x : Int32) (hI : IX u) (hx : (0 ≤ x.toInt ∧ x.toInt < (u 0 4).toInt)) : KI l yX0_wafersAtByWafers wsX0_wafersAtByWafers ({ frames := 2, cells := 0, slots := 0, locals := 42 } : Room) D (tyX cI cZ cQ) (wX cI cZ cQ a) [.ref (a 0), .int x] u (fun (r : Int32) (u' : LU) => (0 ≤ x.toInt ∧ x.toInt < (u 0 4).toInt) ∧ r = nI (wbX u x (u 0 16).toInt.toNat) ∧ u' = u) := by
  refine ent_I (own := RX0) (maxL := 5) (cc := cX0_wafersAtByWafers) (L0 := [(0, .ref (a 0)), (1, .int x)]) (by decide) rfl (wX_ok _ _ _ _) rfl (Nat.le_of_ble_eq_true rfl) rfl ?_
  intro p e s m args below meth c A C hr
  have FX : ∀ w ∈ wsX00, w.before args s = true := fun w h => C.2.2.2.2.1 w ((by decide +kernel : ∀ w ∈ wsX00, w ∈ wsX0_wafersAtByWafers) w h)
  obtain ⟨hS4, hL12, hW16, hZ9, hP16⟩ := id hI
  refine g_aload_n (pc' := 1) (q := 0) C dX0_wafersAtByWafers_0 rfl rfl rfl ?_
  refine g_iload_n (pc' := 2) (q := 1) C dX0_wafersAtByWafers_1 rfl rfl rfl ?_
  refine g_callvV (pc' := 5) (As := [.int x]) (st := []) (cells' := 0) (slots' := 0) C (c_X0_checkStep _ x (by omega)) gX0_wafersAtByWafers_X0_checkStep rfl (by decide +kernel) ⟨Nat.le_of_ble_eq_true rfl, Nat.le_of_ble_eq_true rfl⟩ 0 (by rfl) rfl (n := 1) rfl rfl (Nat.le_of_ble_eq_true rfl) dX0_wafersAtByWafers_2 rfl rfl rfl ⟨Nat.le_of_ble_eq_true rfl, Nat.le_of_ble_eq_true rfl⟩ (fun  u_1 h_2 => ?_)
  obtain ⟨qh_2, h_2⟩ := h_2
  refine g_st h_2 ?_
  refine g_iconst (pc' := 6) (v := 0) C dX0_wafersAtByWafers_5 rfl (by decide) ?_
  refine g_istore_n (pc' := 7) (L' := [(2, .int 0), (0, .ref (a 0)), (1, .int x)]) C dX0_wafersAtByWafers_6 rfl rfl (by decide) rfl ?_
  refine g_iconst (pc' := 8) (v := 0) C dX0_wafersAtByWafers_7 rfl (by decide) ?_
  refine g_istore_n (pc' := 9) (L' := [(3, .int 0), (2, .int 0), (0, .ref (a 0)), (1, .int x)]) C dX0_wafersAtByWafers_8 rfl rfl (by decide) rfl ?_
  have loop_9 : ∀ (k : Nat) (i : Nat), (i : Int) ≤ (u 0 16).toInt → (u 0 16).toInt + 1 ≤ i + k → G p l e ({ frames := 2, cells := 0, slots := 0, locals := 42 } : Room) s m args below meth c D A 5 (wX cI cZ cQ a) 0 0 (MQ below (va_Qi (fun (r : Int32) (u' : LU) => (0 ≤ x.toInt ∧ x.toInt < (u 0 4).toInt) ∧ r = nI (wbX u x (u 0 16).toInt.toNat) ∧ u' = u) (KE D (tyX cI cZ cQ) (wX cI cZ cQ a)) A) args s 0 0 A) u 9 [(0, .ref (a 0)), (1, .int x), (2, .int (nI (wbX u x i))), (3, .int (nI i))] [] := by
    intro k
    induction k with
    | zero =>
      intro i hi hk
      omega
    | succ k ih =>
      intro i hi hk
      refine g_iload_n (pc' := 10) (q := 3) C dX0_wafersAtByWafers_9 rfl rfl rfl ?_
      refine g_aload_n (pc' := 11) (q := 0) C dX0_wafersAtByWafers_10 rfl rfl rfl ?_
      refine g_get (pc' := 14) (v := .int (u 0 16)) C FX 0 (by rfl) rfl 16 (by decide) (by decide +kernel) rfl (by rfl) dX0_wafersAtByWafers_11 rfl ?_
      have t_3 : (nI i).toInt = ((i : Nat) : Int) := nI_toInt (by omega)
      refine g_icmp_ge (tgt := 54) (pc' := 17) C dX0_wafersAtByWafers_14 rfl (by decide) (fun (c_4 : (u 0 16).toInt ≤ (nI i).toInt) => ?_) (fun (c_4 : ¬ ((u 0 16).toInt ≤ (nI i).toInt)) => ?_)
      · skip
        refine g_iload_n (pc' := 55) (q := 2) C dX0_wafersAtByWafers_54 rfl rfl rfl ?_
        exact g_iret C hr rfl ⟨by omega, by rw [show (u 0 16).toInt.toNat = i by omega], rfl⟩ dX0_wafersAtByWafers_55
      · skip
        refine g_aload_n (pc' := 18) (q := 0) C dX0_wafersAtByWafers_17 rfl rfl rfl ?_
        refine g_get (pc' := 21) (v := .ref (a 14)) C FX 0 (by rfl) rfl 13 (by decide) (by decide +kernel) rfl (by rfl) dX0_wafersAtByWafers_18 rfl ?_
        refine g_iload_n (pc' := 22) (q := 3) C dX0_wafersAtByWafers_21 rfl rfl rfl ?_
        refine g_iald (pc' := 23) (n := 60) (f := u 14) C 13 0 (by rfl) rfl (vp_in_nI (by omega) (by omega)) (k := i) (nI_clamp (by omega)) dX0_wafersAtByWafers_22 rfl ?_
        refine g_istore (pc' := 25) (L' := [(4, .int (u 14 i)), (0, .ref (a 0)), (1, .int x), (2, .int (nI (wbX u x i))), (3, .int (nI i))]) C dX0_wafersAtByWafers_23 rfl (by decide) rfl ?_
        refine g_aload_n (pc' := 26) (q := 1) C dX0_wafersAtByWafers_25 rfl rfl rfl ?_
        refine g_iload (pc' := 28) (q := 0) C dX0_wafersAtByWafers_26 rfl rfl ?_
        refine g_calliV (pc' := 31) (As := [.int (u 14 i)]) (st := []) (cells' := 0) (slots' := 0) C (c_X0_isLot _ (u 14 i)) gX0_wafersAtByWafers_X0_isLot rfl (by decide +kernel) ⟨Nat.le_of_ble_eq_true rfl, Nat.le_of_ble_eq_true rfl⟩ 0 (by rfl) rfl (n := 1) rfl rfl (Nat.le_of_ble_eq_true rfl) dX0_wafersAtByWafers_28 rfl rfl rfl ⟨Nat.le_of_ble_eq_true rfl, Nat.le_of_ble_eq_true rfl⟩ (fun r_5 u_5 h_6 => ?_)
        obtain ⟨rfl, h_6⟩ := h_6
        refine g_st h_6 ?_
        refine g_ifP_eq (tgt := 48) (pc' := 34) C dX0_wafersAtByWafers_31 rfl (by decide) (fun (c_7 : ¬ (0 ≤ (u 14 i).toInt ∧ (u 14 i).toInt < (u 0 12).toInt)) => ?_) (fun (c_7 : 0 ≤ (u 14 i).toInt ∧ (u 14 i).toInt < (u 0 12).toInt) => ?_)
        · skip
          refine g_iinc (pc' := 51) (v := nI (i + 1)) (L' := [(3, .int (nI (i + 1))), (4, .int (u 14 i)), (0, .ref (a 0)), (1, .int x), (2, .int (nI (wbX u x i)))]) C dX0_wafersAtByWafers_48 rfl (k := 4) rfl (nI_1 _) (by decide) rfl ?_
          refine g_goto (tgt := 9) C dX0_wafersAtByWafers_51 (by decide) ?_
          have e_2 : (nI (wbX u x i) : Int32) = nI (wbX u x (i + 1)) := congrArg _ (by simp only [wbX]; rw [if_neg (by intro q9; first | exact absurd q9.1 (by assumption) | exact absurd q9.2 (by assumption))])
          refine g_sub (L' := [(0, .ref (a 0)), (1, .int x), (2, .int (nI (wbX u x (i + 1)))), (3, .int (nI (i + 1)))]) [2, 3, 4, 0] (by rw [← e_2]; rfl) ?_
          exact ih (i + 1) (by omega) (by omega)
        · skip
          refine g_aload_n (pc' := 35) (q := 1) C dX0_wafersAtByWafers_34 rfl rfl rfl ?_
          refine g_get (pc' := 38) (v := .ref (a 7)) C FX 0 (by rfl) rfl 6 (by decide) (by decide +kernel) rfl (by rfl) dX0_wafersAtByWafers_35 rfl ?_
          refine g_iload (pc' := 40) (q := 0) C dX0_wafersAtByWafers_38 rfl rfl ?_
          refine g_iald (pc' := 41) (n := 24) (f := u 7) C 7 0 (by rfl) rfl (vp_of (by omega) (by omega)) (k := (u 14 i).toNatClampNeg) rfl dX0_wafersAtByWafers_40 rfl ?_
          refine g_iload_n (pc' := 42) (q := 2) C dX0_wafersAtByWafers_41 rfl rfl rfl ?_
          refine g_icmp_ne (tgt := 48) (pc' := 45) C dX0_wafersAtByWafers_42 rfl (by decide) (fun (c_8 : ¬ (u 7 (u 14 i).toNatClampNeg).toInt = (x).toInt) => ?_) (fun (c_8 : (u 7 (u 14 i).toNatClampNeg).toInt = (x).toInt) => ?_)
          · skip
            refine g_iinc (pc' := 51) (v := nI (i + 1)) (L' := [(3, .int (nI (i + 1))), (4, .int (u 14 i)), (0, .ref (a 0)), (1, .int x), (2, .int (nI (wbX u x i)))]) C dX0_wafersAtByWafers_48 rfl (k := 4) rfl (nI_1 _) (by decide) rfl ?_
            refine g_goto (tgt := 9) C dX0_wafersAtByWafers_51 (by decide) ?_
            have e_2 : (nI (wbX u x i) : Int32) = nI (wbX u x (i + 1)) := congrArg _ (by simp only [wbX]; rw [if_neg (by intro q9; first | exact absurd q9.1 (by assumption) | exact absurd q9.2 (by assumption))])
            refine g_sub (L' := [(0, .ref (a 0)), (1, .int x), (2, .int (nI (wbX u x (i + 1)))), (3, .int (nI (i + 1)))]) [2, 3, 4, 0] (by rw [← e_2]; rfl) ?_
            exact ih (i + 1) (by omega) (by omega)
          · skip
            refine g_iinc (pc' := 48) (v := nI (wbX u x i + 1)) (L' := [(2, .int (nI (wbX u x i + 1))), (4, .int (u 14 i)), (0, .ref (a 0)), (1, .int x), (3, .int (nI i))]) C dX0_wafersAtByWafers_45 rfl (k := 3) rfl (nI_1 _) (by decide) rfl ?_
            refine g_iinc (pc' := 51) (v := nI (i + 1)) (L' := [(3, .int (nI (i + 1))), (2, .int (nI (wbX u x i + 1))), (4, .int (u 14 i)), (0, .ref (a 0)), (1, .int x)]) C dX0_wafersAtByWafers_48 rfl (k := 4) rfl (nI_1 _) (by decide) rfl ?_
            refine g_goto (tgt := 9) C dX0_wafersAtByWafers_51 (by decide) ?_
            have e_2 : (nI (wbX u x i + 1) : Int32) = nI (wbX u x (i + 1)) := congrArg _ (by simp only [wbX]; rw [if_pos ⟨by assumption, by assumption⟩])
            refine g_sub (L' := [(0, .ref (a 0)), (1, .int x), (2, .int (nI (wbX u x (i + 1)))), (3, .int (nI (i + 1)))]) [3, 4, 1, 0] (by rw [← e_2]; rfl) ?_
            exact ih (i + 1) (by omega) (by omega)
  refine g_sub (L' := [(0, .ref (a 0)), (1, .int x), (2, .int (nI (wbX u x 0))), (3, .int (nI 0))]) [2, 3, 1, 0] rfl ?_
  exact loop_9 61 0 (by omega) (by omega)
set_option maxHeartbeats 4000000 in
set_option maxRecDepth 100000 in
theorem c_X0_common {l : Launch} {D : va_G} {cI cZ cQ : ClassId} {a : Nat → Nat} (u : LU) (x y : Int32) (hI : IX u) (hx : (0 ≤ x.toInt ∧ x.toInt < (u 0 12).toInt)) (hy : (0 ≤ y.toInt ∧ y.toInt < (u 0 12).toInt)) : KI l yX0_common wsX0_common ({ frames := 2, cells := 0, slots := 0, locals := 42 } : Room) D (tyX cI cZ cQ) (wX cI cZ cQ a) [.ref (a 0), .int x, .int y] u (fun (r : Int32) (u' : LU) => (0 ≤ x.toInt ∧ x.toInt < (u 0 12).toInt) ∧ (0 ≤ y.toInt ∧ y.toInt < (u 0 12).toInt) ∧ r = coX u 48 x y ∧ u' = u) := by
  refine ent_I (own := RX0) (maxL := 6) (cc := cX0_common) (L0 := [(0, .ref (a 0)), (1, .int x), (2, .int y)]) (by decide) rfl (wX_ok _ _ _ _) rfl (Nat.le_of_ble_eq_true rfl) rfl ?_
  intro p e s m args below meth c A C hr
  obtain ⟨hS4, hL12, hW16, hZ9, hP16⟩ := id hI
  refine g_aload_n (pc' := 1) (q := 0) C dX0_common_0 rfl rfl rfl ?_
  refine g_iload_n (pc' := 2) (q := 1) C dX0_common_1 rfl rfl rfl ?_
  refine g_callvV (pc' := 5) (As := [.int x]) (st := []) (cells' := 0) (slots' := 0) C (c_X0_checkLot _ x (by omega)) gX0_common_X0_checkLot rfl (by decide +kernel) ⟨Nat.le_of_ble_eq_true rfl, Nat.le_of_ble_eq_true rfl⟩ 0 (by rfl) rfl (n := 1) rfl rfl (Nat.le_of_ble_eq_true rfl) dX0_common_2 rfl rfl rfl ⟨Nat.le_of_ble_eq_true rfl, Nat.le_of_ble_eq_true rfl⟩ (fun  u_1 h_2 => ?_)
  obtain ⟨qh_2, h_2⟩ := h_2
  refine g_st h_2 ?_
  refine g_aload_n (pc' := 6) (q := 0) C dX0_common_5 rfl rfl rfl ?_
  refine g_iload_n (pc' := 7) (q := 2) C dX0_common_6 rfl rfl rfl ?_
  refine g_callvV (pc' := 10) (As := [.int y]) (st := []) (cells' := 0) (slots' := 0) C (c_X0_checkLot _ y (by omega)) gX0_common_X0_checkLot rfl (by decide +kernel) ⟨Nat.le_of_ble_eq_true rfl, Nat.le_of_ble_eq_true rfl⟩ 0 (by rfl) rfl (n := 1) rfl rfl (Nat.le_of_ble_eq_true rfl) dX0_common_7 rfl rfl rfl ⟨Nat.le_of_ble_eq_true rfl, Nat.le_of_ble_eq_true rfl⟩ (fun  u_3 h_4 => ?_)
  obtain ⟨qh_4, h_4⟩ := h_4
  refine g_st h_4 ?_
  refine g_iload_n (pc' := 11) (q := 1) C dX0_common_10 rfl rfl rfl ?_
  refine g_istore_n (pc' := 12) (L' := [(3, .int x), (0, .ref (a 0)), (1, .int x), (2, .int y)]) C dX0_common_11 rfl rfl (by decide) rfl ?_
  refine g_iload_n (pc' := 13) (q := 3) C dX0_common_12 rfl rfl rfl ?_
  refine g_istore (pc' := 15) (L' := [(4, .int y), (3, .int x), (0, .ref (a 0)), (1, .int x), (2, .int y)]) C dX0_common_13 rfl (by decide) rfl ?_
  refine g_iconst (pc' := 16) (v := 0) C dX0_common_15 rfl (by decide) ?_
  refine g_istore (pc' := 18) (L' := [(5, .int 0), (4, .int y), (3, .int x), (0, .ref (a 0)), (1, .int x), (2, .int y)]) C dX0_common_16 rfl (by decide) rfl ?_
  have loop_18 : ∀ (k : Nat) (i : Nat) (a9 b9 : Int32), i ≤ 48 → 49 ≤ i + k → coX u (48 - i) a9 b9 = coX u 48 x y → G p l e ({ frames := 2, cells := 0, slots := 0, locals := 42 } : Room) s m args below meth c D A 6 (wX cI cZ cQ a) 0 0 (MQ below (va_Qi (fun (r : Int32) (u' : LU) => (0 ≤ x.toInt ∧ x.toInt < (u 0 12).toInt) ∧ (0 ≤ y.toInt ∧ y.toInt < (u 0 12).toInt) ∧ r = coX u 48 x y ∧ u' = u) (KE D (tyX cI cZ cQ) (wX cI cZ cQ a)) A) args s 0 0 A) u 18 [(0, .ref (a 0)), (1, .int x), (2, .int y), (3, .int a9), (4, .int b9), (5, .int (nI i))] [] := by
    intro k
    induction k with
    | zero =>
      intro i a9 b9 hi hk hv
      omega
    | succ k ih =>
      intro i a9 b9 hi hk hv
      refine g_iload (pc' := 20) (q := 5) C dX0_common_18 rfl rfl ?_
      refine g_bipush (pc' := 22) (v := 48) C dX0_common_20 rfl (by decide) ?_
      have t_5 : (nI i).toInt = ((i : Nat) : Int) := nI_toInt (by omega)
      refine g_icmp_ge (tgt := 60) (pc' := 25) C dX0_common_22 rfl (by decide) (fun (c_6 : 48 ≤ (nI i).toInt) => ?_) (fun (c_6 : ¬ (48 ≤ (nI i).toInt)) => ?_)
      · skip
        refine g_iload_n (pc' := 61) (q := 3) C dX0_common_60 rfl rfl rfl ?_
        exact g_iret C hr rfl ⟨by omega, by omega, coX_end hv (by omega), rfl⟩ dX0_common_61
      · skip
        refine g_iload_n (pc' := 26) (q := 3) C dX0_common_25 rfl rfl rfl ?_
        refine g_iload (pc' := 28) (q := 4) C dX0_common_26 rfl rfl ?_
        refine g_icmp_eq (tgt := 60) (pc' := 31) C dX0_common_28 rfl (by decide) (fun (c_7 : (a9).toInt = (b9).toInt) => ?_) (fun (c_7 : ¬ ((a9).toInt = (b9).toInt)) => ?_)
        · skip
          refine g_iload_n (pc' := 61) (q := 3) C dX0_common_60 rfl rfl rfl ?_
          exact g_iret C hr rfl ⟨by omega, by omega, coX_end hv (by omega), rfl⟩ dX0_common_61
        · skip
          refine g_iload_n (pc' := 32) (q := 3) C dX0_common_31 rfl rfl rfl ?_
          refine g_iload (pc' := 34) (q := 4) C dX0_common_32 rfl rfl ?_
          refine g_icmp_le (tgt := 46) (pc' := 37) C dX0_common_34 rfl (by decide) (fun (c_8 : (a9).toInt ≤ (b9).toInt) => ?_) (fun (c_8 : ¬ ((a9).toInt ≤ (b9).toInt)) => ?_)
          · skip
            refine g_aload_n (pc' := 47) (q := 0) C dX0_common_46 rfl rfl rfl ?_
            refine g_iload (pc' := 49) (q := 4) C dX0_common_47 rfl rfl ?_
            refine g_calliV (pc' := 52) (As := [.int b9]) (st := []) (cells' := 0) (slots' := 0) C (c_X0_parentOrNone _ b9 (by omega)) gX0_common_X0_parentOrNone rfl (by decide +kernel) ⟨Nat.le_of_ble_eq_true rfl, Nat.le_of_ble_eq_true rfl⟩ 0 (by rfl) rfl (n := 1) rfl rfl (Nat.le_of_ble_eq_true rfl) dX0_common_49 rfl rfl rfl ⟨Nat.le_of_ble_eq_true rfl, Nat.le_of_ble_eq_true rfl⟩ (fun r_9 u_9 h_10 => ?_)
            obtain ⟨rfl, h_10⟩ := h_10
            refine g_st h_10 ?_
            refine g_istore (pc' := 54) (L' := [(4, .int (ponX u b9)), (0, .ref (a 0)), (1, .int x), (2, .int y), (3, .int a9), (5, .int (nI i))]) C dX0_common_52 rfl (by decide) rfl ?_
            refine g_iinc (pc' := 57) (v := nI (i + 1)) (L' := [(5, .int (nI (i + 1))), (4, .int (ponX u b9)), (0, .ref (a 0)), (1, .int x), (2, .int y), (3, .int a9)]) C dX0_common_54 rfl (k := 5) rfl (nI_1 _) (by decide) rfl ?_
            refine g_goto (tgt := 18) C dX0_common_57 (by decide) ?_
            refine g_sub (L' := [(0, .ref (a 0)), (1, .int x), (2, .int y), (3, .int a9), (4, .int (ponX u b9)), (5, .int (nI (i + 1)))]) [2, 3, 4, 5, 1, 0] rfl ?_
            exact ih (i + 1) _ _ (by omega) (by omega) (by rw [← hv, show 48 - i = (48 - (i + 1)) + 1 by omega]; simp only [coX]; rw [if_neg (by omega), if_neg (by omega)])
          · skip
            refine g_aload_n (pc' := 38) (q := 0) C dX0_common_37 rfl rfl rfl ?_
            refine g_iload_n (pc' := 39) (q := 3) C dX0_common_38 rfl rfl rfl ?_
            refine g_calliV (pc' := 42) (As := [.int a9]) (st := []) (cells' := 0) (slots' := 0) C (c_X0_parentOrNone _ a9 (by omega)) gX0_common_X0_parentOrNone rfl (by decide +kernel) ⟨Nat.le_of_ble_eq_true rfl, Nat.le_of_ble_eq_true rfl⟩ 0 (by rfl) rfl (n := 1) rfl rfl (Nat.le_of_ble_eq_true rfl) dX0_common_39 rfl rfl rfl ⟨Nat.le_of_ble_eq_true rfl, Nat.le_of_ble_eq_true rfl⟩ (fun r_11 u_11 h_12 => ?_)
            obtain ⟨rfl, h_12⟩ := h_12
            refine g_st h_12 ?_
            refine g_istore_n (pc' := 43) (L' := [(3, .int (ponX u a9)), (0, .ref (a 0)), (1, .int x), (2, .int y), (4, .int b9), (5, .int (nI i))]) C dX0_common_42 rfl rfl (by decide) rfl ?_
            refine g_goto (tgt := 54) C dX0_common_43 (by decide) ?_
            refine g_iinc (pc' := 57) (v := nI (i + 1)) (L' := [(5, .int (nI (i + 1))), (3, .int (ponX u a9)), (0, .ref (a 0)), (1, .int x), (2, .int y), (4, .int b9)]) C dX0_common_54 rfl (k := 5) rfl (nI_1 _) (by decide) rfl ?_
            refine g_goto (tgt := 18) C dX0_common_57 (by decide) ?_
            refine g_sub (L' := [(0, .ref (a 0)), (1, .int x), (2, .int y), (3, .int (ponX u a9)), (4, .int b9), (5, .int (nI (i + 1)))]) [2, 3, 4, 1, 5, 0] rfl ?_
            exact ih (i + 1) _ _ (by omega) (by omega) (by rw [← hv, show 48 - i = (48 - (i + 1)) + 1 by omega]; simp only [coX]; rw [if_neg (by omega), if_pos (by omega)])
  refine g_sub (L' := [(0, .ref (a 0)), (1, .int x), (2, .int y), (3, .int x), (4, .int y), (5, .int (nI 0))]) [3, 4, 5, 2, 1, 0] rfl ?_
  exact loop_18 49 0 x y (by omega) (by omega) rfl
set_option maxHeartbeats 4000000 in
set_option maxRecDepth 100000 in
theorem c_X0_pathAt {l : Launch} {D : va_G} {cI cZ cQ : ClassId} {a : Nat → Nat} (u : LU) (x y : Int32) (hI : IX u) (hx : (0 ≤ x.toInt ∧ x.toInt < (u 0 16).toInt)) (hy : ∀ w : Nat, w < 60 → x = nI w → (0 ≤ y.toInt ∧ y.toInt ≤ (u 16 w - 1).toInt)) : KI l yX0_pathAt wsX0_pathAt ({ frames := 1, cells := 0, slots := 0, locals := 22 } : Room) D (tyX cI cZ cQ) (wX cI cZ cQ a) [.ref (a 0), .int x, .int y] u (fun (r : Int32) (u' : LU) => ∃ w : Nat, x = nI w ∧ (w : Int) < (u 0 16).toInt ∧ (0 ≤ y.toInt ∧ y.toInt ≤ (u 16 w - 1).toInt) ∧ r = u (100 + w) y.toNatClampNeg ∧ u' = u) := by
  refine ent_I (own := RX0) (maxL := 3) (cc := cX0_pathAt) (L0 := [(0, .ref (a 0)), (1, .int x), (2, .int y)]) (by decide) rfl (wX_ok _ _ _ _) rfl (Nat.le_of_ble_eq_true rfl) rfl ?_
  intro p e s m args below meth c A C hr
  have FX : ∀ w ∈ wsX00, w.before args s = true := fun w h => C.2.2.2.2.1 w ((by decide +kernel : ∀ w ∈ wsX00, w ∈ wsX0_pathAt) w h)
  obtain ⟨hS4, hL12, hW16, hZ9, hP16⟩ := id hI
  refine g_aload_n (pc' := 1) (q := 0) C dX0_pathAt_0 rfl rfl rfl ?_
  refine g_iload_n (pc' := 2) (q := 1) C dX0_pathAt_1 rfl rfl rfl ?_
  refine g_callvV (pc' := 5) (As := [.int x]) (st := []) (cells' := 0) (slots' := 0) C (c_X0_checkWafer _ x (by omega)) gX0_pathAt_X0_checkWafer rfl (by decide +kernel) ⟨Nat.le_of_ble_eq_true rfl, Nat.le_of_ble_eq_true rfl⟩ 0 (by rfl) rfl (n := 1) rfl rfl (Nat.le_of_ble_eq_true rfl) dX0_pathAt_2 rfl rfl rfl ⟨Nat.le_of_ble_eq_true rfl, Nat.le_of_ble_eq_true rfl⟩ (fun  u_1 h_2 => ?_)
  obtain ⟨qh_2, h_2⟩ := h_2
  refine g_st h_2 ?_
  obtain ⟨w, hw, rfl⟩ := nI_of_ti (n := 60) qh_2.1 (by omega) (by decide)
  have tw : (nI w).toInt = (w : Int) := nI_toInt (by omega)
  rw [tw] at qh_2
  refine g_iload_n (pc' := 6) (q := 2) C dX0_pathAt_5 rfl rfl rfl ?_
  refine g_iconst (pc' := 7) (v := 0) C dX0_pathAt_6 rfl (by decide) ?_
  refine g_aload_n (pc' := 8) (q := 0) C dX0_pathAt_7 rfl rfl rfl ?_
  refine g_get (pc' := 11) (v := .ref (a 16)) C FX 0 (by rfl) rfl 15 (by decide) (by decide +kernel) rfl (by rfl) dX0_pathAt_8 rfl ?_
  refine g_iload_n (pc' := 12) (q := 1) C dX0_pathAt_11 rfl rfl rfl ?_
  refine g_iald (pc' := 13) (n := 60) (f := u 16) C 14 0 (by rfl) rfl (vp_in_nI (by omega) (by omega)) (k := w) (nI_clamp (by omega)) dX0_pathAt_12 rfl ?_
  refine g_iconst (pc' := 14) (v := 1) C dX0_pathAt_13 rfl (by decide) ?_
  refine g_isub (pc' := 15) C dX0_pathAt_14 rfl ?_
  refine g_calliS (pc' := 18) (As := [.int y, .int 0, .int ((u 16 w) - 1)]) (st := []) (cells' := 0) (slots' := 0) C (c_X0_isWithin _ y 0 ((u 16 w) - 1)) gX0_pathAt_X0_isWithin rfl (by decide +kernel) ⟨Nat.le_of_ble_eq_true rfl, Nat.le_of_ble_eq_true rfl⟩ (n := 3) rfl rfl (Nat.le_of_ble_eq_true rfl) dX0_pathAt_15 rfl rfl rfl ⟨Nat.le_of_ble_eq_true rfl, Nat.le_of_ble_eq_true rfl⟩ (fun r_3 u_3 h_4 => ?_)
  obtain ⟨rfl, h_4⟩ := h_4
  refine g_st h_4 ?_
  refine g_ifP_ne (tgt := 31) (pc' := 21) C dX0_pathAt_18 rfl (by decide) (fun (c_5 : 0 ≤ y.toInt ∧ y.toInt ≤ ((u 16 w) - 1).toInt) => ?_) (fun (c_5 : ¬ (0 ≤ y.toInt ∧ y.toInt ≤ ((u 16 w) - 1).toInt)) => ?_)
  · skip
    have p9 := hP16 w (by omega)
    have t9 : (u 16 w - 1).toInt = (u 16 w).toInt - (1 : Int32).toInt := ti_sub (by rw [show (1 : Int32).toInt = 1 from rfl]; omega) (by rw [show (1 : Int32).toInt = 1 from rfl]; omega)
    rw [show (1 : Int32).toInt = 1 from rfl] at t9
    refine g_aload_n (pc' := 32) (q := 0) C dX0_pathAt_31 rfl rfl rfl ?_
    refine g_get (pc' := 35) (v := .ref (a 15)) C FX 0 (by rfl) rfl 14 (by decide) (by decide +kernel) rfl (by rfl) dX0_pathAt_32 rfl ?_
    refine g_iload_n (pc' := 36) (q := 1) C dX0_pathAt_35 rfl rfl rfl ?_
    refine g_aald (pc' := 37) (x := a (100 + w)) C 1 2 rfl rfl (vp_in_nI (by omega) (by omega)) (by rw [nI_clamp (by omega)]; exact if_pos (by omega)) dX0_pathAt_36 rfl ?_
    refine g_iload_n (pc' := 38) (q := 2) C dX0_pathAt_37 rfl rfl rfl ?_
    refine g_iald (pc' := 39) C (15 + w) 0 (row_get _ _ _ _ _ (by omega)) rfl (vp_of (by omega) (by omega)) (k := y.toNatClampNeg) rfl dX0_pathAt_38 rfl ?_
    exact g_iret C hr rfl ⟨w, rfl, by omega, by assumption, rfl, rfl⟩ dX0_pathAt_39
  · skip
    exact False.elim (by have q9 := hy w (by omega) rfl; simp_all)
