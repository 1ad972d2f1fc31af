/-! THE LAW's walk -/
theorem nI_mul (a b : Nat) : nI a * nI b = nI (a * b) := (Int32.ofNat_mul a b).symm
set_option maxHeartbeats 4000000 in
set_option maxRecDepth 100000 in
theorem law_512 {p : Program} {l : Launch} {e : Env} {s : State} {m : MethodId} {below : List Frame} {meth : Method} {c : Code} {D : va_G} {cI cZ cQ : ClassId} {a : Nat → Nat} {b L9 : Nat} {xs : Nat → Int32} (C : CX p s m #[.ref b] meth c D (tyX cI cZ cQ) (fun q => s.heap.size ≤ q) RL cL_law wsL_law 12 (wX cI cZ cQ a)) (hr : meth.sig.returnType = ret) (hXs : va_X b L9 xs s s.heap) (hbl : b < s.heap.size) (hL9 : L9 < 2 ^ 31) {c0 s0 : Nat} (hc0 : c0 ≤ 600104) (hs0 : s0 ≤ 7301314) {sn : Nat} (hs1 : 1 ≤ sn) (hs : sn ≤ 12) {j : Nat} (hj : j < 1000) {B : Int} (hB : B ≤ 1000000) {u : LU} (Iu : Inv sn B u) {n : Nat} (hn : (n : Int) < (u 0 12).toInt) (hW : 0 < (u 0 16).toInt) {v5 v6 : Int32} (fin : ∀ (u2 : LU) (w2 : Int32) (n2 : Nat), Inv sn (B + 40) u2 → (n2 : Int) < (u2 0 12).toInt → 0 < (u2 0 16).toInt → G p l e room_1 s m #[.ref b] below meth c D (fun q => s.heap.size ≤ q) 12 (wX cI cZ cQ a) c0 s0 (lw_Z below #[.ref b] s) u2 538 [(0, .ref (b)), (1, .ref (a 0)), (2, .int (nI sn)), (3, .int (nI j)), (5, .int w2), (8, .int (nI n2))] []) : G p l e room_1 s m #[.ref b] below meth c D (fun q => s.heap.size ≤ q) 12 (wX cI cZ cQ a) c0 s0 (lw_Z below #[.ref b] s) u 512 [(0, .ref (b)), (1, .ref (a 0)), (2, .int (nI sn)), (3, .int (nI j)), (5, .int v5), (6, .int v6), (7, .int (u 0 12)), (8, .int (nI n))] [] := by
  have Xu := Iu.1.ix hs
  have Lu := Iu.1.1.2.1
  have Wu := Iu.1.1.2.2.1
  refine g_aload_n (pc' := 513) (q := 1) C dL_law_512 rfl rfl rfl ?_
  refine g_iconst (pc' := 514) (v := 1) C dL_law_513 rfl (by decide) ?_
  refine g_iload (pc' := 516) (q := 4) C dL_law_514 rfl rfl ?_
  refine g_iload (pc' := 518) (q := 5) C dL_law_516 rfl rfl ?_
  refine g_bipush (pc' := 520) (v := 12) C dL_law_518 rfl (by decide) ?_
  refine g_icmp_ge (tgt := 528) (pc' := 523) C dL_law_520 rfl (by decide) (fun (c_1 : 12 ≤ (v6).toInt) => ?_) (fun (c_1 : ¬ (12 ≤ (v6).toInt)) => ?_)
  · skip
    refine g_bipush (pc' := 530) (v := 40) C dL_law_528 rfl (by decide) ?_
    refine g_calliS (pc' := 533) (As := [.int v5, .int 40]) (st := [.int 1, .ref (a 0)]) (cells' := c0) (slots' := s0) C (c_L_low u (v5) (40) (by first | decide | omega)) gL_law_L_low rfl (by decide +kernel) ⟨Nat.le_of_ble_eq_true rfl, Nat.le_of_ble_eq_true rfl⟩ (n := 2) rfl rfl (Nat.le_of_ble_eq_true rfl) dL_law_530 rfl rfl rfl ⟨hc0, hs0⟩ (fun r_2 u_2 h_3 => ?_)
    obtain ⟨qh_3, h_3⟩ := h_3
    refine g_st h_3 ?_
    have qh_3 : 0 ≤ r_2.toInt ∧ r_2.toInt < 40 := qh_3
    refine g_iadd (pc' := 534) C dL_law_533 rfl ?_
    have ar_2 : (1 + r_2).toInt = 1 + r_2.toInt := ti_add (x := 1) (y := r_2) (by show -2147483648 ≤ 1 + r_2.toInt; omega) (by show 1 + r_2.toInt < 2147483648; omega)
    refine g_calliV (pc' := 537) (As := [.int (1 + r_2)]) (st := []) (cells' := c0) (slots' := s0) C (L_advance u (1 + r_2) Iu hs hB ⟨by omega, by omega⟩) gL_law_X0_advance rfl (by decide +kernel) ⟨Nat.le_of_ble_eq_true rfl, Nat.le_of_ble_eq_true rfl⟩ 0 (by rfl) rfl (n := 1) rfl rfl (Nat.le_of_ble_eq_true rfl) dL_law_534 rfl rfl rfl ⟨hc0, hs0⟩ (fun r_4 u_4 h_5 => ?_)
    obtain ⟨Iux4, eux4, dux4⟩ := h_5
    have Xux4 := Iux4.1.ix hs
    have Lux4 := Iux4.1.1.2.1
    have Wux4 := Iux4.1.1.2.2.1
    have zux4 := congrArg Int32.toInt eux4
    have yux4 := congrArg Int32.toInt dux4
    refine g_pop (pc' := 538) C dL_law_537 rfl rfl ?_
    exact g_sub (L' := [(0, .ref (b)), (1, .ref (a 0)), (2, .int (nI sn)), (3, .int (nI j)), (5, .int v5), (8, .int (nI n))]) [0, 1, 2, 3, 4, 7] rfl (fin u_4 _ n (Iux4.up (by omega)) (by omega) (by omega))
  · skip
    refine g_bipush (pc' := 525) (v := 9) C dL_law_523 rfl (by decide) ?_
    refine g_goto (tgt := 530) C dL_law_525 (by decide) ?_
    refine g_calliS (pc' := 533) (As := [.int v5, .int 9]) (st := [.int 1, .ref (a 0)]) (cells' := c0) (slots' := s0) C (c_L_low u (v5) (9) (by first | decide | omega)) gL_law_L_low rfl (by decide +kernel) ⟨Nat.le_of_ble_eq_true rfl, Nat.le_of_ble_eq_true rfl⟩ (n := 2) rfl rfl (Nat.le_of_ble_eq_true rfl) dL_law_530 rfl rfl rfl ⟨hc0, hs0⟩ (fun r_6 u_6 h_7 => ?_)
    obtain ⟨qh_7, h_7⟩ := h_7
    refine g_st h_7 ?_
    have qh_7 : 0 ≤ r_6.toInt ∧ r_6.toInt < 9 := qh_7
    refine g_iadd (pc' := 534) C dL_law_533 rfl ?_
    have ar_6 : (1 + r_6).toInt = 1 + r_6.toInt := ti_add (x := 1) (y := r_6) (by show -2147483648 ≤ 1 + r_6.toInt; omega) (by show 1 + r_6.toInt < 2147483648; omega)
    refine g_calliV (pc' := 537) (As := [.int (1 + r_6)]) (st := []) (cells' := c0) (slots' := s0) C (L_advance u (1 + r_6) Iu hs hB ⟨by omega, by omega⟩) gL_law_X0_advance rfl (by decide +kernel) ⟨Nat.le_of_ble_eq_true rfl, Nat.le_of_ble_eq_true rfl⟩ 0 (by rfl) rfl (n := 1) rfl rfl (Nat.le_of_ble_eq_true rfl) dL_law_534 rfl rfl rfl ⟨hc0, hs0⟩ (fun r_8 u_8 h_9 => ?_)
    obtain ⟨Iux8, eux8, dux8⟩ := h_9
    have Xux8 := Iux8.1.ix hs
    have Lux8 := Iux8.1.1.2.1
    have Wux8 := Iux8.1.1.2.2.1
    have zux8 := congrArg Int32.toInt eux8
    have yux8 := congrArg Int32.toInt dux8
    refine g_pop (pc' := 538) C dL_law_537 rfl rfl ?_
    exact g_sub (L' := [(0, .ref (b)), (1, .ref (a 0)), (2, .int (nI sn)), (3, .int (nI j)), (5, .int v5), (8, .int (nI n))]) [0, 1, 2, 3, 4, 7] rfl (fin u_8 _ n (Iux8.up (by omega)) (by omega) (by omega))
set_option maxHeartbeats 4000000 in
set_option maxRecDepth 100000 in
theorem law_377 {p : Program} {l : Launch} {e : Env} {s : State} {m : MethodId} {below : List Frame} {meth : Method} {c : Code} {D : va_G} {cI cZ cQ : ClassId} {a : Nat → Nat} {b L9 : Nat} {xs : Nat → Int32} (C : CX p s m #[.ref b] meth c D (tyX cI cZ cQ) (fun q => s.heap.size ≤ q) RL cL_law wsL_law 12 (wX cI cZ cQ a)) (hr : meth.sig.returnType = ret) (hXs : va_X b L9 xs s s.heap) (hbl : b < s.heap.size) (hL9 : L9 < 2 ^ 31) {c0 s0 : Nat} (hc0 : c0 ≤ 600104) (hs0 : s0 ≤ 7301314) {sn : Nat} (hs1 : 1 ≤ sn) (hs : sn ≤ 12) {j : Nat} (hj : j < 1000) {B : Int} (hB : B ≤ 1000000) {u : LU} (Iu : Inv sn B u) {n : Nat} (hn : (n : Int) < (u 0 12).toInt) (hW : 0 < (u 0 16).toInt) {v5 v6 : Int32} (fin : ∀ (u2 : LU) (w2 : Int32) (n2 : Nat), Inv sn (B + 40) u2 → (n2 : Int) < (u2 0 12).toInt → 0 < (u2 0 16).toInt → G p l e room_1 s m #[.ref b] below meth c D (fun q => s.heap.size ≤ q) 12 (wX cI cZ cQ a) c0 s0 (lw_Z below #[.ref b] s) u2 538 [(0, .ref (b)), (1, .ref (a 0)), (2, .int (nI sn)), (3, .int (nI j)), (5, .int w2), (8, .int (nI n2))] []) : G p l e room_1 s m #[.ref b] below meth c D (fun q => s.heap.size ≤ q) 12 (wX cI cZ cQ a) c0 s0 (lw_Z below #[.ref b] s) u 377 [(0, .ref (b)), (1, .ref (a 0)), (2, .int (nI sn)), (3, .int (nI j)), (5, .int v5), (6, .int v6), (7, .int (u 0 12)), (8, .int (nI n))] [] := by
  have Xu := Iu.1.ix hs
  have Lu := Iu.1.1.2.1
  have Wu := Iu.1.1.2.2.1
  refine g_iload (pc' := 379) (q := 5) C dL_law_377 rfl rfl ?_
  refine g_bipush (pc' := 381) (v := 7) C dL_law_379 rfl (by decide) ?_
  refine g_icmp_ne (tgt := 430) (pc' := 384) C dL_law_381 rfl (by decide) (fun (c_1 : ¬ (v6).toInt = 7) => ?_) (fun (c_1 : (v6).toInt = 7) => ?_)
  · skip
    refine g_iload (pc' := 432) (q := 5) C dL_law_430 rfl rfl ?_
    refine g_bipush (pc' := 434) (v := 8) C dL_law_432 rfl (by decide) ?_
    refine g_icmp_ne (tgt := 512) (pc' := 437) C dL_law_434 rfl (by decide) (fun (c_2 : ¬ (v6).toInt = 8) => ?_) (fun (c_2 : (v6).toInt = 8) => ?_)
    · skip
      exact g_sub (L' := [(0, .ref (b)), (1, .ref (a 0)), (2, .int (nI sn)), (3, .int (nI j)), (5, .int v5), (6, .int v6), (7, .int (u 0 12)), (8, .int (nI n))]) [0, 1, 2, 3, 4, 5, 6, 7] rfl (law_512 C hr hXs hbl hL9 hc0 hs0 hs1 hs hj hB Iu hn hW fin)
    · skip
      refine g_aload_n (pc' := 438) (q := 1) C dL_law_437 rfl rfl rfl ?_
      refine g_iload (pc' := 440) (q := 7) C dL_law_438 rfl rfl ?_
      refine g_calliV (pc' := 443) (As := [.int (nI n)]) (st := []) (cells' := c0) (slots' := s0) C (q_state u n Xu (by omega)) gL_law_X0_state rfl (by decide +kernel) ⟨Nat.le_of_ble_eq_true rfl, Nat.le_of_ble_eq_true rfl⟩ 0 (by rfl) rfl (n := 1) rfl rfl (Nat.le_of_ble_eq_true rfl) dL_law_440 rfl rfl rfl ⟨hc0, hs0⟩ (fun r_3 u_3 h_4 => ?_)
      obtain ⟨rfl, h_4⟩ := h_4
      refine g_st h_4 ?_
      refine g_iconst (pc' := 444) (v := 2) C dL_law_443 rfl (by decide) ?_
      refine g_icmp_ge (tgt := 512) (pc' := 447) C dL_law_444 rfl (by decide) (fun (c_5 : 2 ≤ (u 6 n).toInt) => ?_) (fun (c_5 : ¬ (2 ≤ (u 6 n).toInt)) => ?_)
      · skip
        exact g_sub (L' := [(0, .ref (b)), (1, .ref (a 0)), (2, .int (nI sn)), (3, .int (nI j)), (5, .int v5), (6, .int v6), (7, .int (u 0 12)), (8, .int (nI n))]) [0, 1, 2, 3, 4, 5, 6, 7] rfl (law_512 C hr hXs hbl hL9 hc0 hs0 hs1 hs hj hB Iu hn hW fin)
      · skip
        refine g_aload_n (pc' := 448) (q := 1) C dL_law_447 rfl rfl rfl ?_
        refine g_iload (pc' := 450) (q := 7) C dL_law_448 rfl rfl ?_
        refine g_iconst (pc' := 451) (v := 1) C dL_law_450 rfl (by decide) ?_
        refine g_conv (show (1 : Int32) = bP (True) from (bP_t trivial).symm) ?_
        refine g_calliV (pc' := 454) (As := [.int (nI n), .int (bP (True))]) (st := []) (cells' := c0) (slots' := s0) C (L_hold u n (True) Iu hs (by omega) (by omega)) gL_law_X0_hold rfl (by decide +kernel) ⟨Nat.le_of_ble_eq_true rfl, Nat.le_of_ble_eq_true rfl⟩ 0 (by rfl) rfl (n := 2) rfl rfl (Nat.le_of_ble_eq_true rfl) dL_law_451 rfl rfl rfl ⟨hc0, hs0⟩ (fun r_6 u_6 h_7 => ?_)
        obtain ⟨rux6, Iux6, eux6, sux6, bux6⟩ := h_7
        have Xux6 := Iux6.1.ix hs
        have Lux6 := Iux6.1.1.2.1
        have Wux6 := Iux6.1.1.2.2.1
        have zux6 := congrArg Int32.toInt (congrFun eux6 12)
        have yux6 := congrArg Int32.toInt (congrFun eux6 16)
        have oux6 := congrArg Int32.toInt (congrFun sux6 n)
        refine g_istore (pc' := 456) (L' := [(9, .int r_6), (0, .ref (b)), (1, .ref (a 0)), (2, .int (nI sn)), (3, .int (nI j)), (5, .int v5), (6, .int v6), (7, .int (u 0 12)), (8, .int (nI n))]) C dL_law_454 rfl (by decide) rfl ?_
        refine g_aload_n (pc' := 457) (q := 2) C dL_law_456 rfl rfl rfl ?_
        refine g_iload (pc' := 459) (q := 8) C dL_law_457 rfl rfl ?_
        refine g_iload (pc' := 461) (q := 0) C dL_law_459 rfl rfl ?_
        refine g_if_ne (tgt := 476) (pc' := 464) C dL_law_461 rfl (by decide) (fun (c_8 : ¬ (r_6).toInt = 0) => ?_) (fun (c_8 : (r_6).toInt = 0) => ?_)
        · skip
          refine g_iconst (pc' := 477) (v := 1) C dL_law_476 rfl (by decide) ?_
          refine g_conv (show (1 : Int32) = bP (True) from (bP_t trivial).symm) ?_
          refine g_goto (tgt := 481) C dL_law_477 (by decide) ?_
          refine g_calliV (pc' := 484) (As := [.int (nI n), .int (bP (True))]) (st := []) (cells' := c0) (slots' := s0) C (L_hold u_6 n (True) Iux6 hs (by omega) (by omega)) gL_law_X0_hold rfl (by decide +kernel) ⟨Nat.le_of_ble_eq_true rfl, Nat.le_of_ble_eq_true rfl⟩ 0 (by rfl) rfl (n := 2) rfl rfl (Nat.le_of_ble_eq_true rfl) dL_law_481 rfl rfl rfl ⟨hc0, hs0⟩ (fun r_9 u_9 h_10 => ?_)
          obtain ⟨rux9, Iux9, eux9, sux9, bux9⟩ := h_10
          have Xux9 := Iux9.1.ix hs
          have Lux9 := Iux9.1.1.2.1
          have Wux9 := Iux9.1.1.2.2.1
          have zux9 := congrArg Int32.toInt (congrFun eux9 12)
          have yux9 := congrArg Int32.toInt (congrFun eux9 16)
          have oux9 := congrArg Int32.toInt (congrFun sux9 n)
          refine g_conv (show (r_9 : Int32) = 1 from rux9.trans (bux6.trans (bP_t trivial))) ?_
          refine g_if_ne (tgt := 489) (pc' := 487) C dL_law_484 rfl (by decide) (fun _ => ?_) (fun h => absurd h (by decide))
          refine g_iload (pc' := 491) (q := 5) C dL_law_489 rfl rfl ?_
          refine g_bipush (pc' := 493) (v := 8) C dL_law_491 rfl (by decide) ?_
          refine g_ishr (pc' := 494) C dL_law_493 rfl ?_
          refine g_iconst (pc' := 495) (v := 2) C dL_law_494 rfl (by decide) ?_
          refine g_calliS (pc' := 498) (As := [.int ((v5) >>> ((8) &&& 31)), .int 2]) (st := []) (cells' := c0) (slots' := s0) C (c_L_low u_9 ((v5) >>> ((8) &&& 31)) (2) (by first | decide | omega)) gL_law_L_low rfl (by decide +kernel) ⟨Nat.le_of_ble_eq_true rfl, Nat.le_of_ble_eq_true rfl⟩ (n := 2) rfl rfl (Nat.le_of_ble_eq_true rfl) dL_law_495 rfl rfl rfl ⟨hc0, hs0⟩ (fun r_11 u_11 h_12 => ?_)
          obtain ⟨qh_12, h_12⟩ := h_12
          refine g_st h_12 ?_
          have qh_12 : 0 ≤ r_11.toInt ∧ r_11.toInt < 2 := qh_12
          refine g_if_ne (tgt := 509) (pc' := 501) C dL_law_498 rfl (by decide) (fun (c_13 : ¬ (r_11).toInt = 0) => ?_) (fun (c_13 : (r_11).toInt = 0) => ?_)
          · skip
            refine g_goto (tgt := 538) C dL_law_509 (by decide) ?_
            exact g_sub (L' := [(0, .ref (b)), (1, .ref (a 0)), (2, .int (nI sn)), (3, .int (nI j)), (5, .int v5), (8, .int (nI n))]) [1, 2, 3, 4, 5, 8] rfl (fin u_9 _ n (Iux9.up (by omega)) (by omega) (by omega))
          · skip
            refine g_aload_n (pc' := 502) (q := 2) C dL_law_501 rfl rfl rfl ?_
            refine g_iload (pc' := 504) (q := 8) C dL_law_502 rfl rfl ?_
            refine g_iconst (pc' := 505) (v := 0) C dL_law_504 rfl (by decide) ?_
            refine g_conv (show (0 : Int32) = bP (False) from (bP_f (fun h => h)).symm) ?_
            refine g_calliV (pc' := 508) (As := [.int (nI n), .int (bP (False))]) (st := []) (cells' := c0) (slots' := s0) C (L_hold u_9 n (False) Iux9 hs (by omega) (by omega)) gL_law_X0_hold rfl (by decide +kernel) ⟨Nat.le_of_ble_eq_true rfl, Nat.le_of_ble_eq_true rfl⟩ 0 (by rfl) rfl (n := 2) rfl rfl (Nat.le_of_ble_eq_true rfl) dL_law_505 rfl rfl rfl ⟨hc0, hs0⟩ (fun r_14 u_14 h_15 => ?_)
            obtain ⟨rux14, Iux14, eux14, sux14, bux14⟩ := h_15
            have Xux14 := Iux14.1.ix hs
            have Lux14 := Iux14.1.1.2.1
            have Wux14 := Iux14.1.1.2.2.1
            have zux14 := congrArg Int32.toInt (congrFun eux14 12)
            have yux14 := congrArg Int32.toInt (congrFun eux14 16)
            have oux14 := congrArg Int32.toInt (congrFun sux14 n)
            refine g_pop (pc' := 509) C dL_law_508 rfl rfl ?_
            refine g_goto (tgt := 538) C dL_law_509 (by decide) ?_
            exact g_sub (L' := [(0, .ref (b)), (1, .ref (a 0)), (2, .int (nI sn)), (3, .int (nI j)), (5, .int v5), (8, .int (nI n))]) [1, 2, 3, 4, 5, 8] rfl (fin u_14 _ n (Iux14.up (by omega)) (by omega) (by omega))
        · skip
          refine g_iload (pc' := 466) (q := 5) C dL_law_464 rfl rfl ?_
          refine g_bipush (pc' := 468) (v := 6) C dL_law_466 rfl (by decide) ?_
          refine g_ishr (pc' := 469) C dL_law_468 rfl ?_
          refine g_iconst (pc' := 470) (v := 2) C dL_law_469 rfl (by decide) ?_
          refine g_calliS (pc' := 473) (As := [.int ((v5) >>> ((6) &&& 31)), .int 2]) (st := [.int (nI n), .ref (a 0)]) (cells' := c0) (slots' := s0) C (c_L_low u_6 ((v5) >>> ((6) &&& 31)) (2) (by first | decide | omega)) gL_law_L_low rfl (by decide +kernel) ⟨Nat.le_of_ble_eq_true rfl, Nat.le_of_ble_eq_true rfl⟩ (n := 2) rfl rfl (Nat.le_of_ble_eq_true rfl) dL_law_470 rfl rfl rfl ⟨hc0, hs0⟩ (fun r_16 u_16 h_17 => ?_)
          obtain ⟨qh_17, h_17⟩ := h_17
          refine g_st h_17 ?_
          have qh_17 : 0 ≤ r_16.toInt ∧ r_16.toInt < 2 := qh_17
          refine g_if_ne (tgt := 480) (pc' := 476) C dL_law_473 rfl (by decide) (fun (c_18 : ¬ (r_16).toInt = 0) => ?_) (fun (c_18 : (r_16).toInt = 0) => ?_)
          · skip
            refine g_iconst (pc' := 481) (v := 0) C dL_law_480 rfl (by decide) ?_
            refine g_conv (show (0 : Int32) = bP (False) from (bP_f (fun h => h)).symm) ?_
            refine g_calliV (pc' := 484) (As := [.int (nI n), .int (bP (False))]) (st := []) (cells' := c0) (slots' := s0) C (L_hold u_6 n (False) Iux6 hs (by omega) (by omega)) gL_law_X0_hold rfl (by decide +kernel) ⟨Nat.le_of_ble_eq_true rfl, Nat.le_of_ble_eq_true rfl⟩ 0 (by rfl) rfl (n := 2) rfl rfl (Nat.le_of_ble_eq_true rfl) dL_law_481 rfl rfl rfl ⟨hc0, hs0⟩ (fun r_19 u_19 h_20 => ?_)
            obtain ⟨rux19, Iux19, eux19, sux19, bux19⟩ := h_20
            have Xux19 := Iux19.1.ix hs
            have Lux19 := Iux19.1.1.2.1
            have Wux19 := Iux19.1.1.2.2.1
            have zux19 := congrArg Int32.toInt (congrFun eux19 12)
            have yux19 := congrArg Int32.toInt (congrFun eux19 16)
            have oux19 := congrArg Int32.toInt (congrFun sux19 n)
            refine g_conv (show (r_19 : Int32) = 1 from rux19.trans (bux6.trans (bP_t trivial))) ?_
            refine g_if_ne (tgt := 489) (pc' := 487) C dL_law_484 rfl (by decide) (fun _ => ?_) (fun h => absurd h (by decide))
            refine g_iload (pc' := 491) (q := 5) C dL_law_489 rfl rfl ?_
            refine g_bipush (pc' := 493) (v := 8) C dL_law_491 rfl (by decide) ?_
            refine g_ishr (pc' := 494) C dL_law_493 rfl ?_
            refine g_iconst (pc' := 495) (v := 2) C dL_law_494 rfl (by decide) ?_
            refine g_calliS (pc' := 498) (As := [.int ((v5) >>> ((8) &&& 31)), .int 2]) (st := []) (cells' := c0) (slots' := s0) C (c_L_low u_19 ((v5) >>> ((8) &&& 31)) (2) (by first | decide | omega)) gL_law_L_low rfl (by decide +kernel) ⟨Nat.le_of_ble_eq_true rfl, Nat.le_of_ble_eq_true rfl⟩ (n := 2) rfl rfl (Nat.le_of_ble_eq_true rfl) dL_law_495 rfl rfl rfl ⟨hc0, hs0⟩ (fun r_21 u_21 h_22 => ?_)
            obtain ⟨qh_22, h_22⟩ := h_22
            refine g_st h_22 ?_
            have qh_22 : 0 ≤ r_21.toInt ∧ r_21.toInt < 2 := qh_22
            refine g_if_ne (tgt := 509) (pc' := 501) C dL_law_498 rfl (by decide) (fun (c_23 : ¬ (r_21).toInt = 0) => ?_) (fun (c_23 : (r_21).toInt = 0) => ?_)
            · skip
              refine g_goto (tgt := 538) C dL_law_509 (by decide) ?_
              exact g_sub (L' := [(0, .ref (b)), (1, .ref (a 0)), (2, .int (nI sn)), (3, .int (nI j)), (5, .int v5), (8, .int (nI n))]) [1, 2, 3, 4, 5, 8] rfl (fin u_19 _ n (Iux19.up (by omega)) (by omega) (by omega))
            · skip
              refine g_aload_n (pc' := 502) (q := 2) C dL_law_501 rfl rfl rfl ?_
              refine g_iload (pc' := 504) (q := 8) C dL_law_502 rfl rfl ?_
              refine g_iconst (pc' := 505) (v := 0) C dL_law_504 rfl (by decide) ?_
              refine g_conv (show (0 : Int32) = bP (False) from (bP_f (fun h => h)).symm) ?_
              refine g_calliV (pc' := 508) (As := [.int (nI n), .int (bP (False))]) (st := []) (cells' := c0) (slots' := s0) C (L_hold u_19 n (False) Iux19 hs (by omega) (by omega)) gL_law_X0_hold rfl (by decide +kernel) ⟨Nat.le_of_ble_eq_true rfl, Nat.le_of_ble_eq_true rfl⟩ 0 (by rfl) rfl (n := 2) rfl rfl (Nat.le_of_ble_eq_true rfl) dL_law_505 rfl rfl rfl ⟨hc0, hs0⟩ (fun r_24 u_24 h_25 => ?_)
              obtain ⟨rux24, Iux24, eux24, sux24, bux24⟩ := h_25
              have Xux24 := Iux24.1.ix hs
              have Lux24 := Iux24.1.1.2.1
              have Wux24 := Iux24.1.1.2.2.1
              have zux24 := congrArg Int32.toInt (congrFun eux24 12)
              have yux24 := congrArg Int32.toInt (congrFun eux24 16)
              have oux24 := congrArg Int32.toInt (congrFun sux24 n)
              refine g_pop (pc' := 509) C dL_law_508 rfl rfl ?_
              refine g_goto (tgt := 538) C dL_law_509 (by decide) ?_
              exact g_sub (L' := [(0, .ref (b)), (1, .ref (a 0)), (2, .int (nI sn)), (3, .int (nI j)), (5, .int v5), (8, .int (nI n))]) [1, 2, 3, 4, 5, 8] rfl (fin u_24 _ n (Iux24.up (by omega)) (by omega) (by omega))
          · skip
            refine g_iconst (pc' := 477) (v := 1) C dL_law_476 rfl (by decide) ?_
            refine g_conv (show (1 : Int32) = bP (True) from (bP_t trivial).symm) ?_
            refine g_goto (tgt := 481) C dL_law_477 (by decide) ?_
            refine g_calliV (pc' := 484) (As := [.int (nI n), .int (bP (True))]) (st := []) (cells' := c0) (slots' := s0) C (L_hold u_6 n (True) Iux6 hs (by omega) (by omega)) gL_law_X0_hold rfl (by decide +kernel) ⟨Nat.le_of_ble_eq_true rfl, Nat.le_of_ble_eq_true rfl⟩ 0 (by rfl) rfl (n := 2) rfl rfl (Nat.le_of_ble_eq_true rfl) dL_law_481 rfl rfl rfl ⟨hc0, hs0⟩ (fun r_26 u_26 h_27 => ?_)
            obtain ⟨rux26, Iux26, eux26, sux26, bux26⟩ := h_27
            have Xux26 := Iux26.1.ix hs
            have Lux26 := Iux26.1.1.2.1
            have Wux26 := Iux26.1.1.2.2.1
            have zux26 := congrArg Int32.toInt (congrFun eux26 12)
            have yux26 := congrArg Int32.toInt (congrFun eux26 16)
            have oux26 := congrArg Int32.toInt (congrFun sux26 n)
            refine g_conv (show (r_26 : Int32) = 1 from rux26.trans (bux6.trans (bP_t trivial))) ?_
            refine g_if_ne (tgt := 489) (pc' := 487) C dL_law_484 rfl (by decide) (fun _ => ?_) (fun h => absurd h (by decide))
            refine g_iload (pc' := 491) (q := 5) C dL_law_489 rfl rfl ?_
            refine g_bipush (pc' := 493) (v := 8) C dL_law_491 rfl (by decide) ?_
            refine g_ishr (pc' := 494) C dL_law_493 rfl ?_
            refine g_iconst (pc' := 495) (v := 2) C dL_law_494 rfl (by decide) ?_
            refine g_calliS (pc' := 498) (As := [.int ((v5) >>> ((8) &&& 31)), .int 2]) (st := []) (cells' := c0) (slots' := s0) C (c_L_low u_26 ((v5) >>> ((8) &&& 31)) (2) (by first | decide | omega)) gL_law_L_low rfl (by decide +kernel) ⟨Nat.le_of_ble_eq_true rfl, Nat.le_of_ble_eq_true rfl⟩ (n := 2) rfl rfl (Nat.le_of_ble_eq_true rfl) dL_law_495 rfl rfl rfl ⟨hc0, hs0⟩ (fun r_28 u_28 h_29 => ?_)
            obtain ⟨qh_29, h_29⟩ := h_29
            refine g_st h_29 ?_
            have qh_29 : 0 ≤ r_28.toInt ∧ r_28.toInt < 2 := qh_29
            refine g_if_ne (tgt := 509) (pc' := 501) C dL_law_498 rfl (by decide) (fun (c_30 : ¬ (r_28).toInt = 0) => ?_) (fun (c_30 : (r_28).toInt = 0) => ?_)
            · skip
              refine g_goto (tgt := 538) C dL_law_509 (by decide) ?_
              exact g_sub (L' := [(0, .ref (b)), (1, .ref (a 0)), (2, .int (nI sn)), (3, .int (nI j)), (5, .int v5), (8, .int (nI n))]) [1, 2, 3, 4, 5, 8] rfl (fin u_26 _ n (Iux26.up (by omega)) (by omega) (by omega))
            · skip
              refine g_aload_n (pc' := 502) (q := 2) C dL_law_501 rfl rfl rfl ?_
              refine g_iload (pc' := 504) (q := 8) C dL_law_502 rfl rfl ?_
              refine g_iconst (pc' := 505) (v := 0) C dL_law_504 rfl (by decide) ?_
              refine g_conv (show (0 : Int32) = bP (False) from (bP_f (fun h => h)).symm) ?_
              refine g_calliV (pc' := 508) (As := [.int (nI n), .int (bP (False))]) (st := []) (cells' := c0) (slots' := s0) C (L_hold u_26 n (False) Iux26 hs (by omega) (by omega)) gL_law_X0_hold rfl (by decide +kernel) ⟨Nat.le_of_ble_eq_true rfl, Nat.le_of_ble_eq_true rfl⟩ 0 (by rfl) rfl (n := 2) rfl rfl (Nat.le_of_ble_eq_true rfl) dL_law_505 rfl rfl rfl ⟨hc0, hs0⟩ (fun r_31 u_31 h_32 => ?_)
              obtain ⟨rux31, Iux31, eux31, sux31, bux31⟩ := h_32
              have Xux31 := Iux31.1.ix hs
              have Lux31 := Iux31.1.1.2.1
              have Wux31 := Iux31.1.1.2.2.1
              have zux31 := congrArg Int32.toInt (congrFun eux31 12)
              have yux31 := congrArg Int32.toInt (congrFun eux31 16)
              have oux31 := congrArg Int32.toInt (congrFun sux31 n)
              refine g_pop (pc' := 509) C dL_law_508 rfl rfl ?_
              refine g_goto (tgt := 538) C dL_law_509 (by decide) ?_
              exact g_sub (L' := [(0, .ref (b)), (1, .ref (a 0)), (2, .int (nI sn)), (3, .int (nI j)), (5, .int v5), (8, .int (nI n))]) [1, 2, 3, 4, 5, 8] rfl (fin u_31 _ n (Iux31.up (by omega)) (by omega) (by omega))
  · skip
    refine g_iload (pc' := 386) (q := 4) C dL_law_384 rfl rfl ?_
    refine g_bipush (pc' := 388) (v := 6) C dL_law_386 rfl (by decide) ?_
    refine g_ishr (pc' := 389) C dL_law_388 rfl ?_
    refine g_aload_n (pc' := 390) (q := 1) C dL_law_389 rfl rfl rfl ?_
    refine g_calliV (pc' := 393) (As := []) (st := [.int ((v5) >>> ((6) &&& 31))]) (cells' := c0) (slots' := s0) C (c_X0_wafers u) gL_law_X0_wafers rfl (by decide +kernel) ⟨Nat.le_of_ble_eq_true rfl, Nat.le_of_ble_eq_true rfl⟩ 0 (by rfl) rfl (n := 0) rfl rfl (Nat.le_of_ble_eq_true rfl) dL_law_390 rfl rfl rfl ⟨hc0, hs0⟩ (fun r_33 u_33 h_34 => ?_)
    obtain ⟨rfl, h_34⟩ := h_34
    refine g_st h_34 ?_
    refine g_calliS (pc' := 396) (As := [.int ((v5) >>> ((6) &&& 31)), .int (u 0 16)]) (st := []) (cells' := c0) (slots' := s0) C (c_L_low u ((v5) >>> ((6) &&& 31)) (u 0 16) (by first | decide | omega)) gL_law_L_low rfl (by decide +kernel) ⟨Nat.le_of_ble_eq_true rfl, Nat.le_of_ble_eq_true rfl⟩ (n := 2) rfl rfl (Nat.le_of_ble_eq_true rfl) dL_law_393 rfl rfl rfl ⟨hc0, hs0⟩ (fun r_35 u_35 h_36 => ?_)
    obtain ⟨qh_36, h_36⟩ := h_36
    refine g_st h_36 ?_
    obtain ⟨w9, hw99, rfl⟩ := nI_of_ti (n := 60) qh_36.1 (by omega) (by decide)
    have tw99 : (nI w9).toInt = (w9 : Int) := nI_toInt (by omega)
    refine g_istore (pc' := 398) (L' := [(9, .int (nI w9)), (0, .ref (b)), (1, .ref (a 0)), (2, .int (nI sn)), (3, .int (nI j)), (5, .int v5), (6, .int v6), (7, .int (u 0 12)), (8, .int (nI n))]) C dL_law_396 rfl (by decide) rfl ?_
    refine g_aload_n (pc' := 399) (q := 2) C dL_law_398 rfl rfl rfl ?_
    refine g_iload (pc' := 401) (q := 0) C dL_law_399 rfl rfl ?_
    refine g_calliV (pc' := 404) (As := [.int (nI w9)]) (st := []) (cells' := c0) (slots' := s0) C (q_lotOf u w9 Xu (by omega)) gL_law_X0_lotOf rfl (by decide +kernel) ⟨Nat.le_of_ble_eq_true rfl, Nat.le_of_ble_eq_true rfl⟩ 0 (by rfl) rfl (n := 1) rfl rfl (Nat.le_of_ble_eq_true rfl) dL_law_401 rfl rfl rfl ⟨hc0, hs0⟩ (fun r_37 u_37 h_38 => ?_)
    obtain ⟨rfl, h_38⟩ := h_38
    refine g_st h_38 ?_
    refine g_if_lt (tgt := 427) (pc' := 407) C dL_law_404 rfl (by decide) (fun (c_39 : (u 14 w9).toInt < 0) => ?_) (fun (c_39 : ¬ ((u 14 w9).toInt < 0)) => ?_)
    · skip
      refine g_goto (tgt := 538) C dL_law_427 (by decide) ?_
      exact g_sub (L' := [(0, .ref (b)), (1, .ref (a 0)), (2, .int (nI sn)), (3, .int (nI j)), (5, .int v5), (8, .int (nI n))]) [1, 2, 3, 4, 5, 8] rfl (fin u _ n (Iu.up (by omega)) (by omega) (by omega))
    · obtain ⟨k1, hk1, hk2⟩ := (lot_of Iu (w := w9) (by omega)).resolve_left (by omega)
      refine g_aload_n (pc' := 408) (q := 2) C dL_law_407 rfl rfl rfl ?_
      refine g_aload_n (pc' := 409) (q := 2) C dL_law_408 rfl rfl rfl ?_
      refine g_iload (pc' := 411) (q := 0) C dL_law_409 rfl rfl ?_
      refine g_calliV (pc' := 414) (As := [.int (nI w9)]) (st := [.ref (a 0)]) (cells' := c0) (slots' := s0) C (q_lotOf u w9 Xu (by omega)) gL_law_X0_lotOf rfl (by decide +kernel) ⟨Nat.le_of_ble_eq_true rfl, Nat.le_of_ble_eq_true rfl⟩ 0 (by rfl) rfl (n := 1) rfl rfl (Nat.le_of_ble_eq_true rfl) dL_law_411 rfl rfl rfl ⟨hc0, hs0⟩ (fun r_40 u_40 h_41 => ?_)
      obtain ⟨rfl, h_41⟩ := h_41
      refine g_st h_41 ?_
      refine g_conv (show (u 14 w9 : Int32) = nI k1 from hk1) ?_
      refine g_calliV (pc' := 417) (As := [.int (nI k1)]) (st := []) (cells' := c0) (slots' := s0) C (q_state u k1 Xu (by omega)) gL_law_X0_state rfl (by decide +kernel) ⟨Nat.le_of_ble_eq_true rfl, Nat.le_of_ble_eq_true rfl⟩ 0 (by rfl) rfl (n := 1) rfl rfl (Nat.le_of_ble_eq_true rfl) dL_law_414 rfl rfl rfl ⟨hc0, hs0⟩ (fun r_42 u_42 h_43 => ?_)
      obtain ⟨rfl, h_43⟩ := h_43
      refine g_st h_43 ?_
      refine g_if_ne (tgt := 427) (pc' := 420) C dL_law_417 rfl (by decide) (fun (c_44 : ¬ (u 6 k1).toInt = 0) => ?_) (fun (c_44 : (u 6 k1).toInt = 0) => ?_)
      · skip
        refine g_goto (tgt := 538) C dL_law_427 (by decide) ?_
        exact g_sub (L' := [(0, .ref (b)), (1, .ref (a 0)), (2, .int (nI sn)), (3, .int (nI j)), (5, .int v5), (8, .int (nI n))]) [1, 2, 3, 4, 5, 8] rfl (fin u _ n (Iu.up (by omega)) (by omega) (by omega))
      · skip
        refine g_aload_n (pc' := 421) (q := 2) C dL_law_420 rfl rfl rfl ?_
        refine g_iload (pc' := 423) (q := 0) C dL_law_421 rfl rfl ?_
        refine g_calliV (pc' := 426) (As := [.int (nI w9)]) (st := []) (cells' := c0) (slots' := s0) C (L_scrap u w9 k1 Iu hs (by omega) hk1 hk2 (by omega)) gL_law_X0_scrap rfl (by decide +kernel) ⟨Nat.le_of_ble_eq_true rfl, Nat.le_of_ble_eq_true rfl⟩ 0 (by rfl) rfl (n := 1) rfl rfl (Nat.le_of_ble_eq_true rfl) dL_law_423 rfl rfl rfl ⟨hc0, hs0⟩ (fun r_45 u_45 h_46 => ?_)
        obtain ⟨Iux45, eux45⟩ := h_46
        have Xux45 := Iux45.1.ix hs
        have Lux45 := Iux45.1.1.2.1
        have Wux45 := Iux45.1.1.2.2.1
        have zux45 := congrArg Int32.toInt (congrFun eux45 12)
        have yux45 := congrArg Int32.toInt (congrFun eux45 16)
        refine g_pop (pc' := 427) C dL_law_426 rfl rfl ?_
        refine g_goto (tgt := 538) C dL_law_427 (by decide) ?_
        exact g_sub (L' := [(0, .ref (b)), (1, .ref (a 0)), (2, .int (nI sn)), (3, .int (nI j)), (5, .int v5), (8, .int (nI n))]) [1, 2, 3, 4, 5, 8] rfl (fin u_45 _ n (Iux45.up (by omega)) (by omega) (by omega))
set_option maxHeartbeats 4000000 in
set_option maxRecDepth 100000 in
theorem law_254 {p : Program} {l : Launch} {e : Env} {s : State} {m : MethodId} {below : List Frame} {meth : Method} {c : Code} {D : va_G} {cI cZ cQ : ClassId} {a : Nat → Nat} {b L9 : Nat} {xs : Nat → Int32} (C : CX p s m #[.ref b] meth c D (tyX cI cZ cQ) (fun q => s.heap.size ≤ q) RL cL_law wsL_law 12 (wX cI cZ cQ a)) (hr : meth.sig.returnType = ret) (hXs : va_X b L9 xs s s.heap) (hbl : b < s.heap.size) (hL9 : L9 < 2 ^ 31) {c0 s0 : Nat} (hc0 : c0 ≤ 600104) (hs0 : s0 ≤ 7301314) {sn : Nat} (hs1 : 1 ≤ sn) (hs : sn ≤ 12) {j : Nat} (hj : j < 1000) {B : Int} (hB : B ≤ 1000000) {u : LU} (Iu : Inv sn B u) {n : Nat} (hn : (n : Int) < (u 0 12).toInt) (hW : 0 < (u 0 16).toInt) {v5 v6 : Int32} (fin : ∀ (u2 : LU) (w2 : Int32) (n2 : Nat), Inv sn (B + 40) u2 → (n2 : Int) < (u2 0 12).toInt → 0 < (u2 0 16).toInt → G p l e room_1 s m #[.ref b] below meth c D (fun q => s.heap.size ≤ q) 12 (wX cI cZ cQ a) c0 s0 (lw_Z below #[.ref b] s) u2 538 [(0, .ref (b)), (1, .ref (a 0)), (2, .int (nI sn)), (3, .int (nI j)), (5, .int w2), (8, .int (nI n2))] []) : G p l e room_1 s m #[.ref b] below meth c D (fun q => s.heap.size ≤ q) 12 (wX cI cZ cQ a) c0 s0 (lw_Z below #[.ref b] s) u 254 [(0, .ref (b)), (1, .ref (a 0)), (2, .int (nI sn)), (3, .int (nI j)), (5, .int v5), (6, .int v6), (7, .int (u 0 12)), (8, .int (nI n))] [] := by
  have Xu := Iu.1.ix hs
  have Lu := Iu.1.1.2.1
  have Wu := Iu.1.1.2.2.1
  refine g_iload (pc' := 256) (q := 5) C dL_law_254 rfl rfl ?_
  refine g_bipush (pc' := 258) (v := 6) C dL_law_256 rfl (by decide) ?_
  refine g_icmp_ne (tgt := 377) (pc' := 261) C dL_law_258 rfl (by decide) (fun (c_1 : ¬ (v6).toInt = 6) => ?_) (fun (c_1 : (v6).toInt = 6) => ?_)
  · skip
    exact g_sub (L' := [(0, .ref (b)), (1, .ref (a 0)), (2, .int (nI sn)), (3, .int (nI j)), (5, .int v5), (6, .int v6), (7, .int (u 0 12)), (8, .int (nI n))]) [0, 1, 2, 3, 4, 5, 6, 7] rfl (law_377 C hr hXs hbl hL9 hc0 hs0 hs1 hs hj hB Iu hn hW fin)
  · skip
    refine g_aload_n (pc' := 262) (q := 1) C dL_law_261 rfl rfl rfl ?_
    refine g_iload (pc' := 264) (q := 7) C dL_law_262 rfl rfl ?_
    refine g_calliV (pc' := 267) (As := [.int (nI n)]) (st := []) (cells' := c0) (slots' := s0) C (q_size u n Xu (by omega)) gL_law_X0_size rfl (by decide +kernel) ⟨Nat.le_of_ble_eq_true rfl, Nat.le_of_ble_eq_true rfl⟩ 0 (by rfl) rfl (n := 1) rfl rfl (Nat.le_of_ble_eq_true rfl) dL_law_264 rfl rfl rfl ⟨hc0, hs0⟩ (fun r_2 u_2 h_3 => ?_)
    obtain ⟨rfl, h_3⟩ := h_3
    refine g_st h_3 ?_
    refine g_iconst (pc' := 268) (v := 1) C dL_law_267 rfl (by decide) ?_
    refine g_icmp_le (tgt := 377) (pc' := 271) C dL_law_268 rfl (by decide) (fun (c_4 : (u 12 n).toInt ≤ 1) => ?_) (fun (c_4 : ¬ ((u 12 n).toInt ≤ 1)) => ?_)
    · skip
      exact g_sub (L' := [(0, .ref (b)), (1, .ref (a 0)), (2, .int (nI sn)), (3, .int (nI j)), (5, .int v5), (6, .int v6), (7, .int (u 0 12)), (8, .int (nI n))]) [0, 1, 2, 3, 4, 5, 6, 7] rfl (law_377 C hr hXs hbl hL9 hc0 hs0 hs1 hs hj hB Iu hn hW fin)
    · skip
      refine g_aload_n (pc' := 272) (q := 1) C dL_law_271 rfl rfl rfl ?_
      refine g_iload (pc' := 274) (q := 7) C dL_law_272 rfl rfl ?_
      refine g_calliV (pc' := 277) (As := [.int (nI n)]) (st := []) (cells' := c0) (slots' := s0) C (q_state u n Xu (by omega)) gL_law_X0_state rfl (by decide +kernel) ⟨Nat.le_of_ble_eq_true rfl, Nat.le_of_ble_eq_true rfl⟩ 0 (by rfl) rfl (n := 1) rfl rfl (Nat.le_of_ble_eq_true rfl) dL_law_274 rfl rfl rfl ⟨hc0, hs0⟩ (fun r_5 u_5 h_6 => ?_)
      obtain ⟨rfl, h_6⟩ := h_6
      refine g_st h_6 ?_
      refine g_if_ne (tgt := 377) (pc' := 280) C dL_law_277 rfl (by decide) (fun (c_7 : ¬ (u 6 n).toInt = 0) => ?_) (fun (c_7 : (u 6 n).toInt = 0) => ?_)
      · skip
        exact g_sub (L' := [(0, .ref (b)), (1, .ref (a 0)), (2, .int (nI sn)), (3, .int (nI j)), (5, .int v5), (6, .int v6), (7, .int (u 0 12)), (8, .int (nI n))]) [0, 1, 2, 3, 4, 5, 6, 7] rfl (law_377 C hr hXs hbl hL9 hc0 hs0 hs1 hs hj hB Iu hn hW fin)
      · skip
        refine g_iload (pc' := 282) (q := 6) C dL_law_280 rfl rfl ?_
        refine g_bipush (pc' := 284) (v := 24) C dL_law_282 rfl (by decide) ?_
        refine g_icmp_ge (tgt := 377) (pc' := 287) C dL_law_284 rfl (by decide) (fun (c_8 : 24 ≤ (u 0 12).toInt) => ?_) (fun (c_8 : ¬ (24 ≤ (u 0 12).toInt)) => ?_)
        · skip
          exact g_sub (L' := [(0, .ref (b)), (1, .ref (a 0)), (2, .int (nI sn)), (3, .int (nI j)), (5, .int v5), (6, .int v6), (7, .int (u 0 12)), (8, .int (nI n))]) [0, 1, 2, 3, 4, 5, 6, 7] rfl (law_377 C hr hXs hbl hL9 hc0 hs0 hs1 hs hj hB Iu hn hW fin)
        · skip
          refine g_aload_n (pc' := 288) (q := 1) C dL_law_287 rfl rfl rfl ?_
          refine g_iload (pc' := 290) (q := 7) C dL_law_288 rfl rfl ?_
          refine g_calliV (pc' := 293) (As := [.int (nI n)]) (st := []) (cells' := c0) (slots' := s0) C (q_size u n Xu (by omega)) gL_law_X0_size rfl (by decide +kernel) ⟨Nat.le_of_ble_eq_true rfl, Nat.le_of_ble_eq_true rfl⟩ 0 (by rfl) rfl (n := 1) rfl rfl (Nat.le_of_ble_eq_true rfl) dL_law_290 rfl rfl rfl ⟨hc0, hs0⟩ (fun r_9 u_9 h_10 => ?_)
          obtain ⟨rfl, h_10⟩ := h_10
          refine g_st h_10 ?_
          refine g_istore (pc' := 295) (L' := [(9, .int (u 12 n)), (0, .ref (b)), (1, .ref (a 0)), (2, .int (nI sn)), (3, .int (nI j)), (5, .int v5), (6, .int v6), (7, .int (u 0 12)), (8, .int (nI n))]) C dL_law_293 rfl (by decide) rfl ?_
          have rg := ti_rng (u 12 n)
          refine g_iconst (pc' := 296) (v := 1) C dL_law_295 rfl (by decide) ?_
          refine g_iload (pc' := 298) (q := 5) C dL_law_296 rfl rfl ?_
          refine g_bipush (pc' := 300) (v := 6) C dL_law_298 rfl (by decide) ?_
          refine g_ishr (pc' := 301) C dL_law_300 rfl ?_
          refine g_iload (pc' := 303) (q := 0) C dL_law_301 rfl rfl ?_
          refine g_iconst (pc' := 304) (v := 1) C dL_law_303 rfl (by decide) ?_
          refine g_isub (pc' := 305) C dL_law_304 rfl ?_
          have tm : (u 12 n - 1).toInt = (u 12 n).toInt - 1 := ti_sub (x := u 12 n) (y := 1) (by show -2147483648 ≤ (u 12 n).toInt - 1; omega) (by show (u 12 n).toInt - 1 < 2147483648; omega)
          refine g_calliS (pc' := 308) (As := [.int ((v5) >>> ((6) &&& 31)), .int ((u 12 n) - 1)]) (st := [.int 1]) (cells' := c0) (slots' := s0) C (c_L_low u ((v5) >>> ((6) &&& 31)) ((u 12 n) - 1) (by first | decide | omega)) gL_law_L_low rfl (by decide +kernel) ⟨Nat.le_of_ble_eq_true rfl, Nat.le_of_ble_eq_true rfl⟩ (n := 2) rfl rfl (Nat.le_of_ble_eq_true rfl) dL_law_305 rfl rfl rfl ⟨hc0, hs0⟩ (fun r_11 u_11 h_12 => ?_)
          obtain ⟨qh_12, h_12⟩ := h_12
          refine g_st h_12 ?_
          refine g_iadd (pc' := 309) C dL_law_308 rfl ?_
          have ar_11 : (1 + r_11).toInt = 1 + r_11.toInt := ti_add (x := 1) (y := r_11) (by show -2147483648 ≤ 1 + r_11.toInt; omega) (by show 1 + r_11.toInt < 2147483648; omega)
          refine g_istore (pc' := 311) (L' := [(10, .int (1 + r_11)), (9, .int (u 12 n)), (0, .ref (b)), (1, .ref (a 0)), (2, .int (nI sn)), (3, .int (nI j)), (5, .int v5), (6, .int v6), (7, .int (u 0 12)), (8, .int (nI n))]) C dL_law_309 rfl (by decide) rfl ?_
          refine g_aload_n (pc' := 312) (q := 3) C dL_law_311 rfl rfl rfl ?_
          refine g_iload (pc' := 314) (q := 9) C dL_law_312 rfl rfl ?_
          refine g_iload (pc' := 316) (q := 0) C dL_law_314 rfl rfl ?_
          refine g_calliV (pc' := 319) (As := [.int (nI n), .int (1 + r_11)]) (st := []) (cells' := c0) (slots' := s0) C (L_split u n (1 + r_11) Iu hs (by omega) (by omega) (by omega) ⟨by omega, by omega⟩) gL_law_X0_split rfl (by decide +kernel) ⟨Nat.le_of_ble_eq_true rfl, Nat.le_of_ble_eq_true rfl⟩ 0 (by rfl) rfl (n := 2) rfl rfl (Nat.le_of_ble_eq_true rfl) dL_law_316 rfl rfl rfl ⟨hc0, hs0⟩ (fun r_13 u_13 h_14 => ?_)
          obtain ⟨k9, rfl, Iux13, f1, f2, f3, f4, f5, f6, f7⟩ := h_14
          have Xux13 := Iux13.1.ix hs
          have Lux13 := Iux13.1.1.2.1
          have Wux13 := Iux13.1.1.2.2.1
          have f8 := congrArg Int32.toInt f7
          have f9 := congrArg Int32.toInt f3
          refine g_istore (pc' := 321) (L' := [(11, .int (nI k9)), (10, .int (1 + r_11)), (9, .int (u 12 n)), (0, .ref (b)), (1, .ref (a 0)), (2, .int (nI sn)), (3, .int (nI j)), (5, .int v5), (6, .int v6), (7, .int (u 0 12)), (8, .int (nI n))]) C dL_law_319 rfl (by decide) rfl ?_
          refine g_aload_n (pc' := 322) (q := 4) C dL_law_321 rfl rfl rfl ?_
          refine g_iload (pc' := 324) (q := 0) C dL_law_322 rfl rfl ?_
          refine g_calliV (pc' := 327) (As := [.int (nI k9)]) (st := []) (cells' := c0) (slots' := s0) C (q_size u_13 k9 Xux13 (by omega)) gL_law_X0_size rfl (by decide +kernel) ⟨Nat.le_of_ble_eq_true rfl, Nat.le_of_ble_eq_true rfl⟩ 0 (by rfl) rfl (n := 1) rfl rfl (Nat.le_of_ble_eq_true rfl) dL_law_324 rfl rfl rfl ⟨hc0, hs0⟩ (fun r_15 u_15 h_16 => ?_)
          obtain ⟨rfl, h_16⟩ := h_16
          refine g_st h_16 ?_
          refine g_iload (pc' := 329) (q := 1) C dL_law_327 rfl rfl ?_
          refine g_icmp_ne (tgt := 372) (pc' := 332) C dL_law_329 rfl (by decide) (fun (c_17 : ¬ (u_13 12 k9).toInt = (1 + r_11).toInt) => ?_) (fun (c_17 : (u_13 12 k9).toInt = (1 + r_11).toInt) => ?_)
          · exact absurd (show False by omega) id
          · skip
            refine g_aload_n (pc' := 333) (q := 4) C dL_law_332 rfl rfl rfl ?_
            refine g_iload (pc' := 335) (q := 10) C dL_law_333 rfl rfl ?_
            refine g_calliV (pc' := 338) (As := [.int (nI n)]) (st := []) (cells' := c0) (slots' := s0) C (q_size u_13 n Xux13 (by omega)) gL_law_X0_size rfl (by decide +kernel) ⟨Nat.le_of_ble_eq_true rfl, Nat.le_of_ble_eq_true rfl⟩ 0 (by rfl) rfl (n := 1) rfl rfl (Nat.le_of_ble_eq_true rfl) dL_law_335 rfl rfl rfl ⟨hc0, hs0⟩ (fun r_18 u_18 h_19 => ?_)
            obtain ⟨rfl, h_19⟩ := h_19
            refine g_st h_19 ?_
            refine g_iload (pc' := 340) (q := 2) C dL_law_338 rfl rfl ?_
            refine g_iload (pc' := 342) (q := 1) C dL_law_340 rfl rfl ?_
            refine g_isub (pc' := 343) C dL_law_342 rfl ?_
            refine g_icmp_ne (tgt := 372) (pc' := 346) C dL_law_343 rfl (by decide) (fun (c_20 : ¬ (u_13 12 n).toInt = ((u 12 n) - (1 + r_11)).toInt) => ?_) (fun (c_20 : (u_13 12 n).toInt = ((u 12 n) - (1 + r_11)).toInt) => ?_)
            · exact absurd (show False by omega) id
            · skip
              refine g_aload_n (pc' := 347) (q := 4) C dL_law_346 rfl rfl rfl ?_
              refine g_iload (pc' := 349) (q := 0) C dL_law_347 rfl rfl ?_
              refine g_calliV (pc' := 352) (As := [.int (nI k9)]) (st := []) (cells' := c0) (slots' := s0) C (q_parentOf u_13 k9 Xux13 (by omega)) gL_law_X0_parentOf rfl (by decide +kernel) ⟨Nat.le_of_ble_eq_true rfl, Nat.le_of_ble_eq_true rfl⟩ 0 (by rfl) rfl (n := 1) rfl rfl (Nat.le_of_ble_eq_true rfl) dL_law_349 rfl rfl rfl ⟨hc0, hs0⟩ (fun r_21 u_21 h_22 => ?_)
              obtain ⟨rfl, h_22⟩ := h_22
              refine g_st h_22 ?_
              refine g_conv (show (u_13 11 k9 : Int32) = nI n from f6) ?_
              refine g_iload (pc' := 354) (q := 10) C dL_law_352 rfl rfl ?_
              have t_23 : (nI n).toInt = ((n : Nat) : Int) := nI_toInt (by omega)
              have t_24 : (nI n).toInt = ((n : Nat) : Int) := nI_toInt (by omega)
              refine g_icmp_ne (tgt := 372) (pc' := 357) C dL_law_354 rfl (by decide) (fun (c_25 : ¬ (nI n).toInt = (nI n).toInt) => ?_) (fun (c_25 : (nI n).toInt = (nI n).toInt) => ?_)
              · exact absurd (show False by omega) id
              · skip
                refine g_aload_n (pc' := 358) (q := 4) C dL_law_357 rfl rfl rfl ?_
                refine g_iload (pc' := 360) (q := 0) C dL_law_358 rfl rfl ?_
                refine g_calliV (pc' := 363) (As := [.int (nI k9)]) (st := []) (cells' := c0) (slots' := s0) C (q_slack u_13 k9 Xux13 (by omega)) gL_law_X0_slack rfl (by decide +kernel) ⟨Nat.le_of_ble_eq_true rfl, Nat.le_of_ble_eq_true rfl⟩ 0 (by rfl) rfl (n := 1) rfl rfl (Nat.le_of_ble_eq_true rfl) dL_law_360 rfl rfl rfl ⟨hc0, hs0⟩ (fun r_26 u_26 h_27 => ?_)
                obtain ⟨rfl, h_27⟩ := h_27
                refine g_st h_27 ?_
                refine g_aload_n (pc' := 364) (q := 4) C dL_law_363 rfl rfl rfl ?_
                refine g_iload (pc' := 366) (q := 10) C dL_law_364 rfl rfl ?_
                refine g_calliV (pc' := 369) (As := [.int (nI n)]) (st := [.int (slX u_13 k9)]) (cells' := c0) (slots' := s0) C (q_slack u_13 n Xux13 (by omega)) gL_law_X0_slack rfl (by decide +kernel) ⟨Nat.le_of_ble_eq_true rfl, Nat.le_of_ble_eq_true rfl⟩ 0 (by rfl) rfl (n := 1) rfl rfl (Nat.le_of_ble_eq_true rfl) dL_law_366 rfl rfl rfl ⟨hc0, hs0⟩ (fun r_28 u_28 h_29 => ?_)
                obtain ⟨rfl, h_29⟩ := h_29
                refine g_st h_29 ?_
                refine g_icmp_eq (tgt := 374) (pc' := 372) C dL_law_369 rfl (by decide) (fun (c_30 : (slX u_13 k9).toInt = (slX u_13 n).toInt) => ?_) (fun (c_30 : ¬ ((slX u_13 k9).toInt = (slX u_13 n).toInt)) => ?_)
                · skip
                  refine g_goto (tgt := 538) C dL_law_374 (by decide) ?_
                  exact g_sub (L' := [(0, .ref (b)), (1, .ref (a 0)), (2, .int (nI sn)), (3, .int (nI j)), (5, .int v5), (8, .int (nI n))]) [3, 4, 5, 6, 7, 10] rfl (fin u_13 _ n (Iux13.up (by omega)) (by omega) (by omega))
                · exact absurd (show False by omega) id
set_option maxHeartbeats 4000000 in
set_option maxRecDepth 100000 in
theorem law_212 {p : Program} {l : Launch} {e : Env} {s : State} {m : MethodId} {below : List Frame} {meth : Method} {c : Code} {D : va_G} {cI cZ cQ : ClassId} {a : Nat → Nat} {b L9 : Nat} {xs : Nat → Int32} (C : CX p s m #[.ref b] meth c D (tyX cI cZ cQ) (fun q => s.heap.size ≤ q) RL cL_law wsL_law 12 (wX cI cZ cQ a)) (hr : meth.sig.returnType = ret) (hXs : va_X b L9 xs s s.heap) (hbl : b < s.heap.size) (hL9 : L9 < 2 ^ 31) {c0 s0 : Nat} (hc0 : c0 ≤ 600104) (hs0 : s0 ≤ 7301314) {sn : Nat} (hs1 : 1 ≤ sn) (hs : sn ≤ 12) {j : Nat} (hj : j < 1000) {B : Int} (hB : B ≤ 1000000) {u : LU} (Iu : Inv sn B u) {n : Nat} (hn : (n : Int) < (u 0 12).toInt) (hW : 0 < (u 0 16).toInt) {v5 v6 : Int32} (fin : ∀ (u2 : LU) (w2 : Int32) (n2 : Nat), Inv sn (B + 40) u2 → (n2 : Int) < (u2 0 12).toInt → 0 < (u2 0 16).toInt → G p l e room_1 s m #[.ref b] below meth c D (fun q => s.heap.size ≤ q) 12 (wX cI cZ cQ a) c0 s0 (lw_Z below #[.ref b] s) u2 538 [(0, .ref (b)), (1, .ref (a 0)), (2, .int (nI sn)), (3, .int (nI j)), (5, .int w2), (8, .int (nI n2))] []) : G p l e room_1 s m #[.ref b] below meth c D (fun q => s.heap.size ≤ q) 12 (wX cI cZ cQ a) c0 s0 (lw_Z below #[.ref b] s) u 212 [(0, .ref (b)), (1, .ref (a 0)), (2, .int (nI sn)), (3, .int (nI j)), (5, .int v5), (6, .int v6), (7, .int (u 0 12)), (8, .int (nI n))] [] := by
  have Xu := Iu.1.ix hs
  have Lu := Iu.1.1.2.1
  have Wu := Iu.1.1.2.2.1
  refine g_iload (pc' := 214) (q := 5) C dL_law_212 rfl rfl ?_
  refine g_bipush (pc' := 216) (v := 6) C dL_law_214 rfl (by decide) ?_
  refine g_icmp_ge (tgt := 254) (pc' := 219) C dL_law_216 rfl (by decide) (fun (c_1 : 6 ≤ (v6).toInt) => ?_) (fun (c_1 : ¬ (6 ≤ (v6).toInt)) => ?_)
  · skip
    exact g_sub (L' := [(0, .ref (b)), (1, .ref (a 0)), (2, .int (nI sn)), (3, .int (nI j)), (5, .int v5), (6, .int v6), (7, .int (u 0 12)), (8, .int (nI n))]) [0, 1, 2, 3, 4, 5, 6, 7] rfl (law_254 C hr hXs hbl hL9 hc0 hs0 hs1 hs hj hB Iu hn hW fin)
  · skip
    refine g_aload_n (pc' := 220) (q := 1) C dL_law_219 rfl rfl rfl ?_
    refine g_iload (pc' := 222) (q := 4) C dL_law_220 rfl rfl ?_
    refine g_iconst (pc' := 223) (v := 3) C dL_law_222 rfl (by decide) ?_
    refine g_calliS (pc' := 226) (As := [.int v5, .int 3]) (st := [.ref (a 0)]) (cells' := c0) (slots' := s0) C (c_L_low u (v5) (3) (by first | decide | omega)) gL_law_L_low rfl (by decide +kernel) ⟨Nat.le_of_ble_eq_true rfl, Nat.le_of_ble_eq_true rfl⟩ (n := 2) rfl rfl (Nat.le_of_ble_eq_true rfl) dL_law_223 rfl rfl rfl ⟨hc0, hs0⟩ (fun r_2 u_2 h_3 => ?_)
    obtain ⟨qh_3, h_3⟩ := h_3
    refine g_st h_3 ?_
    have qh_3 : 0 ≤ r_2.toInt ∧ r_2.toInt < 3 := qh_3
    refine g_calliV (pc' := 229) (As := [.int r_2]) (st := []) (cells' := c0) (slots' := s0) C (L_nextFor u (r_2) Iu hs ⟨by omega, by omega⟩) gL_law_X0_nextFor rfl (by decide +kernel) ⟨Nat.le_of_ble_eq_true rfl, Nat.le_of_ble_eq_true rfl⟩ 0 (by rfl) rfl (n := 1) rfl rfl (Nat.le_of_ble_eq_true rfl) dL_law_226 rfl rfl rfl ⟨hc0, hs0⟩ (fun r_4 u_4 h_5 => ?_)
    obtain ⟨qh_5, h_5⟩ := h_5
    refine g_st h_5 ?_
    refine g_istore (pc' := 231) (L' := [(9, .int r_4), (0, .ref (b)), (1, .ref (a 0)), (2, .int (nI sn)), (3, .int (nI j)), (5, .int v5), (6, .int v6), (7, .int (u 0 12)), (8, .int (nI n))]) C dL_law_229 rfl (by decide) rfl ?_
    refine g_iload (pc' := 233) (q := 0) C dL_law_231 rfl rfl ?_
    refine g_if_lt (tgt := 251) (pc' := 236) C dL_law_233 rfl (by decide) (fun (c_6 : (r_4).toInt < 0) => ?_) (fun (c_6 : ¬ ((r_4).toInt < 0)) => ?_)
    · skip
      refine g_goto (tgt := 538) C dL_law_251 (by decide) ?_
      exact g_sub (L' := [(0, .ref (b)), (1, .ref (a 0)), (2, .int (nI sn)), (3, .int (nI j)), (5, .int v5), (8, .int (nI n))]) [1, 2, 3, 4, 5, 8] rfl (fin u _ n (Iu.up (by omega)) (by omega) (by omega))
    · skip
      obtain ⟨n1, e1, hn1, hst9⟩ := qh_5.resolve_left (by omega)
      refine g_aload_n (pc' := 237) (q := 2) C dL_law_236 rfl rfl rfl ?_
      refine g_iload (pc' := 239) (q := 0) C dL_law_237 rfl rfl ?_
      refine g_conv (show (r_4 : Int32) = nI n1 from e1) ?_
      refine g_calliV (pc' := 242) (As := [.int (nI n1)]) (st := []) (cells' := c0) (slots' := s0) C (L_start u n1 Iu hs hB (by omega) hst9) gL_law_X0_start rfl (by decide +kernel) ⟨Nat.le_of_ble_eq_true rfl, Nat.le_of_ble_eq_true rfl⟩ 0 (by rfl) rfl (n := 1) rfl rfl (Nat.le_of_ble_eq_true rfl) dL_law_239 rfl rfl rfl ⟨hc0, hs0⟩ (fun r_7 u_7 h_8 => ?_)
      obtain ⟨Iux7, eux7, gux7⟩ := h_8
      have Xux7 := Iux7.1.ix hs
      have Lux7 := Iux7.1.1.2.1
      have Wux7 := Iux7.1.1.2.2.1
      have zux7 := congrArg Int32.toInt (congrFun eux7 12)
      have yux7 := congrArg Int32.toInt (congrFun eux7 16)
      have xux7 := congrArg Int32.toInt (congrFun eux7 17)
      refine g_aload_n (pc' := 243) (q := 2) C dL_law_242 rfl rfl rfl ?_
      refine g_calliV (pc' := 246) (As := []) (st := [.int r_7]) (cells' := c0) (slots' := s0) C (c_X0_time u_7) gL_law_X0_time rfl (by decide +kernel) ⟨Nat.le_of_ble_eq_true rfl, Nat.le_of_ble_eq_true rfl⟩ 0 (by rfl) rfl (n := 0) rfl rfl (Nat.le_of_ble_eq_true rfl) dL_law_243 rfl rfl rfl ⟨hc0, hs0⟩ (fun r_9 u_9 h_10 => ?_)
      obtain ⟨rfl, h_10⟩ := h_10
      refine g_st h_10 ?_
      refine g_icmp_gt (tgt := 251) (pc' := 249) C dL_law_246 rfl (by decide) (fun (c_11 : (u_7 0 17).toInt < (r_7).toInt) => ?_) (fun (c_11 : ¬ ((u_7 0 17).toInt < (r_7).toInt)) => ?_)
      · skip
        refine g_goto (tgt := 538) C dL_law_251 (by decide) ?_
        exact g_sub (L' := [(0, .ref (b)), (1, .ref (a 0)), (2, .int (nI sn)), (3, .int (nI j)), (5, .int v5), (8, .int (nI n))]) [1, 2, 3, 4, 5, 8] rfl (fin u_7 _ n (Iux7.up (by omega)) (by omega) (by omega))
      · exact absurd (show False by omega) id
set_option maxHeartbeats 4000000 in
set_option maxRecDepth 100000 in
theorem law_195 {p : Program} {l : Launch} {e : Env} {s : State} {m : MethodId} {below : List Frame} {meth : Method} {c : Code} {D : va_G} {cI cZ cQ : ClassId} {a : Nat → Nat} {b L9 : Nat} {xs : Nat → Int32} (C : CX p s m #[.ref b] meth c D (tyX cI cZ cQ) (fun q => s.heap.size ≤ q) RL cL_law wsL_law 12 (wX cI cZ cQ a)) (hr : meth.sig.returnType = ret) (hXs : va_X b L9 xs s s.heap) (hbl : b < s.heap.size) (hL9 : L9 < 2 ^ 31) {c0 s0 : Nat} (hc0 : c0 ≤ 600104) (hs0 : s0 ≤ 7301314) {sn : Nat} (hs1 : 1 ≤ sn) (hs : sn ≤ 12) {j : Nat} (hj : j < 1000) {B : Int} (hB : B ≤ 1000000) {u : LU} (Iu : Inv sn B u) {n : Nat} (hn : (n : Int) < (u 0 12).toInt + 1) (hL : (u 0 12).toInt < 24) (hW : (u 0 16).toInt ≤ 47) {v5 v6 : Int32} (fin : ∀ (u2 : LU) (w2 : Int32) (n2 : Nat), Inv sn (B + 40) u2 → (n2 : Int) < (u2 0 12).toInt → 0 < (u2 0 16).toInt → G p l e room_1 s m #[.ref b] below meth c D (fun q => s.heap.size ≤ q) 12 (wX cI cZ cQ a) c0 s0 (lw_Z below #[.ref b] s) u2 538 [(0, .ref (b)), (1, .ref (a 0)), (2, .int (nI sn)), (3, .int (nI j)), (5, .int w2), (8, .int (nI n2))] []) : G p l e room_1 s m #[.ref b] below meth c D (fun q => s.heap.size ≤ q) 12 (wX cI cZ cQ a) c0 s0 (lw_Z below #[.ref b] s) u 195 [(0, .ref (b)), (1, .ref (a 0)), (2, .int (nI sn)), (3, .int (nI j)), (5, .int v5), (6, .int v6), (7, .int (u 0 12)), (8, .int (nI n))] [] := by
  have Xu := Iu.1.ix hs
  have Lu := Iu.1.1.2.1
  have Wu := Iu.1.1.2.2.1
  refine g_aload_n (pc' := 196) (q := 1) C dL_law_195 rfl rfl rfl ?_
  refine g_iconst (pc' := 197) (v := 1) C dL_law_196 rfl (by decide) ?_
  refine g_iload (pc' := 199) (q := 4) C dL_law_197 rfl rfl ?_
  refine g_bipush (pc' := 201) (v := 12) C dL_law_199 rfl (by decide) ?_
  refine g_calliS (pc' := 204) (As := [.int v5, .int 12]) (st := [.int 1, .ref (a 0)]) (cells' := c0) (slots' := s0) C (c_L_low u (v5) (12) (by first | decide | omega)) gL_law_L_low rfl (by decide +kernel) ⟨Nat.le_of_ble_eq_true rfl, Nat.le_of_ble_eq_true rfl⟩ (n := 2) rfl rfl (Nat.le_of_ble_eq_true rfl) dL_law_201 rfl rfl rfl ⟨hc0, hs0⟩ (fun r_1 u_1 h_2 => ?_)
  obtain ⟨qh_2, h_2⟩ := h_2
  refine g_st h_2 ?_
  have qh_2 : 0 ≤ r_1.toInt ∧ r_1.toInt < 12 := qh_2
  refine g_iadd (pc' := 205) C dL_law_204 rfl ?_
  have ar_1 : (1 + r_1).toInt = 1 + r_1.toInt := ti_add (x := 1) (y := r_1) (by show -2147483648 ≤ 1 + r_1.toInt; omega) (by show 1 + r_1.toInt < 2147483648; omega)
  obtain ⟨c9, hc9, e9⟩ := nI_of_ti (x := 1 + r_1) (n := 13) (by omega) (by omega) (by decide)
  have e99 : (1 + r_1).toInt = (c9 : Int) := by rw [e9]; exact nI_toInt (by omega)
  refine g_conv (show (1 + r_1 : Int32) = nI c9 from e9) ?_
  refine g_calliV (pc' := 208) (As := [.int (nI c9)]) (st := []) (cells' := c0) (slots' := s0) C (L_enter u c9 Iu hs1 hs (by omega) (by omega) (by omega)) gL_law_X0_enter rfl (by decide +kernel) ⟨Nat.le_of_ble_eq_true rfl, Nat.le_of_ble_eq_true rfl⟩ 0 (by rfl) rfl (n := 1) rfl rfl (Nat.le_of_ble_eq_true rfl) dL_law_205 rfl rfl rfl ⟨hc0, hs0⟩ (fun r_3 u_3 h_4 => ?_)
  obtain ⟨Iux3, dux3, wux3⟩ := h_4
  have Xux3 := Iux3.1.ix hs
  have Lux3 := Iux3.1.1.2.1
  have Wux3 := Iux3.1.1.2.2.1
  refine g_pop (pc' := 209) C dL_law_208 rfl rfl ?_
  refine g_goto (tgt := 538) C dL_law_209 (by decide) ?_
  exact g_sub (L' := [(0, .ref (b)), (1, .ref (a 0)), (2, .int (nI sn)), (3, .int (nI j)), (5, .int v5), (8, .int (nI n))]) [0, 1, 2, 3, 4, 7] rfl (fin u_3 _ n (Iux3.up (by omega)) (by omega) (by omega))
set_option maxHeartbeats 4000000 in
set_option maxRecDepth 100000 in
theorem law_111 {p : Program} {l : Launch} {e : Env} {s : State} {m : MethodId} {below : List Frame} {meth : Method} {c : Code} {D : va_G} {cI cZ cQ : ClassId} {a : Nat → Nat} {b L9 : Nat} {xs : Nat → Int32} (C : CX p s m #[.ref b] meth c D (tyX cI cZ cQ) (fun q => s.heap.size ≤ q) RL cL_law wsL_law 12 (wX cI cZ cQ a)) (hr : meth.sig.returnType = ret) (hXs : va_X b L9 xs s s.heap) (hbl : b < s.heap.size) (hL9 : L9 < 2 ^ 31) {c0 s0 : Nat} (hc0 : c0 ≤ 600104) (hs0 : s0 ≤ 7301314) {sn : Nat} (hs1 : 1 ≤ sn) (hs : sn ≤ 12) {j : Nat} (hj : j < 1000) {B : Int} (hB : B ≤ 1000000) {u : LU} (Iu : Inv sn B u) (hLW : (u 0 12).toInt = 0 ∨ 0 < (u 0 16).toInt) (fin : ∀ (u2 : LU) (w2 : Int32) (n2 : Nat), Inv sn (B + 40) u2 → (n2 : Int) < (u2 0 12).toInt → 0 < (u2 0 16).toInt → G p l e room_1 s m #[.ref b] below meth c D (fun q => s.heap.size ≤ q) 12 (wX cI cZ cQ a) c0 s0 (lw_Z below #[.ref b] s) u2 538 [(0, .ref (b)), (1, .ref (a 0)), (2, .int (nI sn)), (3, .int (nI j)), (5, .int w2), (8, .int (nI n2))] []) : G p l e room_1 s m #[.ref b] below meth c D (fun q => s.heap.size ≤ q) 12 (wX cI cZ cQ a) c0 s0 (lw_Z below #[.ref b] s) u 111 [(0, .ref (b)), (1, .ref (a 0)), (2, .int (nI sn)), (3, .int (nI j))] [] := by
  have Xu := Iu.1.ix hs
  have Lu := Iu.1.1.2.1
  have Wu := Iu.1.1.2.2.1
  refine g_aload_n (pc' := 112) (q := 0) C dL_law_111 rfl rfl rfl ?_
  refine g_bipush (pc' := 114) (v := 12) C dL_law_112 rfl (by decide) ?_
  refine g_iconst (pc' := 115) (v := 2) C dL_law_114 rfl (by decide) ?_
  refine g_iload_n (pc' := 116) (q := 3) C dL_law_115 rfl rfl rfl ?_
  refine g_imul (pc' := 117) C dL_law_116 rfl ?_
  refine g_conv (show (2 * (nI j) : Int32) = nI (2 * j) from nI_mul 2 j) ?_
  refine g_iadd (pc' := 118) C dL_law_117 rfl ?_
  refine g_conv (show (12 + (nI (2 * j)) : Int32) = nI (12 + 2 * j) from nI_add 12 (2 * j)) ?_
  refine g_callS (pc' := 121) (As := [.ref b, .int (nI (12 + 2 * j))]) (st := []) (cells' := c0) (slots' := s0) C hXs hbl (Nat.not_le.mpr hbl) (c_L_cell (nI (12 + 2 * j)) hL9 (by rw [nI_toInt (by omega)]; omega)) gL_law_L_cell rfl (by decide +kernel) ⟨Nat.le_of_ble_eq_true rfl, Nat.le_of_ble_eq_true rfl⟩ (n := 2) rfl rfl (Nat.le_of_ble_eq_true rfl) dL_law_118 rfl rfl rfl ⟨hc0, hs0⟩ (fun v_1 => ?_)
  refine g_istore (pc' := 123) (L' := [(4, .int v_1), (0, .ref (b)), (1, .ref (a 0)), (2, .int (nI sn)), (3, .int (nI j))]) C dL_law_121 rfl (by decide) rfl ?_
  refine g_aload_n (pc' := 124) (q := 1) C dL_law_123 rfl rfl rfl ?_
  refine g_bipush (pc' := 126) (v := 13) C dL_law_124 rfl (by decide) ?_
  refine g_iconst (pc' := 127) (v := 2) C dL_law_126 rfl (by decide) ?_
  refine g_iload_n (pc' := 128) (q := 4) C dL_law_127 rfl rfl rfl ?_
  refine g_imul (pc' := 129) C dL_law_128 rfl ?_
  refine g_conv (show (2 * (nI j) : Int32) = nI (2 * j) from nI_mul 2 j) ?_
  refine g_iadd (pc' := 130) C dL_law_129 rfl ?_
  refine g_conv (show (13 + (nI (2 * j)) : Int32) = nI (13 + 2 * j) from nI_add 13 (2 * j)) ?_
  refine g_callS (pc' := 133) (As := [.ref b, .int (nI (13 + 2 * j))]) (st := []) (cells' := c0) (slots' := s0) C hXs hbl (Nat.not_le.mpr hbl) (c_L_cell (nI (13 + 2 * j)) hL9 (by rw [nI_toInt (by omega)]; omega)) gL_law_L_cell rfl (by decide +kernel) ⟨Nat.le_of_ble_eq_true rfl, Nat.le_of_ble_eq_true rfl⟩ (n := 2) rfl rfl (Nat.le_of_ble_eq_true rfl) dL_law_130 rfl rfl rfl ⟨hc0, hs0⟩ (fun v_2 => ?_)
  refine g_istore (pc' := 135) (L' := [(5, .int v_2), (4, .int v_1), (0, .ref (b)), (1, .ref (a 0)), (2, .int (nI sn)), (3, .int (nI j))]) C dL_law_133 rfl (by decide) rfl ?_
  refine g_iload (pc' := 137) (q := 1) C dL_law_135 rfl rfl ?_
  refine g_bipush (pc' := 139) (v := 14) C dL_law_137 rfl (by decide) ?_
  refine g_calliS (pc' := 142) (As := [.int v_1, .int 14]) (st := []) (cells' := c0) (slots' := s0) C (c_L_low u (v_1) (14) (by first | decide | omega)) gL_law_L_low rfl (by decide +kernel) ⟨Nat.le_of_ble_eq_true rfl, Nat.le_of_ble_eq_true rfl⟩ (n := 2) rfl rfl (Nat.le_of_ble_eq_true rfl) dL_law_139 rfl rfl rfl ⟨hc0, hs0⟩ (fun r_3 u_3 h_4 => ?_)
  obtain ⟨qh_4, h_4⟩ := h_4
  refine g_st h_4 ?_
  have qh_4 : 0 ≤ r_3.toInt ∧ r_3.toInt < 14 := qh_4
  refine g_istore (pc' := 144) (L' := [(6, .int r_3), (5, .int v_2), (4, .int v_1), (0, .ref (b)), (1, .ref (a 0)), (2, .int (nI sn)), (3, .int (nI j))]) C dL_law_142 rfl (by decide) rfl ?_
  refine g_aload_n (pc' := 145) (q := 4) C dL_law_144 rfl rfl rfl ?_
  refine g_calliV (pc' := 148) (As := []) (st := []) (cells' := c0) (slots' := s0) C (c_X0_lots u) gL_law_X0_lots rfl (by decide +kernel) ⟨Nat.le_of_ble_eq_true rfl, Nat.le_of_ble_eq_true rfl⟩ 0 (by rfl) rfl (n := 0) rfl rfl (Nat.le_of_ble_eq_true rfl) dL_law_145 rfl rfl rfl ⟨hc0, hs0⟩ (fun r_5 u_5 h_6 => ?_)
  obtain ⟨rfl, h_6⟩ := h_6
  refine g_st h_6 ?_
  refine g_istore (pc' := 150) (L' := [(7, .int (u 0 12)), (6, .int r_3), (5, .int v_2), (4, .int v_1), (0, .ref (b)), (1, .ref (a 0)), (2, .int (nI sn)), (3, .int (nI j))]) C dL_law_148 rfl (by decide) rfl ?_
  refine g_iload (pc' := 152) (q := 0) C dL_law_150 rfl rfl ?_
  refine g_if_ne (tgt := 159) (pc' := 155) C dL_law_152 rfl (by decide) (fun (c_7 : ¬ (u 0 12).toInt = 0) => ?_) (fun (c_7 : (u 0 12).toInt = 0) => ?_)
  · skip
    refine g_iload (pc' := 161) (q := 2) C dL_law_159 rfl rfl ?_
    refine g_iload (pc' := 163) (q := 0) C dL_law_161 rfl rfl ?_
    refine g_calliS (pc' := 166) (As := [.int v_2, .int (u 0 12)]) (st := []) (cells' := c0) (slots' := s0) C (c_L_low u (v_2) (u 0 12) (by first | decide | omega)) gL_law_L_low rfl (by decide +kernel) ⟨Nat.le_of_ble_eq_true rfl, Nat.le_of_ble_eq_true rfl⟩ (n := 2) rfl rfl (Nat.le_of_ble_eq_true rfl) dL_law_163 rfl rfl rfl ⟨hc0, hs0⟩ (fun r_8 u_8 h_9 => ?_)
    obtain ⟨qh_9, h_9⟩ := h_9
    refine g_st h_9 ?_
    obtain ⟨n, hn9, rfl⟩ := nI_of_ti (n := 24) qh_9.1 (by omega) (by decide)
    have tn9 : (nI n).toInt = (n : Int) := nI_toInt (by omega)
    refine g_istore (pc' := 168) (L' := [(8, .int (nI n)), (7, .int (u 0 12)), (6, .int r_3), (5, .int v_2), (4, .int v_1), (0, .ref (b)), (1, .ref (a 0)), (2, .int (nI sn)), (3, .int (nI j))]) C dL_law_166 rfl (by decide) rfl ?_
    refine g_iload (pc' := 170) (q := 1) C dL_law_168 rfl rfl ?_
    refine g_if_eq (tgt := 195) (pc' := 173) C dL_law_170 rfl (by decide) (fun h9 => absurd h9 (by assumption)) (fun _ => ?_)
    refine g_iload (pc' := 175) (q := 2) C dL_law_173 rfl rfl ?_
    refine g_iconst (pc' := 176) (v := 2) C dL_law_175 rfl (by decide) ?_
    refine g_icmp_ge (tgt := 212) (pc' := 179) C dL_law_176 rfl (by decide) (fun (c_10 : 2 ≤ (r_3).toInt) => ?_) (fun (c_10 : ¬ (2 ≤ (r_3).toInt)) => ?_)
    · skip
      exact g_sub (L' := [(0, .ref (b)), (1, .ref (a 0)), (2, .int (nI sn)), (3, .int (nI j)), (5, .int v_2), (6, .int r_3), (7, .int (u 0 12)), (8, .int (nI n))]) [5, 6, 7, 8, 3, 2, 1, 0] rfl (law_212 C hr hXs hbl hL9 hc0 hs0 hs1 hs hj hB Iu (by omega) (by omega) fin)
    · skip
      refine g_iload (pc' := 181) (q := 1) C dL_law_179 rfl rfl ?_
      refine g_bipush (pc' := 183) (v := 20) C dL_law_181 rfl (by decide) ?_
      refine g_icmp_ge (tgt := 212) (pc' := 186) C dL_law_183 rfl (by decide) (fun (c_11 : 20 ≤ (u 0 12).toInt) => ?_) (fun (c_11 : ¬ (20 ≤ (u 0 12).toInt)) => ?_)
      · skip
        exact g_sub (L' := [(0, .ref (b)), (1, .ref (a 0)), (2, .int (nI sn)), (3, .int (nI j)), (5, .int v_2), (6, .int r_3), (7, .int (u 0 12)), (8, .int (nI n))]) [5, 6, 7, 8, 3, 2, 1, 0] rfl (law_212 C hr hXs hbl hL9 hc0 hs0 hs1 hs hj hB Iu (by omega) (by omega) fin)
      · skip
        refine g_aload_n (pc' := 187) (q := 6) C dL_law_186 rfl rfl rfl ?_
        refine g_calliV (pc' := 190) (As := []) (st := []) (cells' := c0) (slots' := s0) C (c_X0_wafers u) gL_law_X0_wafers rfl (by decide +kernel) ⟨Nat.le_of_ble_eq_true rfl, Nat.le_of_ble_eq_true rfl⟩ 0 (by rfl) rfl (n := 0) rfl rfl (Nat.le_of_ble_eq_true rfl) dL_law_187 rfl rfl rfl ⟨hc0, hs0⟩ (fun r_12 u_12 h_13 => ?_)
        obtain ⟨rfl, h_13⟩ := h_13
        refine g_st h_13 ?_
        refine g_bipush (pc' := 192) (v := 48) C dL_law_190 rfl (by decide) ?_
        refine g_icmp_ge (tgt := 212) (pc' := 195) C dL_law_192 rfl (by decide) (fun (c_14 : 48 ≤ (u 0 16).toInt) => ?_) (fun (c_14 : ¬ (48 ≤ (u 0 16).toInt)) => ?_)
        · skip
          exact g_sub (L' := [(0, .ref (b)), (1, .ref (a 0)), (2, .int (nI sn)), (3, .int (nI j)), (5, .int v_2), (6, .int r_3), (7, .int (u 0 12)), (8, .int (nI n))]) [5, 6, 7, 8, 3, 2, 1, 0] rfl (law_212 C hr hXs hbl hL9 hc0 hs0 hs1 hs hj hB Iu (by omega) (by omega) fin)
        · skip
          exact g_sub (L' := [(0, .ref (b)), (1, .ref (a 0)), (2, .int (nI sn)), (3, .int (nI j)), (5, .int v_2), (6, .int r_3), (7, .int (u 0 12)), (8, .int (nI n))]) [5, 6, 7, 8, 3, 2, 1, 0] rfl (law_195 C hr hXs hbl hL9 hc0 hs0 hs1 hs hj hB Iu (by omega) (by omega) (by omega) fin)
  · skip
    refine g_iconst (pc' := 156) (v := 0) C dL_law_155 rfl (by decide) ?_
    refine g_goto (tgt := 166) C dL_law_156 (by decide) ?_
    refine g_conv (show (0 : Int32) = nI 0 from rfl) ?_
    have nw := no_waf Iu (by assumption)
    refine g_istore (pc' := 168) (L' := [(8, .int (nI 0)), (7, .int (u 0 12)), (6, .int r_3), (5, .int v_2), (4, .int v_1), (0, .ref (b)), (1, .ref (a 0)), (2, .int (nI sn)), (3, .int (nI j))]) C dL_law_166 rfl (by decide) rfl ?_
    refine g_iload (pc' := 170) (q := 1) C dL_law_168 rfl rfl ?_
    refine g_if_eq (tgt := 195) (pc' := 173) C dL_law_170 rfl (by decide) (fun _ => ?_) (fun h9 => absurd (by assumption) h9)
    exact g_sub (L' := [(0, .ref (b)), (1, .ref (a 0)), (2, .int (nI sn)), (3, .int (nI j)), (5, .int v_2), (6, .int r_3), (7, .int (u 0 12)), (8, .int (nI 0))]) [5, 6, 7, 8, 3, 2, 1, 0] rfl (law_195 C hr hXs hbl hL9 hc0 hs0 hs1 hs hj hB Iu (by omega) (by omega) (by omega) fin)
set_option maxHeartbeats 4000000 in
set_option maxRecDepth 100000 in
theorem law_538 {p : Program} {l : Launch} {e : Env} {s : State} {m : MethodId} {below : List Frame} {meth : Method} {c : Code} {D : va_G} {cI cZ cQ : ClassId} {a : Nat → Nat} {b L9 : Nat} {xs : Nat → Int32} (C : CX p s m #[.ref b] meth c D (tyX cI cZ cQ) (fun q => s.heap.size ≤ q) RL cL_law wsL_law 12 (wX cI cZ cQ a)) (hr : meth.sig.returnType = ret) (hXs : va_X b L9 xs s s.heap) (hbl : b < s.heap.size) (hL9 : L9 < 2 ^ 31) {c0 s0 : Nat} (hc0 : c0 ≤ 600104) (hs0 : s0 ≤ 7301314) {sn : Nat} (hs1 : 1 ≤ sn) (hs : sn ≤ 12) {j : Nat} {B : Int} {u : LU} (Iu : Inv sn B u) {n : Nat} (hn : (n : Int) < (u 0 12).toInt) (hW : 0 < (u 0 16).toInt) {w2 : Int32} (next : G p l e room_1 s m #[.ref b] below meth c D (fun q => s.heap.size ≤ q) 12 (wX cI cZ cQ a) c0 s0 (lw_Z below #[.ref b] s) u 643 [(0, .ref (b)), (1, .ref (a 0)), (2, .int (nI sn)), (3, .int (nI j))] []) : G p l e room_1 s m #[.ref b] below meth c D (fun q => s.heap.size ≤ q) 12 (wX cI cZ cQ a) c0 s0 (lw_Z below #[.ref b] s) u 538 [(0, .ref (b)), (1, .ref (a 0)), (2, .int (nI sn)), (3, .int (nI j)), (5, .int w2), (8, .int (nI n))] [] := by
  have Xu := Iu.1.ix hs
  have Lu := Iu.1.1.2.1
  have Wu := Iu.1.1.2.2.1
  refine g_aload_n (pc' := 539) (q := 1) C dL_law_538 rfl rfl rfl ?_
  refine g_iload_n (pc' := 540) (q := 2) C dL_law_539 rfl rfl rfl ?_
  refine g_calliS (pc' := 543) (As := [.ref (a 0), .int (nI sn)]) (st := []) (cells' := c0) (slots' := s0) C (c_L_areSteps u Iu hs) gL_law_L_areSteps rfl (by decide +kernel) ⟨Nat.le_of_ble_eq_true rfl, Nat.le_of_ble_eq_true rfl⟩ (n := 2) rfl rfl (Nat.le_of_ble_eq_true rfl) dL_law_540 rfl rfl rfl ⟨hc0, hs0⟩ (fun r_1 u_1 h_2 => ?_)
  obtain ⟨rfl, h_2⟩ := h_2
  refine g_st h_2 ?_
  refine g_if_eq (tgt := 571) (pc' := 546) C dL_law_543 rfl (by decide) (fun h => absurd h (by decide)) (fun _ => ?_)
  refine g_aload_n (pc' := 547) (q := 1) C dL_law_546 rfl rfl rfl ?_
  refine g_iload (pc' := 549) (q := 5) C dL_law_547 rfl rfl ?_
  refine g_iload (pc' := 551) (q := 4) C dL_law_549 rfl rfl ?_
  refine g_bipush (pc' := 553) (v := 9) C dL_law_551 rfl (by decide) ?_
  refine g_ishr (pc' := 554) C dL_law_553 rfl ?_
  refine g_aload_n (pc' := 555) (q := 1) C dL_law_554 rfl rfl rfl ?_
  refine g_calliV (pc' := 558) (As := []) (st := [.int ((w2) >>> ((9) &&& 31)), .int (nI n), .ref (a 0)]) (cells' := c0) (slots' := s0) C (c_X0_lots u) gL_law_X0_lots rfl (by decide +kernel) ⟨Nat.le_of_ble_eq_true rfl, Nat.le_of_ble_eq_true rfl⟩ 0 (by rfl) rfl (n := 0) rfl rfl (Nat.le_of_ble_eq_true rfl) dL_law_555 rfl rfl rfl ⟨hc0, hs0⟩ (fun r_3 u_3 h_4 => ?_)
  obtain ⟨rfl, h_4⟩ := h_4
  refine g_st h_4 ?_
  refine g_calliS (pc' := 561) (As := [.int ((w2) >>> ((9) &&& 31)), .int (u 0 12)]) (st := [.int (nI n), .ref (a 0)]) (cells' := c0) (slots' := s0) C (c_L_low u ((w2) >>> ((9) &&& 31)) (u 0 12) (by first | decide | omega)) gL_law_L_low rfl (by decide +kernel) ⟨Nat.le_of_ble_eq_true rfl, Nat.le_of_ble_eq_true rfl⟩ (n := 2) rfl rfl (Nat.le_of_ble_eq_true rfl) dL_law_558 rfl rfl rfl ⟨hc0, hs0⟩ (fun r_5 u_5 h_6 => ?_)
  obtain ⟨qh_6, h_6⟩ := h_6
  refine g_st h_6 ?_
  obtain ⟨n9, hn99, rfl⟩ := nI_of_ti (n := 24) qh_6.1 (by omega) (by decide)
  have tn99 : (nI n9).toInt = (n9 : Int) := nI_toInt (by omega)
  refine g_calliS (pc' := 564) (As := [.ref (a 0), .int (nI n), .int (nI n9)]) (st := []) (cells' := c0) (slots' := s0) C (c_L_isCommon u n n9 Iu hs (by omega) (by omega)) gL_law_L_isCommon rfl (by decide +kernel) ⟨Nat.le_of_ble_eq_true rfl, Nat.le_of_ble_eq_true rfl⟩ (n := 3) rfl rfl (Nat.le_of_ble_eq_true rfl) dL_law_561 rfl rfl rfl ⟨hc0, hs0⟩ (fun r_7 u_7 h_8 => ?_)
  obtain ⟨rfl, h_8⟩ := h_8
  refine g_st h_8 ?_
  refine g_if_eq (tgt := 571) (pc' := 567) C dL_law_564 rfl (by decide) (fun h => absurd h (by decide)) (fun _ => ?_)
  refine g_iconst (pc' := 568) (v := 1) C dL_law_567 rfl (by decide) ?_
  refine g_goto (tgt := 572) C dL_law_568 (by decide) ?_
  refine g_istore (pc' := 574) (L' := [(9, .int 1), (0, .ref (b)), (1, .ref (a 0)), (2, .int (nI sn)), (3, .int (nI j)), (5, .int w2), (8, .int (nI n))]) C dL_law_572 rfl (by decide) rfl ?_
  refine g_iconst (pc' := 575) (v := 0) C dL_law_574 rfl (by decide) ?_
  refine g_istore (pc' := 577) (L' := [(10, .int 0), (9, .int 1), (0, .ref (b)), (1, .ref (a 0)), (2, .int (nI sn)), (3, .int (nI j)), (5, .int w2), (8, .int (nI n))]) C dL_law_575 rfl (by decide) rfl ?_
  have loop_577 : ∀ (k : Nat) (i : Nat), (i : Int) ≤ (u 0 12).toInt → (u 0 12).toInt + 1 ≤ i + k → G p l e room_1 s m #[.ref b] below meth c D (fun q => s.heap.size ≤ q) 12 (wX cI cZ cQ a) c0 s0 (lw_Z below #[.ref b] s) u 577 [(0, .ref (b)), (1, .ref (a 0)), (2, .int (nI sn)), (3, .int (nI j)), (5, .int w2), (8, .int (nI n)), (9, .int 1), (10, .int (nI i))] [] := by
    intro k
    induction k with
    | zero =>
      intro i hi hk
      omega
    | succ k ih_577 =>
      intro i hi hk
      refine g_iload (pc' := 579) (q := 7) C dL_law_577 rfl rfl ?_
      refine g_aload_n (pc' := 580) (q := 1) C dL_law_579 rfl rfl rfl ?_
      refine g_calliV (pc' := 583) (As := []) (st := [.int (nI i)]) (cells' := c0) (slots' := s0) C (c_X0_lots u) gL_law_X0_lots rfl (by decide +kernel) ⟨Nat.le_of_ble_eq_true rfl, Nat.le_of_ble_eq_true rfl⟩ 0 (by rfl) rfl (n := 0) rfl rfl (Nat.le_of_ble_eq_true rfl) dL_law_580 rfl rfl rfl ⟨hc0, hs0⟩ (fun r_9 u_9 h_10 => ?_)
      obtain ⟨rfl, h_10⟩ := h_10
      refine g_st h_10 ?_
      have t_11 : (nI i).toInt = ((i : Nat) : Int) := nI_toInt (by omega)
      refine g_icmp_ge (tgt := 605) (pc' := 586) C dL_law_583 rfl (by decide) (fun (c_12 : (u 0 12).toInt ≤ (nI i).toInt) => ?_) (fun (c_12 : ¬ ((u 0 12).toInt ≤ (nI i).toInt)) => ?_)
      · skip
        refine g_iconst (pc' := 606) (v := 0) C dL_law_605 rfl (by decide) ?_
        refine g_istore (pc' := 608) (L' := [(10, .int 0), (0, .ref (b)), (1, .ref (a 0)), (2, .int (nI sn)), (3, .int (nI j)), (5, .int w2), (8, .int (nI n)), (9, .int 1)]) C dL_law_606 rfl (by decide) rfl ?_
        have loop_608 : ∀ (k : Nat) (i : Nat), (i : Int) ≤ (u 0 16).toInt → (u 0 16).toInt + 1 ≤ i + k → G p l e room_1 s m #[.ref b] below meth c D (fun q => s.heap.size ≤ q) 12 (wX cI cZ cQ a) c0 s0 (lw_Z below #[.ref b] s) u 608 [(0, .ref (b)), (1, .ref (a 0)), (2, .int (nI sn)), (3, .int (nI j)), (5, .int w2), (8, .int (nI n)), (9, .int 1), (10, .int (nI i))] [] := by
          intro k
          induction k with
          | zero =>
            intro i hi hk
            omega
          | succ k ih_608 =>
            intro i hi hk
            refine g_iload (pc' := 610) (q := 7) C dL_law_608 rfl rfl ?_
            refine g_aload_n (pc' := 611) (q := 1) C dL_law_610 rfl rfl rfl ?_
            refine g_calliV (pc' := 614) (As := []) (st := [.int (nI i)]) (cells' := c0) (slots' := s0) C (c_X0_wafers u) gL_law_X0_wafers rfl (by decide +kernel) ⟨Nat.le_of_ble_eq_true rfl, Nat.le_of_ble_eq_true rfl⟩ 0 (by rfl) rfl (n := 0) rfl rfl (Nat.le_of_ble_eq_true rfl) dL_law_611 rfl rfl rfl ⟨hc0, hs0⟩ (fun r_13 u_13 h_14 => ?_)
            obtain ⟨rfl, h_14⟩ := h_14
            refine g_st h_14 ?_
            have t_15 : (nI i).toInt = ((i : Nat) : Int) := nI_toInt (by omega)
            refine g_icmp_ge (tgt := 636) (pc' := 617) C dL_law_614 rfl (by decide) (fun (c_16 : (u 0 16).toInt ≤ (nI i).toInt) => ?_) (fun (c_16 : ¬ ((u 0 16).toInt ≤ (nI i).toInt)) => ?_)
            · skip
              refine g_iload (pc' := 638) (q := 6) C dL_law_636 rfl rfl ?_
              refine g_if_ne (tgt := 643) (pc' := 641) C dL_law_638 rfl (by decide) (fun _ => ?_) (fun h => absurd h (by decide))
              exact g_sub (L' := [(0, .ref (b)), (1, .ref (a 0)), (2, .int (nI sn)), (3, .int (nI j))]) [0, 1, 2, 3] rfl next
            · skip
              refine g_iload (pc' := 619) (q := 6) C dL_law_617 rfl rfl ?_
              refine g_if_eq (tgt := 636) (pc' := 622) C dL_law_619 rfl (by decide) (fun h => absurd h (by decide)) (fun _ => ?_)
              refine g_aload_n (pc' := 623) (q := 1) C dL_law_622 rfl rfl rfl ?_
              refine g_iload (pc' := 625) (q := 7) C dL_law_623 rfl rfl ?_
              refine g_calliS (pc' := 628) (As := [.ref (a 0), .int (nI i)]) (st := []) (cells' := c0) (slots' := s0) C (c_L_isWafer u i Iu hs (by omega)) gL_law_L_isWafer rfl (by decide +kernel) ⟨Nat.le_of_ble_eq_true rfl, Nat.le_of_ble_eq_true rfl⟩ (n := 2) rfl rfl (Nat.le_of_ble_eq_true rfl) dL_law_625 rfl rfl rfl ⟨hc0, hs0⟩ (fun r_17 u_17 h_18 => ?_)
              obtain ⟨rfl, h_18⟩ := h_18
              refine g_st h_18 ?_
              refine g_istore (pc' := 630) (L' := [(9, .int 1), (0, .ref (b)), (1, .ref (a 0)), (2, .int (nI sn)), (3, .int (nI j)), (5, .int w2), (8, .int (nI n)), (10, .int (nI i))]) C dL_law_628 rfl (by decide) rfl ?_
              refine g_iinc (pc' := 633) (v := nI (i + 1)) (L' := [(10, .int (nI (i + 1))), (9, .int 1), (0, .ref (b)), (1, .ref (a 0)), (2, .int (nI sn)), (3, .int (nI j)), (5, .int w2), (8, .int (nI n))]) C dL_law_630 rfl (k := 7) rfl (nI_1 _) (by decide) rfl ?_
              refine g_goto (tgt := 608) C dL_law_633 (by decide) ?_
              refine g_sub (L' := [(0, .ref (b)), (1, .ref (a 0)), (2, .int (nI sn)), (3, .int (nI j)), (5, .int w2), (8, .int (nI n)), (9, .int 1), (10, .int (nI (i + 1)))]) [2, 3, 4, 5, 6, 7, 1, 0] rfl ?_
              exact ih_608 (i + 1) (by omega) (by omega)
        refine g_sub (L' := [(0, .ref (b)), (1, .ref (a 0)), (2, .int (nI sn)), (3, .int (nI j)), (5, .int w2), (8, .int (nI n)), (9, .int 1), (10, .int (nI 0))]) [1, 2, 3, 4, 5, 6, 7, 0] rfl ?_
        exact loop_608 61 0 (by omega) (by omega)
      · skip
        refine g_iload (pc' := 588) (q := 6) C dL_law_586 rfl rfl ?_
        refine g_if_eq (tgt := 605) (pc' := 591) C dL_law_588 rfl (by decide) (fun h => absurd h (by decide)) (fun _ => ?_)
        refine g_aload_n (pc' := 592) (q := 1) C dL_law_591 rfl rfl rfl ?_
        refine g_iload (pc' := 594) (q := 7) C dL_law_592 rfl rfl ?_
        refine g_calliS (pc' := 597) (As := [.ref (a 0), .int (nI i)]) (st := []) (cells' := c0) (slots' := s0) C (c_L_isLot u i Iu hs (by omega)) gL_law_L_isLot rfl (by decide +kernel) ⟨Nat.le_of_ble_eq_true rfl, Nat.le_of_ble_eq_true rfl⟩ (n := 2) rfl rfl (Nat.le_of_ble_eq_true rfl) dL_law_594 rfl rfl rfl ⟨hc0, hs0⟩ (fun r_19 u_19 h_20 => ?_)
        obtain ⟨rfl, h_20⟩ := h_20
        refine g_st h_20 ?_
        refine g_istore (pc' := 599) (L' := [(9, .int 1), (0, .ref (b)), (1, .ref (a 0)), (2, .int (nI sn)), (3, .int (nI j)), (5, .int w2), (8, .int (nI n)), (10, .int (nI i))]) C dL_law_597 rfl (by decide) rfl ?_
        refine g_iinc (pc' := 602) (v := nI (i + 1)) (L' := [(10, .int (nI (i + 1))), (9, .int 1), (0, .ref (b)), (1, .ref (a 0)), (2, .int (nI sn)), (3, .int (nI j)), (5, .int w2), (8, .int (nI n))]) C dL_law_599 rfl (k := 7) rfl (nI_1 _) (by decide) rfl ?_
        refine g_goto (tgt := 577) C dL_law_602 (by decide) ?_
        refine g_sub (L' := [(0, .ref (b)), (1, .ref (a 0)), (2, .int (nI sn)), (3, .int (nI j)), (5, .int w2), (8, .int (nI n)), (9, .int 1), (10, .int (nI (i + 1)))]) [2, 3, 4, 5, 6, 7, 1, 0] rfl ?_
        exact ih_577 (i + 1) (by omega) (by omega)
  refine g_sub (L' := [(0, .ref (b)), (1, .ref (a 0)), (2, .int (nI sn)), (3, .int (nI j)), (5, .int w2), (8, .int (nI n)), (9, .int 1), (10, .int (nI 0))]) [2, 3, 4, 5, 6, 7, 1, 0] rfl ?_
  exact loop_577 25 0 (by omega) (by omega)
set_option maxHeartbeats 4000000 in
set_option maxRecDepth 100000 in
theorem law_turns {p : Program} {l : Launch} {e : Env} {s : State} {m : MethodId} {below : List Frame} {meth : Method} {c : Code} {D : va_G} {cI cZ cQ : ClassId} {a : Nat → Nat} {b L9 : Nat} {xs : Nat → Int32} (C : CX p s m #[.ref b] meth c D (tyX cI cZ cQ) (fun q => s.heap.size ≤ q) RL cL_law wsL_law 12 (wX cI cZ cQ a)) (hr : meth.sig.returnType = ret) (hXs : va_X b L9 xs s s.heap) (hbl : b < s.heap.size) (hL9 : L9 < 2 ^ 31) {c0 s0 : Nat} (hc0 : c0 ≤ 600104) (hs0 : s0 ≤ 7301314) {sn : Nat} (hs1 : 1 ≤ sn) (hs : sn ≤ 12) : ∀ (k j : Nat) (u : LU), j ≤ 70 → 71 ≤ j + k → Inv sn (40 * (j : Int)) u → ((u 0 12).toInt = 0 ∨ 0 < (u 0 16).toInt) → G p l e room_1 s m #[.ref b] below meth c D (fun q => s.heap.size ≤ q) 12 (wX cI cZ cQ a) c0 s0 (lw_Z below #[.ref b] s) u 105 [(0, .ref (b)), (1, .ref (a 0)), (2, .int (nI sn)), (3, .int (nI j))] [] := by
  intro k
  induction k with
  | zero =>
    intro j u h1 h2
    omega
  | succ k ih =>
    intro j u h1 h2 Iu hLW
    have tj : (nI j).toInt = (j : Int) := nI_toInt (by omega)
    refine g_iload_n (pc' := 106) (q := 3) C dL_law_105 rfl rfl rfl ?_
    refine g_bipush (pc' := 108) (v := 70) C dL_law_106 rfl (by decide) ?_
    refine g_icmp_ge (tgt := 649) (pc' := 111) C dL_law_108 rfl (by decide) (fun _ => ?_) (fun (c1 : ¬ 70 ≤ (nI j).toInt) => ?_)
    · refine g_iconst (pc' := 650) (v := 1) C dL_law_649 rfl (by decide) ?_
      exact g_lawret C hr hc0 hs0 dL_law_650
    · refine law_111 C hr hXs hbl hL9 hc0 hs0 hs1 hs (by omega) (by omega) Iu hLW (fun u2 w2 n2 I2 h3 h4 => law_538 C hr hXs hbl hL9 hc0 hs0 hs1 hs I2 h3 h4 ?_)
      refine g_iinc (pc' := 646) (v := nI (j + 1)) (L' := [(3, .int (nI (j + 1))), (0, .ref b), (1, .ref (a 0)), (2, .int (nI sn))]) C dL_law_643 rfl (k := 3) rfl (nI_1 j) (by decide) rfl ?_
      refine g_goto (tgt := 105) C dL_law_646 (by decide) ?_
      refine g_sub (L' := [(0, .ref b), (1, .ref (a 0)), (2, .int (nI sn)), (3, .int (nI (j + 1)))]) [1, 2, 3, 0] rfl ?_
      exact ih (j + 1) u2 (by omega) (by omega) (I2.up (by omega)) (Or.inr h4)
set_option maxHeartbeats 4000000 in
set_option maxRecDepth 100000 in
theorem law_step {p : Program} {l : Launch} {e : Env} {s : State} {m : MethodId} {below : List Frame} {meth : Method} {c : Code} {D : va_G} {cI cZ cQ : ClassId} {a : Nat → Nat} {b L9 : Nat} {xs : Nat → Int32} (C : CX p s m #[.ref b] meth c D (tyX cI cZ cQ) (fun q => s.heap.size ≤ q) RL cL_law wsL_law 12 (wX cI cZ cQ a)) (hr : meth.sig.returnType = ret) (hXs : va_X b L9 xs s s.heap) (hbl : b < s.heap.size) (hL9 : L9 < 2 ^ 31) {c0 s0 : Nat} (hc0 : c0 ≤ 600104) (hs0 : s0 ≤ 7301314) {sn : Nat} (hs1 : 1 ≤ sn) (hs : sn ≤ 12) {t : Nat} (ht : t < sn) {u : LU} (hJ : JV t 0 u) (h12 : u 0 12 = 0) (h16 : u 0 16 = 0) (next : ∀ u2 : LU, JV (t + 1) 0 u2 → u2 0 12 = 0 → u2 0 16 = 0 → G p l e room_1 s m #[.ref b] below meth c D (fun q => s.heap.size ≤ q) 12 (wX cI cZ cQ a) c0 s0 (lw_Z below #[.ref b] s) u2 97 [(0, .ref (b)), (1, .ref (a 0)), (2, .int (nI sn)), (3, .int (nI t))] []) : G p l e room_1 s m #[.ref b] below meth c D (fun q => s.heap.size ≤ q) 12 (wX cI cZ cQ a) c0 s0 (lw_Z below #[.ref b] s) u 27 [(0, .ref (b)), (1, .ref (a 0)), (2, .int (nI sn)), (3, .int (nI t))] [] := by
  have tt : (nI (t + 1)).toInt = ((t + 1 : Nat) : Int) := nI_toInt (by omega)
  refine g_aload_n (pc' := 28) (q := 0) C dL_law_27 rfl rfl rfl ?_
  refine g_iconst (pc' := 29) (v := 1) C dL_law_28 rfl (by decide) ?_
  refine g_iload_n (pc' := 30) (q := 3) C dL_law_29 rfl rfl rfl ?_
  refine g_iadd (pc' := 31) C dL_law_30 rfl ?_
  refine g_conv (show (1 + (nI t) : Int32) = nI (1 + t) from nI_add 1 t) ?_
  refine g_callS (pc' := 34) (As := [.ref b, .int (nI (1 + t))]) (st := []) (cells' := c0) (slots' := s0) C hXs hbl (Nat.not_le.mpr hbl) (c_L_cell (nI (1 + t)) hL9 (by rw [nI_toInt (by omega)]; omega)) gL_law_L_cell rfl (by decide +kernel) ⟨Nat.le_of_ble_eq_true rfl, Nat.le_of_ble_eq_true rfl⟩ (n := 2) rfl rfl (Nat.le_of_ble_eq_true rfl) dL_law_31 rfl rfl rfl ⟨hc0, hs0⟩ (fun v_1 => ?_)
  refine g_istore (pc' := 36) (L' := [(4, .int v_1), (0, .ref (b)), (1, .ref (a 0)), (2, .int (nI sn)), (3, .int (nI t))]) C dL_law_34 rfl (by decide) rfl ?_
  refine g_aload_n (pc' := 37) (q := 2) C dL_law_36 rfl rfl rfl ?_
  refine g_iload (pc' := 39) (q := 0) C dL_law_37 rfl rfl ?_
  refine g_iconst (pc' := 40) (v := 3) C dL_law_39 rfl (by decide) ?_
  refine g_calliS (pc' := 43) (As := [.int v_1, .int 3]) (st := [.ref (a 0)]) (cells' := c0) (slots' := s0) C (c_L_low u (v_1) (3) (by first | decide | omega)) gL_law_L_low rfl (by decide +kernel) ⟨Nat.le_of_ble_eq_true rfl, Nat.le_of_ble_eq_true rfl⟩ (n := 2) rfl rfl (Nat.le_of_ble_eq_true rfl) dL_law_40 rfl rfl rfl ⟨hc0, hs0⟩ (fun r_2 u_2 h_3 => ?_)
  obtain ⟨qh_3, h_3⟩ := h_3
  refine g_st h_3 ?_
  have qh_3 : 0 ≤ r_2.toInt ∧ r_2.toInt < 3 := qh_3
  refine g_iconst (pc' := 44) (v := 1) C dL_law_43 rfl (by decide) ?_
  refine g_iload (pc' := 46) (q := 0) C dL_law_44 rfl rfl ?_
  refine g_iconst (pc' := 47) (v := 3) C dL_law_46 rfl (by decide) ?_
  refine g_ishr (pc' := 48) C dL_law_47 rfl ?_
  refine g_bipush (pc' := 50) (v := 20) C dL_law_48 rfl (by decide) ?_
  refine g_calliS (pc' := 53) (As := [.int ((v_1) >>> ((3) &&& 31)), .int 20]) (st := [.int 1, .int r_2, .ref (a 0)]) (cells' := c0) (slots' := s0) C (c_L_low u ((v_1) >>> ((3) &&& 31)) (20) (by first | decide | omega)) gL_law_L_low rfl (by decide +kernel) ⟨Nat.le_of_ble_eq_true rfl, Nat.le_of_ble_eq_true rfl⟩ (n := 2) rfl rfl (Nat.le_of_ble_eq_true rfl) dL_law_50 rfl rfl rfl ⟨hc0, hs0⟩ (fun r_4 u_4 h_5 => ?_)
  obtain ⟨qh_5, h_5⟩ := h_5
  refine g_st h_5 ?_
  have qh_5 : 0 ≤ r_4.toInt ∧ r_4.toInt < 20 := qh_5
  refine g_iadd (pc' := 54) C dL_law_53 rfl ?_
  have ar_4 : (1 + r_4).toInt = 1 + r_4.toInt := ti_add (x := 1) (y := r_4) (by show -2147483648 ≤ 1 + r_4.toInt; omega) (by show 1 + r_4.toInt < 2147483648; omega)
  refine g_iload (pc' := 56) (q := 0) C dL_law_54 rfl rfl ?_
  refine g_bipush (pc' := 58) (v := 8) C dL_law_56 rfl (by decide) ?_
  refine g_ishr (pc' := 59) C dL_law_58 rfl ?_
  refine g_iconst (pc' := 60) (v := 3) C dL_law_59 rfl (by decide) ?_
  refine g_calliS (pc' := 63) (As := [.int ((v_1) >>> ((8) &&& 31)), .int 3]) (st := [.int (1 + r_4), .int r_2, .ref (a 0)]) (cells' := c0) (slots' := s0) C (c_L_low u ((v_1) >>> ((8) &&& 31)) (3) (by first | decide | omega)) gL_law_L_low rfl (by decide +kernel) ⟨Nat.le_of_ble_eq_true rfl, Nat.le_of_ble_eq_true rfl⟩ (n := 2) rfl rfl (Nat.le_of_ble_eq_true rfl) dL_law_60 rfl rfl rfl ⟨hc0, hs0⟩ (fun r_6 u_6 h_7 => ?_)
  obtain ⟨qh_7, h_7⟩ := h_7
  refine g_st h_7 ?_
  have qh_7 : 0 ≤ r_6.toInt ∧ r_6.toInt < 3 := qh_7
  refine g_if_ne (tgt := 70) (pc' := 66) C dL_law_63 rfl (by decide) (fun (c_8 : ¬ (r_6).toInt = 0) => ?_) (fun (c_8 : (r_6).toInt = 0) => ?_)
  · skip
    refine g_iconst (pc' := 71) (v := 5) C dL_law_70 rfl (by decide) ?_
    refine g_iload (pc' := 73) (q := 0) C dL_law_71 rfl rfl ?_
    refine g_bipush (pc' := 75) (v := 10) C dL_law_73 rfl (by decide) ?_
    refine g_ishr (pc' := 76) C dL_law_75 rfl ?_
    refine g_bipush (pc' := 78) (v := 60) C dL_law_76 rfl (by decide) ?_
    refine g_calliS (pc' := 81) (As := [.int ((v_1) >>> ((10) &&& 31)), .int 60]) (st := [.int 5, .int (1 + r_4), .int r_2, .ref (a 0)]) (cells' := c0) (slots' := s0) C (c_L_low u ((v_1) >>> ((10) &&& 31)) (60) (by first | decide | omega)) gL_law_L_low rfl (by decide +kernel) ⟨Nat.le_of_ble_eq_true rfl, Nat.le_of_ble_eq_true rfl⟩ (n := 2) rfl rfl (Nat.le_of_ble_eq_true rfl) dL_law_78 rfl rfl rfl ⟨hc0, hs0⟩ (fun r_9 u_9 h_10 => ?_)
    obtain ⟨qh_10, h_10⟩ := h_10
    refine g_st h_10 ?_
    have qh_10 : 0 ≤ r_9.toInt ∧ r_9.toInt < 60 := qh_10
    refine g_iadd (pc' := 82) C dL_law_81 rfl ?_
    have ar_9 : (5 + r_9).toInt = 5 + r_9.toInt := ti_add (x := 5) (y := r_9) (by show -2147483648 ≤ 5 + r_9.toInt; omega) (by show 5 + r_9.toInt < 2147483648; omega)
    refine g_iload (pc' := 84) (q := 0) C dL_law_82 rfl rfl ?_
    refine g_bipush (pc' := 86) (v := 17) C dL_law_84 rfl (by decide) ?_
    refine g_ishr (pc' := 87) C dL_law_86 rfl ?_
    refine g_iload_n (pc' := 88) (q := 4) C dL_law_87 rfl rfl rfl ?_
    refine g_iconst (pc' := 89) (v := 1) C dL_law_88 rfl (by decide) ?_
    refine g_iadd (pc' := 90) C dL_law_89 rfl ?_
    refine g_conv (show ((nI t) + 1 : Int32) = nI (t + 1) from nI_1 t) ?_
    refine g_calliS (pc' := 93) (As := [.int ((v_1) >>> ((17) &&& 31)), .int (nI (t + 1))]) (st := [.int (5 + r_9), .int (1 + r_4), .int r_2, .ref (a 0)]) (cells' := c0) (slots' := s0) C (c_L_low u ((v_1) >>> ((17) &&& 31)) (nI (t + 1)) (by first | decide | omega)) gL_law_L_low rfl (by decide +kernel) ⟨Nat.le_of_ble_eq_true rfl, Nat.le_of_ble_eq_true rfl⟩ (n := 2) rfl rfl (Nat.le_of_ble_eq_true rfl) dL_law_90 rfl rfl rfl ⟨hc0, hs0⟩ (fun r_11 u_11 h_12 => ?_)
    obtain ⟨qh_12, h_12⟩ := h_12
    refine g_st h_12 ?_
    refine g_calliV (pc' := 96) (As := [.int r_2, .int (1 + r_4), .int (5 + r_9), .int r_11]) (st := []) (cells' := c0) (slots' := s0) C (L_addStep u (r_2) (1 + r_4) (5 + r_9) (r_11) hJ h12 h16 (by omega) ⟨by omega, by omega⟩ ⟨by omega, by omega⟩ ⟨by omega, by omega⟩ ⟨by omega, by omega⟩) gL_law_X0_addStep rfl (by decide +kernel) ⟨Nat.le_of_ble_eq_true rfl, Nat.le_of_ble_eq_true rfl⟩ 0 (by rfl) rfl (n := 4) rfl rfl (Nat.le_of_ble_eq_true rfl) dL_law_93 rfl rfl rfl ⟨hc0, hs0⟩ (fun r_13 u_13 h_14 => ?_)
    obtain ⟨hJ2, h122, h162⟩ := h_14
    refine g_pop (pc' := 97) C dL_law_96 rfl rfl ?_
    exact g_sub (L' := [(0, .ref (b)), (1, .ref (a 0)), (2, .int (nI sn)), (3, .int (nI t))]) [1, 2, 3, 4] rfl (next _ hJ2 h122 h162)
  · skip
    refine g_iconst (pc' := 67) (v := 0) C dL_law_66 rfl (by decide) ?_
    refine g_goto (tgt := 82) C dL_law_67 (by decide) ?_
    refine g_iload (pc' := 84) (q := 0) C dL_law_82 rfl rfl ?_
    refine g_bipush (pc' := 86) (v := 17) C dL_law_84 rfl (by decide) ?_
    refine g_ishr (pc' := 87) C dL_law_86 rfl ?_
    refine g_iload_n (pc' := 88) (q := 4) C dL_law_87 rfl rfl rfl ?_
    refine g_iconst (pc' := 89) (v := 1) C dL_law_88 rfl (by decide) ?_
    refine g_iadd (pc' := 90) C dL_law_89 rfl ?_
    refine g_conv (show ((nI t) + 1 : Int32) = nI (t + 1) from nI_1 t) ?_
    refine g_calliS (pc' := 93) (As := [.int ((v_1) >>> ((17) &&& 31)), .int (nI (t + 1))]) (st := [.int 0, .int (1 + r_4), .int r_2, .ref (a 0)]) (cells' := c0) (slots' := s0) C (c_L_low u ((v_1) >>> ((17) &&& 31)) (nI (t + 1)) (by first | decide | omega)) gL_law_L_low rfl (by decide +kernel) ⟨Nat.le_of_ble_eq_true rfl, Nat.le_of_ble_eq_true rfl⟩ (n := 2) rfl rfl (Nat.le_of_ble_eq_true rfl) dL_law_90 rfl rfl rfl ⟨hc0, hs0⟩ (fun r_15 u_15 h_16 => ?_)
    obtain ⟨qh_16, h_16⟩ := h_16
    refine g_st h_16 ?_
    refine g_calliV (pc' := 96) (As := [.int r_2, .int (1 + r_4), .int 0, .int r_15]) (st := []) (cells' := c0) (slots' := s0) C (L_addStep u (r_2) (1 + r_4) (0) (r_15) hJ h12 h16 (by omega) ⟨by omega, by omega⟩ ⟨by omega, by omega⟩ (by decide) ⟨by omega, by omega⟩) gL_law_X0_addStep rfl (by decide +kernel) ⟨Nat.le_of_ble_eq_true rfl, Nat.le_of_ble_eq_true rfl⟩ 0 (by rfl) rfl (n := 4) rfl rfl (Nat.le_of_ble_eq_true rfl) dL_law_93 rfl rfl rfl ⟨hc0, hs0⟩ (fun r_17 u_17 h_18 => ?_)
    obtain ⟨hJ2, h122, h162⟩ := h_18
    refine g_pop (pc' := 97) C dL_law_96 rfl rfl ?_
    exact g_sub (L' := [(0, .ref (b)), (1, .ref (a 0)), (2, .int (nI sn)), (3, .int (nI t))]) [1, 2, 3, 4] rfl (next _ hJ2 h122 h162)
set_option maxHeartbeats 4000000 in
set_option maxRecDepth 100000 in
theorem law_steps {p : Program} {l : Launch} {e : Env} {s : State} {m : MethodId} {below : List Frame} {meth : Method} {c : Code} {D : va_G} {cI cZ cQ : ClassId} {a : Nat → Nat} {b L9 : Nat} {xs : Nat → Int32} (C : CX p s m #[.ref b] meth c D (tyX cI cZ cQ) (fun q => s.heap.size ≤ q) RL cL_law wsL_law 12 (wX cI cZ cQ a)) (hr : meth.sig.returnType = ret) (hXs : va_X b L9 xs s s.heap) (hbl : b < s.heap.size) (hL9 : L9 < 2 ^ 31) {c0 s0 : Nat} (hc0 : c0 ≤ 600104) (hs0 : s0 ≤ 7301314) {sn : Nat} (hs1 : 1 ≤ sn) (hs : sn ≤ 12) : ∀ (k t : Nat) (u : LU), t ≤ sn → sn + 1 ≤ t + k → JV t 0 u → u 0 12 = 0 → u 0 16 = 0 → G p l e room_1 s m #[.ref b] below meth c D (fun q => s.heap.size ≤ q) 12 (wX cI cZ cQ a) c0 s0 (lw_Z below #[.ref b] s) u 22 [(0, .ref (b)), (1, .ref (a 0)), (2, .int (nI sn)), (3, .int (nI t))] [] := by
  intro k
  induction k with
  | zero =>
    intro t u h1 h2
    omega
  | succ k ih =>
    intro t u h1 h2 hJ h12 h16
    have tt : (nI t).toInt = (t : Int) := nI_toInt (by omega)
    have ts : (nI sn).toInt = (sn : Int) := nI_toInt (by omega)
    refine g_iload_n (pc' := 23) (q := 3) C dL_law_22 rfl rfl rfl ?_
    refine g_iload_n (pc' := 24) (q := 2) C dL_law_23 rfl rfl rfl ?_
    refine g_icmp_ge (tgt := 103) (pc' := 27) C dL_law_24 rfl (by decide) (fun c1 => ?_) (fun c1 => ?_)
    · refine g_iconst (pc' := 104) (v := 0) C dL_law_103 rfl (by decide) ?_
      refine g_istore_n (pc' := 105) (L' := [(3, .int 0), (0, .ref b), (1, .ref (a 0)), (2, .int (nI sn))]) C dL_law_104 rfl rfl (by decide) rfl ?_
      refine g_sub (L' := [(0, .ref b), (1, .ref (a 0)), (2, .int (nI sn)), (3, .int (nI 0))]) [1, 2, 3, 0] rfl ?_
      obtain rfl : t = sn := by omega
      exact law_turns C hr hXs hbl hL9 hc0 hs0 hs1 hs 71 0 u (by omega) (by omega) ⟨hJ.up (by omega), JE_none h12⟩ (Or.inl (by rw [h12]; rfl))
    · refine law_step C hr hXs hbl hL9 hc0 hs0 hs1 hs (by omega) hJ h12 h16 (fun u2 hJ2 g12 g16 => ?_)
      refine g_iinc (pc' := 100) (v := nI (t + 1)) (L' := [(3, .int (nI (t + 1))), (0, .ref b), (1, .ref (a 0)), (2, .int (nI sn))]) C dL_law_97 rfl (k := 3) rfl (nI_1 t) (by decide) rfl ?_
      refine g_goto (tgt := 22) C dL_law_100 (by decide) ?_
      refine g_sub (L' := [(0, .ref b), (1, .ref (a 0)), (2, .int (nI sn)), (3, .int (nI (t + 1)))]) [1, 2, 3, 0] rfl ?_
      exact ih (t + 1) u2 (by omega) (by omega) hJ2 g12 g16
set_option maxHeartbeats 4000000 in
set_option maxRecDepth 100000 in
theorem law_begin {p : Program} {l : Launch} {e : Env} {s : State} {m : MethodId} {below : List Frame} {meth : Method} {c : Code} {D : va_G} {cI cZ cQ : ClassId} {a : Nat → Nat} {b L9 : Nat} {xs : Nat → Int32} (C : CX p s m #[.ref b] meth c D (tyX cI cZ cQ) (fun q => s.heap.size ≤ q) RL cL_law wsL_law 12 (wX cI cZ cQ a)) (hr : meth.sig.returnType = ret) (hXs : va_X b L9 xs s s.heap) (hbl : b < s.heap.size) (hL9 : L9 < 2 ^ 31) {c0 s0 : Nat} (hc0 : c0 ≤ 600104) (hs0 : s0 ≤ 7301314)  : G p l e room_1 s m #[.ref b] below meth c D (fun q => s.heap.size ≤ q) 12 (wX cI cZ cQ a) c0 s0 (lw_Z below #[.ref b] s) (fun _ _ => 0) 8 [(1, .ref (a 0)), (0, .ref (b))] [] := by
  refine g_iconst (pc' := 9) (v := 2) C dL_law_8 rfl (by decide) ?_
  refine g_aload_n (pc' := 10) (q := 1) C dL_law_9 rfl rfl rfl ?_
  refine g_iconst (pc' := 11) (v := 0) C dL_law_10 rfl (by decide) ?_
  refine g_callS (pc' := 14) (As := [.ref b, .int 0]) (st := [.int 2]) (cells' := c0) (slots' := s0) C hXs hbl (Nat.not_le.mpr hbl) (c_L_cell (0) hL9 (by decide)) gL_law_L_cell rfl (by decide +kernel) ⟨Nat.le_of_ble_eq_true rfl, Nat.le_of_ble_eq_true rfl⟩ (n := 2) rfl rfl (Nat.le_of_ble_eq_true rfl) dL_law_11 rfl rfl rfl ⟨hc0, hs0⟩ (fun v_1 => ?_)
  refine g_iconst (pc' := 15) (v := 5) C dL_law_14 rfl (by decide) ?_
  refine g_calliS (pc' := 18) (As := [.int v_1, .int 5]) (st := [.int 2]) (cells' := c0) (slots' := s0) C (c_L_low (fun _ _ => 0) (v_1) (5) (by first | decide | omega)) gL_law_L_low rfl (by decide +kernel) ⟨Nat.le_of_ble_eq_true rfl, Nat.le_of_ble_eq_true rfl⟩ (n := 2) rfl rfl (Nat.le_of_ble_eq_true rfl) dL_law_15 rfl rfl rfl ⟨hc0, hs0⟩ (fun r_2 u_2 h_3 => ?_)
  obtain ⟨qh_3, h_3⟩ := h_3
  refine g_st h_3 ?_
  have qh_3 : 0 ≤ r_2.toInt ∧ r_2.toInt < 5 := qh_3
  refine g_iadd (pc' := 19) C dL_law_18 rfl ?_
  have ar_2 : (2 + r_2).toInt = 2 + r_2.toInt := ti_add (x := 2) (y := r_2) (by show -2147483648 ≤ 2 + r_2.toInt; omega) (by show 2 + r_2.toInt < 2147483648; omega)
  obtain ⟨sn, hsn, e9⟩ := nI_of_ti (x := 2 + r_2) (n := 7) (by omega) (by omega) (by decide)
  have e99 : (2 + r_2).toInt = (sn : Int) := by rw [e9]; exact nI_toInt (by omega)
  refine g_conv (show (2 + r_2 : Int32) = nI sn from e9) ?_
  refine g_istore_n (pc' := 20) (L' := [(2, .int (nI sn)), (1, .ref (a 0)), (0, .ref (b))]) C dL_law_19 rfl rfl (by decide) rfl ?_
  refine g_iconst (pc' := 21) (v := 0) C dL_law_20 rfl (by decide) ?_
  refine g_istore_n (pc' := 22) (L' := [(3, .int 0), (2, .int (nI sn)), (1, .ref (a 0)), (0, .ref (b))]) C dL_law_21 rfl rfl (by decide) rfl ?_
  exact g_sub (L' := [(0, .ref (b)), (1, .ref (a 0)), (2, .int (nI sn)), (3, .int (nI 0))]) [3, 2, 1, 0] rfl (law_steps C hr hXs hbl hL9 hc0 hs0 (by omega) (by omega) (sn + 1) 0 _ (by omega) (by omega) J_init rfl rfl)
