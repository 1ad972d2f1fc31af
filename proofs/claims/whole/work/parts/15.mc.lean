set_option maxHeartbeats 4000000 in
set_option maxRecDepth 100000 in
theorem c_X1_enter {l : Launch} {D : va_G} {cI cZ cQ : ClassId} {a : Nat → Nat} (u : LU) (x : Int32) (hI : IM u) : KI l yX1_enter wsX1_enter ({ frames := 1, cells := 0, slots := 0, locals := 22 } : Room) D (tyX cI cZ cQ) (wM cI cZ a) [.ref (a 0), .int x] u (fun (r : Int32) (u' : LU) => (¬ (1 ≤ x.toInt ∧ x.toInt ≤ 12) ∧ u' = thM u 1) ∨ ((1 ≤ x.toInt ∧ x.toInt ≤ 12) ∧ ¬ (¬ (u 0 2).toInt = 0 ∧ ¬ (u 0 7).toInt = 24 ∧ (u 0 15).toInt + x.toInt ≤ 60) ∧ u' = thM u 2) ∨ ((1 ≤ x.toInt ∧ x.toInt ≤ 12) ∧ (¬ (u 0 2).toInt = 0 ∧ ¬ (u 0 7).toInt = 24 ∧ (u 0 15).toInt + x.toInt ≤ 60) ∧ ∃ n w0 : Nat, n < 24 ∧ w0 < 60 ∧ u 0 7 = nI n ∧ u 0 15 = nI w0 ∧ r = nI n + 1 - 1 ∧ u' = e1M (enM (e0M u n) w0 n x.toInt.toNat) n)) := by
  refine ent_I (own := RX1) (maxL := 3) (cc := cX1_enter) (L0 := [(0, .ref (a 0)), (1, .int x)]) (by decide) rfl (wM_ok _ _ _) rfl (Nat.le_of_ble_eq_true rfl) rfl ?_
  intro p e s m args below meth c A C hr
  have FM : ∀ w ∈ wsX10, w.before args s = true := fun w h => C.2.2.2.2.1 w ((by decide +kernel : ∀ w ∈ wsX10, w ∈ wsX1_enter) w h)
  obtain ⟨hS2, hL7, hW15, hT10, hZ13, hP18, hO17, hR15⟩ := id hI
  refine g_aload_n (pc' := 1) (q := 0) C dX1_enter_0 rfl rfl rfl ?_
  refine g_iload_n (pc' := 2) (q := 1) C dX1_enter_1 rfl rfl rfl ?_
  refine g_iconst (pc' := 3) (v := 1) C dX1_enter_2 rfl (by decide) ?_
  refine g_bipush (pc' := 5) (v := 12) C dX1_enter_3 rfl (by decide) ?_
  refine g_calliS (pc' := 8) (As := [.int x, .int 1, .int 12]) (st := [.ref (a 0)]) (cells' := 0) (slots' := 0) C (c_X1_in _ x 1 12) gX1_enter_X1_in rfl (by decide +kernel) ⟨Nat.le_of_ble_eq_true rfl, Nat.le_of_ble_eq_true rfl⟩ (n := 3) rfl rfl (Nat.le_of_ble_eq_true rfl) dX1_enter_5 rfl rfl rfl ⟨Nat.le_of_ble_eq_true rfl, Nat.le_of_ble_eq_true rfl⟩ (fun r_1 u_1 h_2 => ?_)
  obtain ⟨rfl, h_2⟩ := h_2
  refine g_st h_2 ?_
  refine g_ifP_ne (tgt := 15) (pc' := 11) C dX1_enter_8 rfl (by decide) (fun (c_3 : 1 ≤ x.toInt ∧ x.toInt ≤ 12) => ?_) (fun (c_3 : ¬ (1 ≤ x.toInt ∧ x.toInt ≤ 12)) => ?_)
  · skip
    refine g_aload_n (pc' := 16) (q := 0) C dX1_enter_15 rfl rfl rfl ?_
    refine g_get (pc' := 19) (v := .int (u 0 2)) C FM 0 (by rfl) rfl 2 (by decide) (by decide +kernel) rfl (by rfl) dX1_enter_16 rfl ?_
    refine g_if_eq (tgt := 42) (pc' := 22) C dX1_enter_19 rfl (by decide) (fun (c_4 : (u 0 2).toInt = 0) => ?_) (fun (c_4 : ¬ ((u 0 2).toInt = 0)) => ?_)
    · skip
      refine g_iconst (pc' := 43) (v := 2) C dX1_enter_42 rfl (by decide) ?_
      refine g_goto (tgt := 47) C dX1_enter_43 (by decide) ?_
      refine g_putI (pc' := 50) C FM tyX1 tyX1_ok nmX1 0 (by rfl) rfl 0 (by decide) (by decide +kernel) rfl rfl rfl (Nat.le_of_ble_eq_true rfl) dX1_enter_47 rfl (wM_put cI cZ a _ (f := (upd (u 0) 0 (2))) rfl) ?_
      refine g_aload_n (pc' := 51) (q := 0) C dX1_enter_50 rfl rfl rfl ?_
      refine g_get (pc' := 54) (v := .int 2) C FM 0 (by rfl) rfl 0 (by decide) (by decide +kernel) rfl (by rfl) dX1_enter_51 rfl ?_
      refine g_if_le (tgt := 59) (pc' := 57) C dX1_enter_54 rfl (by decide) (fun h => absurd h (by decide)) (fun _ => ?_)
      refine g_iconst (pc' := 58) (v := 0) C dX1_enter_57 rfl (by decide) ?_
      exact g_iret C hr rfl (Or.inr (Or.inl ⟨by omega, by omega, rfl⟩)) dX1_enter_58
    · skip
      refine g_aload_n (pc' := 23) (q := 0) C dX1_enter_22 rfl rfl rfl ?_
      refine g_get (pc' := 26) (v := .int (u 0 7)) C FM 0 (by rfl) rfl 7 (by decide) (by decide +kernel) rfl (by rfl) dX1_enter_23 rfl ?_
      refine g_bipush (pc' := 28) (v := 24) C dX1_enter_26 rfl (by decide) ?_
      refine g_icmp_eq (tgt := 42) (pc' := 31) C dX1_enter_28 rfl (by decide) (fun (c_5 : (u 0 7).toInt = 24) => ?_) (fun (c_5 : ¬ ((u 0 7).toInt = 24)) => ?_)
      · skip
        refine g_iconst (pc' := 43) (v := 2) C dX1_enter_42 rfl (by decide) ?_
        refine g_goto (tgt := 47) C dX1_enter_43 (by decide) ?_
        refine g_putI (pc' := 50) C FM tyX1 tyX1_ok nmX1 0 (by rfl) rfl 0 (by decide) (by decide +kernel) rfl rfl rfl (Nat.le_of_ble_eq_true rfl) dX1_enter_47 rfl (wM_put cI cZ a _ (f := (upd (u 0) 0 (2))) rfl) ?_
        refine g_aload_n (pc' := 51) (q := 0) C dX1_enter_50 rfl rfl rfl ?_
        refine g_get (pc' := 54) (v := .int 2) C FM 0 (by rfl) rfl 0 (by decide) (by decide +kernel) rfl (by rfl) dX1_enter_51 rfl ?_
        refine g_if_le (tgt := 59) (pc' := 57) C dX1_enter_54 rfl (by decide) (fun h => absurd h (by decide)) (fun _ => ?_)
        refine g_iconst (pc' := 58) (v := 0) C dX1_enter_57 rfl (by decide) ?_
        exact g_iret C hr rfl (Or.inr (Or.inl ⟨by omega, by omega, rfl⟩)) dX1_enter_58
      · skip
        refine g_aload_n (pc' := 32) (q := 0) C dX1_enter_31 rfl rfl rfl ?_
        refine g_get (pc' := 35) (v := .int (u 0 15)) C FM 0 (by rfl) rfl 15 (by decide) (by decide +kernel) rfl (by rfl) dX1_enter_32 rfl ?_
        refine g_iload_n (pc' := 36) (q := 1) C dX1_enter_35 rfl rfl rfl ?_
        refine g_iadd (pc' := 37) C dX1_enter_36 rfl ?_
        have t9 : (u 0 15 + x).toInt = (u 0 15).toInt + x.toInt := ti_add (by omega) (by omega)
        refine g_bipush (pc' := 39) (v := 60) C dX1_enter_37 rfl (by decide) ?_
        refine g_icmp_le (tgt := 46) (pc' := 42) C dX1_enter_39 rfl (by decide) (fun (c_6 : ((u 0 15) + x).toInt ≤ 60) => ?_) (fun (c_6 : ¬ (((u 0 15) + x).toInt ≤ 60)) => ?_)
        · skip
          refine g_iconst (pc' := 47) (v := 0) C dX1_enter_46 rfl (by decide) ?_
          refine g_putI (pc' := 50) C FM tyX1 tyX1_ok nmX1 0 (by rfl) rfl 0 (by decide) (by decide +kernel) rfl rfl rfl (Nat.le_of_ble_eq_true rfl) dX1_enter_47 rfl (wM_put cI cZ a _ (f := (upd (u 0) 0 (0))) rfl) ?_
          refine g_aload_n (pc' := 51) (q := 0) C dX1_enter_50 rfl rfl rfl ?_
          refine g_get (pc' := 54) (v := .int 0) C FM 0 (by rfl) rfl 0 (by decide) (by decide +kernel) rfl (by rfl) dX1_enter_51 rfl ?_
          refine g_if_le (tgt := 59) (pc' := 57) C dX1_enter_54 rfl (by decide) (fun _ => ?_) (fun h => absurd h (by decide))
          obtain ⟨n, hn, hc⟩ := nI_of_ti (x := u 0 7) (n := 24) (by omega) (by omega) (by decide)
          obtain ⟨w0, hw0, hcw⟩ := nI_of_ti (x := u 0 15) (n := 60) (by omega) (by omega) (by decide)
          have tw : (u 0 15).toInt = (w0 : Int) := by rw [hcw]; exact nI_toInt (by omega)
          refine g_aload_n (pc' := 60) (q := 0) C dX1_enter_59 rfl rfl rfl ?_
          refine g_get (pc' := 63) (v := .ref (a 15)) C FM 0 (by rfl) rfl 14 (by decide) (by decide +kernel) rfl (by rfl) dX1_enter_60 rfl ?_
          refine g_aload_n (pc' := 64) (q := 0) C dX1_enter_63 rfl rfl rfl ?_
          refine g_get (pc' := 67) (v := .int (u 0 7)) C FM 0 (by rfl) rfl 7 (by decide) (by decide +kernel) rfl (by rfl) dX1_enter_64 rfl ?_
          refine g_conv (show (u 0 7 : Int32) = nI n from hc) ?_
          refine g_iconst (pc' := 68) (v := (-1)) C dX1_enter_67 rfl (by decide) ?_
          refine g_iast (pc' := 69) (n := 24) (f := u 15) C 11 0 (by rfl) rfl (vp_in_nI (by omega) (by omega)) (k := n) (nI_clamp (by omega)) dX1_enter_68 rfl (wM_set cI cZ a _ (k := 10) rfl) ?_
          refine g_aload_n (pc' := 70) (q := 0) C dX1_enter_69 rfl rfl rfl ?_
          refine g_get (pc' := 73) (v := .ref (a 11)) C FM 0 (by rfl) rfl 10 (by decide) (by decide +kernel) rfl (by rfl) dX1_enter_70 rfl ?_
          refine g_aload_n (pc' := 74) (q := 0) C dX1_enter_73 rfl rfl rfl ?_
          refine g_get (pc' := 77) (v := .int (u 0 7)) C FM 0 (by rfl) rfl 7 (by decide) (by decide +kernel) rfl (by rfl) dX1_enter_74 rfl ?_
          refine g_conv (show (u 0 7 : Int32) = nI n from hc) ?_
          refine g_aload_n (pc' := 78) (q := 0) C dX1_enter_77 rfl rfl rfl ?_
          refine g_get (pc' := 81) (v := .int (u 0 1)) C FM 0 (by rfl) rfl 1 (by decide) (by decide +kernel) rfl (by rfl) dX1_enter_78 rfl ?_
          refine g_iast (pc' := 82) (n := 24) (f := u 11) C 7 0 (by rfl) rfl (vp_in_nI (by omega) (by omega)) (k := n) (nI_clamp (by omega)) dX1_enter_81 rfl (wM_set cI cZ a _ (k := 6) rfl) ?_
          refine g_iconst (pc' := 83) (v := 0) C dX1_enter_82 rfl (by decide) ?_
          refine g_istore_n (pc' := 84) (L' := [(2, .int 0), (0, .ref (a 0)), (1, .int x)]) C dX1_enter_83 rfl rfl (by decide) rfl ?_
          have loop_84 : ∀ (k : Nat) (i : Nat) (v : LU), (i : Int) ≤ x.toInt → x.toInt + 1 ≤ i + k → v = enM (e0M u n) w0 n i → v 0 15 = nI (w0 + i) → v 0 7 = nI n → (∀ w, w0 + i ≤ w → w < 60 → 0 ≤ (v 18 w).toInt ∧ (v 18 w).toInt ≤ 47) → G p l e ({ frames := 1, cells := 0, slots := 0, locals := 22 } : Room) s m args below meth c D A 3 (wM cI cZ a) 0 0 (MQ below (va_Qi (fun (r : Int32) (u' : LU) => (¬ (1 ≤ x.toInt ∧ x.toInt ≤ 12) ∧ u' = thM u 1) ∨ ((1 ≤ x.toInt ∧ x.toInt ≤ 12) ∧ ¬ (¬ (u 0 2).toInt = 0 ∧ ¬ (u 0 7).toInt = 24 ∧ (u 0 15).toInt + x.toInt ≤ 60) ∧ u' = thM u 2) ∨ ((1 ≤ x.toInt ∧ x.toInt ≤ 12) ∧ (¬ (u 0 2).toInt = 0 ∧ ¬ (u 0 7).toInt = 24 ∧ (u 0 15).toInt + x.toInt ≤ 60) ∧ ∃ n w0 : Nat, n < 24 ∧ w0 < 60 ∧ u 0 7 = nI n ∧ u 0 15 = nI w0 ∧ r = nI n + 1 - 1 ∧ u' = e1M (enM (e0M u n) w0 n x.toInt.toNat) n)) (KE D (tyX cI cZ cQ) (wM cI cZ a)) A) args s 0 0 A) v 84 [(0, .ref (a 0)), (1, .int x), (2, .int (nI i))] [] := by
            intro k
            induction k with
            | zero =>
              intro i v hi hk hv h15 h7 hp
              omega
            | succ k ih =>
              intro i v hi hk hv h15 h7 hp
              refine g_iload_n (pc' := 85) (q := 2) C dX1_enter_84 rfl rfl rfl ?_
              refine g_iload_n (pc' := 86) (q := 1) C dX1_enter_85 rfl rfl rfl ?_
              have t_7 : (nI i).toInt = ((i : Nat) : Int) := nI_toInt (by omega)
              refine g_icmp_ge (tgt := 117) (pc' := 89) C dX1_enter_86 rfl (by decide) (fun (c_8 : (x).toInt ≤ (nI i).toInt) => ?_) (fun (c_8 : ¬ ((x).toInt ≤ (nI i).toInt)) => ?_)
              · skip
                refine g_aload_n (pc' := 118) (q := 0) C dX1_enter_117 rfl rfl rfl ?_
                refine g_dup (pc' := 119) C dX1_enter_118 rfl rfl ?_
                refine g_get (pc' := 122) (v := .int (v 0 7)) C FM 0 (by rfl) rfl 7 (by decide) (by decide +kernel) rfl (by rfl) dX1_enter_119 rfl ?_
                refine g_conv (show (v 0 7 : Int32) = nI n from h7) ?_
                refine g_iconst (pc' := 123) (v := 1) C dX1_enter_122 rfl (by decide) ?_
                refine g_iadd (pc' := 124) C dX1_enter_123 rfl ?_
                refine g_putI (pc' := 127) C FM tyX1 tyX1_ok nmX1 0 (by rfl) rfl 7 (by decide) (by decide +kernel) rfl rfl rfl (Nat.le_of_ble_eq_true rfl) dX1_enter_124 rfl (wM_put cI cZ a _ (f := (upd (v 0) 7 ((nI n) + 1))) rfl) ?_
                refine g_aload_n (pc' := 128) (q := 0) C dX1_enter_127 rfl rfl rfl ?_
                refine g_get (pc' := 131) (v := .int ((nI n) + 1)) C FM 0 (by rfl) rfl 7 (by decide) (by decide +kernel) rfl (by rfl) dX1_enter_128 rfl ?_
                refine g_iconst (pc' := 132) (v := 1) C dX1_enter_131 rfl (by decide) ?_
                refine g_isub (pc' := 133) C dX1_enter_132 rfl ?_
                exact g_iret C hr rfl (Or.inr (Or.inr ⟨by omega, by omega, n, w0, hn, hw0, hc, hcw, rfl, by rw [show x.toInt.toNat = i by omega, ← hv]; rfl⟩)) dX1_enter_133
              · skip
                refine g_aload_n (pc' := 90) (q := 0) C dX1_enter_89 rfl rfl rfl ?_
                refine g_aload_n (pc' := 91) (q := 0) C dX1_enter_90 rfl rfl rfl ?_
                refine g_get (pc' := 94) (v := .int (v 0 15)) C FM 0 (by rfl) rfl 15 (by decide) (by decide +kernel) rfl (by rfl) dX1_enter_91 rfl ?_
                refine g_conv (show (v 0 15 : Int32) = nI (w0 + i) from h15) ?_
                refine g_aload_n (pc' := 95) (q := 0) C dX1_enter_94 rfl rfl rfl ?_
                refine g_get (pc' := 98) (v := .int (v 0 7)) C FM 0 (by rfl) rfl 7 (by decide) (by decide +kernel) rfl (by rfl) dX1_enter_95 rfl ?_
                refine g_conv (show (v 0 7 : Int32) = nI n from h7) ?_
                refine g_callvV (pc' := 101) (As := [.int (nI (w0 + i)), .int (nI n)]) (st := []) (cells' := 0) (slots' := 0) C (c_X1_puts _ (w0 + i) (nI n) (by omega) (hp _ (by omega) (by omega))) gX1_enter_X1_puts rfl (by decide +kernel) ⟨Nat.le_of_ble_eq_true rfl, Nat.le_of_ble_eq_true rfl⟩ 0 (by rfl) rfl (n := 2) rfl rfl (Nat.le_of_ble_eq_true rfl) dX1_enter_98 rfl rfl rfl ⟨Nat.le_of_ble_eq_true rfl, Nat.le_of_ble_eq_true rfl⟩ (fun  u_9 h_10 => ?_)
                refine g_aload_n (pc' := 102) (q := 0) C dX1_enter_101 rfl rfl rfl ?_
                refine g_dup (pc' := 103) C dX1_enter_102 rfl rfl ?_
                refine g_get (pc' := 106) (v := .int (u_9 0 15)) C FM 0 (by rfl) rfl 15 (by decide) (by decide +kernel) rfl (by rfl) dX1_enter_103 rfl ?_
                refine g_conv (show (u_9 0 15 : Int32) = nI (w0 + i) from (by rw [h_10]; exact h15)) ?_
                refine g_iconst (pc' := 107) (v := 1) C dX1_enter_106 rfl (by decide) ?_
                refine g_iadd (pc' := 108) C dX1_enter_107 rfl ?_
                refine g_putI (pc' := 111) C FM tyX1 tyX1_ok nmX1 0 (by rfl) rfl 15 (by decide) (by decide +kernel) rfl rfl rfl (Nat.le_of_ble_eq_true rfl) dX1_enter_108 rfl (wM_put cI cZ a _ (f := (upd (u_9 0) 15 ((nI (w0 + i)) + 1))) rfl) ?_
                refine g_iinc (pc' := 114) (v := nI (i + 1)) (L' := [(2, .int (nI (i + 1))), (0, .ref (a 0)), (1, .int x)]) C dX1_enter_111 rfl (k := 2) rfl (nI_1 _) (by decide) rfl ?_
                refine g_goto (tgt := 84) C dX1_enter_114 (by decide) ?_
                refine g_st (u' := ewM v (w0 + i) n) (by rw [h_10]; rfl) ?_
                refine g_sub (L' := [(0, .ref (a 0)), (1, .int x), (2, .int (nI (i + 1)))]) [1, 2, 0] rfl ?_
                exact ih (i + 1) (ewM v (w0 + i) n) (by omega) (by omega) (by rw [hv]; rfl) (ewM_15 _ _ _) (by rw [ewM_7]; exact h7) (fun w h1 h2 => by rw [ewM_18 _ _ (by omega)]; exact hp w (by omega) h2)
          refine g_sub (L' := [(0, .ref (a 0)), (1, .int x), (2, .int (nI 0))]) [1, 2, 0] rfl ?_
          exact loop_84 13 0 (e0M u n) (by omega) (by omega) rfl hcw hc (fun w _ h => hP18 w h)
        · skip
          refine g_iconst (pc' := 43) (v := 2) C dX1_enter_42 rfl (by decide) ?_
          refine g_goto (tgt := 47) C dX1_enter_43 (by decide) ?_
          refine g_putI (pc' := 50) C FM tyX1 tyX1_ok nmX1 0 (by rfl) rfl 0 (by decide) (by decide +kernel) rfl rfl rfl (Nat.le_of_ble_eq_true rfl) dX1_enter_47 rfl (wM_put cI cZ a _ (f := (upd (u 0) 0 (2))) rfl) ?_
          refine g_aload_n (pc' := 51) (q := 0) C dX1_enter_50 rfl rfl rfl ?_
          refine g_get (pc' := 54) (v := .int 2) C FM 0 (by rfl) rfl 0 (by decide) (by decide +kernel) rfl (by rfl) dX1_enter_51 rfl ?_
          refine g_if_le (tgt := 59) (pc' := 57) C dX1_enter_54 rfl (by decide) (fun h => absurd h (by decide)) (fun _ => ?_)
          refine g_iconst (pc' := 58) (v := 0) C dX1_enter_57 rfl (by decide) ?_
          exact g_iret C hr rfl (Or.inr (Or.inl ⟨by omega, by omega, rfl⟩)) dX1_enter_58
  · skip
    refine g_iconst (pc' := 12) (v := 1) C dX1_enter_11 rfl (by decide) ?_
    refine g_goto (tgt := 47) C dX1_enter_12 (by decide) ?_
    refine g_putI (pc' := 50) C FM tyX1 tyX1_ok nmX1 0 (by rfl) rfl 0 (by decide) (by decide +kernel) rfl rfl rfl (Nat.le_of_ble_eq_true rfl) dX1_enter_47 rfl (wM_put cI cZ a _ (f := (upd (u 0) 0 (1))) rfl) ?_
    refine g_aload_n (pc' := 51) (q := 0) C dX1_enter_50 rfl rfl rfl ?_
    refine g_get (pc' := 54) (v := .int 1) C FM 0 (by rfl) rfl 0 (by decide) (by decide +kernel) rfl (by rfl) dX1_enter_51 rfl ?_
    refine g_if_le (tgt := 59) (pc' := 57) C dX1_enter_54 rfl (by decide) (fun h => absurd h (by decide)) (fun _ => ?_)
    refine g_iconst (pc' := 58) (v := 0) C dX1_enter_57 rfl (by decide) ?_
    exact g_iret C hr rfl (Or.inl ⟨by omega, rfl⟩) dX1_enter_58
set_option maxHeartbeats 4000000 in
set_option maxRecDepth 100000 in
theorem c_X1_split {l : Launch} {D : va_G} {cI cZ cQ : ClassId} {a : Nat → Nat} (u : LU) (x y : Int32) (hI : IM u) : KI l yX1_split wsX1_split ({ frames := 2, cells := 0, slots := 0, locals := 43 } : Room) D (tyX cI cZ cQ) (wM cI cZ a) [.ref (a 0), .int x, .int y] u (fun (r : Int32) (u' : LU) => (¬ (0 ≤ x.toInt ∧ x.toInt < (u 0 7).toInt) ∧ u' = thM u 1) ∨ (∃ n : Nat, x = nI n ∧ (n : Int) < (u 0 7).toInt ∧ ((¬ (1 ≤ y.toInt ∧ y.toInt ≤ (nI (ctA (u 17) (nI n) (u 0 15).toInt.toNat) - 1).toInt) ∧ u' = thM u 2) ∨ ((1 ≤ y.toInt ∧ y.toInt ≤ (nI (ctA (u 17) (nI n) (u 0 15).toInt.toNat) - 1).toInt) ∧ ¬ ((u 9 n).toInt = 0 ∧ ¬ (u 0 7).toInt = 24) ∧ u' = thM u 3) ∨ ((1 ≤ y.toInt ∧ y.toInt ≤ (nI (ctA (u 17) (nI n) (u 0 15).toInt.toNat) - 1).toInt) ∧ ((u 9 n).toInt = 0 ∧ ¬ (u 0 7).toInt = 24) ∧ ∃ k : Nat, k < 24 ∧ u 0 7 = nI k ∧ r = nI k ∧ u' = (msM (s0M u n k) n k y (u 0 15).toInt.toNat).1)))) := by
  refine ent_I (own := RX1) (maxL := 6) (cc := cX1_split) (L0 := [(0, .ref (a 0)), (1, .int x), (2, .int y)]) (by decide) rfl (wM_ok _ _ _) rfl (Nat.le_of_ble_eq_true rfl) rfl ?_
  intro p e s m args below meth c A C hr
  have FM : ∀ w ∈ wsX10, w.before args s = true := fun w h => C.2.2.2.2.1 w ((by decide +kernel : ∀ w ∈ wsX10, w ∈ wsX1_split) w h)
  obtain ⟨hS2, hL7, hW15, hT10, hZ13, hP18, hO17, hR15⟩ := id hI
  refine g_aload_n (pc' := 1) (q := 0) C dX1_split_0 rfl rfl rfl ?_
  refine g_aload_n (pc' := 2) (q := 0) C dX1_split_1 rfl rfl rfl ?_
  refine g_iload_n (pc' := 3) (q := 1) C dX1_split_2 rfl rfl rfl ?_
  refine g_calliV (pc' := 6) (As := [.int x]) (st := [.ref (a 0)]) (cells' := 0) (slots' := 0) C (c_X1_isLot _ x (by show 0 ≤ (u 0 7).toInt; omega)) gX1_split_X1_isLot rfl (by decide +kernel) ⟨Nat.le_of_ble_eq_true rfl, Nat.le_of_ble_eq_true rfl⟩ 0 (by rfl) rfl (n := 1) rfl rfl (Nat.le_of_ble_eq_true rfl) dX1_split_3 rfl rfl rfl ⟨Nat.le_of_ble_eq_true rfl, Nat.le_of_ble_eq_true rfl⟩ (fun r_1 u_1 h_2 => ?_)
  obtain ⟨rfl, h_2⟩ := h_2
  refine g_st h_2 ?_
  refine g_ifP_ne (tgt := 13) (pc' := 9) C dX1_split_6 rfl (by decide) (fun (c_3 : 0 ≤ x.toInt ∧ x.toInt < (u 0 7).toInt) => ?_) (fun (c_3 : ¬ (0 ≤ x.toInt ∧ x.toInt < (u 0 7).toInt)) => ?_)
  · skip
    obtain ⟨n, hn, rfl⟩ := nI_of_ti (x := x) (n := 24) (by omega) (by omega) (by decide)
    have tn : (nI n).toInt = (n : Int) := nI_toInt (by omega)
    refine g_iload_n (pc' := 14) (q := 2) C dX1_split_13 rfl rfl rfl ?_
    refine g_iconst (pc' := 15) (v := 1) C dX1_split_14 rfl (by decide) ?_
    refine g_aload_n (pc' := 16) (q := 0) C dX1_split_15 rfl rfl rfl ?_
    refine g_iload_n (pc' := 17) (q := 1) C dX1_split_16 rfl rfl rfl ?_
    refine g_calliV (pc' := 20) (As := [.int (nI n)]) (st := [.int 1, .int y, .ref (a 0)]) (cells' := 0) (slots' := 0) C (c_X1_count _ (nI n) (by show 0 ≤ (u 0 15).toInt ∧ (u 0 15).toInt ≤ 60; omega)) gX1_split_X1_count rfl (by decide +kernel) ⟨Nat.le_of_ble_eq_true rfl, Nat.le_of_ble_eq_true rfl⟩ 0 (by rfl) rfl (n := 1) rfl rfl (Nat.le_of_ble_eq_true rfl) dX1_split_17 rfl rfl rfl ⟨Nat.le_of_ble_eq_true rfl, Nat.le_of_ble_eq_true rfl⟩ (fun r_4 u_4 h_5 => ?_)
    obtain ⟨rfl, h_5⟩ := h_5
    refine g_st h_5 ?_
    refine g_iconst (pc' := 21) (v := 1) C dX1_split_20 rfl (by decide) ?_
    refine g_isub (pc' := 22) C dX1_split_21 rfl ?_
    refine g_calliS (pc' := 25) (As := [.int y, .int 1, .int ((nI (ctA (u 17) (nI n) (u 0 15).toInt.toNat)) - 1)]) (st := [.ref (a 0)]) (cells' := 0) (slots' := 0) C (c_X1_in _ y 1 ((nI (ctA (u 17) (nI n) (u 0 15).toInt.toNat)) - 1)) gX1_split_X1_in rfl (by decide +kernel) ⟨Nat.le_of_ble_eq_true rfl, Nat.le_of_ble_eq_true rfl⟩ (n := 3) rfl rfl (Nat.le_of_ble_eq_true rfl) dX1_split_22 rfl rfl rfl ⟨Nat.le_of_ble_eq_true rfl, Nat.le_of_ble_eq_true rfl⟩ (fun r_6 u_6 h_7 => ?_)
    obtain ⟨rfl, h_7⟩ := h_7
    refine g_st h_7 ?_
    refine g_ifP_ne (tgt := 32) (pc' := 28) C dX1_split_25 rfl (by decide) (fun (c_8 : 1 ≤ y.toInt ∧ y.toInt ≤ ((nI (ctA (u 17) (nI n) (u 0 15).toInt.toNat)) - 1).toInt) => ?_) (fun (c_8 : ¬ (1 ≤ y.toInt ∧ y.toInt ≤ ((nI (ctA (u 17) (nI n) (u 0 15).toInt.toNat)) - 1).toInt)) => ?_)
    · skip
      refine g_aload_n (pc' := 33) (q := 0) C dX1_split_32 rfl rfl rfl ?_
      refine g_get (pc' := 36) (v := .ref (a 9)) C FM 0 (by rfl) rfl 8 (by decide) (by decide +kernel) rfl (by rfl) dX1_split_33 rfl ?_
      refine g_iload_n (pc' := 37) (q := 1) C dX1_split_36 rfl rfl rfl ?_
      refine g_iald (pc' := 38) (n := 24) (f := u 9) C 5 0 (by rfl) rfl (vp_in_nI (by omega) (by omega)) (k := n) (nI_clamp (by omega)) dX1_split_37 rfl ?_
      refine g_if_ne (tgt := 50) (pc' := 41) C dX1_split_38 rfl (by decide) (fun (c_9 : ¬ (u 9 n).toInt = 0) => ?_) (fun (c_9 : (u 9 n).toInt = 0) => ?_)
      · skip
        refine g_iconst (pc' := 51) (v := 3) C dX1_split_50 rfl (by decide) ?_
        refine g_goto (tgt := 55) C dX1_split_51 (by decide) ?_
        refine g_putI (pc' := 58) C FM tyX1 tyX1_ok nmX1 0 (by rfl) rfl 0 (by decide) (by decide +kernel) rfl rfl rfl (Nat.le_of_ble_eq_true rfl) dX1_split_55 rfl (wM_put cI cZ a _ (f := (upd (u 0) 0 (3))) rfl) ?_
        refine g_aload_n (pc' := 59) (q := 0) C dX1_split_58 rfl rfl rfl ?_
        refine g_get (pc' := 62) (v := .int 3) C FM 0 (by rfl) rfl 0 (by decide) (by decide +kernel) rfl (by rfl) dX1_split_59 rfl ?_
        refine g_if_le (tgt := 67) (pc' := 65) C dX1_split_62 rfl (by decide) (fun h => absurd h (by decide)) (fun _ => ?_)
        refine g_iconst (pc' := 66) (v := 0) C dX1_split_65 rfl (by decide) ?_
        exact g_iret C hr rfl (Or.inr ⟨n, rfl, by omega, Or.inr (Or.inl ⟨by omega, by omega, rfl⟩)⟩) dX1_split_66
      · skip
        refine g_aload_n (pc' := 42) (q := 0) C dX1_split_41 rfl rfl rfl ?_
        refine g_get (pc' := 45) (v := .int (u 0 7)) C FM 0 (by rfl) rfl 7 (by decide) (by decide +kernel) rfl (by rfl) dX1_split_42 rfl ?_
        refine g_bipush (pc' := 47) (v := 24) C dX1_split_45 rfl (by decide) ?_
        refine g_icmp_ne (tgt := 54) (pc' := 50) C dX1_split_47 rfl (by decide) (fun (c_10 : ¬ (u 0 7).toInt = 24) => ?_) (fun (c_10 : (u 0 7).toInt = 24) => ?_)
        · skip
          refine g_iconst (pc' := 55) (v := 0) C dX1_split_54 rfl (by decide) ?_
          refine g_putI (pc' := 58) C FM tyX1 tyX1_ok nmX1 0 (by rfl) rfl 0 (by decide) (by decide +kernel) rfl rfl rfl (Nat.le_of_ble_eq_true rfl) dX1_split_55 rfl (wM_put cI cZ a _ (f := (upd (u 0) 0 (0))) rfl) ?_
          refine g_aload_n (pc' := 59) (q := 0) C dX1_split_58 rfl rfl rfl ?_
          refine g_get (pc' := 62) (v := .int 0) C FM 0 (by rfl) rfl 0 (by decide) (by decide +kernel) rfl (by rfl) dX1_split_59 rfl ?_
          refine g_if_le (tgt := 67) (pc' := 65) C dX1_split_62 rfl (by decide) (fun _ => ?_) (fun h => absurd h (by decide))
          obtain ⟨k, hk, hc⟩ := nI_of_ti (x := u 0 7) (n := 24) (by omega) (by omega) (by decide)
          have tk : (u 0 7).toInt = (k : Int) := by rw [hc]; exact nI_toInt (by omega)
          refine g_aload_n (pc' := 68) (q := 0) C dX1_split_67 rfl rfl rfl ?_
          refine g_get (pc' := 71) (v := .int (u 0 7)) C FM 0 (by rfl) rfl 7 (by decide) (by decide +kernel) rfl (by rfl) dX1_split_68 rfl ?_
          refine g_conv (show (u 0 7 : Int32) = nI k from hc) ?_
          refine g_istore_n (pc' := 72) (L' := [(3, .int (nI k)), (0, .ref (a 0)), (1, .int (nI n)), (2, .int y)]) C dX1_split_71 rfl rfl (by decide) rfl ?_
          refine g_aload_n (pc' := 73) (q := 1) C dX1_split_72 rfl rfl rfl ?_
          refine g_get (pc' := 76) (v := .ref (a 9)) C FM 0 (by rfl) rfl 8 (by decide) (by decide +kernel) rfl (by rfl) dX1_split_73 rfl ?_
          refine g_iload_n (pc' := 77) (q := 0) C dX1_split_76 rfl rfl rfl ?_
          refine g_iconst (pc' := 78) (v := 0) C dX1_split_77 rfl (by decide) ?_
          refine g_iast (pc' := 79) (n := 24) (f := u 9) C 5 0 (by rfl) rfl (vp_in_nI (by omega) (by omega)) (k := k) (nI_clamp (by omega)) dX1_split_78 rfl (wM_set cI cZ a _ (k := 4) rfl) ?_
          refine g_aload_n (pc' := 80) (q := 1) C dX1_split_79 rfl rfl rfl ?_
          refine g_get (pc' := 83) (v := .ref (a 10)) C FM 0 (by rfl) rfl 9 (by decide) (by decide +kernel) rfl (by rfl) dX1_split_80 rfl ?_
          refine g_iload_n (pc' := 84) (q := 0) C dX1_split_83 rfl rfl rfl ?_
          refine g_aload_n (pc' := 85) (q := 1) C dX1_split_84 rfl rfl rfl ?_
          refine g_get (pc' := 88) (v := .ref (a 10)) C FM 0 (by rfl) rfl 9 (by decide) (by decide +kernel) rfl (by rfl) dX1_split_85 rfl ?_
          refine g_iload_n (pc' := 89) (q := 2) C dX1_split_88 rfl rfl rfl ?_
          refine g_iald (pc' := 90) (n := 24) (f := u 10) C 6 0 (by rfl) rfl (vp_in_nI (by omega) (by omega)) (k := n) (nI_clamp (by omega)) dX1_split_89 rfl ?_
          refine g_iast (pc' := 91) (n := 24) (f := u 10) C 6 0 (by rfl) rfl (vp_in_nI (by omega) (by omega)) (k := k) (nI_clamp (by omega)) dX1_split_90 rfl (wM_set cI cZ a _ (k := 5) rfl) ?_
          refine g_aload_n (pc' := 92) (q := 1) C dX1_split_91 rfl rfl rfl ?_
          refine g_get (pc' := 95) (v := .ref (a 11)) C FM 0 (by rfl) rfl 10 (by decide) (by decide +kernel) rfl (by rfl) dX1_split_92 rfl ?_
          refine g_iload_n (pc' := 96) (q := 0) C dX1_split_95 rfl rfl rfl ?_
          refine g_aload_n (pc' := 97) (q := 1) C dX1_split_96 rfl rfl rfl ?_
          refine g_get (pc' := 100) (v := .ref (a 11)) C FM 0 (by rfl) rfl 10 (by decide) (by decide +kernel) rfl (by rfl) dX1_split_97 rfl ?_
          refine g_iload_n (pc' := 101) (q := 2) C dX1_split_100 rfl rfl rfl ?_
          refine g_iald (pc' := 102) (n := 24) (f := u 11) C 7 0 (by rfl) rfl (vp_in_nI (by omega) (by omega)) (k := n) (nI_clamp (by omega)) dX1_split_101 rfl ?_
          refine g_iast (pc' := 103) (n := 24) (f := u 11) C 7 0 (by rfl) rfl (vp_in_nI (by omega) (by omega)) (k := k) (nI_clamp (by omega)) dX1_split_102 rfl (wM_set cI cZ a _ (k := 6) rfl) ?_
          refine g_aload_n (pc' := 104) (q := 1) C dX1_split_103 rfl rfl rfl ?_
          refine g_get (pc' := 107) (v := .ref (a 13)) C FM 0 (by rfl) rfl 12 (by decide) (by decide +kernel) rfl (by rfl) dX1_split_104 rfl ?_
          refine g_iload_n (pc' := 108) (q := 0) C dX1_split_107 rfl rfl rfl ?_
          refine g_aload_n (pc' := 109) (q := 1) C dX1_split_108 rfl rfl rfl ?_
          refine g_get (pc' := 112) (v := .ref (a 13)) C FM 0 (by rfl) rfl 12 (by decide) (by decide +kernel) rfl (by rfl) dX1_split_109 rfl ?_
          refine g_iload_n (pc' := 113) (q := 2) C dX1_split_112 rfl rfl rfl ?_
          refine g_zald (pc' := 114) (n := 24) (f := u 13) C 9 1 (by rfl) rfl (vp_in_nI (by omega) (by omega)) (k := n) (nI_clamp (by omega)) dX1_split_113 rfl ?_
          refine g_zast (pc' := 115) (n := 24) (f := u 13) C 9 1 (by rfl) rfl ((hZ13 n (by omega)).1) (vp_in_nI (by omega) (by omega)) (k := k) (nI_clamp (by omega)) dX1_split_114 rfl (wM_set cI cZ a _ (k := 8) rfl) ?_
          refine g_aload_n (pc' := 116) (q := 1) C dX1_split_115 rfl rfl rfl ?_
          refine g_get (pc' := 119) (v := .ref (a 14)) C FM 0 (by rfl) rfl 13 (by decide) (by decide +kernel) rfl (by rfl) dX1_split_116 rfl ?_
          refine g_iload_n (pc' := 120) (q := 0) C dX1_split_119 rfl rfl rfl ?_
          refine g_aload_n (pc' := 121) (q := 1) C dX1_split_120 rfl rfl rfl ?_
          refine g_get (pc' := 124) (v := .ref (a 14)) C FM 0 (by rfl) rfl 13 (by decide) (by decide +kernel) rfl (by rfl) dX1_split_121 rfl ?_
          refine g_iload_n (pc' := 125) (q := 2) C dX1_split_124 rfl rfl rfl ?_
          refine g_iald (pc' := 126) (n := 24) (f := u 14) C 10 0 (by rfl) rfl (vp_in_nI (by omega) (by omega)) (k := n) (nI_clamp (by omega)) dX1_split_125 rfl ?_
          refine g_iast (pc' := 127) (n := 24) (f := u 14) C 10 0 (by rfl) rfl (vp_in_nI (by omega) (by omega)) (k := k) (nI_clamp (by omega)) dX1_split_126 rfl (wM_set cI cZ a _ (k := 9) rfl) ?_
          refine g_aload_n (pc' := 128) (q := 1) C dX1_split_127 rfl rfl rfl ?_
          refine g_get (pc' := 131) (v := .ref (a 15)) C FM 0 (by rfl) rfl 14 (by decide) (by decide +kernel) rfl (by rfl) dX1_split_128 rfl ?_
          refine g_iload_n (pc' := 132) (q := 0) C dX1_split_131 rfl rfl rfl ?_
          refine g_iload_n (pc' := 133) (q := 2) C dX1_split_132 rfl rfl rfl ?_
          refine g_iast (pc' := 134) (n := 24) (f := u 15) C 11 0 (by rfl) rfl (vp_in_nI (by omega) (by omega)) (k := k) (nI_clamp (by omega)) dX1_split_133 rfl (wM_set cI cZ a _ (k := 10) rfl) ?_
          refine g_aload_n (pc' := 135) (q := 1) C dX1_split_134 rfl rfl rfl ?_
          refine g_dup (pc' := 136) C dX1_split_135 rfl rfl ?_
          refine g_get (pc' := 139) (v := .int (u 0 7)) C FM 0 (by rfl) rfl 7 (by decide) (by decide +kernel) rfl (by rfl) dX1_split_136 rfl ?_
          refine g_conv (show (u 0 7 : Int32) = nI k from hc) ?_
          refine g_iconst (pc' := 140) (v := 1) C dX1_split_139 rfl (by decide) ?_
          refine g_iadd (pc' := 141) C dX1_split_140 rfl ?_
          refine g_putI (pc' := 144) C FM tyX1 tyX1_ok nmX1 0 (by rfl) rfl 7 (by decide) (by decide +kernel) rfl rfl rfl (Nat.le_of_ble_eq_true rfl) dX1_split_141 rfl (wM_put cI cZ a _ (f := (upd (upd (u 0) 0 (0)) 7 ((nI k) + 1))) rfl) ?_
          refine g_iload_n (pc' := 145) (q := 3) C dX1_split_144 rfl rfl rfl ?_
          refine g_istore (pc' := 147) (L' := [(4, .int y), (3, .int (nI k)), (0, .ref (a 0)), (1, .int (nI n)), (2, .int y)]) C dX1_split_145 rfl (by decide) rfl ?_
          refine g_iconst (pc' := 148) (v := 0) C dX1_split_147 rfl (by decide) ?_
          refine g_istore (pc' := 150) (L' := [(5, .int 0), (4, .int y), (3, .int (nI k)), (0, .ref (a 0)), (1, .int (nI n)), (2, .int y)]) C dX1_split_148 rfl (by decide) rfl ?_
          have loop_150 : ∀ (k9 : Nat) (i : Nat) (z9 : Int32) (v : LU), (i : Int) ≤ (u 0 15).toInt → (u 0 15).toInt + 1 ≤ i + k9 → msM (s0M u n k) n k y i = (v, z9) → (v 0 15).toInt = (u 0 15).toInt → (∀ w, i ≤ w → w < 60 → 0 ≤ (v 18 w).toInt ∧ (v 18 w).toInt ≤ 47) → G p l e ({ frames := 2, cells := 0, slots := 0, locals := 43 } : Room) s m args below meth c D A 6 (wM cI cZ a) 0 0 (MQ below (va_Qi (fun (r : Int32) (u' : LU) => (¬ (0 ≤ (nI n).toInt ∧ (nI n).toInt < (u 0 7).toInt) ∧ u' = thM u 1) ∨ (∃ n1 : Nat, (nI n) = nI n1 ∧ (n1 : Int) < (u 0 7).toInt ∧ ((¬ (1 ≤ y.toInt ∧ y.toInt ≤ (nI (ctA (u 17) (nI n1) (u 0 15).toInt.toNat) - 1).toInt) ∧ u' = thM u 2) ∨ ((1 ≤ y.toInt ∧ y.toInt ≤ (nI (ctA (u 17) (nI n1) (u 0 15).toInt.toNat) - 1).toInt) ∧ ¬ ((u 9 n1).toInt = 0 ∧ ¬ (u 0 7).toInt = 24) ∧ u' = thM u 3) ∨ ((1 ≤ y.toInt ∧ y.toInt ≤ (nI (ctA (u 17) (nI n1) (u 0 15).toInt.toNat) - 1).toInt) ∧ ((u 9 n1).toInt = 0 ∧ ¬ (u 0 7).toInt = 24) ∧ ∃ k1 : Nat, k1 < 24 ∧ u 0 7 = nI k1 ∧ r = nI k1 ∧ u' = (msM (s0M u n1 k1) n1 k1 y (u 0 15).toInt.toNat).1)))) (KE D (tyX cI cZ cQ) (wM cI cZ a)) A) args s 0 0 A) v 150 [(0, .ref (a 0)), (1, .int (nI n)), (2, .int y), (3, .int (nI k)), (4, .int z9), (5, .int (nI i))] [] := by
            intro k9
            induction k9 with
            | zero =>
              intro i z9 v hi hkk hv h15 hp
              omega
            | succ k9 ih =>
              intro i z9 v hi hkk hv h15 hp
              refine g_iload (pc' := 152) (q := 5) C dX1_split_150 rfl rfl ?_
              refine g_aload_n (pc' := 153) (q := 0) C dX1_split_152 rfl rfl rfl ?_
              refine g_get (pc' := 156) (v := .int (v 0 15)) C FM 0 (by rfl) rfl 15 (by decide) (by decide +kernel) rfl (by rfl) dX1_split_153 rfl ?_
              have t_11 : (nI i).toInt = ((i : Nat) : Int) := nI_toInt (by omega)
              refine g_icmp_ge (tgt := 191) (pc' := 159) C dX1_split_156 rfl (by decide) (fun (c_12 : (v 0 15).toInt ≤ (nI i).toInt) => ?_) (fun (c_12 : ¬ ((v 0 15).toInt ≤ (nI i).toInt)) => ?_)
              · skip
                refine g_iload_n (pc' := 192) (q := 3) C dX1_split_191 rfl rfl rfl ?_
                exact g_iret C hr rfl (Or.inr ⟨n, rfl, by omega, Or.inr (Or.inr ⟨by omega, by omega, k, hk, hc, rfl, by rw [show (u 0 15).toInt.toNat = i by omega, hv]⟩)⟩) dX1_split_192
              · skip
                refine g_iload (pc' := 161) (q := 4) C dX1_split_159 rfl rfl ?_
                refine g_if_le (tgt := 185) (pc' := 164) C dX1_split_161 rfl (by decide) (fun (c_13 : (z9).toInt ≤ 0) => ?_) (fun (c_13 : ¬ ((z9).toInt ≤ 0)) => ?_)
                · skip
                  refine g_iinc (pc' := 188) (v := nI (i + 1)) (L' := [(5, .int (nI (i + 1))), (0, .ref (a 0)), (1, .int (nI n)), (2, .int y), (3, .int (nI k)), (4, .int z9)]) C dX1_split_185 rfl (k := 5) rfl (nI_1 _) (by decide) rfl ?_
                  refine g_goto (tgt := 150) C dX1_split_188 (by decide) ?_
                  refine g_sub (L' := [(0, .ref (a 0)), (1, .int (nI n)), (2, .int y), (3, .int (nI k)), (4, .int z9), (5, .int (nI (i + 1)))]) [1, 2, 3, 4, 5, 0] rfl ?_
                  exact ih (i + 1) z9 v (by omega) (by omega) (msM_f hv (by omega)) h15 (fun w h1 h2 => hp w (by omega) h2)
                · skip
                  refine g_aload_n (pc' := 165) (q := 0) C dX1_split_164 rfl rfl rfl ?_
                  refine g_get (pc' := 168) (v := .ref (a 17)) C FM 0 (by rfl) rfl 16 (by decide) (by decide +kernel) rfl (by rfl) dX1_split_165 rfl ?_
                  refine g_iload (pc' := 170) (q := 5) C dX1_split_168 rfl rfl ?_
                  refine g_iald (pc' := 171) (n := 60) (f := v 17) C 12 0 (by rfl) rfl (vp_in_nI (by omega) (by omega)) (k := i) (nI_clamp (by omega)) dX1_split_170 rfl ?_
                  refine g_iload_n (pc' := 172) (q := 1) C dX1_split_171 rfl rfl rfl ?_
                  have t_14 : (nI n).toInt = ((n : Nat) : Int) := nI_toInt (by omega)
                  refine g_icmp_ne (tgt := 185) (pc' := 175) C dX1_split_172 rfl (by decide) (fun (c_15 : ¬ (v 17 i).toInt = (nI n).toInt) => ?_) (fun (c_15 : (v 17 i).toInt = (nI n).toInt) => ?_)
                  · skip
                    refine g_iinc (pc' := 188) (v := nI (i + 1)) (L' := [(5, .int (nI (i + 1))), (0, .ref (a 0)), (1, .int (nI n)), (2, .int y), (3, .int (nI k)), (4, .int z9)]) C dX1_split_185 rfl (k := 5) rfl (nI_1 _) (by decide) rfl ?_
                    refine g_goto (tgt := 150) C dX1_split_188 (by decide) ?_
                    refine g_sub (L' := [(0, .ref (a 0)), (1, .int (nI n)), (2, .int y), (3, .int (nI k)), (4, .int z9), (5, .int (nI (i + 1)))]) [1, 2, 3, 4, 5, 0] rfl ?_
                    exact ih (i + 1) z9 v (by omega) (by omega) (msM_f hv (by omega)) h15 (fun w h1 h2 => hp w (by omega) h2)
                  · skip
                    refine g_aload_n (pc' := 176) (q := 0) C dX1_split_175 rfl rfl rfl ?_
                    refine g_iload (pc' := 178) (q := 5) C dX1_split_176 rfl rfl ?_
                    refine g_iload_n (pc' := 179) (q := 3) C dX1_split_178 rfl rfl rfl ?_
                    refine g_callvV (pc' := 182) (As := [.int (nI i), .int (nI k)]) (st := []) (cells' := 0) (slots' := 0) C (c_X1_puts _ i (nI k) (by omega) (hp _ (by omega) (by omega))) gX1_split_X1_puts rfl (by decide +kernel) ⟨Nat.le_of_ble_eq_true rfl, Nat.le_of_ble_eq_true rfl⟩ 0 (by rfl) rfl (n := 2) rfl rfl (Nat.le_of_ble_eq_true rfl) dX1_split_179 rfl rfl rfl ⟨Nat.le_of_ble_eq_true rfl, Nat.le_of_ble_eq_true rfl⟩ (fun  u_16 h_17 => ?_)
                    refine g_iinc (pc' := 185) (v := z9 + -1) (L' := [(4, .int (z9 + -1)), (0, .ref (a 0)), (1, .int (nI n)), (2, .int y), (3, .int (nI k)), (5, .int (nI i))]) C dX1_split_182 rfl (k := 4) rfl rfl (by decide) rfl ?_
                    refine g_iinc (pc' := 188) (v := nI (i + 1)) (L' := [(5, .int (nI (i + 1))), (4, .int (z9 + -1)), (0, .ref (a 0)), (1, .int (nI n)), (2, .int y), (3, .int (nI k))]) C dX1_split_185 rfl (k := 5) rfl (nI_1 _) (by decide) rfl ?_
                    refine g_goto (tgt := 150) C dX1_split_188 (by decide) ?_
                    refine g_sub (L' := [(0, .ref (a 0)), (1, .int (nI n)), (2, .int y), (3, .int (nI k)), (4, .int (z9 + -1)), (5, .int (nI (i + 1)))]) [2, 3, 4, 5, 1, 0] rfl ?_
                    exact ih (i + 1) _ u_16 (by omega) (by omega) (by rw [h_17]; exact msM_t hv (by omega) (by omega)) (by rw [h_17]; exact h15) (fun w h1 h2 => by rw [h_17, ptM_18 _ _ (by omega)]; exact hp w (by omega) h2)
          refine g_sub (L' := [(0, .ref (a 0)), (1, .int (nI n)), (2, .int y), (3, .int (nI k)), (4, .int y), (5, .int (nI 0))]) [3, 4, 5, 2, 1, 0] rfl ?_
          exact loop_150 61 0 y (s0M u n k) (by omega) (by omega) rfl rfl (fun w _ h => hP18 w h)
        · skip
          refine g_iconst (pc' := 51) (v := 3) C dX1_split_50 rfl (by decide) ?_
          refine g_goto (tgt := 55) C dX1_split_51 (by decide) ?_
          refine g_putI (pc' := 58) C FM tyX1 tyX1_ok nmX1 0 (by rfl) rfl 0 (by decide) (by decide +kernel) rfl rfl rfl (Nat.le_of_ble_eq_true rfl) dX1_split_55 rfl (wM_put cI cZ a _ (f := (upd (u 0) 0 (3))) rfl) ?_
          refine g_aload_n (pc' := 59) (q := 0) C dX1_split_58 rfl rfl rfl ?_
          refine g_get (pc' := 62) (v := .int 3) C FM 0 (by rfl) rfl 0 (by decide) (by decide +kernel) rfl (by rfl) dX1_split_59 rfl ?_
          refine g_if_le (tgt := 67) (pc' := 65) C dX1_split_62 rfl (by decide) (fun h => absurd h (by decide)) (fun _ => ?_)
          refine g_iconst (pc' := 66) (v := 0) C dX1_split_65 rfl (by decide) ?_
          exact g_iret C hr rfl (Or.inr ⟨n, rfl, by omega, Or.inr (Or.inl ⟨by omega, by omega, rfl⟩)⟩) dX1_split_66
    · skip
      refine g_iconst (pc' := 29) (v := 2) C dX1_split_28 rfl (by decide) ?_
      refine g_goto (tgt := 55) C dX1_split_29 (by decide) ?_
      refine g_putI (pc' := 58) C FM tyX1 tyX1_ok nmX1 0 (by rfl) rfl 0 (by decide) (by decide +kernel) rfl rfl rfl (Nat.le_of_ble_eq_true rfl) dX1_split_55 rfl (wM_put cI cZ a _ (f := (upd (u 0) 0 (2))) rfl) ?_
      refine g_aload_n (pc' := 59) (q := 0) C dX1_split_58 rfl rfl rfl ?_
      refine g_get (pc' := 62) (v := .int 2) C FM 0 (by rfl) rfl 0 (by decide) (by decide +kernel) rfl (by rfl) dX1_split_59 rfl ?_
      refine g_if_le (tgt := 67) (pc' := 65) C dX1_split_62 rfl (by decide) (fun h => absurd h (by decide)) (fun _ => ?_)
      refine g_iconst (pc' := 66) (v := 0) C dX1_split_65 rfl (by decide) ?_
      exact g_iret C hr rfl (Or.inr ⟨n, rfl, by omega, Or.inl ⟨by omega, rfl⟩⟩) dX1_split_66
  · skip
    refine g_iconst (pc' := 10) (v := 1) C dX1_split_9 rfl (by decide) ?_
    refine g_goto (tgt := 55) C dX1_split_10 (by decide) ?_
    refine g_putI (pc' := 58) C FM tyX1 tyX1_ok nmX1 0 (by rfl) rfl 0 (by decide) (by decide +kernel) rfl rfl rfl (Nat.le_of_ble_eq_true rfl) dX1_split_55 rfl (wM_put cI cZ a _ (f := (upd (u 0) 0 (1))) rfl) ?_
    refine g_aload_n (pc' := 59) (q := 0) C dX1_split_58 rfl rfl rfl ?_
    refine g_get (pc' := 62) (v := .int 1) C FM 0 (by rfl) rfl 0 (by decide) (by decide +kernel) rfl (by rfl) dX1_split_59 rfl ?_
    refine g_if_le (tgt := 67) (pc' := 65) C dX1_split_62 rfl (by decide) (fun h => absurd h (by decide)) (fun _ => ?_)
    refine g_iconst (pc' := 66) (v := 0) C dX1_split_65 rfl (by decide) ?_
    exact g_iret C hr rfl (Or.inl ⟨by omega, rfl⟩) dX1_split_66
set_option maxHeartbeats 4000000 in
set_option maxRecDepth 100000 in
theorem c_X1_merge {l : Launch} {D : va_G} {cI cZ cQ : ClassId} {a : Nat → Nat} (u : LU) (x y : Int32) (hI : IM u) : KI l yX1_merge wsX1_merge ({ frames := 2, cells := 0, slots := 0, locals := 43 } : Room) D (tyX cI cZ cQ) (wM cI cZ a) [.ref (a 0), .int x, .int y] u (fun (r : Int32) (u' : LU) => (¬ ((0 ≤ x.toInt ∧ x.toInt < (u 0 7).toInt) ∧ (0 ≤ y.toInt ∧ y.toInt < (u 0 7).toInt)) ∧ u' = thM u 1) ∨ (∃ n k : Nat, x = nI n ∧ (n : Int) < (u 0 7).toInt ∧ y = nI k ∧ (k : Int) < (u 0 7).toInt ∧ ((n = k ∧ u' = thM u 2) ∨ (¬ n = k ∧ ¬ (((u 9 n).toInt = 0 ∧ (u 13 n).toInt = 0) ∧ ((u 9 k).toInt = 0 ∧ (u 13 k).toInt = 0) ∧ (u 10 n).toInt = (u 10 k).toInt) ∧ u' = thM u 3) ∨ (¬ n = k ∧ (((u 9 n).toInt = 0 ∧ (u 13 n).toInt = 0) ∧ ((u 9 k).toInt = 0 ∧ (u 13 k).toInt = 0) ∧ (u 10 n).toInt = (u 10 k).toInt) ∧ r = nI (ctA (mmM (thM u 0) n k (u 0 15).toInt.toNat 17) (nI k) (u 0 15).toInt.toNat) ∧ u' = m1M (mmM (thM u 0) n k (u 0 15).toInt.toNat) n k)))) := by
  refine ent_I (own := RX1) (maxL := 4) (cc := cX1_merge) (L0 := [(0, .ref (a 0)), (1, .int x), (2, .int y)]) (by decide) rfl (wM_ok _ _ _) rfl (Nat.le_of_ble_eq_true rfl) rfl ?_
  intro p e s m args below meth c A C hr
  have FM : ∀ w ∈ wsX10, w.before args s = true := fun w h => C.2.2.2.2.1 w ((by decide +kernel : ∀ w ∈ wsX10, w ∈ wsX1_merge) w h)
  obtain ⟨hS2, hL7, hW15, hT10, hZ13, hP18, hO17, hR15⟩ := id hI
  refine g_aload_n (pc' := 1) (q := 0) C dX1_merge_0 rfl rfl rfl ?_
  refine g_aload_n (pc' := 2) (q := 0) C dX1_merge_1 rfl rfl rfl ?_
  refine g_iload_n (pc' := 3) (q := 1) C dX1_merge_2 rfl rfl rfl ?_
  refine g_calliV (pc' := 6) (As := [.int x]) (st := [.ref (a 0)]) (cells' := 0) (slots' := 0) C (c_X1_isLot _ x (by show 0 ≤ (u 0 7).toInt; omega)) gX1_merge_X1_isLot rfl (by decide +kernel) ⟨Nat.le_of_ble_eq_true rfl, Nat.le_of_ble_eq_true rfl⟩ 0 (by rfl) rfl (n := 1) rfl rfl (Nat.le_of_ble_eq_true rfl) dX1_merge_3 rfl rfl rfl ⟨Nat.le_of_ble_eq_true rfl, Nat.le_of_ble_eq_true rfl⟩ (fun r_1 u_1 h_2 => ?_)
  obtain ⟨rfl, h_2⟩ := h_2
  refine g_st h_2 ?_
  refine g_ifP_eq (tgt := 17) (pc' := 9) C dX1_merge_6 rfl (by decide) (fun (c_3 : ¬ (0 ≤ x.toInt ∧ x.toInt < (u 0 7).toInt)) => ?_) (fun (c_3 : 0 ≤ x.toInt ∧ x.toInt < (u 0 7).toInt) => ?_)
  · skip
    refine g_iconst (pc' := 18) (v := 1) C dX1_merge_17 rfl (by decide) ?_
    refine g_goto (tgt := 66) C dX1_merge_18 (by decide) ?_
    refine g_putI (pc' := 69) C FM tyX1 tyX1_ok nmX1 0 (by rfl) rfl 0 (by decide) (by decide +kernel) rfl rfl rfl (Nat.le_of_ble_eq_true rfl) dX1_merge_66 rfl (wM_put cI cZ a _ (f := (upd (u 0) 0 (1))) rfl) ?_
    refine g_aload_n (pc' := 70) (q := 0) C dX1_merge_69 rfl rfl rfl ?_
    refine g_get (pc' := 73) (v := .int 1) C FM 0 (by rfl) rfl 0 (by decide) (by decide +kernel) rfl (by rfl) dX1_merge_70 rfl ?_
    refine g_if_le (tgt := 78) (pc' := 76) C dX1_merge_73 rfl (by decide) (fun h => absurd h (by decide)) (fun _ => ?_)
    refine g_iconst (pc' := 77) (v := 0) C dX1_merge_76 rfl (by decide) ?_
    exact g_iret C hr rfl (Or.inl ⟨by omega, rfl⟩) dX1_merge_77
  · skip
    refine g_aload_n (pc' := 10) (q := 0) C dX1_merge_9 rfl rfl rfl ?_
    refine g_iload_n (pc' := 11) (q := 2) C dX1_merge_10 rfl rfl rfl ?_
    refine g_calliV (pc' := 14) (As := [.int y]) (st := [.ref (a 0)]) (cells' := 0) (slots' := 0) C (c_X1_isLot _ y (by show 0 ≤ (u 0 7).toInt; omega)) gX1_merge_X1_isLot rfl (by decide +kernel) ⟨Nat.le_of_ble_eq_true rfl, Nat.le_of_ble_eq_true rfl⟩ 0 (by rfl) rfl (n := 1) rfl rfl (Nat.le_of_ble_eq_true rfl) dX1_merge_11 rfl rfl rfl ⟨Nat.le_of_ble_eq_true rfl, Nat.le_of_ble_eq_true rfl⟩ (fun r_4 u_4 h_5 => ?_)
    obtain ⟨rfl, h_5⟩ := h_5
    refine g_st h_5 ?_
    refine g_ifP_ne (tgt := 21) (pc' := 17) C dX1_merge_14 rfl (by decide) (fun (c_6 : 0 ≤ y.toInt ∧ y.toInt < (u 0 7).toInt) => ?_) (fun (c_6 : ¬ (0 ≤ y.toInt ∧ y.toInt < (u 0 7).toInt)) => ?_)
    · skip
      obtain ⟨n, hn, rfl⟩ := nI_of_ti (x := x) (n := 24) (by omega) (by omega) (by decide)
      have tn : (nI n).toInt = (n : Int) := nI_toInt (by omega)
      obtain ⟨k, hk, rfl⟩ := nI_of_ti (x := y) (n := 24) (by omega) (by omega) (by decide)
      have tk : (nI k).toInt = (k : Int) := nI_toInt (by omega)
      refine g_iload_n (pc' := 22) (q := 1) C dX1_merge_21 rfl rfl rfl ?_
      refine g_iload_n (pc' := 23) (q := 2) C dX1_merge_22 rfl rfl rfl ?_
      have t_7 : (nI n).toInt = ((n : Nat) : Int) := nI_toInt (by omega)
      have t_8 : (nI k).toInt = ((k : Nat) : Int) := nI_toInt (by omega)
      refine g_icmp_ne (tgt := 30) (pc' := 26) C dX1_merge_23 rfl (by decide) (fun (c_9 : ¬ (nI n).toInt = (nI k).toInt) => ?_) (fun (c_9 : (nI n).toInt = (nI k).toInt) => ?_)
      · skip
        refine g_aload_n (pc' := 31) (q := 0) C dX1_merge_30 rfl rfl rfl ?_
        refine g_iload_n (pc' := 32) (q := 1) C dX1_merge_31 rfl rfl rfl ?_
        refine g_calliV (pc' := 35) (As := [.int (nI n)]) (st := [.ref (a 0)]) (cells' := 0) (slots' := 0) C (c_X1_canMerge _ n (by omega)) gX1_merge_X1_canMerge rfl (by decide +kernel) ⟨Nat.le_of_ble_eq_true rfl, Nat.le_of_ble_eq_true rfl⟩ 0 (by rfl) rfl (n := 1) rfl rfl (Nat.le_of_ble_eq_true rfl) dX1_merge_32 rfl rfl rfl ⟨Nat.le_of_ble_eq_true rfl, Nat.le_of_ble_eq_true rfl⟩ (fun r_10 u_10 h_11 => ?_)
        obtain ⟨rfl, h_11⟩ := h_11
        refine g_st h_11 ?_
        refine g_ifP_eq (tgt := 61) (pc' := 38) C dX1_merge_35 rfl (by decide) (fun (c_12 : ¬ ((u 9 n).toInt = 0 ∧ (u 13 n).toInt = 0)) => ?_) (fun (c_12 : (u 9 n).toInt = 0 ∧ (u 13 n).toInt = 0) => ?_)
        · skip
          refine g_iconst (pc' := 62) (v := 3) C dX1_merge_61 rfl (by decide) ?_
          refine g_goto (tgt := 66) C dX1_merge_62 (by decide) ?_
          refine g_putI (pc' := 69) C FM tyX1 tyX1_ok nmX1 0 (by rfl) rfl 0 (by decide) (by decide +kernel) rfl rfl rfl (Nat.le_of_ble_eq_true rfl) dX1_merge_66 rfl (wM_put cI cZ a _ (f := (upd (u 0) 0 (3))) rfl) ?_
          refine g_aload_n (pc' := 70) (q := 0) C dX1_merge_69 rfl rfl rfl ?_
          refine g_get (pc' := 73) (v := .int 3) C FM 0 (by rfl) rfl 0 (by decide) (by decide +kernel) rfl (by rfl) dX1_merge_70 rfl ?_
          refine g_if_le (tgt := 78) (pc' := 76) C dX1_merge_73 rfl (by decide) (fun h => absurd h (by decide)) (fun _ => ?_)
          refine g_iconst (pc' := 77) (v := 0) C dX1_merge_76 rfl (by decide) ?_
          exact g_iret C hr rfl (Or.inr ⟨n, k, rfl, by omega, rfl, by omega, Or.inr (Or.inl ⟨by omega, by omega, rfl⟩)⟩) dX1_merge_77
        · skip
          refine g_aload_n (pc' := 39) (q := 0) C dX1_merge_38 rfl rfl rfl ?_
          refine g_iload_n (pc' := 40) (q := 2) C dX1_merge_39 rfl rfl rfl ?_
          refine g_calliV (pc' := 43) (As := [.int (nI k)]) (st := [.ref (a 0)]) (cells' := 0) (slots' := 0) C (c_X1_canMerge _ k (by omega)) gX1_merge_X1_canMerge rfl (by decide +kernel) ⟨Nat.le_of_ble_eq_true rfl, Nat.le_of_ble_eq_true rfl⟩ 0 (by rfl) rfl (n := 1) rfl rfl (Nat.le_of_ble_eq_true rfl) dX1_merge_40 rfl rfl rfl ⟨Nat.le_of_ble_eq_true rfl, Nat.le_of_ble_eq_true rfl⟩ (fun r_13 u_13 h_14 => ?_)
          obtain ⟨rfl, h_14⟩ := h_14
          refine g_st h_14 ?_
          refine g_ifP_eq (tgt := 61) (pc' := 46) C dX1_merge_43 rfl (by decide) (fun (c_15 : ¬ ((u 9 k).toInt = 0 ∧ (u 13 k).toInt = 0)) => ?_) (fun (c_15 : (u 9 k).toInt = 0 ∧ (u 13 k).toInt = 0) => ?_)
          · skip
            refine g_iconst (pc' := 62) (v := 3) C dX1_merge_61 rfl (by decide) ?_
            refine g_goto (tgt := 66) C dX1_merge_62 (by decide) ?_
            refine g_putI (pc' := 69) C FM tyX1 tyX1_ok nmX1 0 (by rfl) rfl 0 (by decide) (by decide +kernel) rfl rfl rfl (Nat.le_of_ble_eq_true rfl) dX1_merge_66 rfl (wM_put cI cZ a _ (f := (upd (u 0) 0 (3))) rfl) ?_
            refine g_aload_n (pc' := 70) (q := 0) C dX1_merge_69 rfl rfl rfl ?_
            refine g_get (pc' := 73) (v := .int 3) C FM 0 (by rfl) rfl 0 (by decide) (by decide +kernel) rfl (by rfl) dX1_merge_70 rfl ?_
            refine g_if_le (tgt := 78) (pc' := 76) C dX1_merge_73 rfl (by decide) (fun h => absurd h (by decide)) (fun _ => ?_)
            refine g_iconst (pc' := 77) (v := 0) C dX1_merge_76 rfl (by decide) ?_
            exact g_iret C hr rfl (Or.inr ⟨n, k, rfl, by omega, rfl, by omega, Or.inr (Or.inl ⟨by omega, by omega, rfl⟩)⟩) dX1_merge_77
          · skip
            refine g_aload_n (pc' := 47) (q := 0) C dX1_merge_46 rfl rfl rfl ?_
            refine g_get (pc' := 50) (v := .ref (a 10)) C FM 0 (by rfl) rfl 9 (by decide) (by decide +kernel) rfl (by rfl) dX1_merge_47 rfl ?_
            refine g_iload_n (pc' := 51) (q := 1) C dX1_merge_50 rfl rfl rfl ?_
            refine g_iald (pc' := 52) (n := 24) (f := u 10) C 6 0 (by rfl) rfl (vp_in_nI (by omega) (by omega)) (k := n) (nI_clamp (by omega)) dX1_merge_51 rfl ?_
            refine g_aload_n (pc' := 53) (q := 0) C dX1_merge_52 rfl rfl rfl ?_
            refine g_get (pc' := 56) (v := .ref (a 10)) C FM 0 (by rfl) rfl 9 (by decide) (by decide +kernel) rfl (by rfl) dX1_merge_53 rfl ?_
            refine g_iload_n (pc' := 57) (q := 2) C dX1_merge_56 rfl rfl rfl ?_
            refine g_iald (pc' := 58) (n := 24) (f := u 10) C 6 0 (by rfl) rfl (vp_in_nI (by omega) (by omega)) (k := k) (nI_clamp (by omega)) dX1_merge_57 rfl ?_
            refine g_icmp_eq (tgt := 65) (pc' := 61) C dX1_merge_58 rfl (by decide) (fun (c_16 : (u 10 n).toInt = (u 10 k).toInt) => ?_) (fun (c_16 : ¬ ((u 10 n).toInt = (u 10 k).toInt)) => ?_)
            · skip
              refine g_iconst (pc' := 66) (v := 0) C dX1_merge_65 rfl (by decide) ?_
              refine g_putI (pc' := 69) C FM tyX1 tyX1_ok nmX1 0 (by rfl) rfl 0 (by decide) (by decide +kernel) rfl rfl rfl (Nat.le_of_ble_eq_true rfl) dX1_merge_66 rfl (wM_put cI cZ a _ (f := (upd (u 0) 0 (0))) rfl) ?_
              refine g_aload_n (pc' := 70) (q := 0) C dX1_merge_69 rfl rfl rfl ?_
              refine g_get (pc' := 73) (v := .int 0) C FM 0 (by rfl) rfl 0 (by decide) (by decide +kernel) rfl (by rfl) dX1_merge_70 rfl ?_
              refine g_if_le (tgt := 78) (pc' := 76) C dX1_merge_73 rfl (by decide) (fun _ => ?_) (fun h => absurd h (by decide))
              refine g_iconst (pc' := 79) (v := 0) C dX1_merge_78 rfl (by decide) ?_
              refine g_istore_n (pc' := 80) (L' := [(3, .int 0), (0, .ref (a 0)), (1, .int (nI n)), (2, .int (nI k))]) C dX1_merge_79 rfl rfl (by decide) rfl ?_
              have loop_80 : ∀ (k9 : Nat) (i : Nat) (v : LU), (i : Int) ≤ (u 0 15).toInt → (u 0 15).toInt + 1 ≤ i + k9 → v = mmM (thM u 0) n k i → (v 0 15).toInt = (u 0 15).toInt → (∀ w, i ≤ w → w < 60 → 0 ≤ (v 18 w).toInt ∧ (v 18 w).toInt ≤ 47) → G p l e ({ frames := 2, cells := 0, slots := 0, locals := 43 } : Room) s m args below meth c D A 4 (wM cI cZ a) 0 0 (MQ below (va_Qi (fun (r : Int32) (u' : LU) => (¬ ((0 ≤ (nI n).toInt ∧ (nI n).toInt < (u 0 7).toInt) ∧ (0 ≤ (nI k).toInt ∧ (nI k).toInt < (u 0 7).toInt)) ∧ u' = thM u 1) ∨ (∃ n1 k1 : Nat, (nI n) = nI n1 ∧ (n1 : Int) < (u 0 7).toInt ∧ (nI k) = nI k1 ∧ (k1 : Int) < (u 0 7).toInt ∧ ((n1 = k1 ∧ u' = thM u 2) ∨ (¬ n1 = k1 ∧ ¬ (((u 9 n1).toInt = 0 ∧ (u 13 n1).toInt = 0) ∧ ((u 9 k1).toInt = 0 ∧ (u 13 k1).toInt = 0) ∧ (u 10 n1).toInt = (u 10 k1).toInt) ∧ u' = thM u 3) ∨ (¬ n1 = k1 ∧ (((u 9 n1).toInt = 0 ∧ (u 13 n1).toInt = 0) ∧ ((u 9 k1).toInt = 0 ∧ (u 13 k1).toInt = 0) ∧ (u 10 n1).toInt = (u 10 k1).toInt) ∧ r = nI (ctA (mmM (thM u 0) n1 k1 (u 0 15).toInt.toNat 17) (nI k1) (u 0 15).toInt.toNat) ∧ u' = m1M (mmM (thM u 0) n1 k1 (u 0 15).toInt.toNat) n1 k1)))) (KE D (tyX cI cZ cQ) (wM cI cZ a)) A) args s 0 0 A) v 80 [(0, .ref (a 0)), (1, .int (nI n)), (2, .int (nI k)), (3, .int (nI i))] [] := by
                intro k9
                induction k9 with
                | zero =>
                  intro i v hi hkk hv h15 hp
                  omega
                | succ k9 ih =>
                  intro i v hi hkk hv h15 hp
                  refine g_iload_n (pc' := 81) (q := 3) C dX1_merge_80 rfl rfl rfl ?_
                  refine g_aload_n (pc' := 82) (q := 0) C dX1_merge_81 rfl rfl rfl ?_
                  refine g_get (pc' := 85) (v := .int (v 0 15)) C FM 0 (by rfl) rfl 15 (by decide) (by decide +kernel) rfl (by rfl) dX1_merge_82 rfl ?_
                  have t_17 : (nI i).toInt = ((i : Nat) : Int) := nI_toInt (by omega)
                  refine g_icmp_ge (tgt := 110) (pc' := 88) C dX1_merge_85 rfl (by decide) (fun (c_18 : (v 0 15).toInt ≤ (nI i).toInt) => ?_) (fun (c_18 : ¬ ((v 0 15).toInt ≤ (nI i).toInt)) => ?_)
                  · skip
                    refine g_aload_n (pc' := 111) (q := 0) C dX1_merge_110 rfl rfl rfl ?_
                    refine g_get (pc' := 114) (v := .ref (a 11)) C FM 0 (by rfl) rfl 10 (by decide) (by decide +kernel) rfl (by rfl) dX1_merge_111 rfl ?_
                    refine g_iload_n (pc' := 115) (q := 2) C dX1_merge_114 rfl rfl rfl ?_
                    refine g_aload_n (pc' := 116) (q := 0) C dX1_merge_115 rfl rfl rfl ?_
                    refine g_get (pc' := 119) (v := .ref (a 11)) C FM 0 (by rfl) rfl 10 (by decide) (by decide +kernel) rfl (by rfl) dX1_merge_116 rfl ?_
                    refine g_iload_n (pc' := 120) (q := 1) C dX1_merge_119 rfl rfl rfl ?_
                    refine g_iald (pc' := 121) (n := 24) (f := v 11) C 7 0 (by rfl) rfl (vp_in_nI (by omega) (by omega)) (k := n) (nI_clamp (by omega)) dX1_merge_120 rfl ?_
                    refine g_aload_n (pc' := 122) (q := 0) C dX1_merge_121 rfl rfl rfl ?_
                    refine g_get (pc' := 125) (v := .ref (a 11)) C FM 0 (by rfl) rfl 10 (by decide) (by decide +kernel) rfl (by rfl) dX1_merge_122 rfl ?_
                    refine g_iload_n (pc' := 126) (q := 2) C dX1_merge_125 rfl rfl rfl ?_
                    refine g_iald (pc' := 127) (n := 24) (f := v 11) C 7 0 (by rfl) rfl (vp_in_nI (by omega) (by omega)) (k := k) (nI_clamp (by omega)) dX1_merge_126 rfl ?_
                    refine g_icmp_ge (tgt := 139) (pc' := 130) C dX1_merge_127 rfl (by decide) (fun (c_19 : (v 11 k).toInt ≤ (v 11 n).toInt) => ?_) (fun (c_19 : ¬ ((v 11 k).toInt ≤ (v 11 n).toInt)) => ?_)
                    · skip
                      refine g_aload_n (pc' := 140) (q := 0) C dX1_merge_139 rfl rfl rfl ?_
                      refine g_get (pc' := 143) (v := .ref (a 11)) C FM 0 (by rfl) rfl 10 (by decide) (by decide +kernel) rfl (by rfl) dX1_merge_140 rfl ?_
                      refine g_iload_n (pc' := 144) (q := 2) C dX1_merge_143 rfl rfl rfl ?_
                      refine g_iald (pc' := 145) (n := 24) (f := v 11) C 7 0 (by rfl) rfl (vp_in_nI (by omega) (by omega)) (k := k) (nI_clamp (by omega)) dX1_merge_144 rfl ?_
                      refine g_iast (pc' := 146) (n := 24) (f := v 11) C 7 0 (by rfl) rfl (vp_in_nI (by omega) (by omega)) (k := k) (nI_clamp (by omega)) dX1_merge_145 rfl (wM_set cI cZ a _ (k := 6) rfl) ?_
                      refine g_aload_n (pc' := 147) (q := 0) C dX1_merge_146 rfl rfl rfl ?_
                      refine g_get (pc' := 150) (v := .ref (a 14)) C FM 0 (by rfl) rfl 13 (by decide) (by decide +kernel) rfl (by rfl) dX1_merge_147 rfl ?_
                      refine g_iload_n (pc' := 151) (q := 2) C dX1_merge_150 rfl rfl rfl ?_
                      refine g_aload_n (pc' := 152) (q := 0) C dX1_merge_151 rfl rfl rfl ?_
                      refine g_get (pc' := 155) (v := .ref (a 14)) C FM 0 (by rfl) rfl 13 (by decide) (by decide +kernel) rfl (by rfl) dX1_merge_152 rfl ?_
                      refine g_iload_n (pc' := 156) (q := 1) C dX1_merge_155 rfl rfl rfl ?_
                      refine g_iald (pc' := 157) (n := 24) (f := v 14) C 10 0 (by rfl) rfl (vp_in_nI (by omega) (by omega)) (k := n) (nI_clamp (by omega)) dX1_merge_156 rfl ?_
                      refine g_aload_n (pc' := 158) (q := 0) C dX1_merge_157 rfl rfl rfl ?_
                      refine g_get (pc' := 161) (v := .ref (a 14)) C FM 0 (by rfl) rfl 13 (by decide) (by decide +kernel) rfl (by rfl) dX1_merge_158 rfl ?_
                      refine g_iload_n (pc' := 162) (q := 2) C dX1_merge_161 rfl rfl rfl ?_
                      refine g_iald (pc' := 163) (n := 24) (f := v 14) C 10 0 (by rfl) rfl (vp_in_nI (by omega) (by omega)) (k := k) (nI_clamp (by omega)) dX1_merge_162 rfl ?_
                      refine g_icmp_le (tgt := 175) (pc' := 166) C dX1_merge_163 rfl (by decide) (fun (c_20 : (v 14 n).toInt ≤ (v 14 k).toInt) => ?_) (fun (c_20 : ¬ ((v 14 n).toInt ≤ (v 14 k).toInt)) => ?_)
                      · skip
                        refine g_aload_n (pc' := 176) (q := 0) C dX1_merge_175 rfl rfl rfl ?_
                        refine g_get (pc' := 179) (v := .ref (a 14)) C FM 0 (by rfl) rfl 13 (by decide) (by decide +kernel) rfl (by rfl) dX1_merge_176 rfl ?_
                        refine g_iload_n (pc' := 180) (q := 2) C dX1_merge_179 rfl rfl rfl ?_
                        refine g_iald (pc' := 181) (n := 24) (f := v 14) C 10 0 (by rfl) rfl (vp_in_nI (by omega) (by omega)) (k := k) (nI_clamp (by omega)) dX1_merge_180 rfl ?_
                        refine g_iast (pc' := 182) (n := 24) (f := v 14) C 10 0 (by rfl) rfl (vp_in_nI (by omega) (by omega)) (k := k) (nI_clamp (by omega)) dX1_merge_181 rfl (wM_set cI cZ a _ (k := 9) rfl) ?_
                        refine g_aload_n (pc' := 183) (q := 0) C dX1_merge_182 rfl rfl rfl ?_
                        refine g_get (pc' := 186) (v := .ref (a 9)) C FM 0 (by rfl) rfl 8 (by decide) (by decide +kernel) rfl (by rfl) dX1_merge_183 rfl ?_
                        refine g_iload_n (pc' := 187) (q := 1) C dX1_merge_186 rfl rfl rfl ?_
                        refine g_iconst (pc' := 188) (v := 3) C dX1_merge_187 rfl (by decide) ?_
                        refine g_iast (pc' := 189) (n := 24) (f := v 9) C 5 0 (by rfl) rfl (vp_in_nI (by omega) (by omega)) (k := n) (nI_clamp (by omega)) dX1_merge_188 rfl (wM_set cI cZ a _ (k := 4) rfl) ?_
                        refine g_aload_n (pc' := 190) (q := 0) C dX1_merge_189 rfl rfl rfl ?_
                        refine g_iload_n (pc' := 191) (q := 2) C dX1_merge_190 rfl rfl rfl ?_
                        refine g_calliV (pc' := 194) (As := [.int (nI k)]) (st := []) (cells' := 0) (slots' := 0) C (c_X1_count _ (nI k) (by show 0 ≤ (v 0 15).toInt ∧ (v 0 15).toInt ≤ 60; omega)) gX1_merge_X1_count rfl (by decide +kernel) ⟨Nat.le_of_ble_eq_true rfl, Nat.le_of_ble_eq_true rfl⟩ 0 (by rfl) rfl (n := 1) rfl rfl (Nat.le_of_ble_eq_true rfl) dX1_merge_191 rfl rfl rfl ⟨Nat.le_of_ble_eq_true rfl, Nat.le_of_ble_eq_true rfl⟩ (fun r_21 u_21 h_22 => ?_)
                        obtain ⟨rfl, h_22⟩ := h_22
                        refine g_st h_22 ?_
                        exact g_iret C hr rfl (Or.inr ⟨n, k, rfl, by omega, rfl, by omega, Or.inr (Or.inr ⟨by omega, by omega, by show nI (ctA (v 17) (nI k) (v 0 15).toInt.toNat) = _; rw [show (u 0 15).toInt.toNat = i by omega, ← hv, show (v 0 15).toInt.toNat = i by omega], by rw [show (u 0 15).toInt.toNat = i by omega, ← hv]; unfold m1M; (repeat' split) <;> first | rfl | (exfalso; omega)⟩)⟩) dX1_merge_194
                      · skip
                        refine g_aload_n (pc' := 167) (q := 0) C dX1_merge_166 rfl rfl rfl ?_
                        refine g_get (pc' := 170) (v := .ref (a 14)) C FM 0 (by rfl) rfl 13 (by decide) (by decide +kernel) rfl (by rfl) dX1_merge_167 rfl ?_
                        refine g_iload_n (pc' := 171) (q := 1) C dX1_merge_170 rfl rfl rfl ?_
                        refine g_iald (pc' := 172) (n := 24) (f := v 14) C 10 0 (by rfl) rfl (vp_in_nI (by omega) (by omega)) (k := n) (nI_clamp (by omega)) dX1_merge_171 rfl ?_
                        refine g_goto (tgt := 181) C dX1_merge_172 (by decide) ?_
                        refine g_iast (pc' := 182) (n := 24) (f := v 14) C 10 0 (by rfl) rfl (vp_in_nI (by omega) (by omega)) (k := k) (nI_clamp (by omega)) dX1_merge_181 rfl (wM_set cI cZ a _ (k := 9) rfl) ?_
                        refine g_aload_n (pc' := 183) (q := 0) C dX1_merge_182 rfl rfl rfl ?_
                        refine g_get (pc' := 186) (v := .ref (a 9)) C FM 0 (by rfl) rfl 8 (by decide) (by decide +kernel) rfl (by rfl) dX1_merge_183 rfl ?_
                        refine g_iload_n (pc' := 187) (q := 1) C dX1_merge_186 rfl rfl rfl ?_
                        refine g_iconst (pc' := 188) (v := 3) C dX1_merge_187 rfl (by decide) ?_
                        refine g_iast (pc' := 189) (n := 24) (f := v 9) C 5 0 (by rfl) rfl (vp_in_nI (by omega) (by omega)) (k := n) (nI_clamp (by omega)) dX1_merge_188 rfl (wM_set cI cZ a _ (k := 4) rfl) ?_
                        refine g_aload_n (pc' := 190) (q := 0) C dX1_merge_189 rfl rfl rfl ?_
                        refine g_iload_n (pc' := 191) (q := 2) C dX1_merge_190 rfl rfl rfl ?_
                        refine g_calliV (pc' := 194) (As := [.int (nI k)]) (st := []) (cells' := 0) (slots' := 0) C (c_X1_count _ (nI k) (by show 0 ≤ (v 0 15).toInt ∧ (v 0 15).toInt ≤ 60; omega)) gX1_merge_X1_count rfl (by decide +kernel) ⟨Nat.le_of_ble_eq_true rfl, Nat.le_of_ble_eq_true rfl⟩ 0 (by rfl) rfl (n := 1) rfl rfl (Nat.le_of_ble_eq_true rfl) dX1_merge_191 rfl rfl rfl ⟨Nat.le_of_ble_eq_true rfl, Nat.le_of_ble_eq_true rfl⟩ (fun r_23 u_23 h_24 => ?_)
                        obtain ⟨rfl, h_24⟩ := h_24
                        refine g_st h_24 ?_
                        exact g_iret C hr rfl (Or.inr ⟨n, k, rfl, by omega, rfl, by omega, Or.inr (Or.inr ⟨by omega, by omega, by show nI (ctA (v 17) (nI k) (v 0 15).toInt.toNat) = _; rw [show (u 0 15).toInt.toNat = i by omega, ← hv, show (v 0 15).toInt.toNat = i by omega], by rw [show (u 0 15).toInt.toNat = i by omega, ← hv]; unfold m1M; (repeat' split) <;> first | rfl | (exfalso; omega)⟩)⟩) dX1_merge_194
                    · skip
                      refine g_aload_n (pc' := 131) (q := 0) C dX1_merge_130 rfl rfl rfl ?_
                      refine g_get (pc' := 134) (v := .ref (a 11)) C FM 0 (by rfl) rfl 10 (by decide) (by decide +kernel) rfl (by rfl) dX1_merge_131 rfl ?_
                      refine g_iload_n (pc' := 135) (q := 1) C dX1_merge_134 rfl rfl rfl ?_
                      refine g_iald (pc' := 136) (n := 24) (f := v 11) C 7 0 (by rfl) rfl (vp_in_nI (by omega) (by omega)) (k := n) (nI_clamp (by omega)) dX1_merge_135 rfl ?_
                      refine g_goto (tgt := 145) C dX1_merge_136 (by decide) ?_
                      refine g_iast (pc' := 146) (n := 24) (f := v 11) C 7 0 (by rfl) rfl (vp_in_nI (by omega) (by omega)) (k := k) (nI_clamp (by omega)) dX1_merge_145 rfl (wM_set cI cZ a _ (k := 6) rfl) ?_
                      refine g_aload_n (pc' := 147) (q := 0) C dX1_merge_146 rfl rfl rfl ?_
                      refine g_get (pc' := 150) (v := .ref (a 14)) C FM 0 (by rfl) rfl 13 (by decide) (by decide +kernel) rfl (by rfl) dX1_merge_147 rfl ?_
                      refine g_iload_n (pc' := 151) (q := 2) C dX1_merge_150 rfl rfl rfl ?_
                      refine g_aload_n (pc' := 152) (q := 0) C dX1_merge_151 rfl rfl rfl ?_
                      refine g_get (pc' := 155) (v := .ref (a 14)) C FM 0 (by rfl) rfl 13 (by decide) (by decide +kernel) rfl (by rfl) dX1_merge_152 rfl ?_
                      refine g_iload_n (pc' := 156) (q := 1) C dX1_merge_155 rfl rfl rfl ?_
                      refine g_iald (pc' := 157) (n := 24) (f := v 14) C 10 0 (by rfl) rfl (vp_in_nI (by omega) (by omega)) (k := n) (nI_clamp (by omega)) dX1_merge_156 rfl ?_
                      refine g_aload_n (pc' := 158) (q := 0) C dX1_merge_157 rfl rfl rfl ?_
                      refine g_get (pc' := 161) (v := .ref (a 14)) C FM 0 (by rfl) rfl 13 (by decide) (by decide +kernel) rfl (by rfl) dX1_merge_158 rfl ?_
                      refine g_iload_n (pc' := 162) (q := 2) C dX1_merge_161 rfl rfl rfl ?_
                      refine g_iald (pc' := 163) (n := 24) (f := v 14) C 10 0 (by rfl) rfl (vp_in_nI (by omega) (by omega)) (k := k) (nI_clamp (by omega)) dX1_merge_162 rfl ?_
                      refine g_icmp_le (tgt := 175) (pc' := 166) C dX1_merge_163 rfl (by decide) (fun (c_25 : (v 14 n).toInt ≤ (v 14 k).toInt) => ?_) (fun (c_25 : ¬ ((v 14 n).toInt ≤ (v 14 k).toInt)) => ?_)
                      · skip
                        refine g_aload_n (pc' := 176) (q := 0) C dX1_merge_175 rfl rfl rfl ?_
                        refine g_get (pc' := 179) (v := .ref (a 14)) C FM 0 (by rfl) rfl 13 (by decide) (by decide +kernel) rfl (by rfl) dX1_merge_176 rfl ?_
                        refine g_iload_n (pc' := 180) (q := 2) C dX1_merge_179 rfl rfl rfl ?_
                        refine g_iald (pc' := 181) (n := 24) (f := v 14) C 10 0 (by rfl) rfl (vp_in_nI (by omega) (by omega)) (k := k) (nI_clamp (by omega)) dX1_merge_180 rfl ?_
                        refine g_iast (pc' := 182) (n := 24) (f := v 14) C 10 0 (by rfl) rfl (vp_in_nI (by omega) (by omega)) (k := k) (nI_clamp (by omega)) dX1_merge_181 rfl (wM_set cI cZ a _ (k := 9) rfl) ?_
                        refine g_aload_n (pc' := 183) (q := 0) C dX1_merge_182 rfl rfl rfl ?_
                        refine g_get (pc' := 186) (v := .ref (a 9)) C FM 0 (by rfl) rfl 8 (by decide) (by decide +kernel) rfl (by rfl) dX1_merge_183 rfl ?_
                        refine g_iload_n (pc' := 187) (q := 1) C dX1_merge_186 rfl rfl rfl ?_
                        refine g_iconst (pc' := 188) (v := 3) C dX1_merge_187 rfl (by decide) ?_
                        refine g_iast (pc' := 189) (n := 24) (f := v 9) C 5 0 (by rfl) rfl (vp_in_nI (by omega) (by omega)) (k := n) (nI_clamp (by omega)) dX1_merge_188 rfl (wM_set cI cZ a _ (k := 4) rfl) ?_
                        refine g_aload_n (pc' := 190) (q := 0) C dX1_merge_189 rfl rfl rfl ?_
                        refine g_iload_n (pc' := 191) (q := 2) C dX1_merge_190 rfl rfl rfl ?_
                        refine g_calliV (pc' := 194) (As := [.int (nI k)]) (st := []) (cells' := 0) (slots' := 0) C (c_X1_count _ (nI k) (by show 0 ≤ (v 0 15).toInt ∧ (v 0 15).toInt ≤ 60; omega)) gX1_merge_X1_count rfl (by decide +kernel) ⟨Nat.le_of_ble_eq_true rfl, Nat.le_of_ble_eq_true rfl⟩ 0 (by rfl) rfl (n := 1) rfl rfl (Nat.le_of_ble_eq_true rfl) dX1_merge_191 rfl rfl rfl ⟨Nat.le_of_ble_eq_true rfl, Nat.le_of_ble_eq_true rfl⟩ (fun r_26 u_26 h_27 => ?_)
                        obtain ⟨rfl, h_27⟩ := h_27
                        refine g_st h_27 ?_
                        exact g_iret C hr rfl (Or.inr ⟨n, k, rfl, by omega, rfl, by omega, Or.inr (Or.inr ⟨by omega, by omega, by show nI (ctA (v 17) (nI k) (v 0 15).toInt.toNat) = _; rw [show (u 0 15).toInt.toNat = i by omega, ← hv, show (v 0 15).toInt.toNat = i by omega], by rw [show (u 0 15).toInt.toNat = i by omega, ← hv]; unfold m1M; (repeat' split) <;> first | rfl | (exfalso; omega)⟩)⟩) dX1_merge_194
                      · skip
                        refine g_aload_n (pc' := 167) (q := 0) C dX1_merge_166 rfl rfl rfl ?_
                        refine g_get (pc' := 170) (v := .ref (a 14)) C FM 0 (by rfl) rfl 13 (by decide) (by decide +kernel) rfl (by rfl) dX1_merge_167 rfl ?_
                        refine g_iload_n (pc' := 171) (q := 1) C dX1_merge_170 rfl rfl rfl ?_
                        refine g_iald (pc' := 172) (n := 24) (f := v 14) C 10 0 (by rfl) rfl (vp_in_nI (by omega) (by omega)) (k := n) (nI_clamp (by omega)) dX1_merge_171 rfl ?_
                        refine g_goto (tgt := 181) C dX1_merge_172 (by decide) ?_
                        refine g_iast (pc' := 182) (n := 24) (f := v 14) C 10 0 (by rfl) rfl (vp_in_nI (by omega) (by omega)) (k := k) (nI_clamp (by omega)) dX1_merge_181 rfl (wM_set cI cZ a _ (k := 9) rfl) ?_
                        refine g_aload_n (pc' := 183) (q := 0) C dX1_merge_182 rfl rfl rfl ?_
                        refine g_get (pc' := 186) (v := .ref (a 9)) C FM 0 (by rfl) rfl 8 (by decide) (by decide +kernel) rfl (by rfl) dX1_merge_183 rfl ?_
                        refine g_iload_n (pc' := 187) (q := 1) C dX1_merge_186 rfl rfl rfl ?_
                        refine g_iconst (pc' := 188) (v := 3) C dX1_merge_187 rfl (by decide) ?_
                        refine g_iast (pc' := 189) (n := 24) (f := v 9) C 5 0 (by rfl) rfl (vp_in_nI (by omega) (by omega)) (k := n) (nI_clamp (by omega)) dX1_merge_188 rfl (wM_set cI cZ a _ (k := 4) rfl) ?_
                        refine g_aload_n (pc' := 190) (q := 0) C dX1_merge_189 rfl rfl rfl ?_
                        refine g_iload_n (pc' := 191) (q := 2) C dX1_merge_190 rfl rfl rfl ?_
                        refine g_calliV (pc' := 194) (As := [.int (nI k)]) (st := []) (cells' := 0) (slots' := 0) C (c_X1_count _ (nI k) (by show 0 ≤ (v 0 15).toInt ∧ (v 0 15).toInt ≤ 60; omega)) gX1_merge_X1_count rfl (by decide +kernel) ⟨Nat.le_of_ble_eq_true rfl, Nat.le_of_ble_eq_true rfl⟩ 0 (by rfl) rfl (n := 1) rfl rfl (Nat.le_of_ble_eq_true rfl) dX1_merge_191 rfl rfl rfl ⟨Nat.le_of_ble_eq_true rfl, Nat.le_of_ble_eq_true rfl⟩ (fun r_28 u_28 h_29 => ?_)
                        obtain ⟨rfl, h_29⟩ := h_29
                        refine g_st h_29 ?_
                        exact g_iret C hr rfl (Or.inr ⟨n, k, rfl, by omega, rfl, by omega, Or.inr (Or.inr ⟨by omega, by omega, by show nI (ctA (v 17) (nI k) (v 0 15).toInt.toNat) = _; rw [show (u 0 15).toInt.toNat = i by omega, ← hv, show (v 0 15).toInt.toNat = i by omega], by rw [show (u 0 15).toInt.toNat = i by omega, ← hv]; unfold m1M; (repeat' split) <;> first | rfl | (exfalso; omega)⟩)⟩) dX1_merge_194
                  · skip
                    refine g_aload_n (pc' := 89) (q := 0) C dX1_merge_88 rfl rfl rfl ?_
                    refine g_get (pc' := 92) (v := .ref (a 17)) C FM 0 (by rfl) rfl 16 (by decide) (by decide +kernel) rfl (by rfl) dX1_merge_89 rfl ?_
                    refine g_iload_n (pc' := 93) (q := 3) C dX1_merge_92 rfl rfl rfl ?_
                    refine g_iald (pc' := 94) (n := 60) (f := v 17) C 12 0 (by rfl) rfl (vp_in_nI (by omega) (by omega)) (k := i) (nI_clamp (by omega)) dX1_merge_93 rfl ?_
                    refine g_iload_n (pc' := 95) (q := 1) C dX1_merge_94 rfl rfl rfl ?_
                    have t_30 : (nI n).toInt = ((n : Nat) : Int) := nI_toInt (by omega)
                    refine g_icmp_ne (tgt := 104) (pc' := 98) C dX1_merge_95 rfl (by decide) (fun (c_31 : ¬ (v 17 i).toInt = (nI n).toInt) => ?_) (fun (c_31 : (v 17 i).toInt = (nI n).toInt) => ?_)
                    · skip
                      refine g_iinc (pc' := 107) (v := nI (i + 1)) (L' := [(3, .int (nI (i + 1))), (0, .ref (a 0)), (1, .int (nI n)), (2, .int (nI k))]) C dX1_merge_104 rfl (k := 3) rfl (nI_1 _) (by decide) rfl ?_
                      refine g_goto (tgt := 80) C dX1_merge_107 (by decide) ?_
                      refine g_sub (L' := [(0, .ref (a 0)), (1, .int (nI n)), (2, .int (nI k)), (3, .int (nI (i + 1)))]) [1, 2, 3, 0] rfl ?_
                      exact ih (i + 1) v (by omega) (by omega) (mmM_f hv (by omega)).symm h15 (fun w h1 h2 => hp w (by omega) h2)
                    · skip
                      refine g_aload_n (pc' := 99) (q := 0) C dX1_merge_98 rfl rfl rfl ?_
                      refine g_iload_n (pc' := 100) (q := 3) C dX1_merge_99 rfl rfl rfl ?_
                      refine g_iload_n (pc' := 101) (q := 2) C dX1_merge_100 rfl rfl rfl ?_
                      refine g_callvV (pc' := 104) (As := [.int (nI i), .int (nI k)]) (st := []) (cells' := 0) (slots' := 0) C (c_X1_puts _ i (nI k) (by omega) (hp _ (by omega) (by omega))) gX1_merge_X1_puts rfl (by decide +kernel) ⟨Nat.le_of_ble_eq_true rfl, Nat.le_of_ble_eq_true rfl⟩ 0 (by rfl) rfl (n := 2) rfl rfl (Nat.le_of_ble_eq_true rfl) dX1_merge_101 rfl rfl rfl ⟨Nat.le_of_ble_eq_true rfl, Nat.le_of_ble_eq_true rfl⟩ (fun  u_32 h_33 => ?_)
                      refine g_iinc (pc' := 107) (v := nI (i + 1)) (L' := [(3, .int (nI (i + 1))), (0, .ref (a 0)), (1, .int (nI n)), (2, .int (nI k))]) C dX1_merge_104 rfl (k := 3) rfl (nI_1 _) (by decide) rfl ?_
                      refine g_goto (tgt := 80) C dX1_merge_107 (by decide) ?_
                      refine g_sub (L' := [(0, .ref (a 0)), (1, .int (nI n)), (2, .int (nI k)), (3, .int (nI (i + 1)))]) [1, 2, 3, 0] rfl ?_
                      exact ih (i + 1) u_32 (by omega) (by omega) (by rw [h_33]; exact (mmM_t hv (by omega)).symm) (by rw [h_33]; exact h15) (fun w h1 h2 => by rw [h_33, ptM_18 _ _ (by omega)]; exact hp w (by omega) h2)
              refine g_sub (L' := [(0, .ref (a 0)), (1, .int (nI n)), (2, .int (nI k)), (3, .int (nI 0))]) [1, 2, 3, 0] rfl ?_
              exact loop_80 61 0 (thM u 0) (by omega) (by omega) rfl rfl (fun w _ h => hP18 w h)
            · skip
              refine g_iconst (pc' := 62) (v := 3) C dX1_merge_61 rfl (by decide) ?_
              refine g_goto (tgt := 66) C dX1_merge_62 (by decide) ?_
              refine g_putI (pc' := 69) C FM tyX1 tyX1_ok nmX1 0 (by rfl) rfl 0 (by decide) (by decide +kernel) rfl rfl rfl (Nat.le_of_ble_eq_true rfl) dX1_merge_66 rfl (wM_put cI cZ a _ (f := (upd (u 0) 0 (3))) rfl) ?_
              refine g_aload_n (pc' := 70) (q := 0) C dX1_merge_69 rfl rfl rfl ?_
              refine g_get (pc' := 73) (v := .int 3) C FM 0 (by rfl) rfl 0 (by decide) (by decide +kernel) rfl (by rfl) dX1_merge_70 rfl ?_
              refine g_if_le (tgt := 78) (pc' := 76) C dX1_merge_73 rfl (by decide) (fun h => absurd h (by decide)) (fun _ => ?_)
              refine g_iconst (pc' := 77) (v := 0) C dX1_merge_76 rfl (by decide) ?_
              exact g_iret C hr rfl (Or.inr ⟨n, k, rfl, by omega, rfl, by omega, Or.inr (Or.inl ⟨by omega, by omega, rfl⟩)⟩) dX1_merge_77
      · skip
        refine g_iconst (pc' := 27) (v := 2) C dX1_merge_26 rfl (by decide) ?_
        refine g_goto (tgt := 66) C dX1_merge_27 (by decide) ?_
        refine g_putI (pc' := 69) C FM tyX1 tyX1_ok nmX1 0 (by rfl) rfl 0 (by decide) (by decide +kernel) rfl rfl rfl (Nat.le_of_ble_eq_true rfl) dX1_merge_66 rfl (wM_put cI cZ a _ (f := (upd (u 0) 0 (2))) rfl) ?_
        refine g_aload_n (pc' := 70) (q := 0) C dX1_merge_69 rfl rfl rfl ?_
        refine g_get (pc' := 73) (v := .int 2) C FM 0 (by rfl) rfl 0 (by decide) (by decide +kernel) rfl (by rfl) dX1_merge_70 rfl ?_
        refine g_if_le (tgt := 78) (pc' := 76) C dX1_merge_73 rfl (by decide) (fun h => absurd h (by decide)) (fun _ => ?_)
        refine g_iconst (pc' := 77) (v := 0) C dX1_merge_76 rfl (by decide) ?_
        exact g_iret C hr rfl (Or.inr ⟨n, k, rfl, by omega, rfl, by omega, Or.inl ⟨by omega, rfl⟩⟩) dX1_merge_77
    · skip
      refine g_iconst (pc' := 18) (v := 1) C dX1_merge_17 rfl (by decide) ?_
      refine g_goto (tgt := 66) C dX1_merge_18 (by decide) ?_
      refine g_putI (pc' := 69) C FM tyX1 tyX1_ok nmX1 0 (by rfl) rfl 0 (by decide) (by decide +kernel) rfl rfl rfl (Nat.le_of_ble_eq_true rfl) dX1_merge_66 rfl (wM_put cI cZ a _ (f := (upd (u 0) 0 (1))) rfl) ?_
      refine g_aload_n (pc' := 70) (q := 0) C dX1_merge_69 rfl rfl rfl ?_
      refine g_get (pc' := 73) (v := .int 1) C FM 0 (by rfl) rfl 0 (by decide) (by decide +kernel) rfl (by rfl) dX1_merge_70 rfl ?_
      refine g_if_le (tgt := 78) (pc' := 76) C dX1_merge_73 rfl (by decide) (fun h => absurd h (by decide)) (fun _ => ?_)
      refine g_iconst (pc' := 77) (v := 0) C dX1_merge_76 rfl (by decide) ?_
      exact g_iret C hr rfl (Or.inl ⟨by omega, rfl⟩) dX1_merge_77
set_option maxHeartbeats 4000000 in
set_option maxRecDepth 100000 in
theorem c_X1_advance {l : Launch} {D : va_G} {cI cZ cQ : ClassId} {a : Nat → Nat} (u : LU) (x : Int32) (hI : IM u) : KI l yX1_advance wsX1_advance ({ frames := 1, cells := 0, slots := 0, locals := 22 } : Room) D (tyX cI cZ cQ) (wM cI cZ a) [.ref (a 0), .int x] u (fun (r : Int32) (u' : LU) => (¬ (1 ≤ x.toInt ∧ x.toInt ≤ 10000) ∧ u' = thM u 1) ∨ ((1 ≤ x.toInt ∧ x.toInt ≤ 10000) ∧ r = nI (avM (a0M u x) (u 0 7).toInt.toNat).2 ∧ u' = (avM (a0M u x) (u 0 7).toInt.toNat).1)) := by
  refine ent_I (own := RX1) (maxL := 4) (cc := cX1_advance) (L0 := [(0, .ref (a 0)), (1, .int x)]) (by decide) rfl (wM_ok _ _ _) rfl (Nat.le_of_ble_eq_true rfl) rfl ?_
  intro p e s m args below meth c A C hr
  have FM : ∀ w ∈ wsX10, w.before args s = true := fun w h => C.2.2.2.2.1 w ((by decide +kernel : ∀ w ∈ wsX10, w ∈ wsX1_advance) w h)
  obtain ⟨hS2, hL7, hW15, hT10, hZ13, hP18, hO17, hR15⟩ := id hI
  refine g_aload_n (pc' := 1) (q := 0) C dX1_advance_0 rfl rfl rfl ?_
  refine g_iload_n (pc' := 2) (q := 1) C dX1_advance_1 rfl rfl rfl ?_
  refine g_iconst (pc' := 3) (v := 1) C dX1_advance_2 rfl (by decide) ?_
  refine g_sipush (pc' := 6) (v := 10000) C dX1_advance_3 rfl (by decide) ?_
  refine g_calliS (pc' := 9) (As := [.int x, .int 1, .int 10000]) (st := [.ref (a 0)]) (cells' := 0) (slots' := 0) C (c_X1_in _ x 1 10000) gX1_advance_X1_in rfl (by decide +kernel) ⟨Nat.le_of_ble_eq_true rfl, Nat.le_of_ble_eq_true rfl⟩ (n := 3) rfl rfl (Nat.le_of_ble_eq_true rfl) dX1_advance_6 rfl rfl rfl ⟨Nat.le_of_ble_eq_true rfl, Nat.le_of_ble_eq_true rfl⟩ (fun r_1 u_1 h_2 => ?_)
  obtain ⟨rfl, h_2⟩ := h_2
  refine g_st h_2 ?_
  refine g_ifP_eq (tgt := 16) (pc' := 12) C dX1_advance_9 rfl (by decide) (fun (c_3 : ¬ (1 ≤ x.toInt ∧ x.toInt ≤ 10000)) => ?_) (fun (c_3 : 1 ≤ x.toInt ∧ x.toInt ≤ 10000) => ?_)
  · skip
    refine g_iconst (pc' := 17) (v := 1) C dX1_advance_16 rfl (by decide) ?_
    refine g_putI (pc' := 20) C FM tyX1 tyX1_ok nmX1 0 (by rfl) rfl 0 (by decide) (by decide +kernel) rfl rfl rfl (Nat.le_of_ble_eq_true rfl) dX1_advance_17 rfl (wM_put cI cZ a _ (f := (upd (u 0) 0 (1))) rfl) ?_
    refine g_aload_n (pc' := 21) (q := 0) C dX1_advance_20 rfl rfl rfl ?_
    refine g_get (pc' := 24) (v := .int 1) C FM 0 (by rfl) rfl 0 (by decide) (by decide +kernel) rfl (by rfl) dX1_advance_21 rfl ?_
    refine g_if_le (tgt := 29) (pc' := 27) C dX1_advance_24 rfl (by decide) (fun h => absurd h (by decide)) (fun _ => ?_)
    refine g_iconst (pc' := 28) (v := 0) C dX1_advance_27 rfl (by decide) ?_
    exact g_iret C hr rfl (Or.inl ⟨by omega, rfl⟩) dX1_advance_28
  · skip
    refine g_iconst (pc' := 13) (v := 0) C dX1_advance_12 rfl (by decide) ?_
    refine g_goto (tgt := 17) C dX1_advance_13 (by decide) ?_
    refine g_putI (pc' := 20) C FM tyX1 tyX1_ok nmX1 0 (by rfl) rfl 0 (by decide) (by decide +kernel) rfl rfl rfl (Nat.le_of_ble_eq_true rfl) dX1_advance_17 rfl (wM_put cI cZ a _ (f := (upd (u 0) 0 (0))) rfl) ?_
    refine g_aload_n (pc' := 21) (q := 0) C dX1_advance_20 rfl rfl rfl ?_
    refine g_get (pc' := 24) (v := .int 0) C FM 0 (by rfl) rfl 0 (by decide) (by decide +kernel) rfl (by rfl) dX1_advance_21 rfl ?_
    refine g_if_le (tgt := 29) (pc' := 27) C dX1_advance_24 rfl (by decide) (fun _ => ?_) (fun h => absurd h (by decide))
    refine g_iconst (pc' := 30) (v := 0) C dX1_advance_29 rfl (by decide) ?_
    refine g_istore_n (pc' := 31) (L' := [(2, .int 0), (0, .ref (a 0)), (1, .int x)]) C dX1_advance_30 rfl rfl (by decide) rfl ?_
    refine g_aload_n (pc' := 32) (q := 1) C dX1_advance_31 rfl rfl rfl ?_
    refine g_dup (pc' := 33) C dX1_advance_32 rfl rfl ?_
    refine g_get (pc' := 36) (v := .int (u 0 1)) C FM 0 (by rfl) rfl 1 (by decide) (by decide +kernel) rfl (by rfl) dX1_advance_33 rfl ?_
    refine g_iload_n (pc' := 37) (q := 2) C dX1_advance_36 rfl rfl rfl ?_
    refine g_iadd (pc' := 38) C dX1_advance_37 rfl ?_
    refine g_putI (pc' := 41) C FM tyX1 tyX1_ok nmX1 0 (by rfl) rfl 1 (by decide) (by decide +kernel) rfl rfl rfl (Nat.le_of_ble_eq_true rfl) dX1_advance_38 rfl (wM_put cI cZ a _ (f := (upd (upd (u 0) 0 (0)) 1 ((u 0 1) + x))) rfl) ?_
    refine g_iconst (pc' := 42) (v := 0) C dX1_advance_41 rfl (by decide) ?_
    refine g_istore_n (pc' := 43) (L' := [(3, .int 0), (2, .int 0), (0, .ref (a 0)), (1, .int x)]) C dX1_advance_42 rfl rfl (by decide) rfl ?_
    have loop_43 : ∀ (k : Nat) (i k9 : Nat) (v : LU), (i : Int) ≤ (u 0 7).toInt → (u 0 7).toInt + 1 ≤ i + k → avM (a0M u x) i = (v, k9) → v 0 = a0M u x 0 → G p l e ({ frames := 1, cells := 0, slots := 0, locals := 22 } : Room) s m args below meth c D A 4 (wM cI cZ a) 0 0 (MQ below (va_Qi (fun (r : Int32) (u' : LU) => (¬ (1 ≤ x.toInt ∧ x.toInt ≤ 10000) ∧ u' = thM u 1) ∨ ((1 ≤ x.toInt ∧ x.toInt ≤ 10000) ∧ r = nI (avM (a0M u x) (u 0 7).toInt.toNat).2 ∧ u' = (avM (a0M u x) (u 0 7).toInt.toNat).1)) (KE D (tyX cI cZ cQ) (wM cI cZ a)) A) args s 0 0 A) v 43 [(0, .ref (a 0)), (1, .int x), (2, .int (nI k9)), (3, .int (nI i))] [] := by
      intro k
      induction k with
      | zero =>
        intro i k9 v hi hk hv h0
        omega
      | succ k ih =>
        intro i k9 v hi hk hv h0
        have t7 : (v 0 7).toInt = (u 0 7).toInt := by rw [h0]; rfl
        refine g_iload_n (pc' := 44) (q := 3) C dX1_advance_43 rfl rfl rfl ?_
        refine g_aload_n (pc' := 45) (q := 0) C dX1_advance_44 rfl rfl rfl ?_
        refine g_get (pc' := 48) (v := .int (v 0 7)) C FM 0 (by rfl) rfl 7 (by decide) (by decide +kernel) rfl (by rfl) dX1_advance_45 rfl ?_
        have t_4 : (nI i).toInt = ((i : Nat) : Int) := nI_toInt (by omega)
        refine g_icmp_ge (tgt := 129) (pc' := 51) C dX1_advance_48 rfl (by decide) (fun (c_5 : (v 0 7).toInt ≤ (nI i).toInt) => ?_) (fun (c_5 : ¬ ((v 0 7).toInt ≤ (nI i).toInt)) => ?_)
        · skip
          refine g_iload_n (pc' := 130) (q := 2) C dX1_advance_129 rfl rfl rfl ?_
          exact g_iret C hr rfl (Or.inr ⟨by omega, by rw [show (u 0 7).toInt.toNat = i by omega, hv], by rw [show (u 0 7).toInt.toNat = i by omega, hv]⟩) dX1_advance_130
        · skip
          refine g_aload_n (pc' := 52) (q := 0) C dX1_advance_51 rfl rfl rfl ?_
          refine g_get (pc' := 55) (v := .ref (a 9)) C FM 0 (by rfl) rfl 8 (by decide) (by decide +kernel) rfl (by rfl) dX1_advance_52 rfl ?_
          refine g_iload_n (pc' := 56) (q := 3) C dX1_advance_55 rfl rfl rfl ?_
          refine g_iald (pc' := 57) (n := 24) (f := v 9) C 5 0 (by rfl) rfl (vp_in_nI (by omega) (by omega)) (k := i) (nI_clamp (by omega)) dX1_advance_56 rfl ?_
          refine g_iconst (pc' := 58) (v := 1) C dX1_advance_57 rfl (by decide) ?_
          refine g_icmp_ne (tgt := 123) (pc' := 61) C dX1_advance_58 rfl (by decide) (fun (c_6 : ¬ (v 9 i).toInt = 1) => ?_) (fun (c_6 : (v 9 i).toInt = 1) => ?_)
          · skip
            refine g_iinc (pc' := 126) (v := nI (i + 1)) (L' := [(3, .int (nI (i + 1))), (0, .ref (a 0)), (1, .int x), (2, .int (nI k9))]) C dX1_advance_123 rfl (k := 3) rfl (nI_1 _) (by decide) rfl ?_
            refine g_goto (tgt := 43) C dX1_advance_126 (by decide) ?_
            refine g_sub (L' := [(0, .ref (a 0)), (1, .int x), (2, .int (nI k9)), (3, .int (nI (i + 1)))]) [1, 2, 3, 0] rfl ?_
            exact ih (i + 1) k9 v (by omega) (by omega) (avM_f hv (by omega)) h0
          · skip
            refine g_aload_n (pc' := 62) (q := 0) C dX1_advance_61 rfl rfl rfl ?_
            refine g_get (pc' := 65) (v := .ref (a 12)) C FM 0 (by rfl) rfl 11 (by decide) (by decide +kernel) rfl (by rfl) dX1_advance_62 rfl ?_
            refine g_iload_n (pc' := 66) (q := 3) C dX1_advance_65 rfl rfl rfl ?_
            refine g_iald (pc' := 67) (n := 24) (f := v 12) C 8 0 (by rfl) rfl (vp_in_nI (by omega) (by omega)) (k := i) (nI_clamp (by omega)) dX1_advance_66 rfl ?_
            refine g_aload_n (pc' := 68) (q := 0) C dX1_advance_67 rfl rfl rfl ?_
            refine g_get (pc' := 71) (v := .int (v 0 1)) C FM 0 (by rfl) rfl 1 (by decide) (by decide +kernel) rfl (by rfl) dX1_advance_68 rfl ?_
            refine g_icmp_gt (tgt := 123) (pc' := 74) C dX1_advance_71 rfl (by decide) (fun (c_7 : (v 0 1).toInt < (v 12 i).toInt) => ?_) (fun (c_7 : ¬ ((v 0 1).toInt < (v 12 i).toInt)) => ?_)
            · skip
              refine g_iinc (pc' := 126) (v := nI (i + 1)) (L' := [(3, .int (nI (i + 1))), (0, .ref (a 0)), (1, .int x), (2, .int (nI k9))]) C dX1_advance_123 rfl (k := 3) rfl (nI_1 _) (by decide) rfl ?_
              refine g_goto (tgt := 43) C dX1_advance_126 (by decide) ?_
              refine g_sub (L' := [(0, .ref (a 0)), (1, .int x), (2, .int (nI k9)), (3, .int (nI (i + 1)))]) [1, 2, 3, 0] rfl ?_
              exact ih (i + 1) k9 v (by omega) (by omega) (avM_f hv (by omega)) h0
            · skip
              refine g_aload_n (pc' := 75) (q := 0) C dX1_advance_74 rfl rfl rfl ?_
              refine g_get (pc' := 78) (v := .ref (a 10)) C FM 0 (by rfl) rfl 9 (by decide) (by decide +kernel) rfl (by rfl) dX1_advance_75 rfl ?_
              refine g_iload_n (pc' := 79) (q := 3) C dX1_advance_78 rfl rfl rfl ?_
              refine g_dup2 (pc' := 80) C dX1_advance_79 rfl rfl rfl ?_
              refine g_iald (pc' := 81) (n := 24) (f := v 10) C 6 0 (by rfl) rfl (vp_in_nI (by omega) (by omega)) (k := i) (nI_clamp (by omega)) dX1_advance_80 rfl ?_
              refine g_iconst (pc' := 82) (v := 1) C dX1_advance_81 rfl (by decide) ?_
              refine g_iadd (pc' := 83) C dX1_advance_82 rfl ?_
              refine g_iast (pc' := 84) (n := 24) (f := v 10) C 6 0 (by rfl) rfl (vp_in_nI (by omega) (by omega)) (k := i) (nI_clamp (by omega)) dX1_advance_83 rfl (wM_set cI cZ a _ (k := 5) rfl) ?_
              refine g_aload_n (pc' := 85) (q := 0) C dX1_advance_84 rfl rfl rfl ?_
              refine g_get (pc' := 88) (v := .ref (a 11)) C FM 0 (by rfl) rfl 10 (by decide) (by decide +kernel) rfl (by rfl) dX1_advance_85 rfl ?_
              refine g_iload_n (pc' := 89) (q := 3) C dX1_advance_88 rfl rfl rfl ?_
              refine g_aload_n (pc' := 90) (q := 0) C dX1_advance_89 rfl rfl rfl ?_
              refine g_get (pc' := 93) (v := .ref (a 12)) C FM 0 (by rfl) rfl 11 (by decide) (by decide +kernel) rfl (by rfl) dX1_advance_90 rfl ?_
              refine g_iload_n (pc' := 94) (q := 3) C dX1_advance_93 rfl rfl rfl ?_
              refine g_iald (pc' := 95) (n := 24) (f := v 12) C 8 0 (by rfl) rfl (vp_in_nI (by omega) (by omega)) (k := i) (nI_clamp (by omega)) dX1_advance_94 rfl ?_
              refine g_iast (pc' := 96) (n := 24) (f := v 11) C 7 0 (by rfl) rfl (vp_in_nI (by omega) (by omega)) (k := i) (nI_clamp (by omega)) dX1_advance_95 rfl (wM_set cI cZ a _ (k := 6) rfl) ?_
              refine g_aload_n (pc' := 97) (q := 0) C dX1_advance_96 rfl rfl rfl ?_
              refine g_get (pc' := 100) (v := .ref (a 9)) C FM 0 (by rfl) rfl 8 (by decide) (by decide +kernel) rfl (by rfl) dX1_advance_97 rfl ?_
              refine g_iload_n (pc' := 101) (q := 3) C dX1_advance_100 rfl rfl rfl ?_
              refine g_aload_n (pc' := 102) (q := 0) C dX1_advance_101 rfl rfl rfl ?_
              refine g_get (pc' := 105) (v := .ref (a 10)) C FM 0 (by rfl) rfl 9 (by decide) (by decide +kernel) rfl (by rfl) dX1_advance_102 rfl ?_
              refine g_iload_n (pc' := 106) (q := 3) C dX1_advance_105 rfl rfl rfl ?_
              refine g_iald (pc' := 107) (n := 24) (f := (upd (v 10) i ((v 10 i) + 1))) C 6 0 (by rfl) rfl (vp_in_nI (by omega) (by omega)) (k := i) (nI_clamp (by omega)) dX1_advance_106 rfl ?_
              refine g_conv (show (upd (v 10) i ((v 10 i) + 1)) i = (v 10 i) + 1 from pk_us) ?_
              refine g_aload_n (pc' := 108) (q := 0) C dX1_advance_107 rfl rfl rfl ?_
              refine g_get (pc' := 111) (v := .int (v 0 2)) C FM 0 (by rfl) rfl 2 (by decide) (by decide +kernel) rfl (by rfl) dX1_advance_108 rfl ?_
              refine g_icmp_ne (tgt := 118) (pc' := 114) C dX1_advance_111 rfl (by decide) (fun (c_8 : ¬ ((v 10 i) + 1).toInt = (v 0 2).toInt) => ?_) (fun (c_8 : ((v 10 i) + 1).toInt = (v 0 2).toInt) => ?_)
              · skip
                refine g_iconst (pc' := 119) (v := 0) C dX1_advance_118 rfl (by decide) ?_
                refine g_iast (pc' := 120) (n := 24) (f := v 9) C 5 0 (by rfl) rfl (vp_in_nI (by omega) (by omega)) (k := i) (nI_clamp (by omega)) dX1_advance_119 rfl (wM_set cI cZ a _ (k := 4) rfl) ?_
                refine g_iinc (pc' := 123) (v := nI (k9 + 1)) (L' := [(2, .int (nI (k9 + 1))), (0, .ref (a 0)), (1, .int x), (3, .int (nI i))]) C dX1_advance_120 rfl (k := 2) rfl (nI_1 _) (by decide) rfl ?_
                refine g_iinc (pc' := 126) (v := nI (i + 1)) (L' := [(3, .int (nI (i + 1))), (2, .int (nI (k9 + 1))), (0, .ref (a 0)), (1, .int x)]) C dX1_advance_123 rfl (k := 3) rfl (nI_1 _) (by decide) rfl ?_
                refine g_goto (tgt := 43) C dX1_advance_126 (by decide) ?_
                refine g_st (u' := eaM v i) (by unfold eaM; (repeat' split) <;> first | rfl | (exfalso; omega)) ?_
                refine g_sub (L' := [(0, .ref (a 0)), (1, .int x), (2, .int (nI (k9 + 1))), (3, .int (nI (i + 1)))]) [2, 3, 1, 0] rfl ?_
                exact ih (i + 1) (k9 + 1) (eaM v i) (by omega) (by omega) (avM_t hv (by omega) (by omega)) h0
              · skip
                refine g_iconst (pc' := 115) (v := 2) C dX1_advance_114 rfl (by decide) ?_
                refine g_goto (tgt := 119) C dX1_advance_115 (by decide) ?_
                refine g_iast (pc' := 120) (n := 24) (f := v 9) C 5 0 (by rfl) rfl (vp_in_nI (by omega) (by omega)) (k := i) (nI_clamp (by omega)) dX1_advance_119 rfl (wM_set cI cZ a _ (k := 4) rfl) ?_
                refine g_iinc (pc' := 123) (v := nI (k9 + 1)) (L' := [(2, .int (nI (k9 + 1))), (0, .ref (a 0)), (1, .int x), (3, .int (nI i))]) C dX1_advance_120 rfl (k := 2) rfl (nI_1 _) (by decide) rfl ?_
                refine g_iinc (pc' := 126) (v := nI (i + 1)) (L' := [(3, .int (nI (i + 1))), (2, .int (nI (k9 + 1))), (0, .ref (a 0)), (1, .int x)]) C dX1_advance_123 rfl (k := 3) rfl (nI_1 _) (by decide) rfl ?_
                refine g_goto (tgt := 43) C dX1_advance_126 (by decide) ?_
                refine g_st (u' := eaM v i) (by unfold eaM; (repeat' split) <;> first | rfl | (exfalso; omega)) ?_
                refine g_sub (L' := [(0, .ref (a 0)), (1, .int x), (2, .int (nI (k9 + 1))), (3, .int (nI (i + 1)))]) [2, 3, 1, 0] rfl ?_
                exact ih (i + 1) (k9 + 1) (eaM v i) (by omega) (by omega) (avM_t hv (by omega) (by omega)) h0
    refine g_sub (L' := [(0, .ref (a 0)), (1, .int x), (2, .int (nI 0)), (3, .int (nI 0))]) [2, 3, 1, 0] rfl ?_
    exact loop_43 25 0 0 (a0M u x) (by omega) (by omega) rfl rfl
set_option maxHeartbeats 4000000 in
set_option maxRecDepth 100000 in
theorem c_X1_nextFor {l : Launch} {D : va_G} {cI cZ cQ : ClassId} {a : Nat → Nat} (u : LU) (x : Int32) (hI : IM u) : KI l yX1_nextFor wsX1_nextFor ({ frames := 2, cells := 0, slots := 0, locals := 43 } : Room) D (tyX cI cZ cQ) (wM cI cZ a) [.ref (a 0), .int x] u (fun (r : Int32) (u' : LU) => (¬ (0 ≤ x.toInt ∧ x.toInt ≤ 5) ∧ u' = thM u 1) ∨ ((0 ≤ x.toInt ∧ x.toInt ≤ 5) ∧ ((buM u x ∧ r = -1) ∨ (¬ buM u x ∧ r = nfM u x (u 0 7).toInt.toNat)) ∧ u' = thM u 0)) := by
  refine ent_I (own := RX1) (maxL := 5) (cc := cX1_nextFor) (L0 := [(0, .ref (a 0)), (1, .int x)]) (by decide) rfl (wM_ok _ _ _) rfl (Nat.le_of_ble_eq_true rfl) rfl ?_
  intro p e s m args below meth c A C hr
  have FM : ∀ w ∈ wsX10, w.before args s = true := fun w h => C.2.2.2.2.1 w ((by decide +kernel : ∀ w ∈ wsX10, w ∈ wsX1_nextFor) w h)
  obtain ⟨hS2, hL7, hW15, hT10, hZ13, hP18, hO17, hR15⟩ := id hI
  refine g_aload_n (pc' := 1) (q := 0) C dX1_nextFor_0 rfl rfl rfl ?_
  refine g_iload_n (pc' := 2) (q := 1) C dX1_nextFor_1 rfl rfl rfl ?_
  refine g_calliS (pc' := 5) (As := [.int x]) (st := [.ref (a 0)]) (cells' := 0) (slots' := 0) C (c_X1_isTool _ x) gX1_nextFor_X1_isTool rfl (by decide +kernel) ⟨Nat.le_of_ble_eq_true rfl, Nat.le_of_ble_eq_true rfl⟩ (n := 1) rfl rfl (Nat.le_of_ble_eq_true rfl) dX1_nextFor_2 rfl rfl rfl ⟨Nat.le_of_ble_eq_true rfl, Nat.le_of_ble_eq_true rfl⟩ (fun r_1 u_1 h_2 => ?_)
  obtain ⟨rfl, h_2⟩ := h_2
  refine g_st h_2 ?_
  refine g_ifP_eq (tgt := 12) (pc' := 8) C dX1_nextFor_5 rfl (by decide) (fun (c_3 : ¬ (0 ≤ x.toInt ∧ x.toInt ≤ 5)) => ?_) (fun (c_3 : 0 ≤ x.toInt ∧ x.toInt ≤ 5) => ?_)
  · skip
    refine g_iconst (pc' := 13) (v := 1) C dX1_nextFor_12 rfl (by decide) ?_
    refine g_putI (pc' := 16) C FM tyX1 tyX1_ok nmX1 0 (by rfl) rfl 0 (by decide) (by decide +kernel) rfl rfl rfl (Nat.le_of_ble_eq_true rfl) dX1_nextFor_13 rfl (wM_put cI cZ a _ (f := (upd (u 0) 0 (1))) rfl) ?_
    refine g_aload_n (pc' := 17) (q := 0) C dX1_nextFor_16 rfl rfl rfl ?_
    refine g_get (pc' := 20) (v := .int 1) C FM 0 (by rfl) rfl 0 (by decide) (by decide +kernel) rfl (by rfl) dX1_nextFor_17 rfl ?_
    refine g_if_le (tgt := 25) (pc' := 23) C dX1_nextFor_20 rfl (by decide) (fun h => absurd h (by decide)) (fun _ => ?_)
    refine g_iconst (pc' := 24) (v := 0) C dX1_nextFor_23 rfl (by decide) ?_
    exact g_iret C hr rfl (Or.inl ⟨by omega, rfl⟩) dX1_nextFor_24
  · skip
    refine g_iconst (pc' := 9) (v := 0) C dX1_nextFor_8 rfl (by decide) ?_
    refine g_goto (tgt := 13) C dX1_nextFor_9 (by decide) ?_
    refine g_putI (pc' := 16) C FM tyX1 tyX1_ok nmX1 0 (by rfl) rfl 0 (by decide) (by decide +kernel) rfl rfl rfl (Nat.le_of_ble_eq_true rfl) dX1_nextFor_13 rfl (wM_put cI cZ a _ (f := (upd (u 0) 0 (0))) rfl) ?_
    refine g_aload_n (pc' := 17) (q := 0) C dX1_nextFor_16 rfl rfl rfl ?_
    refine g_get (pc' := 20) (v := .int 0) C FM 0 (by rfl) rfl 0 (by decide) (by decide +kernel) rfl (by rfl) dX1_nextFor_17 rfl ?_
    refine g_if_le (tgt := 25) (pc' := 23) C dX1_nextFor_20 rfl (by decide) (fun _ => ?_) (fun h => absurd h (by decide))
    refine g_iconst (pc' := 26) (v := (-1)) C dX1_nextFor_25 rfl (by decide) ?_
    refine g_istore_n (pc' := 27) (L' := [(2, .int ((-1))), (0, .ref (a 0)), (1, .int x)]) C dX1_nextFor_26 rfl rfl (by decide) rfl ?_
    refine g_iconst (pc' := 28) (v := 0) C dX1_nextFor_27 rfl (by decide) ?_
    refine g_istore_n (pc' := 29) (L' := [(3, .int 0), (2, .int ((-1))), (0, .ref (a 0)), (1, .int x)]) C dX1_nextFor_28 rfl rfl (by decide) rfl ?_
    have loop_29 : ∀ (k : Nat) (i : Nat) (b9 : Int32), (i : Int) ≤ (u 0 7).toInt → (u 0 7).toInt + 1 ≤ i + k → nfM u x i = b9 → (b9.toInt = -1 ∨ ∃ j : Nat, j < i ∧ b9 = nI j ∧ (u 9 j).toInt = 0) → (i = 0 ∨ ¬ buM u x) → G p l e ({ frames := 2, cells := 0, slots := 0, locals := 43 } : Room) s m args below meth c D A 5 (wM cI cZ a) 0 0 (MQ below (va_Qi (fun (r : Int32) (u' : LU) => (¬ (0 ≤ x.toInt ∧ x.toInt ≤ 5) ∧ u' = thM u 1) ∨ ((0 ≤ x.toInt ∧ x.toInt ≤ 5) ∧ ((buM u x ∧ r = -1) ∨ (¬ buM u x ∧ r = nfM u x (u 0 7).toInt.toNat)) ∧ u' = thM u 0)) (KE D (tyX cI cZ cQ) (wM cI cZ a)) A) args s 0 0 A) (thM u 0) 29 [(0, .ref (a 0)), (1, .int x), (2, .int b9), (3, .int (nI i))] [] := by
      intro k
      induction k with
      | zero =>
        intro i b9 hi hk hv hb hnb
        omega
      | succ k ih =>
        intro i b9 hi hk hv hb hnb
        refine g_iload_n (pc' := 30) (q := 3) C dX1_nextFor_29 rfl rfl rfl ?_
        refine g_aload_n (pc' := 31) (q := 0) C dX1_nextFor_30 rfl rfl rfl ?_
        refine g_get (pc' := 34) (v := .int (u 0 7)) C FM 0 (by rfl) rfl 7 (by decide) (by decide +kernel) rfl (by rfl) dX1_nextFor_31 rfl ?_
        have t_4 : (nI i).toInt = ((i : Nat) : Int) := nI_toInt (by omega)
        refine g_icmp_ge (tgt := 128) (pc' := 37) C dX1_nextFor_34 rfl (by decide) (fun (c_5 : (u 0 7).toInt ≤ (nI i).toInt) => ?_) (fun (c_5 : ¬ ((u 0 7).toInt ≤ (nI i).toInt)) => ?_)
        · skip
          refine g_iload_n (pc' := 129) (q := 2) C dX1_nextFor_128 rfl rfl rfl ?_
          exact g_iret C hr rfl (Or.inr ⟨by omega, (by first | exact nfM_end hv hnb (by omega) | exact Or.inl ⟨by assumption, hnb.elim (fun h9 => by rw [← hv, h9]; rfl) (fun h9 => absurd (by assumption) h9)⟩), rfl⟩) dX1_nextFor_129
        · skip
          refine g_aload_n (pc' := 38) (q := 0) C dX1_nextFor_37 rfl rfl rfl ?_
          refine g_iload_n (pc' := 39) (q := 1) C dX1_nextFor_38 rfl rfl rfl ?_
          refine g_calliV (pc' := 42) (As := [.int x]) (st := []) (cells' := 0) (slots' := 0) C (c_X1_isBusy _ x (by exact hL7) (by exact hT10)) gX1_nextFor_X1_isBusy rfl (by decide +kernel) ⟨Nat.le_of_ble_eq_true rfl, Nat.le_of_ble_eq_true rfl⟩ 0 (by rfl) rfl (n := 1) rfl rfl (Nat.le_of_ble_eq_true rfl) dX1_nextFor_39 rfl rfl rfl ⟨Nat.le_of_ble_eq_true rfl, Nat.le_of_ble_eq_true rfl⟩ (fun r_6 u_6 h_7 => ?_)
          obtain ⟨rfl, h_7⟩ := h_7
          refine g_st h_7 ?_
          refine g_ifP_ne (tgt := 128) (pc' := 45) C dX1_nextFor_42 rfl (by decide) (fun (c_8 : buM u x) => ?_) (fun (c_8 : ¬ (buM u x)) => ?_)
          · skip
            refine g_iload_n (pc' := 129) (q := 2) C dX1_nextFor_128 rfl rfl rfl ?_
            exact g_iret C hr rfl (Or.inr ⟨by omega, (by first | exact nfM_end hv hnb (by omega) | exact Or.inl ⟨by assumption, hnb.elim (fun h9 => by rw [← hv, h9]; rfl) (fun h9 => absurd (by assumption) h9)⟩), rfl⟩) dX1_nextFor_129
          · skip
            refine g_aload_n (pc' := 46) (q := 0) C dX1_nextFor_45 rfl rfl rfl ?_
            refine g_get (pc' := 49) (v := .ref (a 9)) C FM 0 (by rfl) rfl 8 (by decide) (by decide +kernel) rfl (by rfl) dX1_nextFor_46 rfl ?_
            refine g_iload_n (pc' := 50) (q := 3) C dX1_nextFor_49 rfl rfl rfl ?_
            refine g_iald (pc' := 51) (n := 24) (f := u 9) C 5 0 (by rfl) rfl (vp_in_nI (by omega) (by omega)) (k := i) (nI_clamp (by omega)) dX1_nextFor_50 rfl ?_
            refine g_if_ne (tgt := 90) (pc' := 54) C dX1_nextFor_51 rfl (by decide) (fun (c_9 : ¬ (u 9 i).toInt = 0) => ?_) (fun (c_9 : (u 9 i).toInt = 0) => ?_)
            · skip
              refine g_iconst (pc' := 91) (v := 0) C dX1_nextFor_90 rfl (by decide) ?_
              refine g_istore (pc' := 93) (L' := [(4, .int 0), (0, .ref (a 0)), (1, .int x), (2, .int b9), (3, .int (nI i))]) C dX1_nextFor_91 rfl (by decide) rfl ?_
              refine g_iload (pc' := 95) (q := 0) C dX1_nextFor_93 rfl rfl ?_
              refine g_if_eq (tgt := 120) (pc' := 98) C dX1_nextFor_95 rfl (by decide) (fun _ => ?_) (fun h => absurd h (by decide))
              refine g_iload_n (pc' := 121) (q := 3) C dX1_nextFor_120 rfl rfl rfl ?_
              refine g_istore_n (pc' := 122) (L' := [(2, .int b9), (4, .int 0), (0, .ref (a 0)), (1, .int x), (3, .int (nI i))]) C dX1_nextFor_121 rfl rfl (by decide) rfl ?_
              refine g_iinc (pc' := 125) (v := nI (i + 1)) (L' := [(3, .int (nI (i + 1))), (2, .int b9), (4, .int 0), (0, .ref (a 0)), (1, .int x)]) C dX1_nextFor_122 rfl (k := 4) rfl (nI_1 _) (by decide) rfl ?_
              refine g_goto (tgt := 29) C dX1_nextFor_125 (by decide) ?_
              refine g_sub (L' := [(0, .ref (a 0)), (1, .int x), (2, .int b9), (3, .int (nI (i + 1)))]) [3, 4, 1, 0] rfl ?_
              exact ih (i + 1) _ (by omega) (by omega) (nfM_f hv (by rintro ⟨q1, q2⟩; first | exact absurd q1.1 (by assumption) | exact absurd q1.2.1 (by assumption) | exact absurd (by assumption) q1.2.2.1 | exact absurd q1.2.2.2 (by assumption) | exact q2.elim (fun q => absurd q (by assumption)) (fun q => absurd q (by rw [hjj, nI_clamp (by omega)]; omega)))) (hb.elim Or.inl (fun ⟨j, hj, hjj, hj0⟩ => Or.inr ⟨j, by omega, hjj, hj0⟩)) (Or.inr (by assumption))
            · skip
              refine g_aload_n (pc' := 55) (q := 0) C dX1_nextFor_54 rfl rfl rfl ?_
              refine g_get (pc' := 58) (v := .ref (a 13)) C FM 0 (by rfl) rfl 12 (by decide) (by decide +kernel) rfl (by rfl) dX1_nextFor_55 rfl ?_
              refine g_iload_n (pc' := 59) (q := 3) C dX1_nextFor_58 rfl rfl rfl ?_
              refine g_zald (pc' := 60) (n := 24) (f := u 13) C 9 1 (by rfl) rfl (vp_in_nI (by omega) (by omega)) (k := i) (nI_clamp (by omega)) dX1_nextFor_59 rfl ?_
              refine g_if_ne (tgt := 90) (pc' := 63) C dX1_nextFor_60 rfl (by decide) (fun (c_10 : ¬ (u 13 i).toInt = 0) => ?_) (fun (c_10 : (u 13 i).toInt = 0) => ?_)
              · skip
                refine g_iconst (pc' := 91) (v := 0) C dX1_nextFor_90 rfl (by decide) ?_
                refine g_istore (pc' := 93) (L' := [(4, .int 0), (0, .ref (a 0)), (1, .int x), (2, .int b9), (3, .int (nI i))]) C dX1_nextFor_91 rfl (by decide) rfl ?_
                refine g_iload (pc' := 95) (q := 0) C dX1_nextFor_93 rfl rfl ?_
                refine g_if_eq (tgt := 120) (pc' := 98) C dX1_nextFor_95 rfl (by decide) (fun _ => ?_) (fun h => absurd h (by decide))
                refine g_iload_n (pc' := 121) (q := 3) C dX1_nextFor_120 rfl rfl rfl ?_
                refine g_istore_n (pc' := 122) (L' := [(2, .int b9), (4, .int 0), (0, .ref (a 0)), (1, .int x), (3, .int (nI i))]) C dX1_nextFor_121 rfl rfl (by decide) rfl ?_
                refine g_iinc (pc' := 125) (v := nI (i + 1)) (L' := [(3, .int (nI (i + 1))), (2, .int b9), (4, .int 0), (0, .ref (a 0)), (1, .int x)]) C dX1_nextFor_122 rfl (k := 4) rfl (nI_1 _) (by decide) rfl ?_
                refine g_goto (tgt := 29) C dX1_nextFor_125 (by decide) ?_
                refine g_sub (L' := [(0, .ref (a 0)), (1, .int x), (2, .int b9), (3, .int (nI (i + 1)))]) [3, 4, 1, 0] rfl ?_
                exact ih (i + 1) _ (by omega) (by omega) (nfM_f hv (by rintro ⟨q1, q2⟩; first | exact absurd q1.1 (by assumption) | exact absurd q1.2.1 (by assumption) | exact absurd (by assumption) q1.2.2.1 | exact absurd q1.2.2.2 (by assumption) | exact q2.elim (fun q => absurd q (by assumption)) (fun q => absurd q (by rw [hjj, nI_clamp (by omega)]; omega)))) (hb.elim Or.inl (fun ⟨j, hj, hjj, hj0⟩ => Or.inr ⟨j, by omega, hjj, hj0⟩)) (Or.inr (by assumption))
              · skip
                refine g_aload_n (pc' := 64) (q := 0) C dX1_nextFor_63 rfl rfl rfl ?_
                refine g_iload_n (pc' := 65) (q := 3) C dX1_nextFor_64 rfl rfl rfl ?_
                refine g_calliV (pc' := 68) (As := [.int (nI i)]) (st := []) (cells' := 0) (slots' := 0) C (c_X1_tooLate _ i (by omega) (by exact hT10 _ (by omega))) gX1_nextFor_X1_tooLate rfl (by decide +kernel) ⟨Nat.le_of_ble_eq_true rfl, Nat.le_of_ble_eq_true rfl⟩ 0 (by rfl) rfl (n := 1) rfl rfl (Nat.le_of_ble_eq_true rfl) dX1_nextFor_65 rfl rfl rfl ⟨Nat.le_of_ble_eq_true rfl, Nat.le_of_ble_eq_true rfl⟩ (fun r_11 u_11 h_12 => ?_)
                obtain ⟨rfl, h_12⟩ := h_12
                refine g_st h_12 ?_
                refine g_ifP_ne (tgt := 90) (pc' := 71) C dX1_nextFor_68 rfl (by decide) (fun (c_13 : tlM u i) => ?_) (fun (c_13 : ¬ (tlM u i)) => ?_)
                · skip
                  refine g_iconst (pc' := 91) (v := 0) C dX1_nextFor_90 rfl (by decide) ?_
                  refine g_istore (pc' := 93) (L' := [(4, .int 0), (0, .ref (a 0)), (1, .int x), (2, .int b9), (3, .int (nI i))]) C dX1_nextFor_91 rfl (by decide) rfl ?_
                  refine g_iload (pc' := 95) (q := 0) C dX1_nextFor_93 rfl rfl ?_
                  refine g_if_eq (tgt := 120) (pc' := 98) C dX1_nextFor_95 rfl (by decide) (fun _ => ?_) (fun h => absurd h (by decide))
                  refine g_iload_n (pc' := 121) (q := 3) C dX1_nextFor_120 rfl rfl rfl ?_
                  refine g_istore_n (pc' := 122) (L' := [(2, .int b9), (4, .int 0), (0, .ref (a 0)), (1, .int x), (3, .int (nI i))]) C dX1_nextFor_121 rfl rfl (by decide) rfl ?_
                  refine g_iinc (pc' := 125) (v := nI (i + 1)) (L' := [(3, .int (nI (i + 1))), (2, .int b9), (4, .int 0), (0, .ref (a 0)), (1, .int x)]) C dX1_nextFor_122 rfl (k := 4) rfl (nI_1 _) (by decide) rfl ?_
                  refine g_goto (tgt := 29) C dX1_nextFor_125 (by decide) ?_
                  refine g_sub (L' := [(0, .ref (a 0)), (1, .int x), (2, .int b9), (3, .int (nI (i + 1)))]) [3, 4, 1, 0] rfl ?_
                  exact ih (i + 1) _ (by omega) (by omega) (nfM_f hv (by rintro ⟨q1, q2⟩; first | exact absurd q1.1 (by assumption) | exact absurd q1.2.1 (by assumption) | exact absurd (by assumption) q1.2.2.1 | exact absurd q1.2.2.2 (by assumption) | exact q2.elim (fun q => absurd q (by assumption)) (fun q => absurd q (by rw [hjj, nI_clamp (by omega)]; omega)))) (hb.elim Or.inl (fun ⟨j, hj, hjj, hj0⟩ => Or.inr ⟨j, by omega, hjj, hj0⟩)) (Or.inr (by assumption))
                · skip
                  have hTn := hT10 i (by omega) (by omega)
                  refine g_aload_n (pc' := 72) (q := 0) C dX1_nextFor_71 rfl rfl rfl ?_
                  refine g_get (pc' := 75) (v := .ref (a 4)) C FM 0 (by rfl) rfl 3 (by decide) (by decide +kernel) rfl (by rfl) dX1_nextFor_72 rfl ?_
                  refine g_aload_n (pc' := 76) (q := 0) C dX1_nextFor_75 rfl rfl rfl ?_
                  refine g_get (pc' := 79) (v := .ref (a 10)) C FM 0 (by rfl) rfl 9 (by decide) (by decide +kernel) rfl (by rfl) dX1_nextFor_76 rfl ?_
                  refine g_iload_n (pc' := 80) (q := 3) C dX1_nextFor_79 rfl rfl rfl ?_
                  refine g_iald (pc' := 81) (n := 24) (f := u 10) C 6 0 (by rfl) rfl (vp_in_nI (by omega) (by omega)) (k := i) (nI_clamp (by omega)) dX1_nextFor_80 rfl ?_
                  refine g_iald (pc' := 82) (n := 12) (f := u 4) C 1 0 (by rfl) rfl (vp_of (by omega) (by omega)) (k := (u 10 i).toNatClampNeg) rfl dX1_nextFor_81 rfl ?_
                  refine g_iload_n (pc' := 83) (q := 1) C dX1_nextFor_82 rfl rfl rfl ?_
                  refine g_icmp_ne (tgt := 90) (pc' := 86) C dX1_nextFor_83 rfl (by decide) (fun (c_14 : ¬ (u 4 (u 10 i).toNatClampNeg).toInt = (x).toInt) => ?_) (fun (c_14 : (u 4 (u 10 i).toNatClampNeg).toInt = (x).toInt) => ?_)
                  · skip
                    refine g_iconst (pc' := 91) (v := 0) C dX1_nextFor_90 rfl (by decide) ?_
                    refine g_istore (pc' := 93) (L' := [(4, .int 0), (0, .ref (a 0)), (1, .int x), (2, .int b9), (3, .int (nI i))]) C dX1_nextFor_91 rfl (by decide) rfl ?_
                    refine g_iload (pc' := 95) (q := 0) C dX1_nextFor_93 rfl rfl ?_
                    refine g_if_eq (tgt := 120) (pc' := 98) C dX1_nextFor_95 rfl (by decide) (fun _ => ?_) (fun h => absurd h (by decide))
                    refine g_iload_n (pc' := 121) (q := 3) C dX1_nextFor_120 rfl rfl rfl ?_
                    refine g_istore_n (pc' := 122) (L' := [(2, .int b9), (4, .int 0), (0, .ref (a 0)), (1, .int x), (3, .int (nI i))]) C dX1_nextFor_121 rfl rfl (by decide) rfl ?_
                    refine g_iinc (pc' := 125) (v := nI (i + 1)) (L' := [(3, .int (nI (i + 1))), (2, .int b9), (4, .int 0), (0, .ref (a 0)), (1, .int x)]) C dX1_nextFor_122 rfl (k := 4) rfl (nI_1 _) (by decide) rfl ?_
                    refine g_goto (tgt := 29) C dX1_nextFor_125 (by decide) ?_
                    refine g_sub (L' := [(0, .ref (a 0)), (1, .int x), (2, .int b9), (3, .int (nI (i + 1)))]) [3, 4, 1, 0] rfl ?_
                    exact ih (i + 1) _ (by omega) (by omega) (nfM_f hv (by rintro ⟨q1, q2⟩; first | exact absurd q1.1 (by assumption) | exact absurd q1.2.1 (by assumption) | exact absurd (by assumption) q1.2.2.1 | exact absurd q1.2.2.2 (by assumption) | exact q2.elim (fun q => absurd q (by assumption)) (fun q => absurd q (by rw [hjj, nI_clamp (by omega)]; omega)))) (hb.elim Or.inl (fun ⟨j, hj, hjj, hj0⟩ => Or.inr ⟨j, by omega, hjj, hj0⟩)) (Or.inr (by assumption))
                  · skip
                    refine g_iconst (pc' := 87) (v := 1) C dX1_nextFor_86 rfl (by decide) ?_
                    refine g_goto (tgt := 91) C dX1_nextFor_87 (by decide) ?_
                    refine g_istore (pc' := 93) (L' := [(4, .int 1), (0, .ref (a 0)), (1, .int x), (2, .int b9), (3, .int (nI i))]) C dX1_nextFor_91 rfl (by decide) rfl ?_
                    refine g_iload (pc' := 95) (q := 0) C dX1_nextFor_93 rfl rfl ?_
                    refine g_if_eq (tgt := 120) (pc' := 98) C dX1_nextFor_95 rfl (by decide) (fun h => absurd h (by decide)) (fun _ => ?_)
                    refine g_iload_n (pc' := 99) (q := 3) C dX1_nextFor_98 rfl rfl rfl ?_
                    refine g_iconst (pc' := 100) (v := (-1)) C dX1_nextFor_99 rfl (by decide) ?_
                    refine g_icmp_eq (tgt := 116) (pc' := 103) C dX1_nextFor_100 rfl (by decide) (fun (c_15 : (b9).toInt = -1) => ?_) (fun (c_15 : ¬ ((b9).toInt = -1)) => ?_)
                    · skip
                      refine g_iload_n (pc' := 117) (q := 4) C dX1_nextFor_116 rfl rfl rfl ?_
                      refine g_goto (tgt := 121) C dX1_nextFor_117 (by decide) ?_
                      refine g_istore_n (pc' := 122) (L' := [(2, .int (nI i)), (4, .int 1), (0, .ref (a 0)), (1, .int x), (3, .int (nI i))]) C dX1_nextFor_121 rfl rfl (by decide) rfl ?_
                      refine g_iinc (pc' := 125) (v := nI (i + 1)) (L' := [(3, .int (nI (i + 1))), (2, .int (nI i)), (4, .int 1), (0, .ref (a 0)), (1, .int x)]) C dX1_nextFor_122 rfl (k := 4) rfl (nI_1 _) (by decide) rfl ?_
                      refine g_goto (tgt := 29) C dX1_nextFor_125 (by decide) ?_
                      refine g_sub (L' := [(0, .ref (a 0)), (1, .int x), (2, .int (nI i)), (3, .int (nI (i + 1)))]) [3, 4, 1, 0] rfl ?_
                      exact ih (i + 1) _ (by omega) (by omega) (nfM_t hv ⟨by assumption, by assumption, by assumption, by assumption⟩ (by first | exact Or.inl (by assumption) | (right; have q9 := hjj; subst q9; rw [nI_clamp (by omega)]; omega))) (Or.inr ⟨i, by omega, rfl, by assumption⟩) (Or.inr (by assumption))
                    · skip
                      obtain ⟨j, hj, hjj, hj0⟩ : ∃ j : Nat, j < i ∧ b9 = nI j ∧ (u 9 j).toInt = 0 := hb.resolve_left (by assumption)
                      refine g_sub (L' := [(4, .int 1), (0, .ref (a 0)), (1, .int x), (2, .int (nI j)), (3, .int (nI i))]) [0, 1, 2, 3, 4] (by rw [← hjj]; rfl) ?_
                      refine g_aload_n (pc' := 104) (q := 1) C dX1_nextFor_103 rfl rfl rfl ?_
                      refine g_iload_n (pc' := 105) (q := 4) C dX1_nextFor_104 rfl rfl rfl ?_
                      refine g_calliV (pc' := 108) (As := [.int (nI i)]) (st := []) (cells' := 0) (slots' := 0) C (c_X1_left _ i (by omega) (by have := hT10 i (by omega) (by omega); exact this)) gX1_nextFor_X1_left rfl (by decide +kernel) ⟨Nat.le_of_ble_eq_true rfl, Nat.le_of_ble_eq_true rfl⟩ 0 (by rfl) rfl (n := 1) rfl rfl (Nat.le_of_ble_eq_true rfl) dX1_nextFor_105 rfl rfl rfl ⟨Nat.le_of_ble_eq_true rfl, Nat.le_of_ble_eq_true rfl⟩ (fun r_16 u_16 h_17 => ?_)
                      obtain ⟨rfl, h_17⟩ := h_17
                      refine g_st h_17 ?_
                      refine g_aload_n (pc' := 109) (q := 1) C dX1_nextFor_108 rfl rfl rfl ?_
                      refine g_iload_n (pc' := 110) (q := 3) C dX1_nextFor_109 rfl rfl rfl ?_
                      refine g_calliV (pc' := 113) (As := [.int (nI j)]) (st := [.int (lfM u i)]) (cells' := 0) (slots' := 0) C (c_X1_left _ j (by omega) (by have := hT10 j (by omega) (by omega); exact this)) gX1_nextFor_X1_left rfl (by decide +kernel) ⟨Nat.le_of_ble_eq_true rfl, Nat.le_of_ble_eq_true rfl⟩ 0 (by rfl) rfl (n := 1) rfl rfl (Nat.le_of_ble_eq_true rfl) dX1_nextFor_110 rfl rfl rfl ⟨Nat.le_of_ble_eq_true rfl, Nat.le_of_ble_eq_true rfl⟩ (fun r_18 u_18 h_19 => ?_)
                      obtain ⟨rfl, h_19⟩ := h_19
                      refine g_st h_19 ?_
                      refine g_icmp_ge (tgt := 120) (pc' := 116) C dX1_nextFor_113 rfl (by decide) (fun (c_20 : (lfM u j).toInt ≤ (lfM u i).toInt) => ?_) (fun (c_20 : ¬ ((lfM u j).toInt ≤ (lfM u i).toInt)) => ?_)
                      · skip
                        refine g_iload_n (pc' := 121) (q := 3) C dX1_nextFor_120 rfl rfl rfl ?_
                        refine g_istore_n (pc' := 122) (L' := [(2, .int (nI j)), (4, .int 1), (0, .ref (a 0)), (1, .int x), (3, .int (nI i))]) C dX1_nextFor_121 rfl rfl (by decide) rfl ?_
                        refine g_iinc (pc' := 125) (v := nI (i + 1)) (L' := [(3, .int (nI (i + 1))), (2, .int (nI j)), (4, .int 1), (0, .ref (a 0)), (1, .int x)]) C dX1_nextFor_122 rfl (k := 4) rfl (nI_1 _) (by decide) rfl ?_
                        refine g_goto (tgt := 29) C dX1_nextFor_125 (by decide) ?_
                        have e_2 : (nI j : Int32) = b9 := hjj.symm
                        refine g_sub (L' := [(0, .ref (a 0)), (1, .int x), (2, .int b9), (3, .int (nI (i + 1)))]) [3, 4, 1, 0] (by rw [← e_2]; rfl) ?_
                        exact ih (i + 1) _ (by omega) (by omega) (nfM_f hv (by rintro ⟨q1, q2⟩; first | exact absurd q1.1 (by assumption) | exact absurd q1.2.1 (by assumption) | exact absurd (by assumption) q1.2.2.1 | exact absurd q1.2.2.2 (by assumption) | exact q2.elim (fun q => absurd q (by assumption)) (fun q => absurd q (by rw [hjj, nI_clamp (by omega)]; omega)))) (hb.elim Or.inl (fun ⟨j, hj, hjj, hj0⟩ => Or.inr ⟨j, by omega, hjj, hj0⟩)) (Or.inr (by assumption))
                      · skip
                        refine g_iload_n (pc' := 117) (q := 4) C dX1_nextFor_116 rfl rfl rfl ?_
                        refine g_goto (tgt := 121) C dX1_nextFor_117 (by decide) ?_
                        refine g_istore_n (pc' := 122) (L' := [(2, .int (nI i)), (4, .int 1), (0, .ref (a 0)), (1, .int x), (3, .int (nI i))]) C dX1_nextFor_121 rfl rfl (by decide) rfl ?_
                        refine g_iinc (pc' := 125) (v := nI (i + 1)) (L' := [(3, .int (nI (i + 1))), (2, .int (nI i)), (4, .int 1), (0, .ref (a 0)), (1, .int x)]) C dX1_nextFor_122 rfl (k := 4) rfl (nI_1 _) (by decide) rfl ?_
                        refine g_goto (tgt := 29) C dX1_nextFor_125 (by decide) ?_
                        refine g_sub (L' := [(0, .ref (a 0)), (1, .int x), (2, .int (nI i)), (3, .int (nI (i + 1)))]) [3, 4, 1, 0] rfl ?_
                        exact ih (i + 1) _ (by omega) (by omega) (nfM_t hv ⟨by assumption, by assumption, by assumption, by assumption⟩ (by first | exact Or.inl (by assumption) | (right; have q9 := hjj; subst q9; rw [nI_clamp (by omega)]; omega))) (Or.inr ⟨i, by omega, rfl, by assumption⟩) (Or.inr (by assumption))
    refine g_sub (L' := [(0, .ref (a 0)), (1, .int x), (2, .int ((-1))), (3, .int (nI 0))]) [2, 3, 1, 0] rfl ?_
    exact loop_29 25 0 _ (by omega) (by omega) rfl (Or.inl rfl) (Or.inl rfl)
set_option maxHeartbeats 4000000 in
set_option maxRecDepth 100000 in
theorem c_X1_at {l : Launch} {D : va_G} {cI cZ cQ : ClassId} {a : Nat → Nat} (u : LU) (x : Int32) (hI : IM u) : KI l yX1_at wsX1_at ({ frames := 1, cells := 0, slots := 0, locals := 23 } : Room) D (tyX cI cZ cQ) (wM cI cZ a) [.ref (a 0), .int x] u (fun (r : Int32) (u' : LU) => (¬ (0 ≤ x.toInt ∧ x.toInt < (u 0 2).toInt) ∧ u' = thM u 1) ∨ ((0 ≤ x.toInt ∧ x.toInt < (u 0 2).toInt) ∧ r = atM u x (u 0 7).toInt.toNat ∧ u' = thM u 0)) := by
  refine ent_I (own := RX1) (maxL := 4) (cc := cX1_at) (L0 := [(0, .ref (a 0)), (1, .int x)]) (by decide) rfl (wM_ok _ _ _) rfl (Nat.le_of_ble_eq_true rfl) rfl ?_
  intro p e s m args below meth c A C hr
  have FM : ∀ w ∈ wsX10, w.before args s = true := fun w h => C.2.2.2.2.1 w ((by decide +kernel : ∀ w ∈ wsX10, w ∈ wsX1_at) w h)
  obtain ⟨hS2, hL7, hW15, hT10, hZ13, hP18, hO17, hR15⟩ := id hI
  have t9 : (u 0 2 - 1).toInt = (u 0 2).toInt - (1 : Int32).toInt := ti_sub (by rw [show (1 : Int32).toInt = 1 from rfl]; omega) (by rw [show (1 : Int32).toInt = 1 from rfl]; omega)
  rw [show (1 : Int32).toInt = 1 from rfl] at t9
  refine g_aload_n (pc' := 1) (q := 0) C dX1_at_0 rfl rfl rfl ?_
  refine g_iload_n (pc' := 2) (q := 1) C dX1_at_1 rfl rfl rfl ?_
  refine g_iconst (pc' := 3) (v := 0) C dX1_at_2 rfl (by decide) ?_
  refine g_aload_n (pc' := 4) (q := 0) C dX1_at_3 rfl rfl rfl ?_
  refine g_get (pc' := 7) (v := .int (u 0 2)) C FM 0 (by rfl) rfl 2 (by decide) (by decide +kernel) rfl (by rfl) dX1_at_4 rfl ?_
  refine g_iconst (pc' := 8) (v := 1) C dX1_at_7 rfl (by decide) ?_
  refine g_isub (pc' := 9) C dX1_at_8 rfl ?_
  refine g_calliS (pc' := 12) (As := [.int x, .int 0, .int ((u 0 2) - 1)]) (st := [.ref (a 0)]) (cells' := 0) (slots' := 0) C (c_X1_in _ x 0 ((u 0 2) - 1)) gX1_at_X1_in rfl (by decide +kernel) ⟨Nat.le_of_ble_eq_true rfl, Nat.le_of_ble_eq_true rfl⟩ (n := 3) rfl rfl (Nat.le_of_ble_eq_true rfl) dX1_at_9 rfl rfl rfl ⟨Nat.le_of_ble_eq_true rfl, Nat.le_of_ble_eq_true rfl⟩ (fun r_1 u_1 h_2 => ?_)
  obtain ⟨rfl, h_2⟩ := h_2
  refine g_st h_2 ?_
  refine g_ifP_eq (tgt := 19) (pc' := 15) C dX1_at_12 rfl (by decide) (fun (c_3 : ¬ (0 ≤ x.toInt ∧ x.toInt ≤ ((u 0 2) - 1).toInt)) => ?_) (fun (c_3 : 0 ≤ x.toInt ∧ x.toInt ≤ ((u 0 2) - 1).toInt) => ?_)
  · skip
    refine g_iconst (pc' := 20) (v := 1) C dX1_at_19 rfl (by decide) ?_
    refine g_putI (pc' := 23) C FM tyX1 tyX1_ok nmX1 0 (by rfl) rfl 0 (by decide) (by decide +kernel) rfl rfl rfl (Nat.le_of_ble_eq_true rfl) dX1_at_20 rfl (wM_put cI cZ a _ (f := (upd (u 0) 0 (1))) rfl) ?_
    refine g_iconst (pc' := 24) (v := 0) C dX1_at_23 rfl (by decide) ?_
    refine g_istore_n (pc' := 25) (L' := [(2, .int 0), (0, .ref (a 0)), (1, .int x)]) C dX1_at_24 rfl rfl (by decide) rfl ?_
    refine g_iconst (pc' := 26) (v := 0) C dX1_at_25 rfl (by decide) ?_
    refine g_istore_n (pc' := 27) (L' := [(3, .int 0), (2, .int 0), (0, .ref (a 0)), (1, .int x)]) C dX1_at_26 rfl rfl (by decide) rfl ?_
    refine g_iload_n (pc' := 28) (q := 0) C dX1_at_27 rfl rfl rfl ?_
    refine g_aload_n (pc' := 29) (q := 2) C dX1_at_28 rfl rfl rfl ?_
    refine g_get (pc' := 32) (v := .int (u 0 7)) C FM 0 (by rfl) rfl 7 (by decide) (by decide +kernel) rfl (by rfl) dX1_at_29 rfl ?_
    refine g_icmp_ge (tgt := 80) (pc' := 35) C dX1_at_32 rfl (by decide) (fun (c_4 : (u 0 7).toInt ≤ 0) => ?_) (fun (c_4 : ¬ ((u 0 7).toInt ≤ 0)) => ?_)
    · skip
      refine g_iload_n (pc' := 81) (q := 1) C dX1_at_80 rfl rfl rfl ?_
      exact g_iret C hr rfl (Or.inl ⟨by omega, rfl⟩) dX1_at_81
    · skip
      refine g_aload_n (pc' := 36) (q := 2) C dX1_at_35 rfl rfl rfl ?_
      refine g_get (pc' := 39) (v := .int 1) C FM 0 (by rfl) rfl 0 (by decide) (by decide +kernel) rfl (by rfl) dX1_at_36 rfl ?_
      refine g_if_ne (tgt := 80) (pc' := 42) C dX1_at_39 rfl (by decide) (fun _ => ?_) (fun h => absurd h (by decide))
      refine g_iload_n (pc' := 81) (q := 1) C dX1_at_80 rfl rfl rfl ?_
      exact g_iret C hr rfl (Or.inl ⟨by omega, rfl⟩) dX1_at_81
  · skip
    refine g_iconst (pc' := 16) (v := 0) C dX1_at_15 rfl (by decide) ?_
    refine g_goto (tgt := 20) C dX1_at_16 (by decide) ?_
    refine g_putI (pc' := 23) C FM tyX1 tyX1_ok nmX1 0 (by rfl) rfl 0 (by decide) (by decide +kernel) rfl rfl rfl (Nat.le_of_ble_eq_true rfl) dX1_at_20 rfl (wM_put cI cZ a _ (f := (upd (u 0) 0 (0))) rfl) ?_
    refine g_iconst (pc' := 24) (v := 0) C dX1_at_23 rfl (by decide) ?_
    refine g_istore_n (pc' := 25) (L' := [(2, .int 0), (0, .ref (a 0)), (1, .int x)]) C dX1_at_24 rfl rfl (by decide) rfl ?_
    refine g_iconst (pc' := 26) (v := 0) C dX1_at_25 rfl (by decide) ?_
    refine g_istore_n (pc' := 27) (L' := [(3, .int 0), (2, .int 0), (0, .ref (a 0)), (1, .int x)]) C dX1_at_26 rfl rfl (by decide) rfl ?_
    have loop_27 : ∀ (k : Nat) (i : Nat), (i : Int) ≤ (u 0 7).toInt → (u 0 7).toInt + 1 ≤ i + k → G p l e ({ frames := 1, cells := 0, slots := 0, locals := 23 } : Room) s m args below meth c D A 4 (wM cI cZ a) 0 0 (MQ below (va_Qi (fun (r : Int32) (u' : LU) => (¬ (0 ≤ x.toInt ∧ x.toInt < (u 0 2).toInt) ∧ u' = thM u 1) ∨ ((0 ≤ x.toInt ∧ x.toInt < (u 0 2).toInt) ∧ r = atM u x (u 0 7).toInt.toNat ∧ u' = thM u 0)) (KE D (tyX cI cZ cQ) (wM cI cZ a)) A) args s 0 0 A) (thM u 0) 27 [(0, .ref (a 0)), (1, .int x), (2, .int (atM u x i)), (3, .int (nI i))] [] := by
      intro k
      induction k with
      | zero =>
        intro i hi hk
        omega
      | succ k ih =>
        intro i hi hk
        refine g_iload_n (pc' := 28) (q := 3) C dX1_at_27 rfl rfl rfl ?_
        refine g_aload_n (pc' := 29) (q := 0) C dX1_at_28 rfl rfl rfl ?_
        refine g_get (pc' := 32) (v := .int (u 0 7)) C FM 0 (by rfl) rfl 7 (by decide) (by decide +kernel) rfl (by rfl) dX1_at_29 rfl ?_
        have t_5 : (nI i).toInt = ((i : Nat) : Int) := nI_toInt (by omega)
        refine g_icmp_ge (tgt := 80) (pc' := 35) C dX1_at_32 rfl (by decide) (fun (c_6 : (u 0 7).toInt ≤ (nI i).toInt) => ?_) (fun (c_6 : ¬ ((u 0 7).toInt ≤ (nI i).toInt)) => ?_)
        · skip
          refine g_iload_n (pc' := 81) (q := 2) C dX1_at_80 rfl rfl rfl ?_
          exact g_iret C hr rfl (Or.inr ⟨by omega, by rw [show (u 0 7).toInt.toNat = i by omega], rfl⟩) dX1_at_81
        · skip
          refine g_aload_n (pc' := 36) (q := 0) C dX1_at_35 rfl rfl rfl ?_
          refine g_get (pc' := 39) (v := .int 0) C FM 0 (by rfl) rfl 0 (by decide) (by decide +kernel) rfl (by rfl) dX1_at_36 rfl ?_
          refine g_if_ne (tgt := 80) (pc' := 42) C dX1_at_39 rfl (by decide) (fun h => absurd h (by decide)) (fun _ => ?_)
          refine g_iload_n (pc' := 43) (q := 2) C dX1_at_42 rfl rfl rfl ?_
          refine g_aload_n (pc' := 44) (q := 0) C dX1_at_43 rfl rfl rfl ?_
          refine g_get (pc' := 47) (v := .ref (a 9)) C FM 0 (by rfl) rfl 8 (by decide) (by decide +kernel) rfl (by rfl) dX1_at_44 rfl ?_
          refine g_iload_n (pc' := 48) (q := 3) C dX1_at_47 rfl rfl rfl ?_
          refine g_iald (pc' := 49) (n := 24) (f := u 9) C 5 0 (by rfl) rfl (vp_in_nI (by omega) (by omega)) (k := i) (nI_clamp (by omega)) dX1_at_48 rfl ?_
          refine g_iconst (pc' := 50) (v := 1) C dX1_at_49 rfl (by decide) ?_
          refine g_icmp_gt (tgt := 71) (pc' := 53) C dX1_at_50 rfl (by decide) (fun (c_7 : 1 < (u 9 i).toInt) => ?_) (fun (c_7 : ¬ (1 < (u 9 i).toInt)) => ?_)
          · skip
            refine g_iconst (pc' := 72) (v := 0) C dX1_at_71 rfl (by decide) ?_
            refine g_iadd (pc' := 73) C dX1_at_72 rfl ?_
            refine g_istore_n (pc' := 74) (L' := [(2, .int ((atM u x i) + 0)), (0, .ref (a 0)), (1, .int x), (3, .int (nI i))]) C dX1_at_73 rfl rfl (by decide) rfl ?_
            refine g_iinc (pc' := 77) (v := nI (i + 1)) (L' := [(3, .int (nI (i + 1))), (2, .int ((atM u x i) + 0)), (0, .ref (a 0)), (1, .int x)]) C dX1_at_74 rfl (k := 3) rfl (nI_1 _) (by decide) rfl ?_
            refine g_goto (tgt := 27) C dX1_at_77 (by decide) ?_
            have e_2 : ((atM u x i) + 0 : Int32) = atM u x (i + 1) := (by simp only [atM]; rw [if_neg (by omega)])
            refine g_sub (L' := [(0, .ref (a 0)), (1, .int x), (2, .int (atM u x (i + 1))), (3, .int (nI (i + 1)))]) [2, 3, 1, 0] (by rw [← e_2]; rfl) ?_
            exact ih (i + 1) (by omega) (by omega)
          · skip
            refine g_aload_n (pc' := 54) (q := 0) C dX1_at_53 rfl rfl rfl ?_
            refine g_get (pc' := 57) (v := .ref (a 10)) C FM 0 (by rfl) rfl 9 (by decide) (by decide +kernel) rfl (by rfl) dX1_at_54 rfl ?_
            refine g_iload_n (pc' := 58) (q := 3) C dX1_at_57 rfl rfl rfl ?_
            refine g_iald (pc' := 59) (n := 24) (f := u 10) C 6 0 (by rfl) rfl (vp_in_nI (by omega) (by omega)) (k := i) (nI_clamp (by omega)) dX1_at_58 rfl ?_
            refine g_iload_n (pc' := 60) (q := 1) C dX1_at_59 rfl rfl rfl ?_
            refine g_icmp_ne (tgt := 71) (pc' := 63) C dX1_at_60 rfl (by decide) (fun (c_8 : ¬ (u 10 i).toInt = (x).toInt) => ?_) (fun (c_8 : (u 10 i).toInt = (x).toInt) => ?_)
            · skip
              refine g_iconst (pc' := 72) (v := 0) C dX1_at_71 rfl (by decide) ?_
              refine g_iadd (pc' := 73) C dX1_at_72 rfl ?_
              refine g_istore_n (pc' := 74) (L' := [(2, .int ((atM u x i) + 0)), (0, .ref (a 0)), (1, .int x), (3, .int (nI i))]) C dX1_at_73 rfl rfl (by decide) rfl ?_
              refine g_iinc (pc' := 77) (v := nI (i + 1)) (L' := [(3, .int (nI (i + 1))), (2, .int ((atM u x i) + 0)), (0, .ref (a 0)), (1, .int x)]) C dX1_at_74 rfl (k := 3) rfl (nI_1 _) (by decide) rfl ?_
              refine g_goto (tgt := 27) C dX1_at_77 (by decide) ?_
              have e_2 : ((atM u x i) + 0 : Int32) = atM u x (i + 1) := (by simp only [atM]; rw [if_neg (by omega)])
              refine g_sub (L' := [(0, .ref (a 0)), (1, .int x), (2, .int (atM u x (i + 1))), (3, .int (nI (i + 1)))]) [2, 3, 1, 0] (by rw [← e_2]; rfl) ?_
              exact ih (i + 1) (by omega) (by omega)
            · skip
              refine g_aload_n (pc' := 64) (q := 0) C dX1_at_63 rfl rfl rfl ?_
              refine g_iload_n (pc' := 65) (q := 3) C dX1_at_64 rfl rfl rfl ?_
              refine g_calliV (pc' := 68) (As := [.int (nI i)]) (st := [.int (atM u x i)]) (cells' := 0) (slots' := 0) C (c_X1_count _ (nI i) (by show 0 ≤ (u 0 15).toInt ∧ (u 0 15).toInt ≤ 60; omega)) gX1_at_X1_count rfl (by decide +kernel) ⟨Nat.le_of_ble_eq_true rfl, Nat.le_of_ble_eq_true rfl⟩ 0 (by rfl) rfl (n := 1) rfl rfl (Nat.le_of_ble_eq_true rfl) dX1_at_65 rfl rfl rfl ⟨Nat.le_of_ble_eq_true rfl, Nat.le_of_ble_eq_true rfl⟩ (fun r_9 u_9 h_10 => ?_)
              obtain ⟨rfl, h_10⟩ := h_10
              refine g_st h_10 ?_
              refine g_goto (tgt := 72) C dX1_at_68 (by decide) ?_
              refine g_iadd (pc' := 73) C dX1_at_72 rfl ?_
              refine g_istore_n (pc' := 74) (L' := [(2, .int ((atM u x i) + (nI (ctA (u 17) (nI i) (u 0 15).toInt.toNat)))), (0, .ref (a 0)), (1, .int x), (3, .int (nI i))]) C dX1_at_73 rfl rfl (by decide) rfl ?_
              refine g_iinc (pc' := 77) (v := nI (i + 1)) (L' := [(3, .int (nI (i + 1))), (2, .int ((atM u x i) + (nI (ctA (u 17) (nI i) (u 0 15).toInt.toNat)))), (0, .ref (a 0)), (1, .int x)]) C dX1_at_74 rfl (k := 3) rfl (nI_1 _) (by decide) rfl ?_
              refine g_goto (tgt := 27) C dX1_at_77 (by decide) ?_
              have e_2 : ((atM u x i) + (nI (ctA (u 17) (nI i) (u 0 15).toInt.toNat)) : Int32) = atM u x (i + 1) := (by simp only [atM]; rw [if_pos ⟨by omega, by omega⟩])
              refine g_sub (L' := [(0, .ref (a 0)), (1, .int x), (2, .int (atM u x (i + 1))), (3, .int (nI (i + 1)))]) [2, 3, 1, 0] (by rw [← e_2]; rfl) ?_
              exact ih (i + 1) (by omega) (by omega)
    refine g_sub (L' := [(0, .ref (a 0)), (1, .int x), (2, .int (atM u x 0)), (3, .int (nI 0))]) [2, 3, 1, 0] rfl ?_
    exact loop_27 25 0 (by omega) (by omega)
set_option maxHeartbeats 4000000 in
set_option maxRecDepth 100000 in
theorem c_X1_wafersAt {l : Launch} {D : va_G} {cI cZ cQ : ClassId} {a : Nat → Nat} (u : LU) (x : Int32) (hI : IM u) : KI l yX1_wafersAt wsX1_wafersAt ({ frames := 2, cells := 0, slots := 0, locals := 46 } : Room) D (tyX cI cZ cQ) (wM cI cZ a) [.ref (a 0), .int x] u (fun (r : Int32) (u' : LU) => (¬ (0 ≤ x.toInt ∧ x.toInt < (u 0 2).toInt) ∧ u' = thM u 1) ∨ ((0 ≤ x.toInt ∧ x.toInt < (u 0 2).toInt) ∧ r = atM u x (u 0 7).toInt.toNat ∧ u' = thM u 0)) := by
  refine ent_I (own := RX1) (maxL := 2) (cc := cX1_wafersAt) (L0 := [(0, .ref (a 0)), (1, .int x)]) (by decide) rfl (wM_ok _ _ _) rfl (Nat.le_of_ble_eq_true rfl) rfl ?_
  intro p e s m args below meth c A C hr
  obtain ⟨hS2, hL7, hW15, hT10, hZ13, hP18, hO17, hR15⟩ := id hI
  refine g_aload_n (pc' := 1) (q := 0) C dX1_wafersAt_0 rfl rfl rfl ?_
  refine g_iload_n (pc' := 2) (q := 1) C dX1_wafersAt_1 rfl rfl rfl ?_
  refine g_calliV (pc' := 5) (As := [.int x]) (st := []) (cells' := 0) (slots' := 0) C (c_X1_at _ x hI) gX1_wafersAt_X1_at rfl (by decide +kernel) ⟨Nat.le_of_ble_eq_true rfl, Nat.le_of_ble_eq_true rfl⟩ 0 (by rfl) rfl (n := 1) rfl rfl (Nat.le_of_ble_eq_true rfl) dX1_wafersAt_2 rfl rfl rfl ⟨Nat.le_of_ble_eq_true rfl, Nat.le_of_ble_eq_true rfl⟩ (fun r_1 u_1 h_2 => ?_)
  exact g_iret C hr rfl (by assumption) dX1_wafersAt_5
set_option maxHeartbeats 4000000 in
set_option maxRecDepth 100000 in
theorem c_X1_wafersAtByWafers {l : Launch} {D : va_G} {cI cZ cQ : ClassId} {a : Nat → Nat} (u : LU) (x : Int32) (hI : IM u) : KI l yX1_wafersAtByWafers wsX1_wafersAtByWafers ({ frames := 2, cells := 0, slots := 0, locals := 46 } : Room) D (tyX cI cZ cQ) (wM cI cZ a) [.ref (a 0), .int x] u (fun (r : Int32) (u' : LU) => (¬ (0 ≤ x.toInt ∧ x.toInt < (u 0 2).toInt) ∧ u' = thM u 1) ∨ ((0 ≤ x.toInt ∧ x.toInt < (u 0 2).toInt) ∧ r = atM u x (u 0 7).toInt.toNat ∧ u' = thM u 0)) := by
  refine ent_I (own := RX1) (maxL := 2) (cc := cX1_wafersAtByWafers) (L0 := [(0, .ref (a 0)), (1, .int x)]) (by decide) rfl (wM_ok _ _ _) rfl (Nat.le_of_ble_eq_true rfl) rfl ?_
  intro p e s m args below meth c A C hr
  obtain ⟨hS2, hL7, hW15, hT10, hZ13, hP18, hO17, hR15⟩ := id hI
  refine g_aload_n (pc' := 1) (q := 0) C dX1_wafersAtByWafers_0 rfl rfl rfl ?_
  refine g_iload_n (pc' := 2) (q := 1) C dX1_wafersAtByWafers_1 rfl rfl rfl ?_
  refine g_calliV (pc' := 5) (As := [.int x]) (st := []) (cells' := 0) (slots' := 0) C (c_X1_at _ x hI) gX1_wafersAtByWafers_X1_at rfl (by decide +kernel) ⟨Nat.le_of_ble_eq_true rfl, Nat.le_of_ble_eq_true rfl⟩ 0 (by rfl) rfl (n := 1) rfl rfl (Nat.le_of_ble_eq_true rfl) dX1_wafersAtByWafers_2 rfl rfl rfl ⟨Nat.le_of_ble_eq_true rfl, Nat.le_of_ble_eq_true rfl⟩ (fun r_1 u_1 h_2 => ?_)
  exact g_iret C hr rfl (by assumption) dX1_wafersAtByWafers_5
set_option maxHeartbeats 4000000 in
set_option maxRecDepth 100000 in
theorem c_X1_common {l : Launch} {D : va_G} {cI cZ cQ : ClassId} {a : Nat → Nat} (u : LU) (x y : Int32) (hI : IM u) : KI l yX1_common wsX1_common ({ frames := 2, cells := 0, slots := 0, locals := 43 } : Room) D (tyX cI cZ cQ) (wM cI cZ a) [.ref (a 0), .int x, .int y] u (fun (r : Int32) (u' : LU) => (¬ ((0 ≤ x.toInt ∧ x.toInt < (u 0 7).toInt) ∧ (0 ≤ y.toInt ∧ y.toInt < (u 0 7).toInt)) ∧ u' = thM u 1) ∨ ((0 ≤ x.toInt ∧ x.toInt < (u 0 7).toInt) ∧ (0 ≤ y.toInt ∧ y.toInt < (u 0 7).toInt) ∧ r = clM (chM (clr (thM u 0) 24) 25 y) 25 x ∧ u' = chM (clr (thM u 0) 24) 25 y)) := by
  refine ent_I (own := RX1) (maxL := 4) (cc := cX1_common) (L0 := [(0, .ref (a 0)), (1, .int x), (2, .int y)]) (by decide) rfl (wM_ok _ _ _) rfl (Nat.le_of_ble_eq_true rfl) rfl ?_
  intro p e s m args below meth c A C hr
  have FM : ∀ w ∈ wsX10, w.before args s = true := fun w h => C.2.2.2.2.1 w ((by decide +kernel : ∀ w ∈ wsX10, w ∈ wsX1_common) w h)
  obtain ⟨hS2, hL7, hW15, hT10, hZ13, hP18, hO17, hR15⟩ := id hI
  refine g_aload_n (pc' := 1) (q := 0) C dX1_common_0 rfl rfl rfl ?_
  refine g_aload_n (pc' := 2) (q := 0) C dX1_common_1 rfl rfl rfl ?_
  refine g_iload_n (pc' := 3) (q := 1) C dX1_common_2 rfl rfl rfl ?_
  refine g_calliV (pc' := 6) (As := [.int x]) (st := [.ref (a 0)]) (cells' := 0) (slots' := 0) C (c_X1_isLot _ x (by show 0 ≤ (u 0 7).toInt; omega)) gX1_common_X1_isLot rfl (by decide +kernel) ⟨Nat.le_of_ble_eq_true rfl, Nat.le_of_ble_eq_true rfl⟩ 0 (by rfl) rfl (n := 1) rfl rfl (Nat.le_of_ble_eq_true rfl) dX1_common_3 rfl rfl rfl ⟨Nat.le_of_ble_eq_true rfl, Nat.le_of_ble_eq_true rfl⟩ (fun r_1 u_1 h_2 => ?_)
  obtain ⟨rfl, h_2⟩ := h_2
  refine g_st h_2 ?_
  refine g_ifP_eq (tgt := 21) (pc' := 9) C dX1_common_6 rfl (by decide) (fun (c_3 : ¬ (0 ≤ x.toInt ∧ x.toInt < (u 0 7).toInt)) => ?_) (fun (c_3 : 0 ≤ x.toInt ∧ x.toInt < (u 0 7).toInt) => ?_)
  · skip
    refine g_iconst (pc' := 22) (v := 1) C dX1_common_21 rfl (by decide) ?_
    refine g_putI (pc' := 25) C FM tyX1 tyX1_ok nmX1 0 (by rfl) rfl 0 (by decide) (by decide +kernel) rfl rfl rfl (Nat.le_of_ble_eq_true rfl) dX1_common_22 rfl (wM_put cI cZ a _ (f := (upd (u 0) 0 (1))) rfl) ?_
    refine g_aload_n (pc' := 26) (q := 0) C dX1_common_25 rfl rfl rfl ?_
    refine g_get (pc' := 29) (v := .int 1) C FM 0 (by rfl) rfl 0 (by decide) (by decide +kernel) rfl (by rfl) dX1_common_26 rfl ?_
    refine g_if_le (tgt := 34) (pc' := 32) C dX1_common_29 rfl (by decide) (fun h => absurd h (by decide)) (fun _ => ?_)
    refine g_iconst (pc' := 33) (v := 0) C dX1_common_32 rfl (by decide) ?_
    exact g_iret C hr rfl (Or.inl ⟨by omega, rfl⟩) dX1_common_33
  · skip
    refine g_aload_n (pc' := 10) (q := 0) C dX1_common_9 rfl rfl rfl ?_
    refine g_iload_n (pc' := 11) (q := 2) C dX1_common_10 rfl rfl rfl ?_
    refine g_calliV (pc' := 14) (As := [.int y]) (st := [.ref (a 0)]) (cells' := 0) (slots' := 0) C (c_X1_isLot _ y (by show 0 ≤ (u 0 7).toInt; omega)) gX1_common_X1_isLot rfl (by decide +kernel) ⟨Nat.le_of_ble_eq_true rfl, Nat.le_of_ble_eq_true rfl⟩ 0 (by rfl) rfl (n := 1) rfl rfl (Nat.le_of_ble_eq_true rfl) dX1_common_11 rfl rfl rfl ⟨Nat.le_of_ble_eq_true rfl, Nat.le_of_ble_eq_true rfl⟩ (fun r_4 u_4 h_5 => ?_)
    obtain ⟨rfl, h_5⟩ := h_5
    refine g_st h_5 ?_
    refine g_ifP_eq (tgt := 21) (pc' := 17) C dX1_common_14 rfl (by decide) (fun (c_6 : ¬ (0 ≤ y.toInt ∧ y.toInt < (u 0 7).toInt)) => ?_) (fun (c_6 : 0 ≤ y.toInt ∧ y.toInt < (u 0 7).toInt) => ?_)
    · skip
      refine g_iconst (pc' := 22) (v := 1) C dX1_common_21 rfl (by decide) ?_
      refine g_putI (pc' := 25) C FM tyX1 tyX1_ok nmX1 0 (by rfl) rfl 0 (by decide) (by decide +kernel) rfl rfl rfl (Nat.le_of_ble_eq_true rfl) dX1_common_22 rfl (wM_put cI cZ a _ (f := (upd (u 0) 0 (1))) rfl) ?_
      refine g_aload_n (pc' := 26) (q := 0) C dX1_common_25 rfl rfl rfl ?_
      refine g_get (pc' := 29) (v := .int 1) C FM 0 (by rfl) rfl 0 (by decide) (by decide +kernel) rfl (by rfl) dX1_common_26 rfl ?_
      refine g_if_le (tgt := 34) (pc' := 32) C dX1_common_29 rfl (by decide) (fun h => absurd h (by decide)) (fun _ => ?_)
      refine g_iconst (pc' := 33) (v := 0) C dX1_common_32 rfl (by decide) ?_
      exact g_iret C hr rfl (Or.inl ⟨by omega, rfl⟩) dX1_common_33
    · skip
      refine g_iconst (pc' := 18) (v := 0) C dX1_common_17 rfl (by decide) ?_
      refine g_goto (tgt := 22) C dX1_common_18 (by decide) ?_
      refine g_putI (pc' := 25) C FM tyX1 tyX1_ok nmX1 0 (by rfl) rfl 0 (by decide) (by decide +kernel) rfl rfl rfl (Nat.le_of_ble_eq_true rfl) dX1_common_22 rfl (wM_put cI cZ a _ (f := (upd (u 0) 0 (0))) rfl) ?_
      refine g_aload_n (pc' := 26) (q := 0) C dX1_common_25 rfl rfl rfl ?_
      refine g_get (pc' := 29) (v := .int 0) C FM 0 (by rfl) rfl 0 (by decide) (by decide +kernel) rfl (by rfl) dX1_common_26 rfl ?_
      refine g_if_le (tgt := 34) (pc' := 32) C dX1_common_29 rfl (by decide) (fun _ => ?_) (fun h => absurd h (by decide))
      refine g_iconst (pc' := 35) (v := 0) C dX1_common_34 rfl (by decide) ?_
      refine g_istore_n (pc' := 36) (L' := [(3, .int 0), (0, .ref (a 0)), (1, .int x), (2, .int y)]) C dX1_common_35 rfl rfl (by decide) rfl ?_
      have loop_36 : ∀ (k : Nat) (i : Nat), i ≤ 24 → 25 ≤ i + k → G p l e ({ frames := 2, cells := 0, slots := 0, locals := 43 } : Room) s m args below meth c D A 4 (wM cI cZ a) 0 0 (MQ below (va_Qi (fun (r : Int32) (u' : LU) => (¬ ((0 ≤ x.toInt ∧ x.toInt < (u 0 7).toInt) ∧ (0 ≤ y.toInt ∧ y.toInt < (u 0 7).toInt)) ∧ u' = thM u 1) ∨ ((0 ≤ x.toInt ∧ x.toInt < (u 0 7).toInt) ∧ (0 ≤ y.toInt ∧ y.toInt < (u 0 7).toInt) ∧ r = clM (chM (clr (thM u 0) 24) 25 y) 25 x ∧ u' = chM (clr (thM u 0) 24) 25 y)) (KE D (tyX cI cZ cQ) (wM cI cZ a)) A) args s 0 0 A) (clr (thM u 0) i) 36 [(0, .ref (a 0)), (1, .int x), (2, .int y), (3, .int (nI i))] [] := by
        intro k
        induction k with
        | zero =>
          intro i hi hk
          omega
        | succ k ih =>
          intro i hi hk
          refine g_iload_n (pc' := 37) (q := 3) C dX1_common_36 rfl rfl rfl ?_
          refine g_bipush (pc' := 39) (v := 24) C dX1_common_37 rfl (by decide) ?_
          have t_7 : (nI i).toInt = ((i : Nat) : Int) := nI_toInt (by omega)
          refine g_icmp_ge (tgt := 55) (pc' := 42) C dX1_common_39 rfl (by decide) (fun (c_8 : 24 ≤ (nI i).toInt) => ?_) (fun (c_8 : ¬ (24 ≤ (nI i).toInt)) => ?_)
          · skip
            refine g_iload_n (pc' := 56) (q := 2) C dX1_common_55 rfl rfl rfl ?_
            refine g_istore_n (pc' := 57) (L' := [(3, .int y), (0, .ref (a 0)), (1, .int x), (2, .int y)]) C dX1_common_56 rfl rfl (by decide) rfl ?_
            have loop_57 : ∀ (k2 : Nat) (a9 : Int32) (v : LU), -1 ≤ a9.toInt → a9.toInt < (u 0 7).toInt → a9.toInt + 2 ≤ k2 → chM v k2 a9 = chM (clr (thM u 0) 24) 25 y → v 15 = u 15 → G p l e ({ frames := 2, cells := 0, slots := 0, locals := 43 } : Room) s m args below meth c D A 4 (wM cI cZ a) 0 0 (MQ below (va_Qi (fun (r : Int32) (u' : LU) => (¬ ((0 ≤ x.toInt ∧ x.toInt < (u 0 7).toInt) ∧ (0 ≤ y.toInt ∧ y.toInt < (u 0 7).toInt)) ∧ u' = thM u 1) ∨ ((0 ≤ x.toInt ∧ x.toInt < (u 0 7).toInt) ∧ (0 ≤ y.toInt ∧ y.toInt < (u 0 7).toInt) ∧ r = clM (chM (clr (thM u 0) 24) 25 y) 25 x ∧ u' = chM (clr (thM u 0) 24) 25 y)) (KE D (tyX cI cZ cQ) (wM cI cZ a)) A) args s 0 0 A) v 57 [(0, .ref (a 0)), (1, .int x), (2, .int y), (3, .int a9)] [] := by
              intro k2
              induction k2 with
              | zero =>
                intro a9 v ha hb hk2 hv h15
                omega
              | succ k2 ih =>
                intro a9 v ha hb hk2 hv h15
                have hP9 : ¬ a9.toInt = -1 → -1 ≤ (v 15 a9.toNatClampNeg).toInt ∧ (v 15 a9.toNatClampNeg).toInt < a9.toInt := fun q9 => by have e9 : ((a9.toNatClampNeg : Nat) : Int) = a9.toInt := Int.toNat_of_nonneg (by omega); have h9 := hR15 a9.toNatClampNeg (by omega); rw [h15]; omega
                refine g_iload_n (pc' := 58) (q := 3) C dX1_common_57 rfl rfl rfl ?_
                refine g_iconst (pc' := 59) (v := (-1)) C dX1_common_58 rfl (by decide) ?_
                refine g_icmp_eq (tgt := 79) (pc' := 62) C dX1_common_59 rfl (by decide) (fun (c_9 : (a9).toInt = -1) => ?_) (fun (c_9 : ¬ ((a9).toInt = -1)) => ?_)
                · skip
                  refine g_iload_n (pc' := 80) (q := 1) C dX1_common_79 rfl rfl rfl ?_
                  refine g_istore_n (pc' := 81) (L' := [(3, .int x), (0, .ref (a 0)), (1, .int x), (2, .int y)]) C dX1_common_80 rfl rfl (by decide) rfl ?_
                  have loop_81 : ∀ (k3 : Nat) (b9 : Int32), -1 ≤ b9.toInt → b9.toInt < (u 0 7).toInt → b9.toInt + 2 ≤ k3 → clM v k3 b9 = clM v 25 x → G p l e ({ frames := 2, cells := 0, slots := 0, locals := 43 } : Room) s m args below meth c D A 4 (wM cI cZ a) 0 0 (MQ below (va_Qi (fun (r : Int32) (u' : LU) => (¬ ((0 ≤ x.toInt ∧ x.toInt < (u 0 7).toInt) ∧ (0 ≤ y.toInt ∧ y.toInt < (u 0 7).toInt)) ∧ u' = thM u 1) ∨ ((0 ≤ x.toInt ∧ x.toInt < (u 0 7).toInt) ∧ (0 ≤ y.toInt ∧ y.toInt < (u 0 7).toInt) ∧ r = clM (chM (clr (thM u 0) 24) 25 y) 25 x ∧ u' = chM (clr (thM u 0) 24) 25 y)) (KE D (tyX cI cZ cQ) (wM cI cZ a)) A) args s 0 0 A) v 81 [(0, .ref (a 0)), (1, .int x), (2, .int y), (3, .int b9)] [] := by
                    intro k3
                    induction k3 with
                    | zero =>
                      intro b9 hc hd hk3 hw
                      omega
                    | succ k3 ih =>
                      intro b9 hc hd hk3 hw
                      have hP8 : ¬ b9.toInt = -1 → -1 ≤ (v 15 b9.toNatClampNeg).toInt ∧ (v 15 b9.toNatClampNeg).toInt < b9.toInt := fun q9 => by have e9 : ((b9.toNatClampNeg : Nat) : Int) = b9.toInt := Int.toNat_of_nonneg (by omega); have h9 := hR15 b9.toNatClampNeg (by omega); rw [h15]; omega
                      refine g_iload_n (pc' := 82) (q := 3) C dX1_common_81 rfl rfl rfl ?_
                      refine g_iconst (pc' := 83) (v := (-1)) C dX1_common_82 rfl (by decide) ?_
                      refine g_icmp_eq (tgt := 105) (pc' := 86) C dX1_common_83 rfl (by decide) (fun (c_10 : (b9).toInt = -1) => ?_) (fun (c_10 : ¬ ((b9).toInt = -1)) => ?_)
                      · skip
                        refine g_iload_n (pc' := 106) (q := 3) C dX1_common_105 rfl rfl rfl ?_
                        exact g_iret C hr rfl (Or.inr ⟨by omega, by omega, by rw [← hv, chM_stop (by assumption), ← hw, clM_stop (by first | exact Or.inl (by assumption) | exact Or.inr (by assumption))], by rw [← hv, chM_stop (by assumption)]⟩) dX1_common_106
                      · skip
                        refine g_aload_n (pc' := 87) (q := 0) C dX1_common_86 rfl rfl rfl ?_
                        refine g_get (pc' := 90) (v := .ref (a 20)) C FM 0 (by rfl) rfl 19 (by decide) (by decide +kernel) rfl (by rfl) dX1_common_87 rfl ?_
                        refine g_iload_n (pc' := 91) (q := 3) C dX1_common_90 rfl rfl rfl ?_
                        refine g_zald (pc' := 92) (n := 24) (f := v 20) C 15 1 (by rfl) rfl (vp_of (by omega) (by omega)) (k := b9.toNatClampNeg) rfl dX1_common_91 rfl ?_
                        refine g_if_ne (tgt := 105) (pc' := 95) C dX1_common_92 rfl (by decide) (fun (c_11 : ¬ (v 20 b9.toNatClampNeg).toInt = 0) => ?_) (fun (c_11 : (v 20 b9.toNatClampNeg).toInt = 0) => ?_)
                        · skip
                          refine g_iload_n (pc' := 106) (q := 3) C dX1_common_105 rfl rfl rfl ?_
                          exact g_iret C hr rfl (Or.inr ⟨by omega, by omega, by rw [← hv, chM_stop (by assumption), ← hw, clM_stop (by first | exact Or.inl (by assumption) | exact Or.inr (by assumption))], by rw [← hv, chM_stop (by assumption)]⟩) dX1_common_106
                        · skip
                          refine g_aload_n (pc' := 96) (q := 0) C dX1_common_95 rfl rfl rfl ?_
                          refine g_get (pc' := 99) (v := .ref (a 15)) C FM 0 (by rfl) rfl 14 (by decide) (by decide +kernel) rfl (by rfl) dX1_common_96 rfl ?_
                          refine g_iload_n (pc' := 100) (q := 3) C dX1_common_99 rfl rfl rfl ?_
                          refine g_iald (pc' := 101) (n := 24) (f := v 15) C 11 0 (by rfl) rfl (vp_of (by omega) (by omega)) (k := b9.toNatClampNeg) rfl dX1_common_100 rfl ?_
                          refine g_istore_n (pc' := 102) (L' := [(3, .int (v 15 b9.toNatClampNeg)), (0, .ref (a 0)), (1, .int x), (2, .int y)]) C dX1_common_101 rfl rfl (by decide) rfl ?_
                          refine g_goto (tgt := 81) C dX1_common_102 (by decide) ?_
                          refine g_sub (L' := [(0, .ref (a 0)), (1, .int x), (2, .int y), (3, .int (v 15 b9.toNatClampNeg))]) [1, 2, 3, 0] rfl ?_
                          exact ih _ (by omega) (by omega) (by omega) (by rw [← hw]; simp only [clM]; rw [if_neg (by omega)])
                  refine g_sub (L' := [(0, .ref (a 0)), (1, .int x), (2, .int y), (3, .int x)]) [1, 2, 3, 0] rfl ?_
                  exact loop_81 25 x (by omega) (by omega) (by omega) rfl
                · skip
                  refine g_aload_n (pc' := 63) (q := 0) C dX1_common_62 rfl rfl rfl ?_
                  refine g_get (pc' := 66) (v := .ref (a 20)) C FM 0 (by rfl) rfl 19 (by decide) (by decide +kernel) rfl (by rfl) dX1_common_63 rfl ?_
                  refine g_iload_n (pc' := 67) (q := 3) C dX1_common_66 rfl rfl rfl ?_
                  refine g_iconst (pc' := 68) (v := 1) C dX1_common_67 rfl (by decide) ?_
                  refine g_zast (pc' := 69) (n := 24) (f := v 20) C 15 1 (by rfl) rfl (by decide) (vp_of (by omega) (by omega)) (k := a9.toNatClampNeg) rfl dX1_common_68 rfl (wM_set cI cZ a _ (k := 14) rfl) ?_
                  refine g_aload_n (pc' := 70) (q := 0) C dX1_common_69 rfl rfl rfl ?_
                  refine g_get (pc' := 73) (v := .ref (a 15)) C FM 0 (by rfl) rfl 14 (by decide) (by decide +kernel) rfl (by rfl) dX1_common_70 rfl ?_
                  refine g_iload_n (pc' := 74) (q := 3) C dX1_common_73 rfl rfl rfl ?_
                  refine g_iald (pc' := 75) (n := 24) (f := v 15) C 11 0 (by rfl) rfl (vp_of (by omega) (by omega)) (k := a9.toNatClampNeg) rfl dX1_common_74 rfl ?_
                  refine g_istore_n (pc' := 76) (L' := [(3, .int (v 15 a9.toNatClampNeg)), (0, .ref (a 0)), (1, .int x), (2, .int y)]) C dX1_common_75 rfl rfl (by decide) rfl ?_
                  refine g_goto (tgt := 57) C dX1_common_76 (by decide) ?_
                  refine g_sub (L' := [(0, .ref (a 0)), (1, .int x), (2, .int y), (3, .int (v 15 a9.toNatClampNeg))]) [1, 2, 3, 0] rfl ?_
                  exact ih _ _ (by omega) (by omega) (by omega) (by rw [← hv]; simp only [chM]; rw [if_neg (by omega)]) h15
            refine g_st (u' := (clr (thM u 0) 24)) (by rw [show i = 24 by omega]) ?_
            refine g_sub (L' := [(0, .ref (a 0)), (1, .int x), (2, .int y), (3, .int y)]) [1, 2, 3, 0] rfl ?_
            exact loop_57 25 y (clr (thM u 0) 24) (by omega) (by omega) (by omega) rfl (clr_15 _ _)
          · skip
            refine g_aload_n (pc' := 43) (q := 0) C dX1_common_42 rfl rfl rfl ?_
            refine g_get (pc' := 46) (v := .ref (a 20)) C FM 0 (by rfl) rfl 19 (by decide) (by decide +kernel) rfl (by rfl) dX1_common_43 rfl ?_
            refine g_iload_n (pc' := 47) (q := 3) C dX1_common_46 rfl rfl rfl ?_
            refine g_iconst (pc' := 48) (v := 0) C dX1_common_47 rfl (by decide) ?_
            refine g_zast (pc' := 49) (n := 24) (f := (clr (thM u 0) i) 20) C 15 1 (by rfl) rfl (by decide) (vp_in_nI (by omega) (by omega)) (k := i) (nI_clamp (by omega)) dX1_common_48 rfl (wM_set cI cZ a _ (k := 14) rfl) ?_
            refine g_iinc (pc' := 52) (v := nI (i + 1)) (L' := [(3, .int (nI (i + 1))), (0, .ref (a 0)), (1, .int x), (2, .int y)]) C dX1_common_49 rfl (k := 3) rfl (nI_1 _) (by decide) rfl ?_
            refine g_goto (tgt := 36) C dX1_common_52 (by decide) ?_
            refine g_st (u' := (clr (thM u 0) (i + 1))) rfl ?_
            refine g_sub (L' := [(0, .ref (a 0)), (1, .int x), (2, .int y), (3, .int (nI (i + 1)))]) [1, 2, 3, 0] rfl ?_
            exact ih (i + 1) (by omega) (by omega)
      refine g_sub (L' := [(0, .ref (a 0)), (1, .int x), (2, .int y), (3, .int (nI 0))]) [1, 2, 3, 0] rfl ?_
      exact loop_36 25 0 (by omega) (by omega)
set_option maxHeartbeats 4000000 in
set_option maxRecDepth 100000 in
theorem c_X1_pathAt {l : Launch} {D : va_G} {cI cZ cQ : ClassId} {a : Nat → Nat} (u : LU) (x y : Int32) (hI : IM u) : KI l yX1_pathAt wsX1_pathAt ({ frames := 2, cells := 0, slots := 0, locals := 43 } : Room) D (tyX cI cZ cQ) (wM cI cZ a) [.ref (a 0), .int x, .int y] u (fun (r : Int32) (u' : LU) => (¬ (0 ≤ x.toInt ∧ x.toInt < (u 0 15).toInt) ∧ u' = thM u 1) ∨ (∃ n : Nat, x = nI n ∧ (n : Int) < (u 0 15).toInt ∧ ((¬ (0 ≤ y.toInt ∧ y.toInt ≤ (u 18 n - 1).toInt) ∧ u' = thM u 1) ∨ ((0 ≤ y.toInt ∧ y.toInt ≤ (u 18 n - 1).toInt) ∧ r = u 19 (48 * n + y.toInt.toNat) ∧ u' = thM u 0)))) := by
  refine ent_I (own := RX1) (maxL := 3) (cc := cX1_pathAt) (L0 := [(0, .ref (a 0)), (1, .int x), (2, .int y)]) (by decide) rfl (wM_ok _ _ _) rfl (Nat.le_of_ble_eq_true rfl) rfl ?_
  intro p e s m args below meth c A C hr
  have FM : ∀ w ∈ wsX10, w.before args s = true := fun w h => C.2.2.2.2.1 w ((by decide +kernel : ∀ w ∈ wsX10, w ∈ wsX1_pathAt) w h)
  obtain ⟨hS2, hL7, hW15, hT10, hZ13, hP18, hO17, hR15⟩ := id hI
  refine g_aload_n (pc' := 1) (q := 0) C dX1_pathAt_0 rfl rfl rfl ?_
  refine g_aload_n (pc' := 2) (q := 0) C dX1_pathAt_1 rfl rfl rfl ?_
  refine g_iload_n (pc' := 3) (q := 1) C dX1_pathAt_2 rfl rfl rfl ?_
  refine g_calliV (pc' := 6) (As := [.int x]) (st := [.ref (a 0)]) (cells' := 0) (slots' := 0) C (c_X1_isWafer _ x (by show 0 ≤ (u 0 15).toInt; omega)) gX1_pathAt_X1_isWafer rfl (by decide +kernel) ⟨Nat.le_of_ble_eq_true rfl, Nat.le_of_ble_eq_true rfl⟩ 0 (by rfl) rfl (n := 1) rfl rfl (Nat.le_of_ble_eq_true rfl) dX1_pathAt_3 rfl rfl rfl ⟨Nat.le_of_ble_eq_true rfl, Nat.le_of_ble_eq_true rfl⟩ (fun r_1 u_1 h_2 => ?_)
  obtain ⟨rfl, h_2⟩ := h_2
  refine g_st h_2 ?_
  refine g_ifP_eq (tgt := 29) (pc' := 9) C dX1_pathAt_6 rfl (by decide) (fun (c_3 : ¬ (0 ≤ x.toInt ∧ x.toInt < (u 0 15).toInt)) => ?_) (fun (c_3 : 0 ≤ x.toInt ∧ x.toInt < (u 0 15).toInt) => ?_)
  · skip
    refine g_iconst (pc' := 30) (v := 1) C dX1_pathAt_29 rfl (by decide) ?_
    refine g_putI (pc' := 33) C FM tyX1 tyX1_ok nmX1 0 (by rfl) rfl 0 (by decide) (by decide +kernel) rfl rfl rfl (Nat.le_of_ble_eq_true rfl) dX1_pathAt_30 rfl (wM_put cI cZ a _ (f := (upd (u 0) 0 (1))) rfl) ?_
    refine g_aload_n (pc' := 34) (q := 0) C dX1_pathAt_33 rfl rfl rfl ?_
    refine g_get (pc' := 37) (v := .int 1) C FM 0 (by rfl) rfl 0 (by decide) (by decide +kernel) rfl (by rfl) dX1_pathAt_34 rfl ?_
    refine g_if_le (tgt := 44) (pc' := 40) C dX1_pathAt_37 rfl (by decide) (fun h => absurd h (by decide)) (fun _ => ?_)
    refine g_iconst (pc' := 41) (v := 0) C dX1_pathAt_40 rfl (by decide) ?_
    refine g_goto (tgt := 55) C dX1_pathAt_41 (by decide) ?_
    exact g_iret C hr rfl (Or.inl ⟨by omega, rfl⟩) dX1_pathAt_55
  · skip
    obtain ⟨n, hn, rfl⟩ := nI_of_ti (x := x) (n := 60) (by omega) (by omega) (by decide)
    have tn : (nI n).toInt = (n : Int) := nI_toInt (by omega)
    have hPn := hP18 n (by omega)
    have t9 : (u 18 n - 1).toInt = (u 18 n).toInt - (1 : Int32).toInt := ti_sub (by rw [show (1 : Int32).toInt = 1 from rfl]; omega) (by rw [show (1 : Int32).toInt = 1 from rfl]; omega)
    rw [show (1 : Int32).toInt = 1 from rfl] at t9
    refine g_iload_n (pc' := 10) (q := 2) C dX1_pathAt_9 rfl rfl rfl ?_
    refine g_iconst (pc' := 11) (v := 0) C dX1_pathAt_10 rfl (by decide) ?_
    refine g_aload_n (pc' := 12) (q := 0) C dX1_pathAt_11 rfl rfl rfl ?_
    refine g_get (pc' := 15) (v := .ref (a 18)) C FM 0 (by rfl) rfl 17 (by decide) (by decide +kernel) rfl (by rfl) dX1_pathAt_12 rfl ?_
    refine g_iload_n (pc' := 16) (q := 1) C dX1_pathAt_15 rfl rfl rfl ?_
    refine g_iald (pc' := 17) (n := 60) (f := u 18) C 13 0 (by rfl) rfl (vp_in_nI (by omega) (by omega)) (k := n) (nI_clamp (by omega)) dX1_pathAt_16 rfl ?_
    refine g_iconst (pc' := 18) (v := 1) C dX1_pathAt_17 rfl (by decide) ?_
    refine g_isub (pc' := 19) C dX1_pathAt_18 rfl ?_
    refine g_calliS (pc' := 22) (As := [.int y, .int 0, .int ((u 18 n) - 1)]) (st := [.ref (a 0)]) (cells' := 0) (slots' := 0) C (c_X1_in _ y 0 ((u 18 n) - 1)) gX1_pathAt_X1_in rfl (by decide +kernel) ⟨Nat.le_of_ble_eq_true rfl, Nat.le_of_ble_eq_true rfl⟩ (n := 3) rfl rfl (Nat.le_of_ble_eq_true rfl) dX1_pathAt_19 rfl rfl rfl ⟨Nat.le_of_ble_eq_true rfl, Nat.le_of_ble_eq_true rfl⟩ (fun r_4 u_4 h_5 => ?_)
    obtain ⟨rfl, h_5⟩ := h_5
    refine g_st h_5 ?_
    refine g_ifP_eq (tgt := 29) (pc' := 25) C dX1_pathAt_22 rfl (by decide) (fun (c_6 : ¬ (0 ≤ y.toInt ∧ y.toInt ≤ ((u 18 n) - 1).toInt)) => ?_) (fun (c_6 : 0 ≤ y.toInt ∧ y.toInt ≤ ((u 18 n) - 1).toInt) => ?_)
    · skip
      refine g_iconst (pc' := 30) (v := 1) C dX1_pathAt_29 rfl (by decide) ?_
      refine g_putI (pc' := 33) C FM tyX1 tyX1_ok nmX1 0 (by rfl) rfl 0 (by decide) (by decide +kernel) rfl rfl rfl (Nat.le_of_ble_eq_true rfl) dX1_pathAt_30 rfl (wM_put cI cZ a _ (f := (upd (u 0) 0 (1))) rfl) ?_
      refine g_aload_n (pc' := 34) (q := 0) C dX1_pathAt_33 rfl rfl rfl ?_
      refine g_get (pc' := 37) (v := .int 1) C FM 0 (by rfl) rfl 0 (by decide) (by decide +kernel) rfl (by rfl) dX1_pathAt_34 rfl ?_
      refine g_if_le (tgt := 44) (pc' := 40) C dX1_pathAt_37 rfl (by decide) (fun h => absurd h (by decide)) (fun _ => ?_)
      refine g_iconst (pc' := 41) (v := 0) C dX1_pathAt_40 rfl (by decide) ?_
      refine g_goto (tgt := 55) C dX1_pathAt_41 (by decide) ?_
      exact g_iret C hr rfl (Or.inr ⟨n, rfl, by omega, Or.inl ⟨by omega, rfl⟩⟩) dX1_pathAt_55
    · skip
      refine g_iconst (pc' := 26) (v := 0) C dX1_pathAt_25 rfl (by decide) ?_
      refine g_goto (tgt := 30) C dX1_pathAt_26 (by decide) ?_
      refine g_putI (pc' := 33) C FM tyX1 tyX1_ok nmX1 0 (by rfl) rfl 0 (by decide) (by decide +kernel) rfl rfl rfl (Nat.le_of_ble_eq_true rfl) dX1_pathAt_30 rfl (wM_put cI cZ a _ (f := (upd (u 0) 0 (0))) rfl) ?_
      refine g_aload_n (pc' := 34) (q := 0) C dX1_pathAt_33 rfl rfl rfl ?_
      refine g_get (pc' := 37) (v := .int 0) C FM 0 (by rfl) rfl 0 (by decide) (by decide +kernel) rfl (by rfl) dX1_pathAt_34 rfl ?_
      refine g_if_le (tgt := 44) (pc' := 40) C dX1_pathAt_37 rfl (by decide) (fun _ => ?_) (fun h => absurd h (by decide))
      refine g_aload_n (pc' := 45) (q := 0) C dX1_pathAt_44 rfl rfl rfl ?_
      refine g_get (pc' := 48) (v := .ref (a 19)) C FM 0 (by rfl) rfl 18 (by decide) (by decide +kernel) rfl (by rfl) dX1_pathAt_45 rfl ?_
      refine g_bipush (pc' := 50) (v := 48) C dX1_pathAt_48 rfl (by decide) ?_
      refine g_iload_n (pc' := 51) (q := 1) C dX1_pathAt_50 rfl rfl rfl ?_
      refine g_imul (pc' := 52) C dX1_pathAt_51 rfl ?_
      refine g_iload_n (pc' := 53) (q := 2) C dX1_pathAt_52 rfl rfl rfl ?_
      refine g_iadd (pc' := 54) C dX1_pathAt_53 rfl ?_
      refine g_iald (pc' := 55) (n := 2880) (f := u 19) C 14 0 (by rfl) rfl (ix48_in hn (by omega)) (k := (48 * n + y.toInt.toNat)) (ix48_k hn (by omega)) dX1_pathAt_54 rfl ?_
      exact g_iret C hr rfl (Or.inr ⟨n, rfl, by omega, Or.inr ⟨by omega, rfl, rfl⟩⟩) dX1_pathAt_55
