/-! the law's helpers -/
section GSL
variable {S : Type} {p : Program} {l : Launch} {e : Env} {R : Room} {s : State} {m : MethodId} {args : Array Value} {below : List Frame} {meth : Method} {c : Code} {D : va_G} {tys : List (ClassId × FieldType)} {A : Nat → Prop} {own : String} {cc : ByteArray} {Ts : List Cond} {nL : Nat} {wf : S → va_W} {cells slots cells' slots' : Nat} {Q : State → Prop} {u : S} {pc pc' : Nat} {L : List (Nat × Value)} {st st0 As : List Value} {tx : List (Nat × String)}
theorem g_sld (C : CX p s m args meth c D tys A own cc Ts nL wf) {b L9 k : Nat} {xs : Nat → Int32} (hX : va_X b L9 xs s s.heap) (hbl : b < s.heap.size) (hbA : ¬ A b) {i : Int32} (hin : vp_in i L9) (hk : i.toNatClampNeg = k) (hdg : decode cc pc = .ok (.iaload, 1)) (hp : pc + 1 = pc')
    (kk : G p l e R s m args below meth c D A nL wf cells slots Q u pc' L (.int (xs k) :: st)) : G p l e R s m args below meth c D A nL wf cells slots Q u pc L (.int i :: .ref b :: st) := by
  subst hp; subst hk; exact fun H locs ls hP hS hl => va_sld C.1 C.2.1 hX hbl hbA hS hin hdg (kk H locs ls hP hS hl)
theorem g_slen (C : CX p s m args meth c D tys A own cc Ts nL wf) {b L9 : Nat} {xs : Nat → Int32} (hX : va_X b L9 xs s s.heap) (hbl : b < s.heap.size) (hbA : ¬ A b) (hdg : decode cc pc = .ok (.arraylength, 1)) (hp : pc + 1 = pc')
    (kk : G p l e R s m args below meth c D A nL wf cells slots Q u pc' L (.int (nI L9) :: st)) : G p l e R s m args below meth c D A nL wf cells slots Q u pc L (.ref b :: st) := by
  subst hp; exact fun H locs ls hP hS hl => va_slen C.1 C.2.1 hX hbl hbA hS hdg (kk H locs ls hP hS hl)
end GSL
set_option maxHeartbeats 4000000 in
set_option maxRecDepth 100000 in
theorem c_L_cell {l : Launch} {D : va_G} {b L9 : Nat} {xs : Nat → Int32} (k : Int32) (hL : L9 < 2 ^ 31) (hk : 0 ≤ k.toInt) : KS l yL_cell wsL_cell ({ frames := 0, cells := 0, slots := 0, locals := 0 } : Room) D b L9 xs [.ref b, .int k] := by
  refine ent_S (own := RL) (maxL := 2) (cc := cL_cell) (L0 := [(0, .ref b), (1, .int k)]) (by decide) rfl rfl (Nat.le_of_ble_eq_true rfl) rfl ?_
  intro p e s m args below meth c A C hr hX hbl hbA
  have tL : (nI L9).toInt = (L9 : Int) := nI_toInt hL
  refine g_iload_n (pc' := 1) (q := 1) C dL_cell_0 rfl rfl rfl ?_
  refine g_aload_n (pc' := 2) (q := 0) C dL_cell_1 rfl rfl rfl ?_
  refine g_slen (pc' := 3) C hX hbl hbA dL_cell_2 rfl ?_
  refine g_icmp_ge (tgt := 12) (pc' := 6) C dL_cell_3 rfl (by decide) (fun c1 => ?_) (fun c1 => ?_)
  · refine g_sipush (pc' := 15) (v := 7919) C dL_cell_12 rfl (by decide) ?_
    refine g_iload_n (pc' := 16) (q := 1) C dL_cell_15 rfl rfl rfl ?_
    refine g_iconst (pc' := 17) (v := 3) C dL_cell_16 rfl (by decide) ?_
    refine g_iadd (pc' := 18) C dL_cell_17 rfl ?_
    refine g_imul (pc' := 19) C dL_cell_18 rfl ?_
    refine g_iload_n (pc' := 20) (q := 1) C dL_cell_19 rfl rfl rfl ?_
    refine g_bipush (pc' := 22) (v := 11) C dL_cell_20 rfl (by decide) ?_
    refine g_iadd (pc' := 23) C dL_cell_22 rfl ?_
    refine g_imul (pc' := 24) C dL_cell_23 rfl ?_
    exact g_iret C hr rfl trivial dL_cell_24
  · refine g_aload_n (pc' := 7) (q := 0) C dL_cell_6 rfl rfl rfl ?_
    refine g_iload_n (pc' := 8) (q := 1) C dL_cell_7 rfl rfl rfl ?_
    refine g_sld (pc' := 9) (k := k.toNatClampNeg) C hX hbl hbA (vp_of (by omega) (by omega)) rfl dL_cell_8 rfl ?_
    refine g_goto (tgt := 24) C dL_cell_9 (by decide) ?_
    exact g_iret C hr rfl trivial dL_cell_24
set_option maxHeartbeats 4000000 in
set_option maxRecDepth 100000 in
theorem c_L_low {l : Launch} {D : va_G} {cI cZ cQ : ClassId} {a : Nat → Nat} (u : LU) (v n : Int32) (hn : 0 < n.toInt) : KI l yL_low wsL_low ({ frames := 0, cells := 0, slots := 0, locals := 0 } : Room) D (tyX cI cZ cQ) (wX cI cZ cQ a) [.int v, .int n] u (fun (r : Int32) (u' : LU) => (0 ≤ r.toInt ∧ r.toInt < n.toInt) ∧ u' = u) := by
  refine ent_I (own := RL) (maxL := 2) (cc := cL_low) (L0 := [(0, .int v), (1, .int n)]) (by decide) rfl (wX_ok _ _ _ _) rfl (Nat.le_of_ble_eq_true rfl) rfl ?_
  intro p e s m args below meth c A C hr
  refine g_iload_n (pc' := 1) (q := 0) C dL_low_0 rfl rfl rfl ?_
  refine g_ldc (pc' := 3) (v := 2147483647) C dL_low_1 rfl (by decide +kernel) ?_
  refine g_iand (pc' := 4) C dL_low_3 rfl ?_
  refine g_iload_n (pc' := 5) (q := 1) C dL_low_4 rfl rfl rfl ?_
  refine g_irem (pc' := 6) C dL_low_5 rfl (fun z => by rw [z] at hn; exact absurd hn (by decide)) ?_
  exact g_iret C hr rfl ⟨low_ok hn, rfl⟩ dL_low_6
set_option maxHeartbeats 4000000 in
set_option maxRecDepth 100000 in
theorem c_L_isWafer {l : Launch} {D : va_G} {cI cZ cQ : ClassId} {a : Nat → Nat} (u : LU) (w : Nat) {sn : Nat} {B : Int} (hI : Inv sn B u) (hs : sn ≤ 12) (hw : (w : Int) < (u 0 16).toInt) : KI l yL_isWafer wsL_isWafer ({ frames := 3, cells := 0, slots := 0, locals := 63 } : Room) D (tyX cI cZ cQ) (wX cI cZ cQ a) [.ref (a 0), .int (nI w)] u (fun (r : Int32) (u' : LU) => r = 1 ∧ u' = u) := by
  refine ent_I (own := RL) (maxL := 8) (cc := cL_isWafer) (L0 := [(0, .ref (a 0)), (1, .int (nI w))]) (by decide) rfl (wX_ok _ _ _ _) rfl (Nat.le_of_ble_eq_true rfl) rfl ?_
  intro p e s m args below meth c A C hr
  have hIX := hI.1.ix hs
  have h12 := hI.1.1.2.1
  have h16 := hI.1.1.2.2.1
  obtain ⟨mm, qq, hm, hPA⟩ := hI.1.2.2.2.2.2.1 w hw
  have hgr := hPA.grow hI.1.2.2.2.1 h12.2
  obtain ⟨p1, p2, p3, p4, p5⟩ := hPA
  have t16 : (u 16 w).toInt = (mm : Int) + 1 := by rw [p1, ti_nI (by omega)]; rfl
  have hup : ∀ j, j < mm → qq j < qq (j + 1) := fun j hj => by
    have h2 := (p2 (j + 1) (by omega)).2
    have h3 := (hI.1.2.2.2.1 _ h2).2.2.1
    have h4 := hgr j (by omega)
    rw [p4 j hj, ti_nI (by omega)] at h3
    omega
  have hqm := p2 mm (Nat.le_refl mm)
  have hq0 := p2 0 (Nat.zero_le mm)
  refine g_aload_n (pc' := 1) (q := 0) C dL_isWafer_0 rfl rfl rfl ?_
  refine g_iload_n (pc' := 2) (q := 1) C dL_isWafer_1 rfl rfl rfl ?_
  refine g_calliV (pc' := 5) (As := [.int (nI w)]) (st := []) (cells' := 0) (slots' := 0) C (q_lotOf u w hIX (by omega)) gL_isWafer_X0_lotOf rfl (by decide +kernel) ⟨Nat.le_of_ble_eq_true rfl, Nat.le_of_ble_eq_true rfl⟩ 0 (by rfl) rfl (n := 1) rfl rfl (Nat.le_of_ble_eq_true rfl) dL_isWafer_2 rfl rfl rfl ⟨Nat.le_of_ble_eq_true rfl, Nat.le_of_ble_eq_true rfl⟩ (fun r_1 u_1 h_2 => ?_)
  obtain ⟨rfl, h_2⟩ := h_2
  refine g_st h_2 ?_
  refine g_istore_n (pc' := 6) (L' := [(2, .int (u 14 w)), (0, .ref (a 0)), (1, .int (nI w))]) C dL_isWafer_5 rfl rfl (by decide) rfl ?_
  refine g_aload_n (pc' := 7) (q := 1) C dL_isWafer_6 rfl rfl rfl ?_
  refine g_iload_n (pc' := 8) (q := 2) C dL_isWafer_7 rfl rfl rfl ?_
  refine g_calliV (pc' := 11) (As := [.int (nI w)]) (st := []) (cells' := 0) (slots' := 0) C (q_path u w hIX (by omega)) gL_isWafer_X0_path rfl (by decide +kernel) ⟨Nat.le_of_ble_eq_true rfl, Nat.le_of_ble_eq_true rfl⟩ 0 (by rfl) rfl (n := 1) rfl rfl (Nat.le_of_ble_eq_true rfl) dL_isWafer_8 rfl rfl rfl ⟨Nat.le_of_ble_eq_true rfl, Nat.le_of_ble_eq_true rfl⟩ (fun r_3 u_3 h_4 => ?_)
  obtain ⟨rfl, h_4⟩ := h_4
  refine g_st h_4 ?_
  refine g_conv (show (u 16 w : Int32) = nI (mm + 1) from p1) ?_
  refine g_istore_n (pc' := 12) (L' := [(3, .int (nI (mm + 1))), (2, .int (u 14 w)), (0, .ref (a 0)), (1, .int (nI w))]) C dL_isWafer_11 rfl rfl (by decide) rfl ?_
  refine g_iload_n (pc' := 13) (q := 0) C dL_isWafer_12 rfl rfl rfl ?_
  refine g_iconst (pc' := 14) (v := 1) C dL_isWafer_13 rfl (by decide) ?_
  have t_5 : (nI (mm + 1)).toInt = ((mm + 1 : Nat) : Int) := nI_toInt (by omega)
  refine g_icmp_lt (tgt := 61) (pc' := 17) C dL_isWafer_14 rfl (by decide) (fun (c_6 : (nI (mm + 1)).toInt < 1) => ?_) (fun (c_6 : ¬ ((nI (mm + 1)).toInt < 1)) => ?_)
  · exact absurd (show False by omega) id
  · skip
    refine g_aload_n (pc' := 18) (q := 2) C dL_isWafer_17 rfl rfl rfl ?_
    refine g_aload_n (pc' := 19) (q := 2) C dL_isWafer_18 rfl rfl rfl ?_
    refine g_iload_n (pc' := 20) (q := 3) C dL_isWafer_19 rfl rfl rfl ?_
    refine g_iconst (pc' := 21) (v := 0) C dL_isWafer_20 rfl (by decide) ?_
    refine g_conv (show (0 : Int32) = nI 0 from rfl) ?_
    refine g_calliV (pc' := 24) (As := [.int (nI w), .int (nI 0)]) (st := [.ref (a 0)]) (cells' := 0) (slots' := 0) C (q_pathAt u w 0 hIX (by omega) (by omega)) gL_isWafer_X0_pathAt rfl (by decide +kernel) ⟨Nat.le_of_ble_eq_true rfl, Nat.le_of_ble_eq_true rfl⟩ 0 (by rfl) rfl (n := 2) rfl rfl (Nat.le_of_ble_eq_true rfl) dL_isWafer_21 rfl rfl rfl ⟨Nat.le_of_ble_eq_true rfl, Nat.le_of_ble_eq_true rfl⟩ (fun r_7 u_7 h_8 => ?_)
    obtain ⟨rfl, h_8⟩ := h_8
    refine g_st h_8 ?_
    refine g_conv (show (u (100 + w) 0 : Int32) = nI (qq 0) from hq0.1) ?_
    refine g_calliV (pc' := 27) (As := [.int (nI (qq 0))]) (st := []) (cells' := 0) (slots' := 0) C (q_parentOf u (qq 0) hIX hq0.2) gL_isWafer_X0_parentOf rfl (by decide +kernel) ⟨Nat.le_of_ble_eq_true rfl, Nat.le_of_ble_eq_true rfl⟩ 0 (by rfl) rfl (n := 1) rfl rfl (Nat.le_of_ble_eq_true rfl) dL_isWafer_24 rfl rfl rfl ⟨Nat.le_of_ble_eq_true rfl, Nat.le_of_ble_eq_true rfl⟩ (fun r_9 u_9 h_10 => ?_)
    obtain ⟨rfl, h_10⟩ := h_10
    refine g_st h_10 ?_
    refine g_conv (show (u 11 (qq 0) : Int32) = (-1) from p3) ?_
    refine g_iconst (pc' := 28) (v := (-1)) C dL_isWafer_27 rfl (by decide) ?_
    refine g_icmp_ne (tgt := 61) (pc' := 31) C dL_isWafer_28 rfl (by decide) (fun h => absurd h (by decide)) (fun _ => ?_)
    refine g_iload_n (pc' := 32) (q := 1) C dL_isWafer_31 rfl rfl rfl ?_
    refine g_iconst (pc' := 33) (v := (-1)) C dL_isWafer_32 rfl (by decide) ?_
    refine g_icmp_eq (tgt := 57) (pc' := 36) C dL_isWafer_33 rfl (by decide) (fun (c_11 : (u 14 w).toInt = -1) => ?_) (fun (c_11 : ¬ ((u 14 w).toInt = -1)) => ?_)
    · skip
      refine g_iconst (pc' := 58) (v := 1) C dL_isWafer_57 rfl (by decide) ?_
      refine g_goto (tgt := 62) C dL_isWafer_58 (by decide) ?_
      refine g_istore (pc' := 64) (L' := [(4, .int 1), (3, .int (nI (mm + 1))), (2, .int (u 14 w)), (0, .ref (a 0)), (1, .int (nI w))]) C dL_isWafer_62 rfl (by decide) rfl ?_
      refine g_iconst (pc' := 65) (v := 1) C dL_isWafer_64 rfl (by decide) ?_
      refine g_istore (pc' := 67) (L' := [(5, .int 1), (4, .int 1), (3, .int (nI (mm + 1))), (2, .int (u 14 w)), (0, .ref (a 0)), (1, .int (nI w))]) C dL_isWafer_65 rfl (by decide) rfl ?_
      have loop_67 : ∀ (k : Nat) (i : Nat), i ≤ mm → mm + 1 ≤ i + k → G p l e ({ frames := 3, cells := 0, slots := 0, locals := 63 } : Room) s m args below meth c D A 8 (wX cI cZ cQ a) 0 0 (MQ below (va_Qi (fun (r : Int32) (u' : LU) => r = 1 ∧ u' = u) (KE D (tyX cI cZ cQ) (wX cI cZ cQ a)) A) args s 0 0 A) u 67 [(0, .ref (a 0)), (1, .int (nI w)), (2, .int (u 14 w)), (3, .int (nI (mm + 1))), (4, .int 1), (5, .int (nI (i + 1)))] [] := by
        intro k
        induction k with
        | zero =>
          intro i hi hk
          omega
        | succ k ih_67 =>
          intro i hi hk
          refine g_iload (pc' := 69) (q := 5) C dL_isWafer_67 rfl rfl ?_
          refine g_iload_n (pc' := 70) (q := 3) C dL_isWafer_69 rfl rfl rfl ?_
          have t_12 : (nI (i + 1)).toInt = ((i + 1 : Nat) : Int) := nI_toInt (by omega)
          have t_13 : (nI (mm + 1)).toInt = ((mm + 1 : Nat) : Int) := nI_toInt (by omega)
          refine g_icmp_ge (tgt := 139) (pc' := 73) C dL_isWafer_70 rfl (by decide) (fun (c_14 : (nI (mm + 1)).toInt ≤ (nI (i + 1)).toInt) => ?_) (fun (c_14 : ¬ ((nI (mm + 1)).toInt ≤ (nI (i + 1)).toInt)) => ?_)
          · skip
            refine g_iload (pc' := 141) (q := 4) C dL_isWafer_139 rfl rfl ?_
            exact g_iret C hr (by decide) ⟨rfl, rfl⟩ dL_isWafer_141
          · skip
            refine g_iload (pc' := 75) (q := 4) C dL_isWafer_73 rfl rfl ?_
            refine g_if_eq (tgt := 139) (pc' := 78) C dL_isWafer_75 rfl (by decide) (fun h => absurd h (by decide)) (fun _ => ?_)
            refine g_aload_n (pc' := 79) (q := 0) C dL_isWafer_78 rfl rfl rfl ?_
            refine g_iload_n (pc' := 80) (q := 1) C dL_isWafer_79 rfl rfl rfl ?_
            refine g_iload (pc' := 82) (q := 5) C dL_isWafer_80 rfl rfl ?_
            refine g_iconst (pc' := 83) (v := 1) C dL_isWafer_82 rfl (by decide) ?_
            refine g_isub (pc' := 84) C dL_isWafer_83 rfl ?_
            refine g_conv (show ((nI (i + 1)) - 1 : Int32) = nI i from nI_pred i) ?_
            refine g_calliV (pc' := 87) (As := [.int (nI w), .int (nI i)]) (st := []) (cells' := 0) (slots' := 0) C (q_pathAt u w i hIX (by omega) (by omega)) gL_isWafer_X0_pathAt rfl (by decide +kernel) ⟨Nat.le_of_ble_eq_true rfl, Nat.le_of_ble_eq_true rfl⟩ 0 (by rfl) rfl (n := 2) rfl rfl (Nat.le_of_ble_eq_true rfl) dL_isWafer_84 rfl rfl rfl ⟨Nat.le_of_ble_eq_true rfl, Nat.le_of_ble_eq_true rfl⟩ (fun r_15 u_15 h_16 => ?_)
            obtain ⟨rfl, h_16⟩ := h_16
            refine g_st h_16 ?_
            refine g_conv (show (u (100 + w) i : Int32) = nI (qq i) from (p2 i (by omega)).1) ?_
            refine g_istore (pc' := 89) (L' := [(6, .int (nI (qq i))), (0, .ref (a 0)), (1, .int (nI w)), (2, .int (u 14 w)), (3, .int (nI (mm + 1))), (4, .int 1), (5, .int (nI (i + 1)))]) C dL_isWafer_87 rfl (by decide) rfl ?_
            refine g_aload_n (pc' := 90) (q := 1) C dL_isWafer_89 rfl rfl rfl ?_
            refine g_iload_n (pc' := 91) (q := 2) C dL_isWafer_90 rfl rfl rfl ?_
            refine g_iload (pc' := 93) (q := 6) C dL_isWafer_91 rfl rfl ?_
            refine g_calliV (pc' := 96) (As := [.int (nI w), .int (nI (i + 1))]) (st := []) (cells' := 0) (slots' := 0) C (q_pathAt u w (i + 1) hIX (by omega) (by omega)) gL_isWafer_X0_pathAt rfl (by decide +kernel) ⟨Nat.le_of_ble_eq_true rfl, Nat.le_of_ble_eq_true rfl⟩ 0 (by rfl) rfl (n := 2) rfl rfl (Nat.le_of_ble_eq_true rfl) dL_isWafer_93 rfl rfl rfl ⟨Nat.le_of_ble_eq_true rfl, Nat.le_of_ble_eq_true rfl⟩ (fun r_17 u_17 h_18 => ?_)
            obtain ⟨rfl, h_18⟩ := h_18
            refine g_st h_18 ?_
            refine g_conv (show (u (100 + w) (i + 1) : Int32) = nI (qq (i + 1)) from (p2 (i + 1) (by omega)).1) ?_
            refine g_istore (pc' := 98) (L' := [(7, .int (nI (qq (i + 1)))), (6, .int (nI (qq i))), (0, .ref (a 0)), (1, .int (nI w)), (2, .int (u 14 w)), (3, .int (nI (mm + 1))), (4, .int 1), (5, .int (nI (i + 1)))]) C dL_isWafer_96 rfl (by decide) rfl ?_
            have hu8 := hup i (by omega)
            have hg8 := hgr (i + 1) (by omega)
            refine g_iload (pc' := 100) (q := 1) C dL_isWafer_98 rfl rfl ?_
            refine g_iload (pc' := 102) (q := 0) C dL_isWafer_100 rfl rfl ?_
            have t_19 : (nI (qq i)).toInt = ((qq i : Nat) : Int) := nI_toInt (by omega)
            have t_20 : (nI (qq (i + 1))).toInt = ((qq (i + 1) : Nat) : Int) := nI_toInt (by omega)
            refine g_icmp_eq (tgt := 130) (pc' := 105) C dL_isWafer_102 rfl (by decide) (fun (c_21 : (nI (qq i)).toInt = (nI (qq (i + 1))).toInt) => ?_) (fun (c_21 : ¬ ((nI (qq i)).toInt = (nI (qq (i + 1))).toInt)) => ?_)
            · have hu9 := hup i (by omega)
              have hg9 := hgr (i + 1) (by omega)
              exact absurd (show False by omega) id
            · skip
              refine g_aload_n (pc' := 106) (q := 2) C dL_isWafer_105 rfl rfl rfl ?_
              refine g_iload (pc' := 108) (q := 0) C dL_isWafer_106 rfl rfl ?_
              refine g_calliV (pc' := 111) (As := [.int (nI (qq (i + 1)))]) (st := []) (cells' := 0) (slots' := 0) C (q_parentOf u (qq (i + 1)) hIX (p2 (i + 1) (by omega)).2) gL_isWafer_X0_parentOf rfl (by decide +kernel) ⟨Nat.le_of_ble_eq_true rfl, Nat.le_of_ble_eq_true rfl⟩ 0 (by rfl) rfl (n := 1) rfl rfl (Nat.le_of_ble_eq_true rfl) dL_isWafer_108 rfl rfl rfl ⟨Nat.le_of_ble_eq_true rfl, Nat.le_of_ble_eq_true rfl⟩ (fun r_22 u_22 h_23 => ?_)
              obtain ⟨rfl, h_23⟩ := h_23
              refine g_st h_23 ?_
              refine g_conv (show (u 11 (qq (i + 1)) : Int32) = nI (qq i) from p4 i (by omega)) ?_
              refine g_iload (pc' := 113) (q := 1) C dL_isWafer_111 rfl rfl ?_
              have t_24 : (nI (qq i)).toInt = ((qq i : Nat) : Int) := nI_toInt (by omega)
              have t_25 : (nI (qq i)).toInt = ((qq i : Nat) : Int) := nI_toInt (by omega)
              refine g_icmp_eq (tgt := 126) (pc' := 116) C dL_isWafer_113 rfl (by decide) (fun (c_26 : (nI (qq i)).toInt = (nI (qq i)).toInt) => ?_) (fun (c_26 : ¬ ((nI (qq i)).toInt = (nI (qq i)).toInt)) => ?_)
              · skip
                refine g_iconst (pc' := 127) (v := 1) C dL_isWafer_126 rfl (by decide) ?_
                refine g_goto (tgt := 131) C dL_isWafer_127 (by decide) ?_
                refine g_istore (pc' := 133) (L' := [(4, .int 1), (7, .int (nI (qq (i + 1)))), (6, .int (nI (qq i))), (0, .ref (a 0)), (1, .int (nI w)), (2, .int (u 14 w)), (3, .int (nI (mm + 1))), (5, .int (nI (i + 1)))]) C dL_isWafer_131 rfl (by decide) rfl ?_
                refine g_iinc (pc' := 136) (v := nI (i + 1 + 1)) (L' := [(5, .int (nI (i + 1 + 1))), (4, .int 1), (7, .int (nI (qq (i + 1)))), (6, .int (nI (qq i))), (0, .ref (a 0)), (1, .int (nI w)), (2, .int (u 14 w)), (3, .int (nI (mm + 1)))]) C dL_isWafer_133 rfl (k := 7) rfl (nI_1 _) (by decide) rfl ?_
                refine g_goto (tgt := 67) C dL_isWafer_136 (by decide) ?_
                refine g_sub (L' := [(0, .ref (a 0)), (1, .int (nI w)), (2, .int (u 14 w)), (3, .int (nI (mm + 1))), (4, .int 1), (5, .int (nI (i + 1 + 1)))]) [4, 5, 6, 7, 1, 0] rfl ?_
                exact ih_67 (i + 1) (by omega) (by omega)
              · exact absurd (show False by omega) id
      refine g_sub (L' := [(0, .ref (a 0)), (1, .int (nI w)), (2, .int (u 14 w)), (3, .int (nI (mm + 1))), (4, .int 1), (5, .int (nI (0 + 1)))]) [4, 5, 3, 2, 1, 0] rfl ?_
      exact loop_67 (mm + 1) 0 (by omega) (by omega)
    · have hlot : u 14 w = nI (qq mm) := p5.resolve_left (fun z => absurd (by rw [z]; rfl : (u 14 w).toInt = -1) (by assumption))
      have tl : (u 14 w).toInt = (qq mm : Int) := by rw [hlot]; exact ti_nI (by omega)
      have hst := lot_alive hI hw hqm.2 hlot
      refine g_aload_n (pc' := 37) (q := 2) C dL_isWafer_36 rfl rfl rfl ?_
      refine g_iload_n (pc' := 38) (q := 3) C dL_isWafer_37 rfl rfl rfl ?_
      refine g_iload_n (pc' := 39) (q := 0) C dL_isWafer_38 rfl rfl rfl ?_
      refine g_iconst (pc' := 40) (v := 1) C dL_isWafer_39 rfl (by decide) ?_
      refine g_isub (pc' := 41) C dL_isWafer_40 rfl ?_
      refine g_conv (show ((nI (mm + 1)) - 1 : Int32) = nI mm from nI_pred mm) ?_
      refine g_calliV (pc' := 44) (As := [.int (nI w), .int (nI mm)]) (st := []) (cells' := 0) (slots' := 0) C (q_pathAt u w mm hIX (by omega) (by omega)) gL_isWafer_X0_pathAt rfl (by decide +kernel) ⟨Nat.le_of_ble_eq_true rfl, Nat.le_of_ble_eq_true rfl⟩ 0 (by rfl) rfl (n := 2) rfl rfl (Nat.le_of_ble_eq_true rfl) dL_isWafer_41 rfl rfl rfl ⟨Nat.le_of_ble_eq_true rfl, Nat.le_of_ble_eq_true rfl⟩ (fun r_27 u_27 h_28 => ?_)
      obtain ⟨rfl, h_28⟩ := h_28
      refine g_st h_28 ?_
      refine g_conv (show (u (100 + w) mm : Int32) = nI (qq mm) from hqm.1) ?_
      refine g_iload_n (pc' := 45) (q := 1) C dL_isWafer_44 rfl rfl rfl ?_
      have t_29 : (nI (qq mm)).toInt = ((qq mm : Nat) : Int) := nI_toInt (by omega)
      refine g_icmp_ne (tgt := 61) (pc' := 48) C dL_isWafer_45 rfl (by decide) (fun (c_30 : ¬ (nI (qq mm)).toInt = (u 14 w).toInt) => ?_) (fun (c_30 : (nI (qq mm)).toInt = (u 14 w).toInt) => ?_)
      · exact absurd (show False by omega) id
      · skip
        refine g_aload_n (pc' := 49) (q := 2) C dL_isWafer_48 rfl rfl rfl ?_
        refine g_iload_n (pc' := 50) (q := 1) C dL_isWafer_49 rfl rfl rfl ?_
        refine g_conv (show (u 14 w : Int32) = nI (qq mm) from hlot) ?_
        refine g_calliV (pc' := 53) (As := [.int (nI (qq mm))]) (st := []) (cells' := 0) (slots' := 0) C (q_state u (qq mm) hIX hqm.2) gL_isWafer_X0_state rfl (by decide +kernel) ⟨Nat.le_of_ble_eq_true rfl, Nat.le_of_ble_eq_true rfl⟩ 0 (by rfl) rfl (n := 1) rfl rfl (Nat.le_of_ble_eq_true rfl) dL_isWafer_50 rfl rfl rfl ⟨Nat.le_of_ble_eq_true rfl, Nat.le_of_ble_eq_true rfl⟩ (fun r_31 u_31 h_32 => ?_)
        obtain ⟨rfl, h_32⟩ := h_32
        refine g_st h_32 ?_
        refine g_iconst (pc' := 54) (v := 3) C dL_isWafer_53 rfl (by decide) ?_
        refine g_icmp_eq (tgt := 61) (pc' := 57) C dL_isWafer_54 rfl (by decide) (fun (c_33 : (u 6 (qq mm)).toInt = 3) => ?_) (fun (c_33 : ¬ ((u 6 (qq mm)).toInt = 3)) => ?_)
        · exact absurd (show False by omega) id
        · skip
          refine g_iconst (pc' := 58) (v := 1) C dL_isWafer_57 rfl (by decide) ?_
          refine g_goto (tgt := 62) C dL_isWafer_58 (by decide) ?_
          refine g_istore (pc' := 64) (L' := [(4, .int 1), (3, .int (nI (mm + 1))), (2, .int (u 14 w)), (0, .ref (a 0)), (1, .int (nI w))]) C dL_isWafer_62 rfl (by decide) rfl ?_
          refine g_iconst (pc' := 65) (v := 1) C dL_isWafer_64 rfl (by decide) ?_
          refine g_istore (pc' := 67) (L' := [(5, .int 1), (4, .int 1), (3, .int (nI (mm + 1))), (2, .int (u 14 w)), (0, .ref (a 0)), (1, .int (nI w))]) C dL_isWafer_65 rfl (by decide) rfl ?_
          have loop_67 : ∀ (k : Nat) (i : Nat), i ≤ mm → mm + 1 ≤ i + k → G p l e ({ frames := 3, cells := 0, slots := 0, locals := 63 } : Room) s m args below meth c D A 8 (wX cI cZ cQ a) 0 0 (MQ below (va_Qi (fun (r : Int32) (u' : LU) => r = 1 ∧ u' = u) (KE D (tyX cI cZ cQ) (wX cI cZ cQ a)) A) args s 0 0 A) u 67 [(0, .ref (a 0)), (1, .int (nI w)), (2, .int (u 14 w)), (3, .int (nI (mm + 1))), (4, .int 1), (5, .int (nI (i + 1)))] [] := by
            intro k
            induction k with
            | zero =>
              intro i hi hk
              omega
            | succ k ih_67 =>
              intro i hi hk
              refine g_iload (pc' := 69) (q := 5) C dL_isWafer_67 rfl rfl ?_
              refine g_iload_n (pc' := 70) (q := 3) C dL_isWafer_69 rfl rfl rfl ?_
              have t_34 : (nI (i + 1)).toInt = ((i + 1 : Nat) : Int) := nI_toInt (by omega)
              have t_35 : (nI (mm + 1)).toInt = ((mm + 1 : Nat) : Int) := nI_toInt (by omega)
              refine g_icmp_ge (tgt := 139) (pc' := 73) C dL_isWafer_70 rfl (by decide) (fun (c_36 : (nI (mm + 1)).toInt ≤ (nI (i + 1)).toInt) => ?_) (fun (c_36 : ¬ ((nI (mm + 1)).toInt ≤ (nI (i + 1)).toInt)) => ?_)
              · skip
                refine g_iload (pc' := 141) (q := 4) C dL_isWafer_139 rfl rfl ?_
                exact g_iret C hr (by decide) ⟨rfl, rfl⟩ dL_isWafer_141
              · skip
                refine g_iload (pc' := 75) (q := 4) C dL_isWafer_73 rfl rfl ?_
                refine g_if_eq (tgt := 139) (pc' := 78) C dL_isWafer_75 rfl (by decide) (fun h => absurd h (by decide)) (fun _ => ?_)
                refine g_aload_n (pc' := 79) (q := 0) C dL_isWafer_78 rfl rfl rfl ?_
                refine g_iload_n (pc' := 80) (q := 1) C dL_isWafer_79 rfl rfl rfl ?_
                refine g_iload (pc' := 82) (q := 5) C dL_isWafer_80 rfl rfl ?_
                refine g_iconst (pc' := 83) (v := 1) C dL_isWafer_82 rfl (by decide) ?_
                refine g_isub (pc' := 84) C dL_isWafer_83 rfl ?_
                refine g_conv (show ((nI (i + 1)) - 1 : Int32) = nI i from nI_pred i) ?_
                refine g_calliV (pc' := 87) (As := [.int (nI w), .int (nI i)]) (st := []) (cells' := 0) (slots' := 0) C (q_pathAt u w i hIX (by omega) (by omega)) gL_isWafer_X0_pathAt rfl (by decide +kernel) ⟨Nat.le_of_ble_eq_true rfl, Nat.le_of_ble_eq_true rfl⟩ 0 (by rfl) rfl (n := 2) rfl rfl (Nat.le_of_ble_eq_true rfl) dL_isWafer_84 rfl rfl rfl ⟨Nat.le_of_ble_eq_true rfl, Nat.le_of_ble_eq_true rfl⟩ (fun r_37 u_37 h_38 => ?_)
                obtain ⟨rfl, h_38⟩ := h_38
                refine g_st h_38 ?_
                refine g_conv (show (u (100 + w) i : Int32) = nI (qq i) from (p2 i (by omega)).1) ?_
                refine g_istore (pc' := 89) (L' := [(6, .int (nI (qq i))), (0, .ref (a 0)), (1, .int (nI w)), (2, .int (u 14 w)), (3, .int (nI (mm + 1))), (4, .int 1), (5, .int (nI (i + 1)))]) C dL_isWafer_87 rfl (by decide) rfl ?_
                refine g_aload_n (pc' := 90) (q := 1) C dL_isWafer_89 rfl rfl rfl ?_
                refine g_iload_n (pc' := 91) (q := 2) C dL_isWafer_90 rfl rfl rfl ?_
                refine g_iload (pc' := 93) (q := 6) C dL_isWafer_91 rfl rfl ?_
                refine g_calliV (pc' := 96) (As := [.int (nI w), .int (nI (i + 1))]) (st := []) (cells' := 0) (slots' := 0) C (q_pathAt u w (i + 1) hIX (by omega) (by omega)) gL_isWafer_X0_pathAt rfl (by decide +kernel) ⟨Nat.le_of_ble_eq_true rfl, Nat.le_of_ble_eq_true rfl⟩ 0 (by rfl) rfl (n := 2) rfl rfl (Nat.le_of_ble_eq_true rfl) dL_isWafer_93 rfl rfl rfl ⟨Nat.le_of_ble_eq_true rfl, Nat.le_of_ble_eq_true rfl⟩ (fun r_39 u_39 h_40 => ?_)
                obtain ⟨rfl, h_40⟩ := h_40
                refine g_st h_40 ?_
                refine g_conv (show (u (100 + w) (i + 1) : Int32) = nI (qq (i + 1)) from (p2 (i + 1) (by omega)).1) ?_
                refine g_istore (pc' := 98) (L' := [(7, .int (nI (qq (i + 1)))), (6, .int (nI (qq i))), (0, .ref (a 0)), (1, .int (nI w)), (2, .int (u 14 w)), (3, .int (nI (mm + 1))), (4, .int 1), (5, .int (nI (i + 1)))]) C dL_isWafer_96 rfl (by decide) rfl ?_
                have hu8 := hup i (by omega)
                have hg8 := hgr (i + 1) (by omega)
                refine g_iload (pc' := 100) (q := 1) C dL_isWafer_98 rfl rfl ?_
                refine g_iload (pc' := 102) (q := 0) C dL_isWafer_100 rfl rfl ?_
                have t_41 : (nI (qq i)).toInt = ((qq i : Nat) : Int) := nI_toInt (by omega)
                have t_42 : (nI (qq (i + 1))).toInt = ((qq (i + 1) : Nat) : Int) := nI_toInt (by omega)
                refine g_icmp_eq (tgt := 130) (pc' := 105) C dL_isWafer_102 rfl (by decide) (fun (c_43 : (nI (qq i)).toInt = (nI (qq (i + 1))).toInt) => ?_) (fun (c_43 : ¬ ((nI (qq i)).toInt = (nI (qq (i + 1))).toInt)) => ?_)
                · have hu9 := hup i (by omega)
                  have hg9 := hgr (i + 1) (by omega)
                  exact absurd (show False by omega) id
                · skip
                  refine g_aload_n (pc' := 106) (q := 2) C dL_isWafer_105 rfl rfl rfl ?_
                  refine g_iload (pc' := 108) (q := 0) C dL_isWafer_106 rfl rfl ?_
                  refine g_calliV (pc' := 111) (As := [.int (nI (qq (i + 1)))]) (st := []) (cells' := 0) (slots' := 0) C (q_parentOf u (qq (i + 1)) hIX (p2 (i + 1) (by omega)).2) gL_isWafer_X0_parentOf rfl (by decide +kernel) ⟨Nat.le_of_ble_eq_true rfl, Nat.le_of_ble_eq_true rfl⟩ 0 (by rfl) rfl (n := 1) rfl rfl (Nat.le_of_ble_eq_true rfl) dL_isWafer_108 rfl rfl rfl ⟨Nat.le_of_ble_eq_true rfl, Nat.le_of_ble_eq_true rfl⟩ (fun r_44 u_44 h_45 => ?_)
                  obtain ⟨rfl, h_45⟩ := h_45
                  refine g_st h_45 ?_
                  refine g_conv (show (u 11 (qq (i + 1)) : Int32) = nI (qq i) from p4 i (by omega)) ?_
                  refine g_iload (pc' := 113) (q := 1) C dL_isWafer_111 rfl rfl ?_
                  have t_46 : (nI (qq i)).toInt = ((qq i : Nat) : Int) := nI_toInt (by omega)
                  have t_47 : (nI (qq i)).toInt = ((qq i : Nat) : Int) := nI_toInt (by omega)
                  refine g_icmp_eq (tgt := 126) (pc' := 116) C dL_isWafer_113 rfl (by decide) (fun (c_48 : (nI (qq i)).toInt = (nI (qq i)).toInt) => ?_) (fun (c_48 : ¬ ((nI (qq i)).toInt = (nI (qq i)).toInt)) => ?_)
                  · skip
                    refine g_iconst (pc' := 127) (v := 1) C dL_isWafer_126 rfl (by decide) ?_
                    refine g_goto (tgt := 131) C dL_isWafer_127 (by decide) ?_
                    refine g_istore (pc' := 133) (L' := [(4, .int 1), (7, .int (nI (qq (i + 1)))), (6, .int (nI (qq i))), (0, .ref (a 0)), (1, .int (nI w)), (2, .int (u 14 w)), (3, .int (nI (mm + 1))), (5, .int (nI (i + 1)))]) C dL_isWafer_131 rfl (by decide) rfl ?_
                    refine g_iinc (pc' := 136) (v := nI (i + 1 + 1)) (L' := [(5, .int (nI (i + 1 + 1))), (4, .int 1), (7, .int (nI (qq (i + 1)))), (6, .int (nI (qq i))), (0, .ref (a 0)), (1, .int (nI w)), (2, .int (u 14 w)), (3, .int (nI (mm + 1)))]) C dL_isWafer_133 rfl (k := 7) rfl (nI_1 _) (by decide) rfl ?_
                    refine g_goto (tgt := 67) C dL_isWafer_136 (by decide) ?_
                    refine g_sub (L' := [(0, .ref (a 0)), (1, .int (nI w)), (2, .int (u 14 w)), (3, .int (nI (mm + 1))), (4, .int 1), (5, .int (nI (i + 1 + 1)))]) [4, 5, 6, 7, 1, 0] rfl ?_
                    exact ih_67 (i + 1) (by omega) (by omega)
                  · exact absurd (show False by omega) id
          refine g_sub (L' := [(0, .ref (a 0)), (1, .int (nI w)), (2, .int (u 14 w)), (3, .int (nI (mm + 1))), (4, .int 1), (5, .int (nI (0 + 1)))]) [4, 5, 3, 2, 1, 0] rfl ?_
          exact loop_67 (mm + 1) 0 (by omega) (by omega)
set_option maxHeartbeats 4000000 in
set_option maxRecDepth 100000 in
theorem c_L_isLot {l : Launch} {D : va_G} {cI cZ cQ : ClassId} {a : Nat → Nat} (u : LU) (n : Nat) {sn : Nat} {B : Int} (hI : Inv sn B u) (hs : sn ≤ 12) (hn : (n : Int) < (u 0 12).toInt) : KI l yL_isLot wsL_isLot ({ frames := 3, cells := 0, slots := 0, locals := 64 } : Room) D (tyX cI cZ cQ) (wX cI cZ cQ a) [.ref (a 0), .int (nI n)] u (fun (r : Int32) (u' : LU) => r = 1 ∧ u' = u) := by
  refine ent_I (own := RL) (maxL := 5) (cc := cL_isLot) (L0 := [(0, .ref (a 0)), (1, .int (nI n))]) (by decide) rfl (wX_ok _ _ _ _) rfl (Nat.le_of_ble_eq_true rfl) rfl ?_
  intro p e s m args below meth c A C hr
  have hIX := hI.1.ix hs
  have h12 := hI.1.1.2.1
  have h16 := hI.1.1.2.2.1
  obtain ⟨l6, l10, l11, l7, l7'⟩ := hI.1.2.2.2.1 n hn
  have hsz := hI.1.2.2.2.2.1 n hn
  have hend := hI.2 n hn
  refine g_iconst (pc' := 1) (v := 0) C dL_isLot_0 rfl (by decide) ?_
  refine g_istore_n (pc' := 2) (L' := [(2, .int 0), (0, .ref (a 0)), (1, .int (nI n))]) C dL_isLot_1 rfl rfl (by decide) rfl ?_
  refine g_iconst (pc' := 3) (v := 0) C dL_isLot_2 rfl (by decide) ?_
  refine g_istore_n (pc' := 4) (L' := [(3, .int 0), (2, .int 0), (0, .ref (a 0)), (1, .int (nI n))]) C dL_isLot_3 rfl rfl (by decide) rfl ?_
  have loop_4 : ∀ (k : Nat) (i : Nat), (i : Int) ≤ (u 0 16).toInt → (u 0 16).toInt + 1 ≤ i + k → G p l e ({ frames := 3, cells := 0, slots := 0, locals := 64 } : Room) s m args below meth c D A 5 (wX cI cZ cQ a) 0 0 (MQ below (va_Qi (fun (r : Int32) (u' : LU) => r = 1 ∧ u' = u) (KE D (tyX cI cZ cQ) (wX cI cZ cQ a)) A) args s 0 0 A) u 4 [(0, .ref (a 0)), (1, .int (nI n)), (2, .int (nI (ctA (u 14) (nI n) i))), (3, .int (nI i))] [] := by
    intro k
    induction k with
    | zero =>
      intro i hi hk
      omega
    | succ k ih_4 =>
      intro i hi hk
      refine g_iload_n (pc' := 5) (q := 3) C dL_isLot_4 rfl rfl rfl ?_
      refine g_aload_n (pc' := 6) (q := 0) C dL_isLot_5 rfl rfl rfl ?_
      refine g_calliV (pc' := 9) (As := []) (st := [.int (nI i)]) (cells' := 0) (slots' := 0) C (c_X0_wafers u) gL_isLot_X0_wafers rfl (by decide +kernel) ⟨Nat.le_of_ble_eq_true rfl, Nat.le_of_ble_eq_true rfl⟩ 0 (by rfl) rfl (n := 0) rfl rfl (Nat.le_of_ble_eq_true rfl) dL_isLot_6 rfl rfl rfl ⟨Nat.le_of_ble_eq_true rfl, Nat.le_of_ble_eq_true rfl⟩ (fun r_1 u_1 h_2 => ?_)
      obtain ⟨rfl, h_2⟩ := h_2
      refine g_st h_2 ?_
      have t_3 : (nI i).toInt = ((i : Nat) : Int) := nI_toInt (by omega)
      refine g_icmp_ge (tgt := 35) (pc' := 12) C dL_isLot_9 rfl (by decide) (fun (c_4 : (u 0 16).toInt ≤ (nI i).toInt) => ?_) (fun (c_4 : ¬ ((u 0 16).toInt ≤ (nI i).toInt)) => ?_)
      · skip
        have hct := ctA_le (u 14) (nI n) i
        have hsz9 : u 12 n = nI (ctA (u 14) (nI n) i) := by rw [show i = (u 0 16).toInt.toNat by omega]; exact hsz
        have tsz : (u 12 n).toInt = (ctA (u 14) (nI n) i : Nat) := by rw [hsz9]; exact ti_nI (by omega)
        refine g_aload_n (pc' := 36) (q := 0) C dL_isLot_35 rfl rfl rfl ?_
        refine g_iload_n (pc' := 37) (q := 1) C dL_isLot_36 rfl rfl rfl ?_
        refine g_calliV (pc' := 40) (As := [.int (nI n)]) (st := []) (cells' := 0) (slots' := 0) C (q_state u n hIX (by omega)) gL_isLot_X0_state rfl (by decide +kernel) ⟨Nat.le_of_ble_eq_true rfl, Nat.le_of_ble_eq_true rfl⟩ 0 (by rfl) rfl (n := 1) rfl rfl (Nat.le_of_ble_eq_true rfl) dL_isLot_37 rfl rfl rfl ⟨Nat.le_of_ble_eq_true rfl, Nat.le_of_ble_eq_true rfl⟩ (fun r_5 u_5 h_6 => ?_)
        obtain ⟨rfl, h_6⟩ := h_6
        refine g_st h_6 ?_
        refine g_istore_n (pc' := 41) (L' := [(3, .int (u 6 n)), (0, .ref (a 0)), (1, .int (nI n)), (2, .int (nI (ctA (u 14) (nI n) i)))]) C dL_isLot_40 rfl rfl (by decide) rfl ?_
        refine g_aload_n (pc' := 42) (q := 1) C dL_isLot_41 rfl rfl rfl ?_
        refine g_iload_n (pc' := 43) (q := 2) C dL_isLot_42 rfl rfl rfl ?_
        refine g_calliV (pc' := 46) (As := [.int (nI n)]) (st := []) (cells' := 0) (slots' := 0) C (q_size u n hIX (by omega)) gL_isLot_X0_size rfl (by decide +kernel) ⟨Nat.le_of_ble_eq_true rfl, Nat.le_of_ble_eq_true rfl⟩ 0 (by rfl) rfl (n := 1) rfl rfl (Nat.le_of_ble_eq_true rfl) dL_isLot_43 rfl rfl rfl ⟨Nat.le_of_ble_eq_true rfl, Nat.le_of_ble_eq_true rfl⟩ (fun r_7 u_7 h_8 => ?_)
        obtain ⟨rfl, h_8⟩ := h_8
        refine g_st h_8 ?_
        refine g_conv (show (u 12 n : Int32) = nI (ctA (u 14) (nI n) i) from hsz9) ?_
        refine g_iload_n (pc' := 47) (q := 3) C dL_isLot_46 rfl rfl rfl ?_
        have b_9 := ctA_le (u 14) (nI n) i
        have t_10 : (nI (ctA (u 14) (nI n) i)).toInt = ((ctA (u 14) (nI n) i : Nat) : Int) := nI_toInt (by omega)
        have b_11 := ctA_le (u 14) (nI n) i
        have t_12 : (nI (ctA (u 14) (nI n) i)).toInt = ((ctA (u 14) (nI n) i : Nat) : Int) := nI_toInt (by omega)
        refine g_icmp_ne (tgt := 112) (pc' := 50) C dL_isLot_47 rfl (by decide) (fun (c_13 : ¬ (nI (ctA (u 14) (nI n) i)).toInt = (nI (ctA (u 14) (nI n) i)).toInt) => ?_) (fun (c_13 : (nI (ctA (u 14) (nI n) i)).toInt = (nI (ctA (u 14) (nI n) i)).toInt) => ?_)
        · exact absurd (show False by omega) id
        · skip
          refine g_iload_n (pc' := 51) (q := 0) C dL_isLot_50 rfl rfl rfl ?_
          refine g_iconst (pc' := 52) (v := 3) C dL_isLot_51 rfl (by decide) ?_
          refine g_icmp_ne (tgt := 59) (pc' := 55) C dL_isLot_52 rfl (by decide) (fun (c_14 : ¬ (u 6 n).toInt = 3) => ?_) (fun (c_14 : (u 6 n).toInt = 3) => ?_)
          · skip
            refine g_iconst (pc' := 60) (v := 0) C dL_isLot_59 rfl (by decide) ?_
            refine g_iload_n (pc' := 61) (q := 3) C dL_isLot_60 rfl rfl rfl ?_
            have b_15 := ctA_le (u 14) (nI n) i
            have t_16 : (nI (ctA (u 14) (nI n) i)).toInt = ((ctA (u 14) (nI n) i : Nat) : Int) := nI_toInt (by omega)
            refine g_if_ne (tgt := 68) (pc' := 64) C dL_isLot_61 rfl (by decide) (fun (c_17 : ¬ (nI (ctA (u 14) (nI n) i)).toInt = 0) => ?_) (fun (c_17 : (nI (ctA (u 14) (nI n) i)).toInt = 0) => ?_)
            · skip
              refine g_iconst (pc' := 69) (v := 0) C dL_isLot_68 rfl (by decide) ?_
              refine g_icmp_ne (tgt := 112) (pc' := 72) C dL_isLot_69 rfl (by decide) (fun h => absurd h (by decide)) (fun _ => ?_)
              refine g_iload_n (pc' := 73) (q := 0) C dL_isLot_72 rfl rfl rfl ?_
              refine g_iconst (pc' := 74) (v := 1) C dL_isLot_73 rfl (by decide) ?_
              refine g_icmp_le (tgt := 81) (pc' := 77) C dL_isLot_74 rfl (by decide) (fun (c_18 : (u 6 n).toInt ≤ 1) => ?_) (fun (c_18 : ¬ ((u 6 n).toInt ≤ 1)) => ?_)
              · skip
                refine g_iconst (pc' := 82) (v := 0) C dL_isLot_81 rfl (by decide) ?_
                refine g_aload_n (pc' := 83) (q := 1) C dL_isLot_82 rfl rfl rfl ?_
                refine g_iload_n (pc' := 84) (q := 2) C dL_isLot_83 rfl rfl rfl ?_
                refine g_calliV (pc' := 87) (As := [.int (nI n)]) (st := [.int 0]) (cells' := 0) (slots' := 0) C (q_stepOf u n hIX (by omega)) gL_isLot_X0_stepOf rfl (by decide +kernel) ⟨Nat.le_of_ble_eq_true rfl, Nat.le_of_ble_eq_true rfl⟩ 0 (by rfl) rfl (n := 1) rfl rfl (Nat.le_of_ble_eq_true rfl) dL_isLot_84 rfl rfl rfl ⟨Nat.le_of_ble_eq_true rfl, Nat.le_of_ble_eq_true rfl⟩ (fun r_19 u_19 h_20 => ?_)
                obtain ⟨rfl, h_20⟩ := h_20
                refine g_st h_20 ?_
                refine g_iconst (pc' := 88) (v := (-1)) C dL_isLot_87 rfl (by decide) ?_
                refine g_icmp_ne (tgt := 95) (pc' := 91) C dL_isLot_88 rfl (by decide) (fun (c_21 : ¬ (u 7 n).toInt = -1) => ?_) (fun (c_21 : (u 7 n).toInt = -1) => ?_)
                · skip
                  refine g_iconst (pc' := 96) (v := 0) C dL_isLot_95 rfl (by decide) ?_
                  refine g_icmp_ne (tgt := 112) (pc' := 99) C dL_isLot_96 rfl (by decide) (fun h => absurd h (by decide)) (fun _ => ?_)
                  refine g_aload_n (pc' := 100) (q := 1) C dL_isLot_99 rfl rfl rfl ?_
                  refine g_iload_n (pc' := 101) (q := 2) C dL_isLot_100 rfl rfl rfl ?_
                  refine g_calliV (pc' := 104) (As := [.int (nI n)]) (st := []) (cells' := 0) (slots' := 0) C (q_parentOf u n hIX (by omega)) gL_isLot_X0_parentOf rfl (by decide +kernel) ⟨Nat.le_of_ble_eq_true rfl, Nat.le_of_ble_eq_true rfl⟩ 0 (by rfl) rfl (n := 1) rfl rfl (Nat.le_of_ble_eq_true rfl) dL_isLot_101 rfl rfl rfl ⟨Nat.le_of_ble_eq_true rfl, Nat.le_of_ble_eq_true rfl⟩ (fun r_22 u_22 h_23 => ?_)
                  obtain ⟨rfl, h_23⟩ := h_23
                  refine g_st h_23 ?_
                  refine g_iload_n (pc' := 105) (q := 2) C dL_isLot_104 rfl rfl rfl ?_
                  have t_24 : (nI n).toInt = ((n : Nat) : Int) := nI_toInt (by omega)
                  refine g_icmp_ge (tgt := 112) (pc' := 108) C dL_isLot_105 rfl (by decide) (fun (c_25 : (nI n).toInt ≤ (u 11 n).toInt) => ?_) (fun (c_25 : ¬ ((nI n).toInt ≤ (u 11 n).toInt)) => ?_)
                  · skip
                    exact absurd (show False by omega) id
                  · skip
                    refine g_iconst (pc' := 109) (v := 1) C dL_isLot_108 rfl (by decide) ?_
                    refine g_goto (tgt := 113) C dL_isLot_109 (by decide) ?_
                    refine g_istore (pc' := 115) (L' := [(4, .int 1), (3, .int (u 6 n)), (0, .ref (a 0)), (1, .int (nI n)), (2, .int (nI (ctA (u 14) (nI n) i)))]) C dL_isLot_113 rfl (by decide) rfl ?_
                    refine g_iload (pc' := 117) (q := 0) C dL_isLot_115 rfl rfl ?_
                    refine g_if_eq (tgt := 176) (pc' := 120) C dL_isLot_117 rfl (by decide) (fun h => absurd h (by decide)) (fun _ => ?_)
                    refine g_aload_n (pc' := 121) (q := 2) C dL_isLot_120 rfl rfl rfl ?_
                    refine g_iload_n (pc' := 122) (q := 3) C dL_isLot_121 rfl rfl rfl ?_
                    refine g_calliV (pc' := 125) (As := [.int (nI n)]) (st := []) (cells' := 0) (slots' := 0) C (q_isLate u n hIX (by omega)) gL_isLot_X0_isLate rfl (by decide +kernel) ⟨Nat.le_of_ble_eq_true rfl, Nat.le_of_ble_eq_true rfl⟩ 0 (by rfl) rfl (n := 1) rfl rfl (Nat.le_of_ble_eq_true rfl) dL_isLot_122 rfl rfl rfl ⟨Nat.le_of_ble_eq_true rfl, Nat.le_of_ble_eq_true rfl⟩ (fun r_26 u_26 h_27 => ?_)
                    obtain ⟨rfl, h_27⟩ := h_27
                    refine g_st h_27 ?_
                    refine g_aload_n (pc' := 126) (q := 2) C dL_isLot_125 rfl rfl rfl ?_
                    refine g_iload_n (pc' := 127) (q := 3) C dL_isLot_126 rfl rfl rfl ?_
                    refine g_calliV (pc' := 130) (As := [.int (nI n)]) (st := [.int (bP ((slX u n).toInt < 0))]) (cells' := 0) (slots' := 0) C (q_slack u n hIX (by omega)) gL_isLot_X0_slack rfl (by decide +kernel) ⟨Nat.le_of_ble_eq_true rfl, Nat.le_of_ble_eq_true rfl⟩ 0 (by rfl) rfl (n := 1) rfl rfl (Nat.le_of_ble_eq_true rfl) dL_isLot_127 rfl rfl rfl ⟨Nat.le_of_ble_eq_true rfl, Nat.le_of_ble_eq_true rfl⟩ (fun r_28 u_28 h_29 => ?_)
                    obtain ⟨rfl, h_29⟩ := h_29
                    refine g_st h_29 ?_
                    refine g_if_ge (tgt := 137) (pc' := 133) C dL_isLot_130 rfl (by decide) (fun (c_30 : 0 ≤ (slX u n).toInt) => ?_) (fun (c_30 : ¬ (0 ≤ (slX u n).toInt)) => ?_)
                    · have hb : (bP ((slX u n).toInt < 0)).toInt = 0 := by rw [bP_f (by omega)]; rfl
                      refine g_iconst (pc' := 138) (v := 0) C dL_isLot_137 rfl (by decide) ?_
                      refine g_icmp_ne (tgt := 176) (pc' := 141) C dL_isLot_138 rfl (by decide) (fun (c_31 : ¬ (bP ((slX u n).toInt < 0)).toInt = 0) => ?_) (fun (c_31 : (bP ((slX u n).toInt < 0)).toInt = 0) => ?_)
                      · skip
                        exact absurd (show False by omega) id
                      · skip
                        refine g_iload_n (pc' := 142) (q := 1) C dL_isLot_141 rfl rfl rfl ?_
                        refine g_if_eq (tgt := 155) (pc' := 145) C dL_isLot_142 rfl (by decide) (fun (c_32 : (u 6 n).toInt = 0) => ?_) (fun (c_32 : ¬ ((u 6 n).toInt = 0)) => ?_)
                        · skip
                          refine g_aload_n (pc' := 156) (q := 2) C dL_isLot_155 rfl rfl rfl ?_
                          refine g_iload_n (pc' := 157) (q := 3) C dL_isLot_156 rfl rfl rfl ?_
                          refine g_calliV (pc' := 160) (As := [.int (nI n)]) (st := []) (cells' := 0) (slots' := 0) C (q_reworks u n hIX (by omega)) gL_isLot_X0_reworks rfl (by decide +kernel) ⟨Nat.le_of_ble_eq_true rfl, Nat.le_of_ble_eq_true rfl⟩ 0 (by rfl) rfl (n := 1) rfl rfl (Nat.le_of_ble_eq_true rfl) dL_isLot_157 rfl rfl rfl ⟨Nat.le_of_ble_eq_true rfl, Nat.le_of_ble_eq_true rfl⟩ (fun r_33 u_33 h_34 => ?_)
                          obtain ⟨rfl, h_34⟩ := h_34
                          refine g_st h_34 ?_
                          refine g_if_lt (tgt := 176) (pc' := 163) C dL_isLot_160 rfl (by decide) (fun (c_35 : (u 10 n).toInt < 0) => ?_) (fun (c_35 : ¬ ((u 10 n).toInt < 0)) => ?_)
                          · skip
                            exact absurd (show False by omega) id
                          · skip
                            refine g_aload_n (pc' := 164) (q := 2) C dL_isLot_163 rfl rfl rfl ?_
                            refine g_iload_n (pc' := 165) (q := 3) C dL_isLot_164 rfl rfl rfl ?_
                            refine g_calliV (pc' := 168) (As := [.int (nI n)]) (st := []) (cells' := 0) (slots' := 0) C (q_reworks u n hIX (by omega)) gL_isLot_X0_reworks rfl (by decide +kernel) ⟨Nat.le_of_ble_eq_true rfl, Nat.le_of_ble_eq_true rfl⟩ 0 (by rfl) rfl (n := 1) rfl rfl (Nat.le_of_ble_eq_true rfl) dL_isLot_165 rfl rfl rfl ⟨Nat.le_of_ble_eq_true rfl, Nat.le_of_ble_eq_true rfl⟩ (fun r_36 u_36 h_37 => ?_)
                            obtain ⟨rfl, h_37⟩ := h_37
                            refine g_st h_37 ?_
                            refine g_iconst (pc' := 169) (v := 2) C dL_isLot_168 rfl (by decide) ?_
                            refine g_icmp_gt (tgt := 176) (pc' := 172) C dL_isLot_169 rfl (by decide) (fun (c_38 : 2 < (u 10 n).toInt) => ?_) (fun (c_38 : ¬ (2 < (u 10 n).toInt)) => ?_)
                            · skip
                              exact absurd (show False by omega) id
                            · skip
                              refine g_iconst (pc' := 173) (v := 1) C dL_isLot_172 rfl (by decide) ?_
                              refine g_goto (tgt := 177) C dL_isLot_173 (by decide) ?_
                              exact g_iret C hr (by decide) ⟨rfl, rfl⟩ dL_isLot_177
                        · skip
                          have hs2 : (slX u n).toInt = 2000000 := by unfold slX; rw [if_neg (fun z => absurd z.1 (by assumption))]; rfl
                          refine g_aload_n (pc' := 146) (q := 2) C dL_isLot_145 rfl rfl rfl ?_
                          refine g_iload_n (pc' := 147) (q := 3) C dL_isLot_146 rfl rfl rfl ?_
                          refine g_calliV (pc' := 150) (As := [.int (nI n)]) (st := []) (cells' := 0) (slots' := 0) C (q_slack u n hIX (by omega)) gL_isLot_X0_slack rfl (by decide +kernel) ⟨Nat.le_of_ble_eq_true rfl, Nat.le_of_ble_eq_true rfl⟩ 0 (by rfl) rfl (n := 1) rfl rfl (Nat.le_of_ble_eq_true rfl) dL_isLot_147 rfl rfl rfl ⟨Nat.le_of_ble_eq_true rfl, Nat.le_of_ble_eq_true rfl⟩ (fun r_39 u_39 h_40 => ?_)
                          obtain ⟨rfl, h_40⟩ := h_40
                          refine g_st h_40 ?_
                          refine g_ldc (pc' := 152) (v := 2000000) C dL_isLot_150 rfl (by decide +kernel) ?_
                          refine g_icmp_ne (tgt := 176) (pc' := 155) C dL_isLot_152 rfl (by decide) (fun (c_41 : ¬ (slX u n).toInt = 2000000) => ?_) (fun (c_41 : (slX u n).toInt = 2000000) => ?_)
                          · skip
                            exact absurd (show False by omega) id
                          · skip
                            refine g_aload_n (pc' := 156) (q := 2) C dL_isLot_155 rfl rfl rfl ?_
                            refine g_iload_n (pc' := 157) (q := 3) C dL_isLot_156 rfl rfl rfl ?_
                            refine g_calliV (pc' := 160) (As := [.int (nI n)]) (st := []) (cells' := 0) (slots' := 0) C (q_reworks u n hIX (by omega)) gL_isLot_X0_reworks rfl (by decide +kernel) ⟨Nat.le_of_ble_eq_true rfl, Nat.le_of_ble_eq_true rfl⟩ 0 (by rfl) rfl (n := 1) rfl rfl (Nat.le_of_ble_eq_true rfl) dL_isLot_157 rfl rfl rfl ⟨Nat.le_of_ble_eq_true rfl, Nat.le_of_ble_eq_true rfl⟩ (fun r_42 u_42 h_43 => ?_)
                            obtain ⟨rfl, h_43⟩ := h_43
                            refine g_st h_43 ?_
                            refine g_if_lt (tgt := 176) (pc' := 163) C dL_isLot_160 rfl (by decide) (fun (c_44 : (u 10 n).toInt < 0) => ?_) (fun (c_44 : ¬ ((u 10 n).toInt < 0)) => ?_)
                            · skip
                              exact absurd (show False by omega) id
                            · skip
                              refine g_aload_n (pc' := 164) (q := 2) C dL_isLot_163 rfl rfl rfl ?_
                              refine g_iload_n (pc' := 165) (q := 3) C dL_isLot_164 rfl rfl rfl ?_
                              refine g_calliV (pc' := 168) (As := [.int (nI n)]) (st := []) (cells' := 0) (slots' := 0) C (q_reworks u n hIX (by omega)) gL_isLot_X0_reworks rfl (by decide +kernel) ⟨Nat.le_of_ble_eq_true rfl, Nat.le_of_ble_eq_true rfl⟩ 0 (by rfl) rfl (n := 1) rfl rfl (Nat.le_of_ble_eq_true rfl) dL_isLot_165 rfl rfl rfl ⟨Nat.le_of_ble_eq_true rfl, Nat.le_of_ble_eq_true rfl⟩ (fun r_45 u_45 h_46 => ?_)
                              obtain ⟨rfl, h_46⟩ := h_46
                              refine g_st h_46 ?_
                              refine g_iconst (pc' := 169) (v := 2) C dL_isLot_168 rfl (by decide) ?_
                              refine g_icmp_gt (tgt := 176) (pc' := 172) C dL_isLot_169 rfl (by decide) (fun (c_47 : 2 < (u 10 n).toInt) => ?_) (fun (c_47 : ¬ (2 < (u 10 n).toInt)) => ?_)
                              · skip
                                exact absurd (show False by omega) id
                              · skip
                                refine g_iconst (pc' := 173) (v := 1) C dL_isLot_172 rfl (by decide) ?_
                                refine g_goto (tgt := 177) C dL_isLot_173 (by decide) ?_
                                exact g_iret C hr (by decide) ⟨rfl, rfl⟩ dL_isLot_177
                    · have hb : (bP ((slX u n).toInt < 0)).toInt = 1 := by rw [bP_t (by omega)]; rfl
                      refine g_iconst (pc' := 134) (v := 1) C dL_isLot_133 rfl (by decide) ?_
                      refine g_goto (tgt := 138) C dL_isLot_134 (by decide) ?_
                      refine g_icmp_ne (tgt := 176) (pc' := 141) C dL_isLot_138 rfl (by decide) (fun (c_48 : ¬ (bP ((slX u n).toInt < 0)).toInt = 1) => ?_) (fun (c_48 : (bP ((slX u n).toInt < 0)).toInt = 1) => ?_)
                      · skip
                        exact absurd (show False by omega) id
                      · skip
                        refine g_iload_n (pc' := 142) (q := 1) C dL_isLot_141 rfl rfl rfl ?_
                        refine g_if_eq (tgt := 155) (pc' := 145) C dL_isLot_142 rfl (by decide) (fun (c_49 : (u 6 n).toInt = 0) => ?_) (fun (c_49 : ¬ ((u 6 n).toInt = 0)) => ?_)
                        · skip
                          refine g_aload_n (pc' := 156) (q := 2) C dL_isLot_155 rfl rfl rfl ?_
                          refine g_iload_n (pc' := 157) (q := 3) C dL_isLot_156 rfl rfl rfl ?_
                          refine g_calliV (pc' := 160) (As := [.int (nI n)]) (st := []) (cells' := 0) (slots' := 0) C (q_reworks u n hIX (by omega)) gL_isLot_X0_reworks rfl (by decide +kernel) ⟨Nat.le_of_ble_eq_true rfl, Nat.le_of_ble_eq_true rfl⟩ 0 (by rfl) rfl (n := 1) rfl rfl (Nat.le_of_ble_eq_true rfl) dL_isLot_157 rfl rfl rfl ⟨Nat.le_of_ble_eq_true rfl, Nat.le_of_ble_eq_true rfl⟩ (fun r_50 u_50 h_51 => ?_)
                          obtain ⟨rfl, h_51⟩ := h_51
                          refine g_st h_51 ?_
                          refine g_if_lt (tgt := 176) (pc' := 163) C dL_isLot_160 rfl (by decide) (fun (c_52 : (u 10 n).toInt < 0) => ?_) (fun (c_52 : ¬ ((u 10 n).toInt < 0)) => ?_)
                          · skip
                            exact absurd (show False by omega) id
                          · skip
                            refine g_aload_n (pc' := 164) (q := 2) C dL_isLot_163 rfl rfl rfl ?_
                            refine g_iload_n (pc' := 165) (q := 3) C dL_isLot_164 rfl rfl rfl ?_
                            refine g_calliV (pc' := 168) (As := [.int (nI n)]) (st := []) (cells' := 0) (slots' := 0) C (q_reworks u n hIX (by omega)) gL_isLot_X0_reworks rfl (by decide +kernel) ⟨Nat.le_of_ble_eq_true rfl, Nat.le_of_ble_eq_true rfl⟩ 0 (by rfl) rfl (n := 1) rfl rfl (Nat.le_of_ble_eq_true rfl) dL_isLot_165 rfl rfl rfl ⟨Nat.le_of_ble_eq_true rfl, Nat.le_of_ble_eq_true rfl⟩ (fun r_53 u_53 h_54 => ?_)
                            obtain ⟨rfl, h_54⟩ := h_54
                            refine g_st h_54 ?_
                            refine g_iconst (pc' := 169) (v := 2) C dL_isLot_168 rfl (by decide) ?_
                            refine g_icmp_gt (tgt := 176) (pc' := 172) C dL_isLot_169 rfl (by decide) (fun (c_55 : 2 < (u 10 n).toInt) => ?_) (fun (c_55 : ¬ (2 < (u 10 n).toInt)) => ?_)
                            · skip
                              exact absurd (show False by omega) id
                            · skip
                              refine g_iconst (pc' := 173) (v := 1) C dL_isLot_172 rfl (by decide) ?_
                              refine g_goto (tgt := 177) C dL_isLot_173 (by decide) ?_
                              exact g_iret C hr (by decide) ⟨rfl, rfl⟩ dL_isLot_177
                        · skip
                          have hs2 : (slX u n).toInt = 2000000 := by unfold slX; rw [if_neg (fun z => absurd z.1 (by assumption))]; rfl
                          refine g_aload_n (pc' := 146) (q := 2) C dL_isLot_145 rfl rfl rfl ?_
                          refine g_iload_n (pc' := 147) (q := 3) C dL_isLot_146 rfl rfl rfl ?_
                          refine g_calliV (pc' := 150) (As := [.int (nI n)]) (st := []) (cells' := 0) (slots' := 0) C (q_slack u n hIX (by omega)) gL_isLot_X0_slack rfl (by decide +kernel) ⟨Nat.le_of_ble_eq_true rfl, Nat.le_of_ble_eq_true rfl⟩ 0 (by rfl) rfl (n := 1) rfl rfl (Nat.le_of_ble_eq_true rfl) dL_isLot_147 rfl rfl rfl ⟨Nat.le_of_ble_eq_true rfl, Nat.le_of_ble_eq_true rfl⟩ (fun r_56 u_56 h_57 => ?_)
                          obtain ⟨rfl, h_57⟩ := h_57
                          refine g_st h_57 ?_
                          refine g_ldc (pc' := 152) (v := 2000000) C dL_isLot_150 rfl (by decide +kernel) ?_
                          refine g_icmp_ne (tgt := 176) (pc' := 155) C dL_isLot_152 rfl (by decide) (fun (c_58 : ¬ (slX u n).toInt = 2000000) => ?_) (fun (c_58 : (slX u n).toInt = 2000000) => ?_)
                          · skip
                            exact absurd (show False by omega) id
                          · skip
                            refine g_aload_n (pc' := 156) (q := 2) C dL_isLot_155 rfl rfl rfl ?_
                            refine g_iload_n (pc' := 157) (q := 3) C dL_isLot_156 rfl rfl rfl ?_
                            refine g_calliV (pc' := 160) (As := [.int (nI n)]) (st := []) (cells' := 0) (slots' := 0) C (q_reworks u n hIX (by omega)) gL_isLot_X0_reworks rfl (by decide +kernel) ⟨Nat.le_of_ble_eq_true rfl, Nat.le_of_ble_eq_true rfl⟩ 0 (by rfl) rfl (n := 1) rfl rfl (Nat.le_of_ble_eq_true rfl) dL_isLot_157 rfl rfl rfl ⟨Nat.le_of_ble_eq_true rfl, Nat.le_of_ble_eq_true rfl⟩ (fun r_59 u_59 h_60 => ?_)
                            obtain ⟨rfl, h_60⟩ := h_60
                            refine g_st h_60 ?_
                            refine g_if_lt (tgt := 176) (pc' := 163) C dL_isLot_160 rfl (by decide) (fun (c_61 : (u 10 n).toInt < 0) => ?_) (fun (c_61 : ¬ ((u 10 n).toInt < 0)) => ?_)
                            · skip
                              exact absurd (show False by omega) id
                            · skip
                              refine g_aload_n (pc' := 164) (q := 2) C dL_isLot_163 rfl rfl rfl ?_
                              refine g_iload_n (pc' := 165) (q := 3) C dL_isLot_164 rfl rfl rfl ?_
                              refine g_calliV (pc' := 168) (As := [.int (nI n)]) (st := []) (cells' := 0) (slots' := 0) C (q_reworks u n hIX (by omega)) gL_isLot_X0_reworks rfl (by decide +kernel) ⟨Nat.le_of_ble_eq_true rfl, Nat.le_of_ble_eq_true rfl⟩ 0 (by rfl) rfl (n := 1) rfl rfl (Nat.le_of_ble_eq_true rfl) dL_isLot_165 rfl rfl rfl ⟨Nat.le_of_ble_eq_true rfl, Nat.le_of_ble_eq_true rfl⟩ (fun r_62 u_62 h_63 => ?_)
                              obtain ⟨rfl, h_63⟩ := h_63
                              refine g_st h_63 ?_
                              refine g_iconst (pc' := 169) (v := 2) C dL_isLot_168 rfl (by decide) ?_
                              refine g_icmp_gt (tgt := 176) (pc' := 172) C dL_isLot_169 rfl (by decide) (fun (c_64 : 2 < (u 10 n).toInt) => ?_) (fun (c_64 : ¬ (2 < (u 10 n).toInt)) => ?_)
                              · skip
                                exact absurd (show False by omega) id
                              · skip
                                refine g_iconst (pc' := 173) (v := 1) C dL_isLot_172 rfl (by decide) ?_
                                refine g_goto (tgt := 177) C dL_isLot_173 (by decide) ?_
                                exact g_iret C hr (by decide) ⟨rfl, rfl⟩ dL_isLot_177
                · skip
                  refine g_iconst (pc' := 92) (v := 1) C dL_isLot_91 rfl (by decide) ?_
                  refine g_goto (tgt := 96) C dL_isLot_92 (by decide) ?_
                  refine g_icmp_ne (tgt := 112) (pc' := 99) C dL_isLot_96 rfl (by decide) (fun _ => ?_) (fun h => absurd h (by decide))
                  exact absurd (show False by omega) id
              · skip
                refine g_iconst (pc' := 78) (v := 1) C dL_isLot_77 rfl (by decide) ?_
                refine g_goto (tgt := 82) C dL_isLot_78 (by decide) ?_
                refine g_aload_n (pc' := 83) (q := 1) C dL_isLot_82 rfl rfl rfl ?_
                refine g_iload_n (pc' := 84) (q := 2) C dL_isLot_83 rfl rfl rfl ?_
                refine g_calliV (pc' := 87) (As := [.int (nI n)]) (st := [.int 1]) (cells' := 0) (slots' := 0) C (q_stepOf u n hIX (by omega)) gL_isLot_X0_stepOf rfl (by decide +kernel) ⟨Nat.le_of_ble_eq_true rfl, Nat.le_of_ble_eq_true rfl⟩ 0 (by rfl) rfl (n := 1) rfl rfl (Nat.le_of_ble_eq_true rfl) dL_isLot_84 rfl rfl rfl ⟨Nat.le_of_ble_eq_true rfl, Nat.le_of_ble_eq_true rfl⟩ (fun r_65 u_65 h_66 => ?_)
                obtain ⟨rfl, h_66⟩ := h_66
                refine g_st h_66 ?_
                refine g_iconst (pc' := 88) (v := (-1)) C dL_isLot_87 rfl (by decide) ?_
                refine g_icmp_ne (tgt := 95) (pc' := 91) C dL_isLot_88 rfl (by decide) (fun (c_67 : ¬ (u 7 n).toInt = -1) => ?_) (fun (c_67 : (u 7 n).toInt = -1) => ?_)
                · skip
                  refine g_iconst (pc' := 96) (v := 0) C dL_isLot_95 rfl (by decide) ?_
                  refine g_icmp_ne (tgt := 112) (pc' := 99) C dL_isLot_96 rfl (by decide) (fun _ => ?_) (fun h => absurd h (by decide))
                  exact absurd (show False by omega) id
                · skip
                  refine g_iconst (pc' := 92) (v := 1) C dL_isLot_91 rfl (by decide) ?_
                  refine g_goto (tgt := 96) C dL_isLot_92 (by decide) ?_
                  refine g_icmp_ne (tgt := 112) (pc' := 99) C dL_isLot_96 rfl (by decide) (fun h => absurd h (by decide)) (fun _ => ?_)
                  refine g_aload_n (pc' := 100) (q := 1) C dL_isLot_99 rfl rfl rfl ?_
                  refine g_iload_n (pc' := 101) (q := 2) C dL_isLot_100 rfl rfl rfl ?_
                  refine g_calliV (pc' := 104) (As := [.int (nI n)]) (st := []) (cells' := 0) (slots' := 0) C (q_parentOf u n hIX (by omega)) gL_isLot_X0_parentOf rfl (by decide +kernel) ⟨Nat.le_of_ble_eq_true rfl, Nat.le_of_ble_eq_true rfl⟩ 0 (by rfl) rfl (n := 1) rfl rfl (Nat.le_of_ble_eq_true rfl) dL_isLot_101 rfl rfl rfl ⟨Nat.le_of_ble_eq_true rfl, Nat.le_of_ble_eq_true rfl⟩ (fun r_68 u_68 h_69 => ?_)
                  obtain ⟨rfl, h_69⟩ := h_69
                  refine g_st h_69 ?_
                  refine g_iload_n (pc' := 105) (q := 2) C dL_isLot_104 rfl rfl rfl ?_
                  have t_70 : (nI n).toInt = ((n : Nat) : Int) := nI_toInt (by omega)
                  refine g_icmp_ge (tgt := 112) (pc' := 108) C dL_isLot_105 rfl (by decide) (fun (c_71 : (nI n).toInt ≤ (u 11 n).toInt) => ?_) (fun (c_71 : ¬ ((nI n).toInt ≤ (u 11 n).toInt)) => ?_)
                  · skip
                    exact absurd (show False by omega) id
                  · skip
                    refine g_iconst (pc' := 109) (v := 1) C dL_isLot_108 rfl (by decide) ?_
                    refine g_goto (tgt := 113) C dL_isLot_109 (by decide) ?_
                    refine g_istore (pc' := 115) (L' := [(4, .int 1), (3, .int (u 6 n)), (0, .ref (a 0)), (1, .int (nI n)), (2, .int (nI (ctA (u 14) (nI n) i)))]) C dL_isLot_113 rfl (by decide) rfl ?_
                    refine g_iload (pc' := 117) (q := 0) C dL_isLot_115 rfl rfl ?_
                    refine g_if_eq (tgt := 176) (pc' := 120) C dL_isLot_117 rfl (by decide) (fun h => absurd h (by decide)) (fun _ => ?_)
                    refine g_aload_n (pc' := 121) (q := 2) C dL_isLot_120 rfl rfl rfl ?_
                    refine g_iload_n (pc' := 122) (q := 3) C dL_isLot_121 rfl rfl rfl ?_
                    refine g_calliV (pc' := 125) (As := [.int (nI n)]) (st := []) (cells' := 0) (slots' := 0) C (q_isLate u n hIX (by omega)) gL_isLot_X0_isLate rfl (by decide +kernel) ⟨Nat.le_of_ble_eq_true rfl, Nat.le_of_ble_eq_true rfl⟩ 0 (by rfl) rfl (n := 1) rfl rfl (Nat.le_of_ble_eq_true rfl) dL_isLot_122 rfl rfl rfl ⟨Nat.le_of_ble_eq_true rfl, Nat.le_of_ble_eq_true rfl⟩ (fun r_72 u_72 h_73 => ?_)
                    obtain ⟨rfl, h_73⟩ := h_73
                    refine g_st h_73 ?_
                    refine g_aload_n (pc' := 126) (q := 2) C dL_isLot_125 rfl rfl rfl ?_
                    refine g_iload_n (pc' := 127) (q := 3) C dL_isLot_126 rfl rfl rfl ?_
                    refine g_calliV (pc' := 130) (As := [.int (nI n)]) (st := [.int (bP ((slX u n).toInt < 0))]) (cells' := 0) (slots' := 0) C (q_slack u n hIX (by omega)) gL_isLot_X0_slack rfl (by decide +kernel) ⟨Nat.le_of_ble_eq_true rfl, Nat.le_of_ble_eq_true rfl⟩ 0 (by rfl) rfl (n := 1) rfl rfl (Nat.le_of_ble_eq_true rfl) dL_isLot_127 rfl rfl rfl ⟨Nat.le_of_ble_eq_true rfl, Nat.le_of_ble_eq_true rfl⟩ (fun r_74 u_74 h_75 => ?_)
                    obtain ⟨rfl, h_75⟩ := h_75
                    refine g_st h_75 ?_
                    refine g_if_ge (tgt := 137) (pc' := 133) C dL_isLot_130 rfl (by decide) (fun (c_76 : 0 ≤ (slX u n).toInt) => ?_) (fun (c_76 : ¬ (0 ≤ (slX u n).toInt)) => ?_)
                    · have hb : (bP ((slX u n).toInt < 0)).toInt = 0 := by rw [bP_f (by omega)]; rfl
                      refine g_iconst (pc' := 138) (v := 0) C dL_isLot_137 rfl (by decide) ?_
                      refine g_icmp_ne (tgt := 176) (pc' := 141) C dL_isLot_138 rfl (by decide) (fun (c_77 : ¬ (bP ((slX u n).toInt < 0)).toInt = 0) => ?_) (fun (c_77 : (bP ((slX u n).toInt < 0)).toInt = 0) => ?_)
                      · skip
                        exact absurd (show False by omega) id
                      · skip
                        refine g_iload_n (pc' := 142) (q := 1) C dL_isLot_141 rfl rfl rfl ?_
                        refine g_if_eq (tgt := 155) (pc' := 145) C dL_isLot_142 rfl (by decide) (fun (c_78 : (u 6 n).toInt = 0) => ?_) (fun (c_78 : ¬ ((u 6 n).toInt = 0)) => ?_)
                        · skip
                          refine g_aload_n (pc' := 156) (q := 2) C dL_isLot_155 rfl rfl rfl ?_
                          refine g_iload_n (pc' := 157) (q := 3) C dL_isLot_156 rfl rfl rfl ?_
                          refine g_calliV (pc' := 160) (As := [.int (nI n)]) (st := []) (cells' := 0) (slots' := 0) C (q_reworks u n hIX (by omega)) gL_isLot_X0_reworks rfl (by decide +kernel) ⟨Nat.le_of_ble_eq_true rfl, Nat.le_of_ble_eq_true rfl⟩ 0 (by rfl) rfl (n := 1) rfl rfl (Nat.le_of_ble_eq_true rfl) dL_isLot_157 rfl rfl rfl ⟨Nat.le_of_ble_eq_true rfl, Nat.le_of_ble_eq_true rfl⟩ (fun r_79 u_79 h_80 => ?_)
                          obtain ⟨rfl, h_80⟩ := h_80
                          refine g_st h_80 ?_
                          refine g_if_lt (tgt := 176) (pc' := 163) C dL_isLot_160 rfl (by decide) (fun (c_81 : (u 10 n).toInt < 0) => ?_) (fun (c_81 : ¬ ((u 10 n).toInt < 0)) => ?_)
                          · skip
                            exact absurd (show False by omega) id
                          · skip
                            refine g_aload_n (pc' := 164) (q := 2) C dL_isLot_163 rfl rfl rfl ?_
                            refine g_iload_n (pc' := 165) (q := 3) C dL_isLot_164 rfl rfl rfl ?_
                            refine g_calliV (pc' := 168) (As := [.int (nI n)]) (st := []) (cells' := 0) (slots' := 0) C (q_reworks u n hIX (by omega)) gL_isLot_X0_reworks rfl (by decide +kernel) ⟨Nat.le_of_ble_eq_true rfl, Nat.le_of_ble_eq_true rfl⟩ 0 (by rfl) rfl (n := 1) rfl rfl (Nat.le_of_ble_eq_true rfl) dL_isLot_165 rfl rfl rfl ⟨Nat.le_of_ble_eq_true rfl, Nat.le_of_ble_eq_true rfl⟩ (fun r_82 u_82 h_83 => ?_)
                            obtain ⟨rfl, h_83⟩ := h_83
                            refine g_st h_83 ?_
                            refine g_iconst (pc' := 169) (v := 2) C dL_isLot_168 rfl (by decide) ?_
                            refine g_icmp_gt (tgt := 176) (pc' := 172) C dL_isLot_169 rfl (by decide) (fun (c_84 : 2 < (u 10 n).toInt) => ?_) (fun (c_84 : ¬ (2 < (u 10 n).toInt)) => ?_)
                            · skip
                              exact absurd (show False by omega) id
                            · skip
                              refine g_iconst (pc' := 173) (v := 1) C dL_isLot_172 rfl (by decide) ?_
                              refine g_goto (tgt := 177) C dL_isLot_173 (by decide) ?_
                              exact g_iret C hr (by decide) ⟨rfl, rfl⟩ dL_isLot_177
                        · skip
                          have hs2 : (slX u n).toInt = 2000000 := by unfold slX; rw [if_neg (fun z => absurd z.1 (by assumption))]; rfl
                          refine g_aload_n (pc' := 146) (q := 2) C dL_isLot_145 rfl rfl rfl ?_
                          refine g_iload_n (pc' := 147) (q := 3) C dL_isLot_146 rfl rfl rfl ?_
                          refine g_calliV (pc' := 150) (As := [.int (nI n)]) (st := []) (cells' := 0) (slots' := 0) C (q_slack u n hIX (by omega)) gL_isLot_X0_slack rfl (by decide +kernel) ⟨Nat.le_of_ble_eq_true rfl, Nat.le_of_ble_eq_true rfl⟩ 0 (by rfl) rfl (n := 1) rfl rfl (Nat.le_of_ble_eq_true rfl) dL_isLot_147 rfl rfl rfl ⟨Nat.le_of_ble_eq_true rfl, Nat.le_of_ble_eq_true rfl⟩ (fun r_85 u_85 h_86 => ?_)
                          obtain ⟨rfl, h_86⟩ := h_86
                          refine g_st h_86 ?_
                          refine g_ldc (pc' := 152) (v := 2000000) C dL_isLot_150 rfl (by decide +kernel) ?_
                          refine g_icmp_ne (tgt := 176) (pc' := 155) C dL_isLot_152 rfl (by decide) (fun (c_87 : ¬ (slX u n).toInt = 2000000) => ?_) (fun (c_87 : (slX u n).toInt = 2000000) => ?_)
                          · skip
                            exact absurd (show False by omega) id
                          · skip
                            refine g_aload_n (pc' := 156) (q := 2) C dL_isLot_155 rfl rfl rfl ?_
                            refine g_iload_n (pc' := 157) (q := 3) C dL_isLot_156 rfl rfl rfl ?_
                            refine g_calliV (pc' := 160) (As := [.int (nI n)]) (st := []) (cells' := 0) (slots' := 0) C (q_reworks u n hIX (by omega)) gL_isLot_X0_reworks rfl (by decide +kernel) ⟨Nat.le_of_ble_eq_true rfl, Nat.le_of_ble_eq_true rfl⟩ 0 (by rfl) rfl (n := 1) rfl rfl (Nat.le_of_ble_eq_true rfl) dL_isLot_157 rfl rfl rfl ⟨Nat.le_of_ble_eq_true rfl, Nat.le_of_ble_eq_true rfl⟩ (fun r_88 u_88 h_89 => ?_)
                            obtain ⟨rfl, h_89⟩ := h_89
                            refine g_st h_89 ?_
                            refine g_if_lt (tgt := 176) (pc' := 163) C dL_isLot_160 rfl (by decide) (fun (c_90 : (u 10 n).toInt < 0) => ?_) (fun (c_90 : ¬ ((u 10 n).toInt < 0)) => ?_)
                            · skip
                              exact absurd (show False by omega) id
                            · skip
                              refine g_aload_n (pc' := 164) (q := 2) C dL_isLot_163 rfl rfl rfl ?_
                              refine g_iload_n (pc' := 165) (q := 3) C dL_isLot_164 rfl rfl rfl ?_
                              refine g_calliV (pc' := 168) (As := [.int (nI n)]) (st := []) (cells' := 0) (slots' := 0) C (q_reworks u n hIX (by omega)) gL_isLot_X0_reworks rfl (by decide +kernel) ⟨Nat.le_of_ble_eq_true rfl, Nat.le_of_ble_eq_true rfl⟩ 0 (by rfl) rfl (n := 1) rfl rfl (Nat.le_of_ble_eq_true rfl) dL_isLot_165 rfl rfl rfl ⟨Nat.le_of_ble_eq_true rfl, Nat.le_of_ble_eq_true rfl⟩ (fun r_91 u_91 h_92 => ?_)
                              obtain ⟨rfl, h_92⟩ := h_92
                              refine g_st h_92 ?_
                              refine g_iconst (pc' := 169) (v := 2) C dL_isLot_168 rfl (by decide) ?_
                              refine g_icmp_gt (tgt := 176) (pc' := 172) C dL_isLot_169 rfl (by decide) (fun (c_93 : 2 < (u 10 n).toInt) => ?_) (fun (c_93 : ¬ (2 < (u 10 n).toInt)) => ?_)
                              · skip
                                exact absurd (show False by omega) id
                              · skip
                                refine g_iconst (pc' := 173) (v := 1) C dL_isLot_172 rfl (by decide) ?_
                                refine g_goto (tgt := 177) C dL_isLot_173 (by decide) ?_
                                exact g_iret C hr (by decide) ⟨rfl, rfl⟩ dL_isLot_177
                    · have hb : (bP ((slX u n).toInt < 0)).toInt = 1 := by rw [bP_t (by omega)]; rfl
                      refine g_iconst (pc' := 134) (v := 1) C dL_isLot_133 rfl (by decide) ?_
                      refine g_goto (tgt := 138) C dL_isLot_134 (by decide) ?_
                      refine g_icmp_ne (tgt := 176) (pc' := 141) C dL_isLot_138 rfl (by decide) (fun (c_94 : ¬ (bP ((slX u n).toInt < 0)).toInt = 1) => ?_) (fun (c_94 : (bP ((slX u n).toInt < 0)).toInt = 1) => ?_)
                      · skip
                        exact absurd (show False by omega) id
                      · skip
                        refine g_iload_n (pc' := 142) (q := 1) C dL_isLot_141 rfl rfl rfl ?_
                        refine g_if_eq (tgt := 155) (pc' := 145) C dL_isLot_142 rfl (by decide) (fun (c_95 : (u 6 n).toInt = 0) => ?_) (fun (c_95 : ¬ ((u 6 n).toInt = 0)) => ?_)
                        · skip
                          refine g_aload_n (pc' := 156) (q := 2) C dL_isLot_155 rfl rfl rfl ?_
                          refine g_iload_n (pc' := 157) (q := 3) C dL_isLot_156 rfl rfl rfl ?_
                          refine g_calliV (pc' := 160) (As := [.int (nI n)]) (st := []) (cells' := 0) (slots' := 0) C (q_reworks u n hIX (by omega)) gL_isLot_X0_reworks rfl (by decide +kernel) ⟨Nat.le_of_ble_eq_true rfl, Nat.le_of_ble_eq_true rfl⟩ 0 (by rfl) rfl (n := 1) rfl rfl (Nat.le_of_ble_eq_true rfl) dL_isLot_157 rfl rfl rfl ⟨Nat.le_of_ble_eq_true rfl, Nat.le_of_ble_eq_true rfl⟩ (fun r_96 u_96 h_97 => ?_)
                          obtain ⟨rfl, h_97⟩ := h_97
                          refine g_st h_97 ?_
                          refine g_if_lt (tgt := 176) (pc' := 163) C dL_isLot_160 rfl (by decide) (fun (c_98 : (u 10 n).toInt < 0) => ?_) (fun (c_98 : ¬ ((u 10 n).toInt < 0)) => ?_)
                          · skip
                            exact absurd (show False by omega) id
                          · skip
                            refine g_aload_n (pc' := 164) (q := 2) C dL_isLot_163 rfl rfl rfl ?_
                            refine g_iload_n (pc' := 165) (q := 3) C dL_isLot_164 rfl rfl rfl ?_
                            refine g_calliV (pc' := 168) (As := [.int (nI n)]) (st := []) (cells' := 0) (slots' := 0) C (q_reworks u n hIX (by omega)) gL_isLot_X0_reworks rfl (by decide +kernel) ⟨Nat.le_of_ble_eq_true rfl, Nat.le_of_ble_eq_true rfl⟩ 0 (by rfl) rfl (n := 1) rfl rfl (Nat.le_of_ble_eq_true rfl) dL_isLot_165 rfl rfl rfl ⟨Nat.le_of_ble_eq_true rfl, Nat.le_of_ble_eq_true rfl⟩ (fun r_99 u_99 h_100 => ?_)
                            obtain ⟨rfl, h_100⟩ := h_100
                            refine g_st h_100 ?_
                            refine g_iconst (pc' := 169) (v := 2) C dL_isLot_168 rfl (by decide) ?_
                            refine g_icmp_gt (tgt := 176) (pc' := 172) C dL_isLot_169 rfl (by decide) (fun (c_101 : 2 < (u 10 n).toInt) => ?_) (fun (c_101 : ¬ (2 < (u 10 n).toInt)) => ?_)
                            · skip
                              exact absurd (show False by omega) id
                            · skip
                              refine g_iconst (pc' := 173) (v := 1) C dL_isLot_172 rfl (by decide) ?_
                              refine g_goto (tgt := 177) C dL_isLot_173 (by decide) ?_
                              exact g_iret C hr (by decide) ⟨rfl, rfl⟩ dL_isLot_177
                        · skip
                          have hs2 : (slX u n).toInt = 2000000 := by unfold slX; rw [if_neg (fun z => absurd z.1 (by assumption))]; rfl
                          refine g_aload_n (pc' := 146) (q := 2) C dL_isLot_145 rfl rfl rfl ?_
                          refine g_iload_n (pc' := 147) (q := 3) C dL_isLot_146 rfl rfl rfl ?_
                          refine g_calliV (pc' := 150) (As := [.int (nI n)]) (st := []) (cells' := 0) (slots' := 0) C (q_slack u n hIX (by omega)) gL_isLot_X0_slack rfl (by decide +kernel) ⟨Nat.le_of_ble_eq_true rfl, Nat.le_of_ble_eq_true rfl⟩ 0 (by rfl) rfl (n := 1) rfl rfl (Nat.le_of_ble_eq_true rfl) dL_isLot_147 rfl rfl rfl ⟨Nat.le_of_ble_eq_true rfl, Nat.le_of_ble_eq_true rfl⟩ (fun r_102 u_102 h_103 => ?_)
                          obtain ⟨rfl, h_103⟩ := h_103
                          refine g_st h_103 ?_
                          refine g_ldc (pc' := 152) (v := 2000000) C dL_isLot_150 rfl (by decide +kernel) ?_
                          refine g_icmp_ne (tgt := 176) (pc' := 155) C dL_isLot_152 rfl (by decide) (fun (c_104 : ¬ (slX u n).toInt = 2000000) => ?_) (fun (c_104 : (slX u n).toInt = 2000000) => ?_)
                          · skip
                            exact absurd (show False by omega) id
                          · skip
                            refine g_aload_n (pc' := 156) (q := 2) C dL_isLot_155 rfl rfl rfl ?_
                            refine g_iload_n (pc' := 157) (q := 3) C dL_isLot_156 rfl rfl rfl ?_
                            refine g_calliV (pc' := 160) (As := [.int (nI n)]) (st := []) (cells' := 0) (slots' := 0) C (q_reworks u n hIX (by omega)) gL_isLot_X0_reworks rfl (by decide +kernel) ⟨Nat.le_of_ble_eq_true rfl, Nat.le_of_ble_eq_true rfl⟩ 0 (by rfl) rfl (n := 1) rfl rfl (Nat.le_of_ble_eq_true rfl) dL_isLot_157 rfl rfl rfl ⟨Nat.le_of_ble_eq_true rfl, Nat.le_of_ble_eq_true rfl⟩ (fun r_105 u_105 h_106 => ?_)
                            obtain ⟨rfl, h_106⟩ := h_106
                            refine g_st h_106 ?_
                            refine g_if_lt (tgt := 176) (pc' := 163) C dL_isLot_160 rfl (by decide) (fun (c_107 : (u 10 n).toInt < 0) => ?_) (fun (c_107 : ¬ ((u 10 n).toInt < 0)) => ?_)
                            · skip
                              exact absurd (show False by omega) id
                            · skip
                              refine g_aload_n (pc' := 164) (q := 2) C dL_isLot_163 rfl rfl rfl ?_
                              refine g_iload_n (pc' := 165) (q := 3) C dL_isLot_164 rfl rfl rfl ?_
                              refine g_calliV (pc' := 168) (As := [.int (nI n)]) (st := []) (cells' := 0) (slots' := 0) C (q_reworks u n hIX (by omega)) gL_isLot_X0_reworks rfl (by decide +kernel) ⟨Nat.le_of_ble_eq_true rfl, Nat.le_of_ble_eq_true rfl⟩ 0 (by rfl) rfl (n := 1) rfl rfl (Nat.le_of_ble_eq_true rfl) dL_isLot_165 rfl rfl rfl ⟨Nat.le_of_ble_eq_true rfl, Nat.le_of_ble_eq_true rfl⟩ (fun r_108 u_108 h_109 => ?_)
                              obtain ⟨rfl, h_109⟩ := h_109
                              refine g_st h_109 ?_
                              refine g_iconst (pc' := 169) (v := 2) C dL_isLot_168 rfl (by decide) ?_
                              refine g_icmp_gt (tgt := 176) (pc' := 172) C dL_isLot_169 rfl (by decide) (fun (c_110 : 2 < (u 10 n).toInt) => ?_) (fun (c_110 : ¬ (2 < (u 10 n).toInt)) => ?_)
                              · skip
                                exact absurd (show False by omega) id
                              · skip
                                refine g_iconst (pc' := 173) (v := 1) C dL_isLot_172 rfl (by decide) ?_
                                refine g_goto (tgt := 177) C dL_isLot_173 (by decide) ?_
                                exact g_iret C hr (by decide) ⟨rfl, rfl⟩ dL_isLot_177
            · skip
              refine g_iconst (pc' := 65) (v := 1) C dL_isLot_64 rfl (by decide) ?_
              refine g_goto (tgt := 69) C dL_isLot_65 (by decide) ?_
              refine g_icmp_ne (tgt := 112) (pc' := 72) C dL_isLot_69 rfl (by decide) (fun _ => ?_) (fun h => absurd h (by decide))
              exact absurd (show False by omega) id
          · skip
            refine g_iconst (pc' := 56) (v := 1) C dL_isLot_55 rfl (by decide) ?_
            refine g_goto (tgt := 60) C dL_isLot_56 (by decide) ?_
            refine g_iload_n (pc' := 61) (q := 3) C dL_isLot_60 rfl rfl rfl ?_
            have b_111 := ctA_le (u 14) (nI n) i
            have t_112 : (nI (ctA (u 14) (nI n) i)).toInt = ((ctA (u 14) (nI n) i : Nat) : Int) := nI_toInt (by omega)
            refine g_if_ne (tgt := 68) (pc' := 64) C dL_isLot_61 rfl (by decide) (fun (c_113 : ¬ (nI (ctA (u 14) (nI n) i)).toInt = 0) => ?_) (fun (c_113 : (nI (ctA (u 14) (nI n) i)).toInt = 0) => ?_)
            · skip
              refine g_iconst (pc' := 69) (v := 0) C dL_isLot_68 rfl (by decide) ?_
              refine g_icmp_ne (tgt := 112) (pc' := 72) C dL_isLot_69 rfl (by decide) (fun _ => ?_) (fun h => absurd h (by decide))
              exact absurd (show False by omega) id
            · skip
              refine g_iconst (pc' := 65) (v := 1) C dL_isLot_64 rfl (by decide) ?_
              refine g_goto (tgt := 69) C dL_isLot_65 (by decide) ?_
              refine g_icmp_ne (tgt := 112) (pc' := 72) C dL_isLot_69 rfl (by decide) (fun h => absurd h (by decide)) (fun _ => ?_)
              refine g_iload_n (pc' := 73) (q := 0) C dL_isLot_72 rfl rfl rfl ?_
              refine g_iconst (pc' := 74) (v := 1) C dL_isLot_73 rfl (by decide) ?_
              refine g_icmp_le (tgt := 81) (pc' := 77) C dL_isLot_74 rfl (by decide) (fun (c_114 : (u 6 n).toInt ≤ 1) => ?_) (fun (c_114 : ¬ ((u 6 n).toInt ≤ 1)) => ?_)
              · skip
                refine g_iconst (pc' := 82) (v := 0) C dL_isLot_81 rfl (by decide) ?_
                refine g_aload_n (pc' := 83) (q := 1) C dL_isLot_82 rfl rfl rfl ?_
                refine g_iload_n (pc' := 84) (q := 2) C dL_isLot_83 rfl rfl rfl ?_
                refine g_calliV (pc' := 87) (As := [.int (nI n)]) (st := [.int 0]) (cells' := 0) (slots' := 0) C (q_stepOf u n hIX (by omega)) gL_isLot_X0_stepOf rfl (by decide +kernel) ⟨Nat.le_of_ble_eq_true rfl, Nat.le_of_ble_eq_true rfl⟩ 0 (by rfl) rfl (n := 1) rfl rfl (Nat.le_of_ble_eq_true rfl) dL_isLot_84 rfl rfl rfl ⟨Nat.le_of_ble_eq_true rfl, Nat.le_of_ble_eq_true rfl⟩ (fun r_115 u_115 h_116 => ?_)
                obtain ⟨rfl, h_116⟩ := h_116
                refine g_st h_116 ?_
                refine g_iconst (pc' := 88) (v := (-1)) C dL_isLot_87 rfl (by decide) ?_
                refine g_icmp_ne (tgt := 95) (pc' := 91) C dL_isLot_88 rfl (by decide) (fun (c_117 : ¬ (u 7 n).toInt = -1) => ?_) (fun (c_117 : (u 7 n).toInt = -1) => ?_)
                · skip
                  refine g_iconst (pc' := 96) (v := 0) C dL_isLot_95 rfl (by decide) ?_
                  refine g_icmp_ne (tgt := 112) (pc' := 99) C dL_isLot_96 rfl (by decide) (fun h => absurd h (by decide)) (fun _ => ?_)
                  refine g_aload_n (pc' := 100) (q := 1) C dL_isLot_99 rfl rfl rfl ?_
                  refine g_iload_n (pc' := 101) (q := 2) C dL_isLot_100 rfl rfl rfl ?_
                  refine g_calliV (pc' := 104) (As := [.int (nI n)]) (st := []) (cells' := 0) (slots' := 0) C (q_parentOf u n hIX (by omega)) gL_isLot_X0_parentOf rfl (by decide +kernel) ⟨Nat.le_of_ble_eq_true rfl, Nat.le_of_ble_eq_true rfl⟩ 0 (by rfl) rfl (n := 1) rfl rfl (Nat.le_of_ble_eq_true rfl) dL_isLot_101 rfl rfl rfl ⟨Nat.le_of_ble_eq_true rfl, Nat.le_of_ble_eq_true rfl⟩ (fun r_118 u_118 h_119 => ?_)
                  obtain ⟨rfl, h_119⟩ := h_119
                  refine g_st h_119 ?_
                  refine g_iload_n (pc' := 105) (q := 2) C dL_isLot_104 rfl rfl rfl ?_
                  have t_120 : (nI n).toInt = ((n : Nat) : Int) := nI_toInt (by omega)
                  refine g_icmp_ge (tgt := 112) (pc' := 108) C dL_isLot_105 rfl (by decide) (fun (c_121 : (nI n).toInt ≤ (u 11 n).toInt) => ?_) (fun (c_121 : ¬ ((nI n).toInt ≤ (u 11 n).toInt)) => ?_)
                  · skip
                    exact absurd (show False by omega) id
                  · skip
                    refine g_iconst (pc' := 109) (v := 1) C dL_isLot_108 rfl (by decide) ?_
                    refine g_goto (tgt := 113) C dL_isLot_109 (by decide) ?_
                    refine g_istore (pc' := 115) (L' := [(4, .int 1), (3, .int (u 6 n)), (0, .ref (a 0)), (1, .int (nI n)), (2, .int (nI (ctA (u 14) (nI n) i)))]) C dL_isLot_113 rfl (by decide) rfl ?_
                    refine g_iload (pc' := 117) (q := 0) C dL_isLot_115 rfl rfl ?_
                    refine g_if_eq (tgt := 176) (pc' := 120) C dL_isLot_117 rfl (by decide) (fun h => absurd h (by decide)) (fun _ => ?_)
                    refine g_aload_n (pc' := 121) (q := 2) C dL_isLot_120 rfl rfl rfl ?_
                    refine g_iload_n (pc' := 122) (q := 3) C dL_isLot_121 rfl rfl rfl ?_
                    refine g_calliV (pc' := 125) (As := [.int (nI n)]) (st := []) (cells' := 0) (slots' := 0) C (q_isLate u n hIX (by omega)) gL_isLot_X0_isLate rfl (by decide +kernel) ⟨Nat.le_of_ble_eq_true rfl, Nat.le_of_ble_eq_true rfl⟩ 0 (by rfl) rfl (n := 1) rfl rfl (Nat.le_of_ble_eq_true rfl) dL_isLot_122 rfl rfl rfl ⟨Nat.le_of_ble_eq_true rfl, Nat.le_of_ble_eq_true rfl⟩ (fun r_122 u_122 h_123 => ?_)
                    obtain ⟨rfl, h_123⟩ := h_123
                    refine g_st h_123 ?_
                    refine g_aload_n (pc' := 126) (q := 2) C dL_isLot_125 rfl rfl rfl ?_
                    refine g_iload_n (pc' := 127) (q := 3) C dL_isLot_126 rfl rfl rfl ?_
                    refine g_calliV (pc' := 130) (As := [.int (nI n)]) (st := [.int (bP ((slX u n).toInt < 0))]) (cells' := 0) (slots' := 0) C (q_slack u n hIX (by omega)) gL_isLot_X0_slack rfl (by decide +kernel) ⟨Nat.le_of_ble_eq_true rfl, Nat.le_of_ble_eq_true rfl⟩ 0 (by rfl) rfl (n := 1) rfl rfl (Nat.le_of_ble_eq_true rfl) dL_isLot_127 rfl rfl rfl ⟨Nat.le_of_ble_eq_true rfl, Nat.le_of_ble_eq_true rfl⟩ (fun r_124 u_124 h_125 => ?_)
                    obtain ⟨rfl, h_125⟩ := h_125
                    refine g_st h_125 ?_
                    refine g_if_ge (tgt := 137) (pc' := 133) C dL_isLot_130 rfl (by decide) (fun (c_126 : 0 ≤ (slX u n).toInt) => ?_) (fun (c_126 : ¬ (0 ≤ (slX u n).toInt)) => ?_)
                    · have hb : (bP ((slX u n).toInt < 0)).toInt = 0 := by rw [bP_f (by omega)]; rfl
                      refine g_iconst (pc' := 138) (v := 0) C dL_isLot_137 rfl (by decide) ?_
                      refine g_icmp_ne (tgt := 176) (pc' := 141) C dL_isLot_138 rfl (by decide) (fun (c_127 : ¬ (bP ((slX u n).toInt < 0)).toInt = 0) => ?_) (fun (c_127 : (bP ((slX u n).toInt < 0)).toInt = 0) => ?_)
                      · skip
                        exact absurd (show False by omega) id
                      · skip
                        refine g_iload_n (pc' := 142) (q := 1) C dL_isLot_141 rfl rfl rfl ?_
                        refine g_if_eq (tgt := 155) (pc' := 145) C dL_isLot_142 rfl (by decide) (fun (c_128 : (u 6 n).toInt = 0) => ?_) (fun (c_128 : ¬ ((u 6 n).toInt = 0)) => ?_)
                        · skip
                          refine g_aload_n (pc' := 156) (q := 2) C dL_isLot_155 rfl rfl rfl ?_
                          refine g_iload_n (pc' := 157) (q := 3) C dL_isLot_156 rfl rfl rfl ?_
                          refine g_calliV (pc' := 160) (As := [.int (nI n)]) (st := []) (cells' := 0) (slots' := 0) C (q_reworks u n hIX (by omega)) gL_isLot_X0_reworks rfl (by decide +kernel) ⟨Nat.le_of_ble_eq_true rfl, Nat.le_of_ble_eq_true rfl⟩ 0 (by rfl) rfl (n := 1) rfl rfl (Nat.le_of_ble_eq_true rfl) dL_isLot_157 rfl rfl rfl ⟨Nat.le_of_ble_eq_true rfl, Nat.le_of_ble_eq_true rfl⟩ (fun r_129 u_129 h_130 => ?_)
                          obtain ⟨rfl, h_130⟩ := h_130
                          refine g_st h_130 ?_
                          refine g_if_lt (tgt := 176) (pc' := 163) C dL_isLot_160 rfl (by decide) (fun (c_131 : (u 10 n).toInt < 0) => ?_) (fun (c_131 : ¬ ((u 10 n).toInt < 0)) => ?_)
                          · skip
                            exact absurd (show False by omega) id
                          · skip
                            refine g_aload_n (pc' := 164) (q := 2) C dL_isLot_163 rfl rfl rfl ?_
                            refine g_iload_n (pc' := 165) (q := 3) C dL_isLot_164 rfl rfl rfl ?_
                            refine g_calliV (pc' := 168) (As := [.int (nI n)]) (st := []) (cells' := 0) (slots' := 0) C (q_reworks u n hIX (by omega)) gL_isLot_X0_reworks rfl (by decide +kernel) ⟨Nat.le_of_ble_eq_true rfl, Nat.le_of_ble_eq_true rfl⟩ 0 (by rfl) rfl (n := 1) rfl rfl (Nat.le_of_ble_eq_true rfl) dL_isLot_165 rfl rfl rfl ⟨Nat.le_of_ble_eq_true rfl, Nat.le_of_ble_eq_true rfl⟩ (fun r_132 u_132 h_133 => ?_)
                            obtain ⟨rfl, h_133⟩ := h_133
                            refine g_st h_133 ?_
                            refine g_iconst (pc' := 169) (v := 2) C dL_isLot_168 rfl (by decide) ?_
                            refine g_icmp_gt (tgt := 176) (pc' := 172) C dL_isLot_169 rfl (by decide) (fun (c_134 : 2 < (u 10 n).toInt) => ?_) (fun (c_134 : ¬ (2 < (u 10 n).toInt)) => ?_)
                            · skip
                              exact absurd (show False by omega) id
                            · skip
                              refine g_iconst (pc' := 173) (v := 1) C dL_isLot_172 rfl (by decide) ?_
                              refine g_goto (tgt := 177) C dL_isLot_173 (by decide) ?_
                              exact g_iret C hr (by decide) ⟨rfl, rfl⟩ dL_isLot_177
                        · skip
                          have hs2 : (slX u n).toInt = 2000000 := by unfold slX; rw [if_neg (fun z => absurd z.1 (by assumption))]; rfl
                          refine g_aload_n (pc' := 146) (q := 2) C dL_isLot_145 rfl rfl rfl ?_
                          refine g_iload_n (pc' := 147) (q := 3) C dL_isLot_146 rfl rfl rfl ?_
                          refine g_calliV (pc' := 150) (As := [.int (nI n)]) (st := []) (cells' := 0) (slots' := 0) C (q_slack u n hIX (by omega)) gL_isLot_X0_slack rfl (by decide +kernel) ⟨Nat.le_of_ble_eq_true rfl, Nat.le_of_ble_eq_true rfl⟩ 0 (by rfl) rfl (n := 1) rfl rfl (Nat.le_of_ble_eq_true rfl) dL_isLot_147 rfl rfl rfl ⟨Nat.le_of_ble_eq_true rfl, Nat.le_of_ble_eq_true rfl⟩ (fun r_135 u_135 h_136 => ?_)
                          obtain ⟨rfl, h_136⟩ := h_136
                          refine g_st h_136 ?_
                          refine g_ldc (pc' := 152) (v := 2000000) C dL_isLot_150 rfl (by decide +kernel) ?_
                          refine g_icmp_ne (tgt := 176) (pc' := 155) C dL_isLot_152 rfl (by decide) (fun (c_137 : ¬ (slX u n).toInt = 2000000) => ?_) (fun (c_137 : (slX u n).toInt = 2000000) => ?_)
                          · skip
                            exact absurd (show False by omega) id
                          · skip
                            refine g_aload_n (pc' := 156) (q := 2) C dL_isLot_155 rfl rfl rfl ?_
                            refine g_iload_n (pc' := 157) (q := 3) C dL_isLot_156 rfl rfl rfl ?_
                            refine g_calliV (pc' := 160) (As := [.int (nI n)]) (st := []) (cells' := 0) (slots' := 0) C (q_reworks u n hIX (by omega)) gL_isLot_X0_reworks rfl (by decide +kernel) ⟨Nat.le_of_ble_eq_true rfl, Nat.le_of_ble_eq_true rfl⟩ 0 (by rfl) rfl (n := 1) rfl rfl (Nat.le_of_ble_eq_true rfl) dL_isLot_157 rfl rfl rfl ⟨Nat.le_of_ble_eq_true rfl, Nat.le_of_ble_eq_true rfl⟩ (fun r_138 u_138 h_139 => ?_)
                            obtain ⟨rfl, h_139⟩ := h_139
                            refine g_st h_139 ?_
                            refine g_if_lt (tgt := 176) (pc' := 163) C dL_isLot_160 rfl (by decide) (fun (c_140 : (u 10 n).toInt < 0) => ?_) (fun (c_140 : ¬ ((u 10 n).toInt < 0)) => ?_)
                            · skip
                              exact absurd (show False by omega) id
                            · skip
                              refine g_aload_n (pc' := 164) (q := 2) C dL_isLot_163 rfl rfl rfl ?_
                              refine g_iload_n (pc' := 165) (q := 3) C dL_isLot_164 rfl rfl rfl ?_
                              refine g_calliV (pc' := 168) (As := [.int (nI n)]) (st := []) (cells' := 0) (slots' := 0) C (q_reworks u n hIX (by omega)) gL_isLot_X0_reworks rfl (by decide +kernel) ⟨Nat.le_of_ble_eq_true rfl, Nat.le_of_ble_eq_true rfl⟩ 0 (by rfl) rfl (n := 1) rfl rfl (Nat.le_of_ble_eq_true rfl) dL_isLot_165 rfl rfl rfl ⟨Nat.le_of_ble_eq_true rfl, Nat.le_of_ble_eq_true rfl⟩ (fun r_141 u_141 h_142 => ?_)
                              obtain ⟨rfl, h_142⟩ := h_142
                              refine g_st h_142 ?_
                              refine g_iconst (pc' := 169) (v := 2) C dL_isLot_168 rfl (by decide) ?_
                              refine g_icmp_gt (tgt := 176) (pc' := 172) C dL_isLot_169 rfl (by decide) (fun (c_143 : 2 < (u 10 n).toInt) => ?_) (fun (c_143 : ¬ (2 < (u 10 n).toInt)) => ?_)
                              · skip
                                exact absurd (show False by omega) id
                              · skip
                                refine g_iconst (pc' := 173) (v := 1) C dL_isLot_172 rfl (by decide) ?_
                                refine g_goto (tgt := 177) C dL_isLot_173 (by decide) ?_
                                exact g_iret C hr (by decide) ⟨rfl, rfl⟩ dL_isLot_177
                    · have hb : (bP ((slX u n).toInt < 0)).toInt = 1 := by rw [bP_t (by omega)]; rfl
                      refine g_iconst (pc' := 134) (v := 1) C dL_isLot_133 rfl (by decide) ?_
                      refine g_goto (tgt := 138) C dL_isLot_134 (by decide) ?_
                      refine g_icmp_ne (tgt := 176) (pc' := 141) C dL_isLot_138 rfl (by decide) (fun (c_144 : ¬ (bP ((slX u n).toInt < 0)).toInt = 1) => ?_) (fun (c_144 : (bP ((slX u n).toInt < 0)).toInt = 1) => ?_)
                      · skip
                        exact absurd (show False by omega) id
                      · skip
                        refine g_iload_n (pc' := 142) (q := 1) C dL_isLot_141 rfl rfl rfl ?_
                        refine g_if_eq (tgt := 155) (pc' := 145) C dL_isLot_142 rfl (by decide) (fun (c_145 : (u 6 n).toInt = 0) => ?_) (fun (c_145 : ¬ ((u 6 n).toInt = 0)) => ?_)
                        · skip
                          refine g_aload_n (pc' := 156) (q := 2) C dL_isLot_155 rfl rfl rfl ?_
                          refine g_iload_n (pc' := 157) (q := 3) C dL_isLot_156 rfl rfl rfl ?_
                          refine g_calliV (pc' := 160) (As := [.int (nI n)]) (st := []) (cells' := 0) (slots' := 0) C (q_reworks u n hIX (by omega)) gL_isLot_X0_reworks rfl (by decide +kernel) ⟨Nat.le_of_ble_eq_true rfl, Nat.le_of_ble_eq_true rfl⟩ 0 (by rfl) rfl (n := 1) rfl rfl (Nat.le_of_ble_eq_true rfl) dL_isLot_157 rfl rfl rfl ⟨Nat.le_of_ble_eq_true rfl, Nat.le_of_ble_eq_true rfl⟩ (fun r_146 u_146 h_147 => ?_)
                          obtain ⟨rfl, h_147⟩ := h_147
                          refine g_st h_147 ?_
                          refine g_if_lt (tgt := 176) (pc' := 163) C dL_isLot_160 rfl (by decide) (fun (c_148 : (u 10 n).toInt < 0) => ?_) (fun (c_148 : ¬ ((u 10 n).toInt < 0)) => ?_)
                          · skip
                            exact absurd (show False by omega) id
                          · skip
                            refine g_aload_n (pc' := 164) (q := 2) C dL_isLot_163 rfl rfl rfl ?_
                            refine g_iload_n (pc' := 165) (q := 3) C dL_isLot_164 rfl rfl rfl ?_
                            refine g_calliV (pc' := 168) (As := [.int (nI n)]) (st := []) (cells' := 0) (slots' := 0) C (q_reworks u n hIX (by omega)) gL_isLot_X0_reworks rfl (by decide +kernel) ⟨Nat.le_of_ble_eq_true rfl, Nat.le_of_ble_eq_true rfl⟩ 0 (by rfl) rfl (n := 1) rfl rfl (Nat.le_of_ble_eq_true rfl) dL_isLot_165 rfl rfl rfl ⟨Nat.le_of_ble_eq_true rfl, Nat.le_of_ble_eq_true rfl⟩ (fun r_149 u_149 h_150 => ?_)
                            obtain ⟨rfl, h_150⟩ := h_150
                            refine g_st h_150 ?_
                            refine g_iconst (pc' := 169) (v := 2) C dL_isLot_168 rfl (by decide) ?_
                            refine g_icmp_gt (tgt := 176) (pc' := 172) C dL_isLot_169 rfl (by decide) (fun (c_151 : 2 < (u 10 n).toInt) => ?_) (fun (c_151 : ¬ (2 < (u 10 n).toInt)) => ?_)
                            · skip
                              exact absurd (show False by omega) id
                            · skip
                              refine g_iconst (pc' := 173) (v := 1) C dL_isLot_172 rfl (by decide) ?_
                              refine g_goto (tgt := 177) C dL_isLot_173 (by decide) ?_
                              exact g_iret C hr (by decide) ⟨rfl, rfl⟩ dL_isLot_177
                        · skip
                          have hs2 : (slX u n).toInt = 2000000 := by unfold slX; rw [if_neg (fun z => absurd z.1 (by assumption))]; rfl
                          refine g_aload_n (pc' := 146) (q := 2) C dL_isLot_145 rfl rfl rfl ?_
                          refine g_iload_n (pc' := 147) (q := 3) C dL_isLot_146 rfl rfl rfl ?_
                          refine g_calliV (pc' := 150) (As := [.int (nI n)]) (st := []) (cells' := 0) (slots' := 0) C (q_slack u n hIX (by omega)) gL_isLot_X0_slack rfl (by decide +kernel) ⟨Nat.le_of_ble_eq_true rfl, Nat.le_of_ble_eq_true rfl⟩ 0 (by rfl) rfl (n := 1) rfl rfl (Nat.le_of_ble_eq_true rfl) dL_isLot_147 rfl rfl rfl ⟨Nat.le_of_ble_eq_true rfl, Nat.le_of_ble_eq_true rfl⟩ (fun r_152 u_152 h_153 => ?_)
                          obtain ⟨rfl, h_153⟩ := h_153
                          refine g_st h_153 ?_
                          refine g_ldc (pc' := 152) (v := 2000000) C dL_isLot_150 rfl (by decide +kernel) ?_
                          refine g_icmp_ne (tgt := 176) (pc' := 155) C dL_isLot_152 rfl (by decide) (fun (c_154 : ¬ (slX u n).toInt = 2000000) => ?_) (fun (c_154 : (slX u n).toInt = 2000000) => ?_)
                          · skip
                            exact absurd (show False by omega) id
                          · skip
                            refine g_aload_n (pc' := 156) (q := 2) C dL_isLot_155 rfl rfl rfl ?_
                            refine g_iload_n (pc' := 157) (q := 3) C dL_isLot_156 rfl rfl rfl ?_
                            refine g_calliV (pc' := 160) (As := [.int (nI n)]) (st := []) (cells' := 0) (slots' := 0) C (q_reworks u n hIX (by omega)) gL_isLot_X0_reworks rfl (by decide +kernel) ⟨Nat.le_of_ble_eq_true rfl, Nat.le_of_ble_eq_true rfl⟩ 0 (by rfl) rfl (n := 1) rfl rfl (Nat.le_of_ble_eq_true rfl) dL_isLot_157 rfl rfl rfl ⟨Nat.le_of_ble_eq_true rfl, Nat.le_of_ble_eq_true rfl⟩ (fun r_155 u_155 h_156 => ?_)
                            obtain ⟨rfl, h_156⟩ := h_156
                            refine g_st h_156 ?_
                            refine g_if_lt (tgt := 176) (pc' := 163) C dL_isLot_160 rfl (by decide) (fun (c_157 : (u 10 n).toInt < 0) => ?_) (fun (c_157 : ¬ ((u 10 n).toInt < 0)) => ?_)
                            · skip
                              exact absurd (show False by omega) id
                            · skip
                              refine g_aload_n (pc' := 164) (q := 2) C dL_isLot_163 rfl rfl rfl ?_
                              refine g_iload_n (pc' := 165) (q := 3) C dL_isLot_164 rfl rfl rfl ?_
                              refine g_calliV (pc' := 168) (As := [.int (nI n)]) (st := []) (cells' := 0) (slots' := 0) C (q_reworks u n hIX (by omega)) gL_isLot_X0_reworks rfl (by decide +kernel) ⟨Nat.le_of_ble_eq_true rfl, Nat.le_of_ble_eq_true rfl⟩ 0 (by rfl) rfl (n := 1) rfl rfl (Nat.le_of_ble_eq_true rfl) dL_isLot_165 rfl rfl rfl ⟨Nat.le_of_ble_eq_true rfl, Nat.le_of_ble_eq_true rfl⟩ (fun r_158 u_158 h_159 => ?_)
                              obtain ⟨rfl, h_159⟩ := h_159
                              refine g_st h_159 ?_
                              refine g_iconst (pc' := 169) (v := 2) C dL_isLot_168 rfl (by decide) ?_
                              refine g_icmp_gt (tgt := 176) (pc' := 172) C dL_isLot_169 rfl (by decide) (fun (c_160 : 2 < (u 10 n).toInt) => ?_) (fun (c_160 : ¬ (2 < (u 10 n).toInt)) => ?_)
                              · skip
                                exact absurd (show False by omega) id
                              · skip
                                refine g_iconst (pc' := 173) (v := 1) C dL_isLot_172 rfl (by decide) ?_
                                refine g_goto (tgt := 177) C dL_isLot_173 (by decide) ?_
                                exact g_iret C hr (by decide) ⟨rfl, rfl⟩ dL_isLot_177
                · skip
                  refine g_iconst (pc' := 92) (v := 1) C dL_isLot_91 rfl (by decide) ?_
                  refine g_goto (tgt := 96) C dL_isLot_92 (by decide) ?_
                  refine g_icmp_ne (tgt := 112) (pc' := 99) C dL_isLot_96 rfl (by decide) (fun _ => ?_) (fun h => absurd h (by decide))
                  exact absurd (show False by omega) id
              · skip
                refine g_iconst (pc' := 78) (v := 1) C dL_isLot_77 rfl (by decide) ?_
                refine g_goto (tgt := 82) C dL_isLot_78 (by decide) ?_
                refine g_aload_n (pc' := 83) (q := 1) C dL_isLot_82 rfl rfl rfl ?_
                refine g_iload_n (pc' := 84) (q := 2) C dL_isLot_83 rfl rfl rfl ?_
                refine g_calliV (pc' := 87) (As := [.int (nI n)]) (st := [.int 1]) (cells' := 0) (slots' := 0) C (q_stepOf u n hIX (by omega)) gL_isLot_X0_stepOf rfl (by decide +kernel) ⟨Nat.le_of_ble_eq_true rfl, Nat.le_of_ble_eq_true rfl⟩ 0 (by rfl) rfl (n := 1) rfl rfl (Nat.le_of_ble_eq_true rfl) dL_isLot_84 rfl rfl rfl ⟨Nat.le_of_ble_eq_true rfl, Nat.le_of_ble_eq_true rfl⟩ (fun r_161 u_161 h_162 => ?_)
                obtain ⟨rfl, h_162⟩ := h_162
                refine g_st h_162 ?_
                refine g_iconst (pc' := 88) (v := (-1)) C dL_isLot_87 rfl (by decide) ?_
                refine g_icmp_ne (tgt := 95) (pc' := 91) C dL_isLot_88 rfl (by decide) (fun (c_163 : ¬ (u 7 n).toInt = -1) => ?_) (fun (c_163 : (u 7 n).toInt = -1) => ?_)
                · skip
                  refine g_iconst (pc' := 96) (v := 0) C dL_isLot_95 rfl (by decide) ?_
                  refine g_icmp_ne (tgt := 112) (pc' := 99) C dL_isLot_96 rfl (by decide) (fun _ => ?_) (fun h => absurd h (by decide))
                  exact absurd (show False by omega) id
                · skip
                  refine g_iconst (pc' := 92) (v := 1) C dL_isLot_91 rfl (by decide) ?_
                  refine g_goto (tgt := 96) C dL_isLot_92 (by decide) ?_
                  refine g_icmp_ne (tgt := 112) (pc' := 99) C dL_isLot_96 rfl (by decide) (fun h => absurd h (by decide)) (fun _ => ?_)
                  refine g_aload_n (pc' := 100) (q := 1) C dL_isLot_99 rfl rfl rfl ?_
                  refine g_iload_n (pc' := 101) (q := 2) C dL_isLot_100 rfl rfl rfl ?_
                  refine g_calliV (pc' := 104) (As := [.int (nI n)]) (st := []) (cells' := 0) (slots' := 0) C (q_parentOf u n hIX (by omega)) gL_isLot_X0_parentOf rfl (by decide +kernel) ⟨Nat.le_of_ble_eq_true rfl, Nat.le_of_ble_eq_true rfl⟩ 0 (by rfl) rfl (n := 1) rfl rfl (Nat.le_of_ble_eq_true rfl) dL_isLot_101 rfl rfl rfl ⟨Nat.le_of_ble_eq_true rfl, Nat.le_of_ble_eq_true rfl⟩ (fun r_164 u_164 h_165 => ?_)
                  obtain ⟨rfl, h_165⟩ := h_165
                  refine g_st h_165 ?_
                  refine g_iload_n (pc' := 105) (q := 2) C dL_isLot_104 rfl rfl rfl ?_
                  have t_166 : (nI n).toInt = ((n : Nat) : Int) := nI_toInt (by omega)
                  refine g_icmp_ge (tgt := 112) (pc' := 108) C dL_isLot_105 rfl (by decide) (fun (c_167 : (nI n).toInt ≤ (u 11 n).toInt) => ?_) (fun (c_167 : ¬ ((nI n).toInt ≤ (u 11 n).toInt)) => ?_)
                  · skip
                    exact absurd (show False by omega) id
                  · skip
                    refine g_iconst (pc' := 109) (v := 1) C dL_isLot_108 rfl (by decide) ?_
                    refine g_goto (tgt := 113) C dL_isLot_109 (by decide) ?_
                    refine g_istore (pc' := 115) (L' := [(4, .int 1), (3, .int (u 6 n)), (0, .ref (a 0)), (1, .int (nI n)), (2, .int (nI (ctA (u 14) (nI n) i)))]) C dL_isLot_113 rfl (by decide) rfl ?_
                    refine g_iload (pc' := 117) (q := 0) C dL_isLot_115 rfl rfl ?_
                    refine g_if_eq (tgt := 176) (pc' := 120) C dL_isLot_117 rfl (by decide) (fun h => absurd h (by decide)) (fun _ => ?_)
                    refine g_aload_n (pc' := 121) (q := 2) C dL_isLot_120 rfl rfl rfl ?_
                    refine g_iload_n (pc' := 122) (q := 3) C dL_isLot_121 rfl rfl rfl ?_
                    refine g_calliV (pc' := 125) (As := [.int (nI n)]) (st := []) (cells' := 0) (slots' := 0) C (q_isLate u n hIX (by omega)) gL_isLot_X0_isLate rfl (by decide +kernel) ⟨Nat.le_of_ble_eq_true rfl, Nat.le_of_ble_eq_true rfl⟩ 0 (by rfl) rfl (n := 1) rfl rfl (Nat.le_of_ble_eq_true rfl) dL_isLot_122 rfl rfl rfl ⟨Nat.le_of_ble_eq_true rfl, Nat.le_of_ble_eq_true rfl⟩ (fun r_168 u_168 h_169 => ?_)
                    obtain ⟨rfl, h_169⟩ := h_169
                    refine g_st h_169 ?_
                    refine g_aload_n (pc' := 126) (q := 2) C dL_isLot_125 rfl rfl rfl ?_
                    refine g_iload_n (pc' := 127) (q := 3) C dL_isLot_126 rfl rfl rfl ?_
                    refine g_calliV (pc' := 130) (As := [.int (nI n)]) (st := [.int (bP ((slX u n).toInt < 0))]) (cells' := 0) (slots' := 0) C (q_slack u n hIX (by omega)) gL_isLot_X0_slack rfl (by decide +kernel) ⟨Nat.le_of_ble_eq_true rfl, Nat.le_of_ble_eq_true rfl⟩ 0 (by rfl) rfl (n := 1) rfl rfl (Nat.le_of_ble_eq_true rfl) dL_isLot_127 rfl rfl rfl ⟨Nat.le_of_ble_eq_true rfl, Nat.le_of_ble_eq_true rfl⟩ (fun r_170 u_170 h_171 => ?_)
                    obtain ⟨rfl, h_171⟩ := h_171
                    refine g_st h_171 ?_
                    refine g_if_ge (tgt := 137) (pc' := 133) C dL_isLot_130 rfl (by decide) (fun (c_172 : 0 ≤ (slX u n).toInt) => ?_) (fun (c_172 : ¬ (0 ≤ (slX u n).toInt)) => ?_)
                    · have hb : (bP ((slX u n).toInt < 0)).toInt = 0 := by rw [bP_f (by omega)]; rfl
                      refine g_iconst (pc' := 138) (v := 0) C dL_isLot_137 rfl (by decide) ?_
                      refine g_icmp_ne (tgt := 176) (pc' := 141) C dL_isLot_138 rfl (by decide) (fun (c_173 : ¬ (bP ((slX u n).toInt < 0)).toInt = 0) => ?_) (fun (c_173 : (bP ((slX u n).toInt < 0)).toInt = 0) => ?_)
                      · skip
                        exact absurd (show False by omega) id
                      · skip
                        refine g_iload_n (pc' := 142) (q := 1) C dL_isLot_141 rfl rfl rfl ?_
                        refine g_if_eq (tgt := 155) (pc' := 145) C dL_isLot_142 rfl (by decide) (fun (c_174 : (u 6 n).toInt = 0) => ?_) (fun (c_174 : ¬ ((u 6 n).toInt = 0)) => ?_)
                        · skip
                          refine g_aload_n (pc' := 156) (q := 2) C dL_isLot_155 rfl rfl rfl ?_
                          refine g_iload_n (pc' := 157) (q := 3) C dL_isLot_156 rfl rfl rfl ?_
                          refine g_calliV (pc' := 160) (As := [.int (nI n)]) (st := []) (cells' := 0) (slots' := 0) C (q_reworks u n hIX (by omega)) gL_isLot_X0_reworks rfl (by decide +kernel) ⟨Nat.le_of_ble_eq_true rfl, Nat.le_of_ble_eq_true rfl⟩ 0 (by rfl) rfl (n := 1) rfl rfl (Nat.le_of_ble_eq_true rfl) dL_isLot_157 rfl rfl rfl ⟨Nat.le_of_ble_eq_true rfl, Nat.le_of_ble_eq_true rfl⟩ (fun r_175 u_175 h_176 => ?_)
                          obtain ⟨rfl, h_176⟩ := h_176
                          refine g_st h_176 ?_
                          refine g_if_lt (tgt := 176) (pc' := 163) C dL_isLot_160 rfl (by decide) (fun (c_177 : (u 10 n).toInt < 0) => ?_) (fun (c_177 : ¬ ((u 10 n).toInt < 0)) => ?_)
                          · skip
                            exact absurd (show False by omega) id
                          · skip
                            refine g_aload_n (pc' := 164) (q := 2) C dL_isLot_163 rfl rfl rfl ?_
                            refine g_iload_n (pc' := 165) (q := 3) C dL_isLot_164 rfl rfl rfl ?_
                            refine g_calliV (pc' := 168) (As := [.int (nI n)]) (st := []) (cells' := 0) (slots' := 0) C (q_reworks u n hIX (by omega)) gL_isLot_X0_reworks rfl (by decide +kernel) ⟨Nat.le_of_ble_eq_true rfl, Nat.le_of_ble_eq_true rfl⟩ 0 (by rfl) rfl (n := 1) rfl rfl (Nat.le_of_ble_eq_true rfl) dL_isLot_165 rfl rfl rfl ⟨Nat.le_of_ble_eq_true rfl, Nat.le_of_ble_eq_true rfl⟩ (fun r_178 u_178 h_179 => ?_)
                            obtain ⟨rfl, h_179⟩ := h_179
                            refine g_st h_179 ?_
                            refine g_iconst (pc' := 169) (v := 2) C dL_isLot_168 rfl (by decide) ?_
                            refine g_icmp_gt (tgt := 176) (pc' := 172) C dL_isLot_169 rfl (by decide) (fun (c_180 : 2 < (u 10 n).toInt) => ?_) (fun (c_180 : ¬ (2 < (u 10 n).toInt)) => ?_)
                            · skip
                              exact absurd (show False by omega) id
                            · skip
                              refine g_iconst (pc' := 173) (v := 1) C dL_isLot_172 rfl (by decide) ?_
                              refine g_goto (tgt := 177) C dL_isLot_173 (by decide) ?_
                              exact g_iret C hr (by decide) ⟨rfl, rfl⟩ dL_isLot_177
                        · skip
                          have hs2 : (slX u n).toInt = 2000000 := by unfold slX; rw [if_neg (fun z => absurd z.1 (by assumption))]; rfl
                          refine g_aload_n (pc' := 146) (q := 2) C dL_isLot_145 rfl rfl rfl ?_
                          refine g_iload_n (pc' := 147) (q := 3) C dL_isLot_146 rfl rfl rfl ?_
                          refine g_calliV (pc' := 150) (As := [.int (nI n)]) (st := []) (cells' := 0) (slots' := 0) C (q_slack u n hIX (by omega)) gL_isLot_X0_slack rfl (by decide +kernel) ⟨Nat.le_of_ble_eq_true rfl, Nat.le_of_ble_eq_true rfl⟩ 0 (by rfl) rfl (n := 1) rfl rfl (Nat.le_of_ble_eq_true rfl) dL_isLot_147 rfl rfl rfl ⟨Nat.le_of_ble_eq_true rfl, Nat.le_of_ble_eq_true rfl⟩ (fun r_181 u_181 h_182 => ?_)
                          obtain ⟨rfl, h_182⟩ := h_182
                          refine g_st h_182 ?_
                          refine g_ldc (pc' := 152) (v := 2000000) C dL_isLot_150 rfl (by decide +kernel) ?_
                          refine g_icmp_ne (tgt := 176) (pc' := 155) C dL_isLot_152 rfl (by decide) (fun (c_183 : ¬ (slX u n).toInt = 2000000) => ?_) (fun (c_183 : (slX u n).toInt = 2000000) => ?_)
                          · skip
                            exact absurd (show False by omega) id
                          · skip
                            refine g_aload_n (pc' := 156) (q := 2) C dL_isLot_155 rfl rfl rfl ?_
                            refine g_iload_n (pc' := 157) (q := 3) C dL_isLot_156 rfl rfl rfl ?_
                            refine g_calliV (pc' := 160) (As := [.int (nI n)]) (st := []) (cells' := 0) (slots' := 0) C (q_reworks u n hIX (by omega)) gL_isLot_X0_reworks rfl (by decide +kernel) ⟨Nat.le_of_ble_eq_true rfl, Nat.le_of_ble_eq_true rfl⟩ 0 (by rfl) rfl (n := 1) rfl rfl (Nat.le_of_ble_eq_true rfl) dL_isLot_157 rfl rfl rfl ⟨Nat.le_of_ble_eq_true rfl, Nat.le_of_ble_eq_true rfl⟩ (fun r_184 u_184 h_185 => ?_)
                            obtain ⟨rfl, h_185⟩ := h_185
                            refine g_st h_185 ?_
                            refine g_if_lt (tgt := 176) (pc' := 163) C dL_isLot_160 rfl (by decide) (fun (c_186 : (u 10 n).toInt < 0) => ?_) (fun (c_186 : ¬ ((u 10 n).toInt < 0)) => ?_)
                            · skip
                              exact absurd (show False by omega) id
                            · skip
                              refine g_aload_n (pc' := 164) (q := 2) C dL_isLot_163 rfl rfl rfl ?_
                              refine g_iload_n (pc' := 165) (q := 3) C dL_isLot_164 rfl rfl rfl ?_
                              refine g_calliV (pc' := 168) (As := [.int (nI n)]) (st := []) (cells' := 0) (slots' := 0) C (q_reworks u n hIX (by omega)) gL_isLot_X0_reworks rfl (by decide +kernel) ⟨Nat.le_of_ble_eq_true rfl, Nat.le_of_ble_eq_true rfl⟩ 0 (by rfl) rfl (n := 1) rfl rfl (Nat.le_of_ble_eq_true rfl) dL_isLot_165 rfl rfl rfl ⟨Nat.le_of_ble_eq_true rfl, Nat.le_of_ble_eq_true rfl⟩ (fun r_187 u_187 h_188 => ?_)
                              obtain ⟨rfl, h_188⟩ := h_188
                              refine g_st h_188 ?_
                              refine g_iconst (pc' := 169) (v := 2) C dL_isLot_168 rfl (by decide) ?_
                              refine g_icmp_gt (tgt := 176) (pc' := 172) C dL_isLot_169 rfl (by decide) (fun (c_189 : 2 < (u 10 n).toInt) => ?_) (fun (c_189 : ¬ (2 < (u 10 n).toInt)) => ?_)
                              · skip
                                exact absurd (show False by omega) id
                              · skip
                                refine g_iconst (pc' := 173) (v := 1) C dL_isLot_172 rfl (by decide) ?_
                                refine g_goto (tgt := 177) C dL_isLot_173 (by decide) ?_
                                exact g_iret C hr (by decide) ⟨rfl, rfl⟩ dL_isLot_177
                    · have hb : (bP ((slX u n).toInt < 0)).toInt = 1 := by rw [bP_t (by omega)]; rfl
                      refine g_iconst (pc' := 134) (v := 1) C dL_isLot_133 rfl (by decide) ?_
                      refine g_goto (tgt := 138) C dL_isLot_134 (by decide) ?_
                      refine g_icmp_ne (tgt := 176) (pc' := 141) C dL_isLot_138 rfl (by decide) (fun (c_190 : ¬ (bP ((slX u n).toInt < 0)).toInt = 1) => ?_) (fun (c_190 : (bP ((slX u n).toInt < 0)).toInt = 1) => ?_)
                      · skip
                        exact absurd (show False by omega) id
                      · skip
                        refine g_iload_n (pc' := 142) (q := 1) C dL_isLot_141 rfl rfl rfl ?_
                        refine g_if_eq (tgt := 155) (pc' := 145) C dL_isLot_142 rfl (by decide) (fun (c_191 : (u 6 n).toInt = 0) => ?_) (fun (c_191 : ¬ ((u 6 n).toInt = 0)) => ?_)
                        · skip
                          refine g_aload_n (pc' := 156) (q := 2) C dL_isLot_155 rfl rfl rfl ?_
                          refine g_iload_n (pc' := 157) (q := 3) C dL_isLot_156 rfl rfl rfl ?_
                          refine g_calliV (pc' := 160) (As := [.int (nI n)]) (st := []) (cells' := 0) (slots' := 0) C (q_reworks u n hIX (by omega)) gL_isLot_X0_reworks rfl (by decide +kernel) ⟨Nat.le_of_ble_eq_true rfl, Nat.le_of_ble_eq_true rfl⟩ 0 (by rfl) rfl (n := 1) rfl rfl (Nat.le_of_ble_eq_true rfl) dL_isLot_157 rfl rfl rfl ⟨Nat.le_of_ble_eq_true rfl, Nat.le_of_ble_eq_true rfl⟩ (fun r_192 u_192 h_193 => ?_)
                          obtain ⟨rfl, h_193⟩ := h_193
                          refine g_st h_193 ?_
                          refine g_if_lt (tgt := 176) (pc' := 163) C dL_isLot_160 rfl (by decide) (fun (c_194 : (u 10 n).toInt < 0) => ?_) (fun (c_194 : ¬ ((u 10 n).toInt < 0)) => ?_)
                          · skip
                            exact absurd (show False by omega) id
                          · skip
                            refine g_aload_n (pc' := 164) (q := 2) C dL_isLot_163 rfl rfl rfl ?_
                            refine g_iload_n (pc' := 165) (q := 3) C dL_isLot_164 rfl rfl rfl ?_
                            refine g_calliV (pc' := 168) (As := [.int (nI n)]) (st := []) (cells' := 0) (slots' := 0) C (q_reworks u n hIX (by omega)) gL_isLot_X0_reworks rfl (by decide +kernel) ⟨Nat.le_of_ble_eq_true rfl, Nat.le_of_ble_eq_true rfl⟩ 0 (by rfl) rfl (n := 1) rfl rfl (Nat.le_of_ble_eq_true rfl) dL_isLot_165 rfl rfl rfl ⟨Nat.le_of_ble_eq_true rfl, Nat.le_of_ble_eq_true rfl⟩ (fun r_195 u_195 h_196 => ?_)
                            obtain ⟨rfl, h_196⟩ := h_196
                            refine g_st h_196 ?_
                            refine g_iconst (pc' := 169) (v := 2) C dL_isLot_168 rfl (by decide) ?_
                            refine g_icmp_gt (tgt := 176) (pc' := 172) C dL_isLot_169 rfl (by decide) (fun (c_197 : 2 < (u 10 n).toInt) => ?_) (fun (c_197 : ¬ (2 < (u 10 n).toInt)) => ?_)
                            · skip
                              exact absurd (show False by omega) id
                            · skip
                              refine g_iconst (pc' := 173) (v := 1) C dL_isLot_172 rfl (by decide) ?_
                              refine g_goto (tgt := 177) C dL_isLot_173 (by decide) ?_
                              exact g_iret C hr (by decide) ⟨rfl, rfl⟩ dL_isLot_177
                        · skip
                          have hs2 : (slX u n).toInt = 2000000 := by unfold slX; rw [if_neg (fun z => absurd z.1 (by assumption))]; rfl
                          refine g_aload_n (pc' := 146) (q := 2) C dL_isLot_145 rfl rfl rfl ?_
                          refine g_iload_n (pc' := 147) (q := 3) C dL_isLot_146 rfl rfl rfl ?_
                          refine g_calliV (pc' := 150) (As := [.int (nI n)]) (st := []) (cells' := 0) (slots' := 0) C (q_slack u n hIX (by omega)) gL_isLot_X0_slack rfl (by decide +kernel) ⟨Nat.le_of_ble_eq_true rfl, Nat.le_of_ble_eq_true rfl⟩ 0 (by rfl) rfl (n := 1) rfl rfl (Nat.le_of_ble_eq_true rfl) dL_isLot_147 rfl rfl rfl ⟨Nat.le_of_ble_eq_true rfl, Nat.le_of_ble_eq_true rfl⟩ (fun r_198 u_198 h_199 => ?_)
                          obtain ⟨rfl, h_199⟩ := h_199
                          refine g_st h_199 ?_
                          refine g_ldc (pc' := 152) (v := 2000000) C dL_isLot_150 rfl (by decide +kernel) ?_
                          refine g_icmp_ne (tgt := 176) (pc' := 155) C dL_isLot_152 rfl (by decide) (fun (c_200 : ¬ (slX u n).toInt = 2000000) => ?_) (fun (c_200 : (slX u n).toInt = 2000000) => ?_)
                          · skip
                            exact absurd (show False by omega) id
                          · skip
                            refine g_aload_n (pc' := 156) (q := 2) C dL_isLot_155 rfl rfl rfl ?_
                            refine g_iload_n (pc' := 157) (q := 3) C dL_isLot_156 rfl rfl rfl ?_
                            refine g_calliV (pc' := 160) (As := [.int (nI n)]) (st := []) (cells' := 0) (slots' := 0) C (q_reworks u n hIX (by omega)) gL_isLot_X0_reworks rfl (by decide +kernel) ⟨Nat.le_of_ble_eq_true rfl, Nat.le_of_ble_eq_true rfl⟩ 0 (by rfl) rfl (n := 1) rfl rfl (Nat.le_of_ble_eq_true rfl) dL_isLot_157 rfl rfl rfl ⟨Nat.le_of_ble_eq_true rfl, Nat.le_of_ble_eq_true rfl⟩ (fun r_201 u_201 h_202 => ?_)
                            obtain ⟨rfl, h_202⟩ := h_202
                            refine g_st h_202 ?_
                            refine g_if_lt (tgt := 176) (pc' := 163) C dL_isLot_160 rfl (by decide) (fun (c_203 : (u 10 n).toInt < 0) => ?_) (fun (c_203 : ¬ ((u 10 n).toInt < 0)) => ?_)
                            · skip
                              exact absurd (show False by omega) id
                            · skip
                              refine g_aload_n (pc' := 164) (q := 2) C dL_isLot_163 rfl rfl rfl ?_
                              refine g_iload_n (pc' := 165) (q := 3) C dL_isLot_164 rfl rfl rfl ?_
                              refine g_calliV (pc' := 168) (As := [.int (nI n)]) (st := []) (cells' := 0) (slots' := 0) C (q_reworks u n hIX (by omega)) gL_isLot_X0_reworks rfl (by decide +kernel) ⟨Nat.le_of_ble_eq_true rfl, Nat.le_of_ble_eq_true rfl⟩ 0 (by rfl) rfl (n := 1) rfl rfl (Nat.le_of_ble_eq_true rfl) dL_isLot_165 rfl rfl rfl ⟨Nat.le_of_ble_eq_true rfl, Nat.le_of_ble_eq_true rfl⟩ (fun r_204 u_204 h_205 => ?_)
                              obtain ⟨rfl, h_205⟩ := h_205
                              refine g_st h_205 ?_
                              refine g_iconst (pc' := 169) (v := 2) C dL_isLot_168 rfl (by decide) ?_
                              refine g_icmp_gt (tgt := 176) (pc' := 172) C dL_isLot_169 rfl (by decide) (fun (c_206 : 2 < (u 10 n).toInt) => ?_) (fun (c_206 : ¬ (2 < (u 10 n).toInt)) => ?_)
                              · skip
                                exact absurd (show False by omega) id
                              · skip
                                refine g_iconst (pc' := 173) (v := 1) C dL_isLot_172 rfl (by decide) ?_
                                refine g_goto (tgt := 177) C dL_isLot_173 (by decide) ?_
                                exact g_iret C hr (by decide) ⟨rfl, rfl⟩ dL_isLot_177
      · skip
        refine g_iload_n (pc' := 13) (q := 2) C dL_isLot_12 rfl rfl rfl ?_
        refine g_aload_n (pc' := 14) (q := 0) C dL_isLot_13 rfl rfl rfl ?_
        refine g_iload_n (pc' := 15) (q := 3) C dL_isLot_14 rfl rfl rfl ?_
        refine g_calliV (pc' := 18) (As := [.int (nI i)]) (st := [.int (nI (ctA (u 14) (nI n) i))]) (cells' := 0) (slots' := 0) C (q_lotOf u i hIX (by omega)) gL_isLot_X0_lotOf rfl (by decide +kernel) ⟨Nat.le_of_ble_eq_true rfl, Nat.le_of_ble_eq_true rfl⟩ 0 (by rfl) rfl (n := 1) rfl rfl (Nat.le_of_ble_eq_true rfl) dL_isLot_15 rfl rfl rfl ⟨Nat.le_of_ble_eq_true rfl, Nat.le_of_ble_eq_true rfl⟩ (fun r_207 u_207 h_208 => ?_)
        obtain ⟨rfl, h_208⟩ := h_208
        refine g_st h_208 ?_
        refine g_iload_n (pc' := 19) (q := 1) C dL_isLot_18 rfl rfl rfl ?_
        have t_209 : (nI n).toInt = ((n : Nat) : Int) := nI_toInt (by omega)
        refine g_icmp_ne (tgt := 26) (pc' := 22) C dL_isLot_19 rfl (by decide) (fun (c_210 : ¬ (u 14 i).toInt = (nI n).toInt) => ?_) (fun (c_210 : (u 14 i).toInt = (nI n).toInt) => ?_)
        · skip
          refine g_iconst (pc' := 27) (v := 0) C dL_isLot_26 rfl (by decide) ?_
          refine g_iadd (pc' := 28) C dL_isLot_27 rfl ?_
          refine g_istore_n (pc' := 29) (L' := [(2, .int ((nI (ctA (u 14) (nI n) i)) + 0)), (0, .ref (a 0)), (1, .int (nI n)), (3, .int (nI i))]) C dL_isLot_28 rfl rfl (by decide) rfl ?_
          refine g_iinc (pc' := 32) (v := nI (i + 1)) (L' := [(3, .int (nI (i + 1))), (2, .int ((nI (ctA (u 14) (nI n) i)) + 0)), (0, .ref (a 0)), (1, .int (nI n))]) C dL_isLot_29 rfl (k := 3) rfl (nI_1 _) (by decide) rfl ?_
          refine g_goto (tgt := 4) C dL_isLot_32 (by decide) ?_
          have e_2 : ((nI (ctA (u 14) (nI n) i)) + 0 : Int32) = nI (ctA (u 14) (nI n) (i + 1)) := (ctA_f (by assumption))
          refine g_sub (L' := [(0, .ref (a 0)), (1, .int (nI n)), (2, .int (nI (ctA (u 14) (nI n) (i + 1)))), (3, .int (nI (i + 1)))]) [2, 3, 1, 0] (by rw [← e_2]; rfl) ?_
          exact ih_4 (i + 1) (by omega) (by omega)
        · skip
          refine g_iconst (pc' := 23) (v := 1) C dL_isLot_22 rfl (by decide) ?_
          refine g_goto (tgt := 27) C dL_isLot_23 (by decide) ?_
          refine g_iadd (pc' := 28) C dL_isLot_27 rfl ?_
          refine g_istore_n (pc' := 29) (L' := [(2, .int ((nI (ctA (u 14) (nI n) i)) + 1)), (0, .ref (a 0)), (1, .int (nI n)), (3, .int (nI i))]) C dL_isLot_28 rfl rfl (by decide) rfl ?_
          refine g_iinc (pc' := 32) (v := nI (i + 1)) (L' := [(3, .int (nI (i + 1))), (2, .int ((nI (ctA (u 14) (nI n) i)) + 1)), (0, .ref (a 0)), (1, .int (nI n))]) C dL_isLot_29 rfl (k := 3) rfl (nI_1 _) (by decide) rfl ?_
          refine g_goto (tgt := 4) C dL_isLot_32 (by decide) ?_
          have e_2 : ((nI (ctA (u 14) (nI n) i)) + 1 : Int32) = nI (ctA (u 14) (nI n) (i + 1)) := (ctA_t (by assumption))
          refine g_sub (L' := [(0, .ref (a 0)), (1, .int (nI n)), (2, .int (nI (ctA (u 14) (nI n) (i + 1)))), (3, .int (nI (i + 1)))]) [2, 3, 1, 0] (by rw [← e_2]; rfl) ?_
          exact ih_4 (i + 1) (by omega) (by omega)
  refine g_sub (L' := [(0, .ref (a 0)), (1, .int (nI n)), (2, .int (nI (ctA (u 14) (nI n) 0))), (3, .int (nI 0))]) [2, 3, 1, 0] rfl ?_
  exact loop_4 61 0 (by omega) (by omega)
set_option maxHeartbeats 4000000 in
set_option maxRecDepth 100000 in
theorem c_L_areSteps {l : Launch} {D : va_G} {cI cZ cQ : ClassId} {a : Nat → Nat} (u : LU) {sn : Nat} {B : Int} (hI : Inv sn B u) (hs : sn ≤ 12) : KI l yL_areSteps wsL_areSteps ({ frames := 3, cells := 0, slots := 0, locals := 66 } : Room) D (tyX cI cZ cQ) (wX cI cZ cQ a) [.ref (a 0), .int (nI sn)] u (fun (r : Int32) (u' : LU) => r = 1 ∧ u' = u) := by
  refine ent_I (own := RL) (maxL := 7) (cc := cL_areSteps) (L0 := [(0, .ref (a 0)), (1, .int (nI sn))]) (by decide) rfl (wX_ok _ _ _ _) rfl (Nat.le_of_ble_eq_true rfl) rfl ?_
  intro p e s m args below meth c A C hr
  have hIX := hI.1.ix hs
  have h12 := hI.1.1.2.1
  have h16 := hI.1.1.2.2.1
  have e4 : (u 0 4).toInt = (sn : Int) := by rw [hI.1.1.1]; exact ti_nI (by omega)
  refine g_iconst (pc' := 1) (v := 1) C dL_areSteps_0 rfl (by decide) ?_
  refine g_istore_n (pc' := 2) (L' := [(2, .int 1), (0, .ref (a 0)), (1, .int (nI sn))]) C dL_areSteps_1 rfl rfl (by decide) rfl ?_
  refine g_iconst (pc' := 3) (v := 0) C dL_areSteps_2 rfl (by decide) ?_
  refine g_istore_n (pc' := 4) (L' := [(3, .int 0), (2, .int 1), (0, .ref (a 0)), (1, .int (nI sn))]) C dL_areSteps_3 rfl rfl (by decide) rfl ?_
  refine g_iconst (pc' := 5) (v := 0) C dL_areSteps_4 rfl (by decide) ?_
  refine g_istore (pc' := 7) (L' := [(4, .int 0), (3, .int 0), (2, .int 1), (0, .ref (a 0)), (1, .int (nI sn))]) C dL_areSteps_5 rfl (by decide) rfl ?_
  have loop_7 : ∀ (k : Nat) (t : Nat), t ≤ sn → sn + 1 ≤ t + k → G p l e ({ frames := 3, cells := 0, slots := 0, locals := 66 } : Room) s m args below meth c D A 7 (wX cI cZ cQ a) 0 0 (MQ below (va_Qi (fun (r : Int32) (u' : LU) => r = 1 ∧ u' = u) (KE D (tyX cI cZ cQ) (wX cI cZ cQ a)) A) args s 0 0 A) u 7 [(0, .ref (a 0)), (1, .int (nI sn)), (2, .int 1), (3, .int (sumX u (u 0 12).toInt.toNat t)), (4, .int (nI t))] [] := by
    intro k
    induction k with
    | zero =>
      intro t ht hk
      omega
    | succ k ih_7 =>
      intro t ht hk
      refine g_iload (pc' := 9) (q := 4) C dL_areSteps_7 rfl rfl ?_
      refine g_iload_n (pc' := 10) (q := 1) C dL_areSteps_9 rfl rfl rfl ?_
      have t_1 : (nI t).toInt = ((t : Nat) : Int) := nI_toInt (by omega)
      have t_2 : (nI sn).toInt = ((sn : Nat) : Int) := nI_toInt (by omega)
      refine g_icmp_ge (tgt := 103) (pc' := 13) C dL_areSteps_10 rfl (by decide) (fun (c_3 : (nI sn).toInt ≤ (nI t).toInt) => ?_) (fun (c_3 : ¬ ((nI sn).toInt ≤ (nI t).toInt)) => ?_)
      · skip
        refine g_iconst (pc' := 104) (v := 0) C dL_areSteps_103 rfl (by decide) ?_
        refine g_istore (pc' := 106) (L' := [(4, .int 0), (0, .ref (a 0)), (1, .int (nI sn)), (2, .int 1), (3, .int (sumX u (u 0 12).toInt.toNat t))]) C dL_areSteps_104 rfl (by decide) rfl ?_
        refine g_iconst (pc' := 107) (v := 0) C dL_areSteps_106 rfl (by decide) ?_
        refine g_istore (pc' := 109) (L' := [(5, .int 0), (4, .int 0), (0, .ref (a 0)), (1, .int (nI sn)), (2, .int 1), (3, .int (sumX u (u 0 12).toInt.toNat t))]) C dL_areSteps_107 rfl (by decide) rfl ?_
        have loop_109 : ∀ (k3 : Nat) (i : Nat), (i : Int) ≤ (u 0 12).toInt → (u 0 12).toInt + 1 ≤ i + k3 → G p l e ({ frames := 3, cells := 0, slots := 0, locals := 66 } : Room) s m args below meth c D A 7 (wX cI cZ cQ a) 0 0 (MQ below (va_Qi (fun (r : Int32) (u' : LU) => r = 1 ∧ u' = u) (KE D (tyX cI cZ cQ) (wX cI cZ cQ a)) A) args s 0 0 A) u 109 [(0, .ref (a 0)), (1, .int (nI sn)), (2, .int 1), (3, .int (sumX u (u 0 12).toInt.toNat t)), (4, .int (allX u i)), (5, .int (nI i))] [] := by
          intro k3
          induction k3 with
          | zero =>
            intro i hi hk3
            omega
          | succ k3 ih_109 =>
            intro i hi hk3
            refine g_iload (pc' := 111) (q := 5) C dL_areSteps_109 rfl rfl ?_
            refine g_aload_n (pc' := 112) (q := 0) C dL_areSteps_111 rfl rfl rfl ?_
            refine g_calliV (pc' := 115) (As := []) (st := [.int (nI i)]) (cells' := 0) (slots' := 0) C (c_X0_lots u) gL_areSteps_X0_lots rfl (by decide +kernel) ⟨Nat.le_of_ble_eq_true rfl, Nat.le_of_ble_eq_true rfl⟩ 0 (by rfl) rfl (n := 0) rfl rfl (Nat.le_of_ble_eq_true rfl) dL_areSteps_112 rfl rfl rfl ⟨Nat.le_of_ble_eq_true rfl, Nat.le_of_ble_eq_true rfl⟩ (fun r_4 u_4 h_5 => ?_)
            obtain ⟨rfl, h_5⟩ := h_5
            refine g_st h_5 ?_
            have t_6 : (nI i).toInt = ((i : Nat) : Int) := nI_toInt (by omega)
            refine g_icmp_ge (tgt := 149) (pc' := 118) C dL_areSteps_115 rfl (by decide) (fun (c_7 : (u 0 12).toInt ≤ (nI i).toInt) => ?_) (fun (c_7 : ¬ ((u 0 12).toInt ≤ (nI i).toInt)) => ?_)
            · skip
              have hs9 : sumX u (u 0 12).toInt.toNat t = allX u i := by rw [show t = sn by omega, show i = (u 0 12).toInt.toNat by omega]; exact sum_all hs hI.1.2.2.2.1 _ (by omega)
              have hs8 := congrArg Int32.toInt hs9
              refine g_iload_n (pc' := 150) (q := 2) C dL_areSteps_149 rfl rfl rfl ?_
              refine g_if_eq (tgt := 163) (pc' := 153) C dL_areSteps_150 rfl (by decide) (fun h => absurd h (by decide)) (fun _ => ?_)
              refine g_iload_n (pc' := 154) (q := 3) C dL_areSteps_153 rfl rfl rfl ?_
              refine g_iload (pc' := 156) (q := 4) C dL_areSteps_154 rfl rfl ?_
              refine g_icmp_ne (tgt := 163) (pc' := 159) C dL_areSteps_156 rfl (by decide) (fun (c_8 : ¬ (sumX u (u 0 12).toInt.toNat t).toInt = (allX u i).toInt) => ?_) (fun (c_8 : (sumX u (u 0 12).toInt.toNat t).toInt = (allX u i).toInt) => ?_)
              · exact absurd (show False by omega) id
              · skip
                refine g_iconst (pc' := 160) (v := 1) C dL_areSteps_159 rfl (by decide) ?_
                refine g_goto (tgt := 164) C dL_areSteps_160 (by decide) ?_
                exact g_iret C hr (by decide) ⟨rfl, rfl⟩ dL_areSteps_164
            · skip
              refine g_iload (pc' := 120) (q := 4) C dL_areSteps_118 rfl rfl ?_
              refine g_aload_n (pc' := 121) (q := 0) C dL_areSteps_120 rfl rfl rfl ?_
              refine g_iload (pc' := 123) (q := 5) C dL_areSteps_121 rfl rfl ?_
              refine g_calliV (pc' := 126) (As := [.int (nI i)]) (st := [.int (allX u i)]) (cells' := 0) (slots' := 0) C (q_state u i hIX (by omega)) gL_areSteps_X0_state rfl (by decide +kernel) ⟨Nat.le_of_ble_eq_true rfl, Nat.le_of_ble_eq_true rfl⟩ 0 (by rfl) rfl (n := 1) rfl rfl (Nat.le_of_ble_eq_true rfl) dL_areSteps_123 rfl rfl rfl ⟨Nat.le_of_ble_eq_true rfl, Nat.le_of_ble_eq_true rfl⟩ (fun r_9 u_9 h_10 => ?_)
              obtain ⟨rfl, h_10⟩ := h_10
              refine g_st h_10 ?_
              refine g_iconst (pc' := 127) (v := 2) C dL_areSteps_126 rfl (by decide) ?_
              refine g_icmp_ge (tgt := 139) (pc' := 130) C dL_areSteps_127 rfl (by decide) (fun (c_11 : 2 ≤ (u 6 i).toInt) => ?_) (fun (c_11 : ¬ (2 ≤ (u 6 i).toInt)) => ?_)
              · skip
                refine g_iconst (pc' := 140) (v := 0) C dL_areSteps_139 rfl (by decide) ?_
                refine g_iadd (pc' := 141) C dL_areSteps_140 rfl ?_
                refine g_istore (pc' := 143) (L' := [(4, .int ((allX u i) + 0)), (0, .ref (a 0)), (1, .int (nI sn)), (2, .int 1), (3, .int (sumX u (u 0 12).toInt.toNat t)), (5, .int (nI i))]) C dL_areSteps_141 rfl (by decide) rfl ?_
                refine g_iinc (pc' := 146) (v := nI (i + 1)) (L' := [(5, .int (nI (i + 1))), (4, .int ((allX u i) + 0)), (0, .ref (a 0)), (1, .int (nI sn)), (2, .int 1), (3, .int (sumX u (u 0 12).toInt.toNat t))]) C dL_areSteps_143 rfl (k := 5) rfl (nI_1 _) (by decide) rfl ?_
                refine g_goto (tgt := 109) C dL_areSteps_146 (by decide) ?_
                have e_4 : ((allX u i) + 0 : Int32) = allX u (i + 1) := (by simp only [allX]; rw [if_neg (by omega), Int32.add_zero])
                refine g_sub (L' := [(0, .ref (a 0)), (1, .int (nI sn)), (2, .int 1), (3, .int (sumX u (u 0 12).toInt.toNat t)), (4, .int (allX u (i + 1))), (5, .int (nI (i + 1)))]) [2, 3, 4, 5, 1, 0] (by rw [← e_4]; rfl) ?_
                exact ih_109 (i + 1) (by omega) (by omega)
              · skip
                refine g_aload_n (pc' := 131) (q := 0) C dL_areSteps_130 rfl rfl rfl ?_
                refine g_iload (pc' := 133) (q := 5) C dL_areSteps_131 rfl rfl ?_
                refine g_calliV (pc' := 136) (As := [.int (nI i)]) (st := [.int (allX u i)]) (cells' := 0) (slots' := 0) C (q_size u i hIX (by omega)) gL_areSteps_X0_size rfl (by decide +kernel) ⟨Nat.le_of_ble_eq_true rfl, Nat.le_of_ble_eq_true rfl⟩ 0 (by rfl) rfl (n := 1) rfl rfl (Nat.le_of_ble_eq_true rfl) dL_areSteps_133 rfl rfl rfl ⟨Nat.le_of_ble_eq_true rfl, Nat.le_of_ble_eq_true rfl⟩ (fun r_12 u_12 h_13 => ?_)
                obtain ⟨rfl, h_13⟩ := h_13
                refine g_st h_13 ?_
                refine g_goto (tgt := 140) C dL_areSteps_136 (by decide) ?_
                refine g_iadd (pc' := 141) C dL_areSteps_140 rfl ?_
                refine g_istore (pc' := 143) (L' := [(4, .int ((allX u i) + (u 12 i))), (0, .ref (a 0)), (1, .int (nI sn)), (2, .int 1), (3, .int (sumX u (u 0 12).toInt.toNat t)), (5, .int (nI i))]) C dL_areSteps_141 rfl (by decide) rfl ?_
                refine g_iinc (pc' := 146) (v := nI (i + 1)) (L' := [(5, .int (nI (i + 1))), (4, .int ((allX u i) + (u 12 i))), (0, .ref (a 0)), (1, .int (nI sn)), (2, .int 1), (3, .int (sumX u (u 0 12).toInt.toNat t))]) C dL_areSteps_143 rfl (k := 5) rfl (nI_1 _) (by decide) rfl ?_
                refine g_goto (tgt := 109) C dL_areSteps_146 (by decide) ?_
                have e_4 : ((allX u i) + (u 12 i) : Int32) = allX u (i + 1) := (by simp only [allX]; rw [if_pos (by omega)])
                refine g_sub (L' := [(0, .ref (a 0)), (1, .int (nI sn)), (2, .int 1), (3, .int (sumX u (u 0 12).toInt.toNat t)), (4, .int (allX u (i + 1))), (5, .int (nI (i + 1)))]) [2, 3, 4, 5, 1, 0] (by rw [← e_4]; rfl) ?_
                exact ih_109 (i + 1) (by omega) (by omega)
        refine g_sub (L' := [(0, .ref (a 0)), (1, .int (nI sn)), (2, .int 1), (3, .int (sumX u (u 0 12).toInt.toNat t)), (4, .int (allX u 0)), (5, .int (nI 0))]) [2, 3, 4, 5, 1, 0] rfl ?_
        exact loop_109 25 0 (by omega) (by omega)
      · skip
        refine g_iload_n (pc' := 14) (q := 2) C dL_areSteps_13 rfl rfl rfl ?_
        refine g_if_eq (tgt := 103) (pc' := 17) C dL_areSteps_14 rfl (by decide) (fun h => absurd h (by decide)) (fun _ => ?_)
        refine g_iconst (pc' := 18) (v := 0) C dL_areSteps_17 rfl (by decide) ?_
        refine g_istore (pc' := 20) (L' := [(5, .int 0), (0, .ref (a 0)), (1, .int (nI sn)), (2, .int 1), (3, .int (sumX u (u 0 12).toInt.toNat t)), (4, .int (nI t))]) C dL_areSteps_18 rfl (by decide) rfl ?_
        refine g_iconst (pc' := 21) (v := 0) C dL_areSteps_20 rfl (by decide) ?_
        refine g_istore (pc' := 23) (L' := [(6, .int 0), (5, .int 0), (0, .ref (a 0)), (1, .int (nI sn)), (2, .int 1), (3, .int (sumX u (u 0 12).toInt.toNat t)), (4, .int (nI t))]) C dL_areSteps_21 rfl (by decide) rfl ?_
        have loop_23 : ∀ (k2 : Nat) (i : Nat), (i : Int) ≤ (u 0 12).toInt → (u 0 12).toInt + 1 ≤ i + k2 → G p l e ({ frames := 3, cells := 0, slots := 0, locals := 66 } : Room) s m args below meth c D A 7 (wX cI cZ cQ a) 0 0 (MQ below (va_Qi (fun (r : Int32) (u' : LU) => r = 1 ∧ u' = u) (KE D (tyX cI cZ cQ) (wX cI cZ cQ a)) A) args s 0 0 A) u 23 [(0, .ref (a 0)), (1, .int (nI sn)), (2, .int 1), (3, .int (sumX u (u 0 12).toInt.toNat t)), (4, .int (nI t)), (5, .int (waX u (nI t) i)), (6, .int (nI i))] [] := by
          intro k2
          induction k2 with
          | zero =>
            intro i hi hk2
            omega
          | succ k2 ih_23 =>
            intro i hi hk2
            refine g_iload (pc' := 25) (q := 6) C dL_areSteps_23 rfl rfl ?_
            refine g_aload_n (pc' := 26) (q := 0) C dL_areSteps_25 rfl rfl rfl ?_
            refine g_calliV (pc' := 29) (As := []) (st := [.int (nI i)]) (cells' := 0) (slots' := 0) C (c_X0_lots u) gL_areSteps_X0_lots rfl (by decide +kernel) ⟨Nat.le_of_ble_eq_true rfl, Nat.le_of_ble_eq_true rfl⟩ 0 (by rfl) rfl (n := 0) rfl rfl (Nat.le_of_ble_eq_true rfl) dL_areSteps_26 rfl rfl rfl ⟨Nat.le_of_ble_eq_true rfl, Nat.le_of_ble_eq_true rfl⟩ (fun r_14 u_14 h_15 => ?_)
            obtain ⟨rfl, h_15⟩ := h_15
            refine g_st h_15 ?_
            have t_16 : (nI i).toInt = ((i : Nat) : Int) := nI_toInt (by omega)
            refine g_icmp_ge (tgt := 64) (pc' := 32) C dL_areSteps_29 rfl (by decide) (fun (c_17 : (u 0 12).toInt ≤ (nI i).toInt) => ?_) (fun (c_17 : ¬ ((u 0 12).toInt ≤ (nI i).toInt)) => ?_)
            · skip
              have hi9 : i = (u 0 12).toInt.toNat := by omega
              refine g_iload_n (pc' := 65) (q := 3) C dL_areSteps_64 rfl rfl rfl ?_
              refine g_iload (pc' := 67) (q := 5) C dL_areSteps_65 rfl rfl ?_
              refine g_iadd (pc' := 68) C dL_areSteps_67 rfl ?_
              refine g_istore_n (pc' := 69) (L' := [(3, .int ((sumX u (u 0 12).toInt.toNat t) + (waX u (nI t) i))), (0, .ref (a 0)), (1, .int (nI sn)), (2, .int 1), (4, .int (nI t)), (5, .int (waX u (nI t) i)), (6, .int (nI i))]) C dL_areSteps_68 rfl rfl (by decide) rfl ?_
              refine g_aload_n (pc' := 70) (q := 1) C dL_areSteps_69 rfl rfl rfl ?_
              refine g_iload (pc' := 72) (q := 4) C dL_areSteps_70 rfl rfl ?_
              refine g_calliV (pc' := 75) (As := [.int (nI t)]) (st := []) (cells' := 0) (slots' := 0) C (q_wafersAt u (nI t) hIX ⟨by omega, by omega⟩) gL_areSteps_X0_wafersAt rfl (by decide +kernel) ⟨Nat.le_of_ble_eq_true rfl, Nat.le_of_ble_eq_true rfl⟩ 0 (by rfl) rfl (n := 1) rfl rfl (Nat.le_of_ble_eq_true rfl) dL_areSteps_72 rfl rfl rfl ⟨Nat.le_of_ble_eq_true rfl, Nat.le_of_ble_eq_true rfl⟩ (fun r_18 u_18 h_19 => ?_)
              obtain ⟨rfl, h_19⟩ := h_19
              refine g_st h_19 ?_
              refine g_conv (show (waX u (nI t) (u 0 12).toInt.toNat : Int32) = waX u (nI t) i from (by rw [hi9])) ?_
              refine g_iload (pc' := 77) (q := 5) C dL_areSteps_75 rfl rfl ?_
              refine g_icmp_ne (tgt := 95) (pc' := 80) C dL_areSteps_77 rfl (by decide) (fun (c_20 : ¬ (waX u (nI t) i).toInt = (waX u (nI t) i).toInt) => ?_) (fun (c_20 : (waX u (nI t) i).toInt = (waX u (nI t) i).toInt) => ?_)
              · exact absurd (show False by omega) id
              · skip
                refine g_aload_n (pc' := 81) (q := 1) C dL_areSteps_80 rfl rfl rfl ?_
                refine g_iload (pc' := 83) (q := 4) C dL_areSteps_81 rfl rfl ?_
                refine g_calliV (pc' := 86) (As := [.int (nI t)]) (st := []) (cells' := 0) (slots' := 0) C (q_wafersAtByWafers u (nI t) hI.1 hIX ⟨by omega, by omega⟩) gL_areSteps_X0_wafersAtByWafers rfl (by decide +kernel) ⟨Nat.le_of_ble_eq_true rfl, Nat.le_of_ble_eq_true rfl⟩ 0 (by rfl) rfl (n := 1) rfl rfl (Nat.le_of_ble_eq_true rfl) dL_areSteps_83 rfl rfl rfl ⟨Nat.le_of_ble_eq_true rfl, Nat.le_of_ble_eq_true rfl⟩ (fun r_21 u_21 h_22 => ?_)
                obtain ⟨rfl, h_22⟩ := h_22
                refine g_st h_22 ?_
                refine g_conv (show (waX u (nI t) (u 0 12).toInt.toNat : Int32) = waX u (nI t) i from (by rw [hi9])) ?_
                refine g_iload (pc' := 88) (q := 5) C dL_areSteps_86 rfl rfl ?_
                refine g_icmp_ne (tgt := 95) (pc' := 91) C dL_areSteps_88 rfl (by decide) (fun (c_23 : ¬ (waX u (nI t) i).toInt = (waX u (nI t) i).toInt) => ?_) (fun (c_23 : (waX u (nI t) i).toInt = (waX u (nI t) i).toInt) => ?_)
                · exact absurd (show False by omega) id
                · skip
                  refine g_iconst (pc' := 92) (v := 1) C dL_areSteps_91 rfl (by decide) ?_
                  refine g_goto (tgt := 96) C dL_areSteps_92 (by decide) ?_
                  refine g_istore_n (pc' := 97) (L' := [(2, .int 1), (3, .int ((sumX u (u 0 12).toInt.toNat t) + (waX u (nI t) i))), (0, .ref (a 0)), (1, .int (nI sn)), (4, .int (nI t)), (5, .int (waX u (nI t) i)), (6, .int (nI i))]) C dL_areSteps_96 rfl rfl (by decide) rfl ?_
                  refine g_iinc (pc' := 100) (v := nI (t + 1)) (L' := [(4, .int (nI (t + 1))), (2, .int 1), (3, .int ((sumX u (u 0 12).toInt.toNat t) + (waX u (nI t) i))), (0, .ref (a 0)), (1, .int (nI sn)), (5, .int (waX u (nI t) i)), (6, .int (nI i))]) C dL_areSteps_97 rfl (k := 4) rfl (nI_1 _) (by decide) rfl ?_
                  refine g_goto (tgt := 7) C dL_areSteps_100 (by decide) ?_
                  have e_3 : ((sumX u (u 0 12).toInt.toNat t) + (waX u (nI t) i) : Int32) = sumX u (u 0 12).toInt.toNat (t + 1) := (by rw [hi9]; rfl)
                  refine g_sub (L' := [(0, .ref (a 0)), (1, .int (nI sn)), (2, .int 1), (3, .int (sumX u (u 0 12).toInt.toNat (t + 1))), (4, .int (nI (t + 1)))]) [3, 4, 1, 2, 0] (by rw [← e_3]; rfl) ?_
                  exact ih_7 (t + 1) (by omega) (by omega)
            · skip
              refine g_iload (pc' := 34) (q := 5) C dL_areSteps_32 rfl rfl ?_
              refine g_aload_n (pc' := 35) (q := 0) C dL_areSteps_34 rfl rfl rfl ?_
              refine g_iload (pc' := 37) (q := 6) C dL_areSteps_35 rfl rfl ?_
              refine g_calliV (pc' := 40) (As := [.int (nI i)]) (st := [.int (waX u (nI t) i)]) (cells' := 0) (slots' := 0) C (q_stepOf u i hIX (by omega)) gL_areSteps_X0_stepOf rfl (by decide +kernel) ⟨Nat.le_of_ble_eq_true rfl, Nat.le_of_ble_eq_true rfl⟩ 0 (by rfl) rfl (n := 1) rfl rfl (Nat.le_of_ble_eq_true rfl) dL_areSteps_37 rfl rfl rfl ⟨Nat.le_of_ble_eq_true rfl, Nat.le_of_ble_eq_true rfl⟩ (fun r_24 u_24 h_25 => ?_)
              obtain ⟨rfl, h_25⟩ := h_25
              refine g_st h_25 ?_
              refine g_iload (pc' := 42) (q := 4) C dL_areSteps_40 rfl rfl ?_
              have t_26 : (nI t).toInt = ((t : Nat) : Int) := nI_toInt (by omega)
              refine g_icmp_ne (tgt := 54) (pc' := 45) C dL_areSteps_42 rfl (by decide) (fun (c_27 : ¬ (u 7 i).toInt = (nI t).toInt) => ?_) (fun (c_27 : (u 7 i).toInt = (nI t).toInt) => ?_)
              · skip
                refine g_iconst (pc' := 55) (v := 0) C dL_areSteps_54 rfl (by decide) ?_
                refine g_iadd (pc' := 56) C dL_areSteps_55 rfl ?_
                refine g_istore (pc' := 58) (L' := [(5, .int ((waX u (nI t) i) + 0)), (0, .ref (a 0)), (1, .int (nI sn)), (2, .int 1), (3, .int (sumX u (u 0 12).toInt.toNat t)), (4, .int (nI t)), (6, .int (nI i))]) C dL_areSteps_56 rfl (by decide) rfl ?_
                refine g_iinc (pc' := 61) (v := nI (i + 1)) (L' := [(6, .int (nI (i + 1))), (5, .int ((waX u (nI t) i) + 0)), (0, .ref (a 0)), (1, .int (nI sn)), (2, .int 1), (3, .int (sumX u (u 0 12).toInt.toNat t)), (4, .int (nI t))]) C dL_areSteps_58 rfl (k := 6) rfl (nI_1 _) (by decide) rfl ?_
                refine g_goto (tgt := 23) C dL_areSteps_61 (by decide) ?_
                have e_5 : ((waX u (nI t) i) + 0 : Int32) = waX u (nI t) (i + 1) := (by simp only [waX]; rw [if_neg (by assumption), Int32.add_zero])
                refine g_sub (L' := [(0, .ref (a 0)), (1, .int (nI sn)), (2, .int 1), (3, .int (sumX u (u 0 12).toInt.toNat t)), (4, .int (nI t)), (5, .int (waX u (nI t) (i + 1))), (6, .int (nI (i + 1)))]) [2, 3, 4, 5, 6, 1, 0] (by rw [← e_5]; rfl) ?_
                exact ih_23 (i + 1) (by omega) (by omega)
              · skip
                refine g_aload_n (pc' := 46) (q := 0) C dL_areSteps_45 rfl rfl rfl ?_
                refine g_iload (pc' := 48) (q := 6) C dL_areSteps_46 rfl rfl ?_
                refine g_calliV (pc' := 51) (As := [.int (nI i)]) (st := [.int (waX u (nI t) i)]) (cells' := 0) (slots' := 0) C (q_size u i hIX (by omega)) gL_areSteps_X0_size rfl (by decide +kernel) ⟨Nat.le_of_ble_eq_true rfl, Nat.le_of_ble_eq_true rfl⟩ 0 (by rfl) rfl (n := 1) rfl rfl (Nat.le_of_ble_eq_true rfl) dL_areSteps_48 rfl rfl rfl ⟨Nat.le_of_ble_eq_true rfl, Nat.le_of_ble_eq_true rfl⟩ (fun r_28 u_28 h_29 => ?_)
                obtain ⟨rfl, h_29⟩ := h_29
                refine g_st h_29 ?_
                refine g_goto (tgt := 55) C dL_areSteps_51 (by decide) ?_
                refine g_iadd (pc' := 56) C dL_areSteps_55 rfl ?_
                refine g_istore (pc' := 58) (L' := [(5, .int ((waX u (nI t) i) + (u 12 i))), (0, .ref (a 0)), (1, .int (nI sn)), (2, .int 1), (3, .int (sumX u (u 0 12).toInt.toNat t)), (4, .int (nI t)), (6, .int (nI i))]) C dL_areSteps_56 rfl (by decide) rfl ?_
                refine g_iinc (pc' := 61) (v := nI (i + 1)) (L' := [(6, .int (nI (i + 1))), (5, .int ((waX u (nI t) i) + (u 12 i))), (0, .ref (a 0)), (1, .int (nI sn)), (2, .int 1), (3, .int (sumX u (u 0 12).toInt.toNat t)), (4, .int (nI t))]) C dL_areSteps_58 rfl (k := 6) rfl (nI_1 _) (by decide) rfl ?_
                refine g_goto (tgt := 23) C dL_areSteps_61 (by decide) ?_
                have e_5 : ((waX u (nI t) i) + (u 12 i) : Int32) = waX u (nI t) (i + 1) := (by simp only [waX]; rw [if_pos (by assumption)])
                refine g_sub (L' := [(0, .ref (a 0)), (1, .int (nI sn)), (2, .int 1), (3, .int (sumX u (u 0 12).toInt.toNat t)), (4, .int (nI t)), (5, .int (waX u (nI t) (i + 1))), (6, .int (nI (i + 1)))]) [2, 3, 4, 5, 6, 1, 0] (by rw [← e_5]; rfl) ?_
                exact ih_23 (i + 1) (by omega) (by omega)
        refine g_sub (L' := [(0, .ref (a 0)), (1, .int (nI sn)), (2, .int 1), (3, .int (sumX u (u 0 12).toInt.toNat t)), (4, .int (nI t)), (5, .int (waX u (nI t) 0)), (6, .int (nI 0))]) [2, 3, 4, 5, 6, 1, 0] rfl ?_
        exact loop_23 25 0 (by omega) (by omega)
  refine g_sub (L' := [(0, .ref (a 0)), (1, .int (nI sn)), (2, .int 1), (3, .int (sumX u (u 0 12).toInt.toNat 0)), (4, .int (nI 0))]) [3, 4, 2, 1, 0] rfl ?_
  exact loop_7 (sn + 1) 0 (by omega) (by omega)
set_option maxHeartbeats 4000000 in
set_option maxRecDepth 100000 in
theorem c_L_isCommon {l : Launch} {D : va_G} {cI cZ cQ : ClassId} {a : Nat → Nat} (u : LU) (x y : Nat) {sn : Nat} {B : Int} (hI : Inv sn B u) (hs : sn ≤ 12) (hx : (x : Int) < (u 0 12).toInt) (hy : (y : Int) < (u 0 12).toInt) : KI l yL_isCommon wsL_isCommon ({ frames := 3, cells := 0, slots := 0, locals := 67 } : Room) D (tyX cI cZ cQ) (wX cI cZ cQ a) [.ref (a 0), .int (nI x), .int (nI y)] u (fun (r : Int32) (u' : LU) => r = 1 ∧ u' = u) := by
  refine ent_I (own := RL) (maxL := 7) (cc := cL_isCommon) (L0 := [(0, .ref (a 0)), (1, .int (nI x)), (2, .int (nI y))]) (by decide) rfl (wX_ok _ _ _ _) rfl (Nat.le_of_ble_eq_true rfl) rfl ?_
  intro p e s m args below meth c A C hr
  have hIX := hI.1.ix hs
  have h12 := hI.1.1.2.1
  have h16 := hI.1.1.2.2.1
  have hO := hI.1.2.2.2.1.old
  have ex := ti_nI (n := x) (by omega)
  have ey := ti_nI (n := y) (by omega)
  obtain ⟨z, hz⟩ : ∃ z, z = coX u 48 (nI x) (nI y) := ⟨_, rfl⟩
  have hz2 : coX u 48 (nI y) (nI x) = z := by rw [hz]; exact co_com hO 48 _ _ (by omega) (by omega) (by omega)
  have hzl := co_le hO 48 (nI x) (nI y) (by omega) (by omega) (by omega)
  have hzi := co_it u 48 (nI x) (nI y)
  rw [← hz] at hzl hzi
  refine g_aload_n (pc' := 1) (q := 0) C dL_isCommon_0 rfl rfl rfl ?_
  refine g_iload_n (pc' := 2) (q := 1) C dL_isCommon_1 rfl rfl rfl ?_
  refine g_iload_n (pc' := 3) (q := 2) C dL_isCommon_2 rfl rfl rfl ?_
  refine g_calliV (pc' := 6) (As := [.int (nI x), .int (nI y)]) (st := []) (cells' := 0) (slots' := 0) C (q_common u (nI x) (nI y) hIX ⟨by omega, by omega⟩ ⟨by omega, by omega⟩) gL_isCommon_X0_common rfl (by decide +kernel) ⟨Nat.le_of_ble_eq_true rfl, Nat.le_of_ble_eq_true rfl⟩ 0 (by rfl) rfl (n := 2) rfl rfl (Nat.le_of_ble_eq_true rfl) dL_isCommon_3 rfl rfl rfl ⟨Nat.le_of_ble_eq_true rfl, Nat.le_of_ble_eq_true rfl⟩ (fun r_1 u_1 h_2 => ?_)
  obtain ⟨rfl, h_2⟩ := h_2
  refine g_st h_2 ?_
  refine g_conv (show (coX u 48 (nI x) (nI y) : Int32) = z from hz.symm) ?_
  refine g_istore_n (pc' := 7) (L' := [(3, .int z), (0, .ref (a 0)), (1, .int (nI x)), (2, .int (nI y))]) C dL_isCommon_6 rfl rfl (by decide) rfl ?_
  refine g_iload_n (pc' := 8) (q := 0) C dL_isCommon_7 rfl rfl rfl ?_
  refine g_aload_n (pc' := 9) (q := 1) C dL_isCommon_8 rfl rfl rfl ?_
  refine g_iload_n (pc' := 10) (q := 3) C dL_isCommon_9 rfl rfl rfl ?_
  refine g_iload_n (pc' := 11) (q := 2) C dL_isCommon_10 rfl rfl rfl ?_
  refine g_calliV (pc' := 14) (As := [.int (nI y), .int (nI x)]) (st := [.int z]) (cells' := 0) (slots' := 0) C (q_common u (nI y) (nI x) hIX ⟨by omega, by omega⟩ ⟨by omega, by omega⟩) gL_isCommon_X0_common rfl (by decide +kernel) ⟨Nat.le_of_ble_eq_true rfl, Nat.le_of_ble_eq_true rfl⟩ 0 (by rfl) rfl (n := 2) rfl rfl (Nat.le_of_ble_eq_true rfl) dL_isCommon_11 rfl rfl rfl ⟨Nat.le_of_ble_eq_true rfl, Nat.le_of_ble_eq_true rfl⟩ (fun r_3 u_3 h_4 => ?_)
  obtain ⟨rfl, h_4⟩ := h_4
  refine g_st h_4 ?_
  refine g_conv (show (coX u 48 (nI y) (nI x) : Int32) = z from hz2) ?_
  refine g_icmp_ne (tgt := 41) (pc' := 17) C dL_isCommon_14 rfl (by decide) (fun (c_5 : ¬ (z).toInt = (z).toInt) => ?_) (fun (c_5 : (z).toInt = (z).toInt) => ?_)
  · exact absurd (show False by omega) id
  · skip
    refine g_aload_n (pc' := 18) (q := 1) C dL_isCommon_17 rfl rfl rfl ?_
    refine g_iload_n (pc' := 19) (q := 2) C dL_isCommon_18 rfl rfl rfl ?_
    refine g_iload_n (pc' := 20) (q := 2) C dL_isCommon_19 rfl rfl rfl ?_
    refine g_calliV (pc' := 23) (As := [.int (nI x), .int (nI x)]) (st := []) (cells' := 0) (slots' := 0) C (q_common u (nI x) (nI x) hIX ⟨by omega, by omega⟩ ⟨by omega, by omega⟩) gL_isCommon_X0_common rfl (by decide +kernel) ⟨Nat.le_of_ble_eq_true rfl, Nat.le_of_ble_eq_true rfl⟩ 0 (by rfl) rfl (n := 2) rfl rfl (Nat.le_of_ble_eq_true rfl) dL_isCommon_20 rfl rfl rfl ⟨Nat.le_of_ble_eq_true rfl, Nat.le_of_ble_eq_true rfl⟩ (fun r_6 u_6 h_7 => ?_)
    obtain ⟨rfl, h_7⟩ := h_7
    refine g_st h_7 ?_
    refine g_conv (show (coX u 48 (nI x) (nI x) : Int32) = nI x from (co_self u (nI x))) ?_
    refine g_iload_n (pc' := 24) (q := 2) C dL_isCommon_23 rfl rfl rfl ?_
    have t_8 : (nI x).toInt = ((x : Nat) : Int) := nI_toInt (by omega)
    have t_9 : (nI x).toInt = ((x : Nat) : Int) := nI_toInt (by omega)
    refine g_icmp_ne (tgt := 41) (pc' := 27) C dL_isCommon_24 rfl (by decide) (fun (c_10 : ¬ (nI x).toInt = (nI x).toInt) => ?_) (fun (c_10 : (nI x).toInt = (nI x).toInt) => ?_)
    · exact absurd (show False by omega) id
    · skip
      refine g_iload_n (pc' := 28) (q := 0) C dL_isCommon_27 rfl rfl rfl ?_
      refine g_iload_n (pc' := 29) (q := 2) C dL_isCommon_28 rfl rfl rfl ?_
      have t_11 : (nI x).toInt = ((x : Nat) : Int) := nI_toInt (by omega)
      refine g_icmp_gt (tgt := 41) (pc' := 32) C dL_isCommon_29 rfl (by decide) (fun (c_12 : (nI x).toInt < (z).toInt) => ?_) (fun (c_12 : ¬ ((nI x).toInt < (z).toInt)) => ?_)
      · exact absurd (show False by omega) id
      · skip
        refine g_iload_n (pc' := 33) (q := 0) C dL_isCommon_32 rfl rfl rfl ?_
        refine g_iload_n (pc' := 34) (q := 3) C dL_isCommon_33 rfl rfl rfl ?_
        have t_13 : (nI y).toInt = ((y : Nat) : Int) := nI_toInt (by omega)
        refine g_icmp_gt (tgt := 41) (pc' := 37) C dL_isCommon_34 rfl (by decide) (fun (c_14 : (nI y).toInt < (z).toInt) => ?_) (fun (c_14 : ¬ ((nI y).toInt < (z).toInt)) => ?_)
        · exact absurd (show False by omega) id
        · skip
          refine g_iconst (pc' := 38) (v := 1) C dL_isCommon_37 rfl (by decide) ?_
          refine g_goto (tgt := 42) C dL_isCommon_38 (by decide) ?_
          refine g_istore (pc' := 44) (L' := [(4, .int 1), (3, .int z), (0, .ref (a 0)), (1, .int (nI x)), (2, .int (nI y))]) C dL_isCommon_42 rfl (by decide) rfl ?_
          refine g_iload_n (pc' := 45) (q := 3) C dL_isCommon_44 rfl rfl rfl ?_
          refine g_istore (pc' := 47) (L' := [(5, .int (nI x)), (4, .int 1), (3, .int z), (0, .ref (a 0)), (1, .int (nI x)), (2, .int (nI y))]) C dL_isCommon_45 rfl (by decide) rfl ?_
          refine g_iload_n (pc' := 48) (q := 2) C dL_isCommon_47 rfl rfl rfl ?_
          refine g_iconst (pc' := 49) (v := (-1)) C dL_isCommon_48 rfl (by decide) ?_
          refine g_icmp_ne (tgt := 56) (pc' := 52) C dL_isCommon_49 rfl (by decide) (fun (c_15 : ¬ (z).toInt = -1) => ?_) (fun (c_15 : (z).toInt = -1) => ?_)
          · skip
            refine g_iconst (pc' := 57) (v := 0) C dL_isCommon_56 rfl (by decide) ?_
            refine g_istore (pc' := 59) (L' := [(6, .int 0), (5, .int (nI x)), (4, .int 1), (3, .int z), (0, .ref (a 0)), (1, .int (nI x)), (2, .int (nI y))]) C dL_isCommon_57 rfl (by decide) rfl ?_
            have loop_59 : ∀ (k : Nat) (p9 f9 : Int32), -1 ≤ p9.toInt ∧ p9.toInt < (u 0 12).toInt → p9.toInt + 2 ≤ k → f9.toInt = 1 ∨ (f9.toInt = 0 ∧ (∃ j, itX u j p9 = z) ∧ ¬ z.toInt = -1) → G p l e ({ frames := 3, cells := 0, slots := 0, locals := 67 } : Room) s m args below meth c D A 7 (wX cI cZ cQ a) 0 0 (MQ below (va_Qi (fun (r : Int32) (u' : LU) => r = 1 ∧ u' = u) (KE D (tyX cI cZ cQ) (wX cI cZ cQ a)) A) args s 0 0 A) u 59 [(0, .ref (a 0)), (1, .int (nI x)), (2, .int (nI y)), (3, .int z), (4, .int 1), (5, .int p9), (6, .int f9)] [] := by
              intro k
              induction k with
              | zero =>
                intro p9 f9 hp hk hf
                omega
              | succ k ih_59 =>
                intro p9 f9 hp hk hf
                have hf2 : f9.toInt = 0 ∨ f9.toInt = 1 := by omega
                have hfin : p9.toInt = -1 → f9.toInt = 1 := fun e => by
                  rcases hf with h | ⟨h, h2, h3⟩
                  · exact h
                  · exact absurd (it_m1 hO e hzl.1 h2) h3
                refine g_iload (pc' := 61) (q := 5) C dL_isCommon_59 rfl rfl ?_
                refine g_iconst (pc' := 62) (v := (-1)) C dL_isCommon_61 rfl (by decide) ?_
                refine g_icmp_eq (tgt := 94) (pc' := 65) C dL_isCommon_62 rfl (by decide) (fun (c_16 : (p9).toInt = -1) => ?_) (fun (c_16 : ¬ ((p9).toInt = -1)) => ?_)
                · skip
                  refine g_iload (pc' := 96) (q := 4) C dL_isCommon_94 rfl rfl ?_
                  refine g_if_eq (tgt := 108) (pc' := 99) C dL_isCommon_96 rfl (by decide) (fun h => absurd h (by decide)) (fun _ => ?_)
                  refine g_iload (pc' := 101) (q := 6) C dL_isCommon_99 rfl rfl ?_
                  refine g_if_eq (tgt := 108) (pc' := 104) C dL_isCommon_101 rfl (by decide) (fun (c_17 : (f9).toInt = 0) => ?_) (fun (c_17 : ¬ ((f9).toInt = 0)) => ?_)
                  · skip
                    exact absurd (show False by omega) id
                  · skip
                    refine g_iconst (pc' := 105) (v := 1) C dL_isCommon_104 rfl (by decide) ?_
                    refine g_goto (tgt := 109) C dL_isCommon_105 (by decide) ?_
                    exact g_iret C hr (by decide) ⟨rfl, rfl⟩ dL_isCommon_109
                · skip
                  refine g_iload (pc' := 67) (q := 6) C dL_isCommon_65 rfl rfl ?_
                  refine g_if_ne (tgt := 94) (pc' := 70) C dL_isCommon_67 rfl (by decide) (fun (c_18 : ¬ (f9).toInt = 0) => ?_) (fun (c_18 : (f9).toInt = 0) => ?_)
                  · skip
                    refine g_iload (pc' := 96) (q := 4) C dL_isCommon_94 rfl rfl ?_
                    refine g_if_eq (tgt := 108) (pc' := 99) C dL_isCommon_96 rfl (by decide) (fun h => absurd h (by decide)) (fun _ => ?_)
                    refine g_iload (pc' := 101) (q := 6) C dL_isCommon_99 rfl rfl ?_
                    refine g_if_eq (tgt := 108) (pc' := 104) C dL_isCommon_101 rfl (by decide) (fun (c_19 : (f9).toInt = 0) => ?_) (fun (c_19 : ¬ ((f9).toInt = 0)) => ?_)
                    · skip
                      exact absurd (show False by omega) id
                    · skip
                      refine g_iconst (pc' := 105) (v := 1) C dL_isCommon_104 rfl (by decide) ?_
                      refine g_goto (tgt := 109) C dL_isCommon_105 (by decide) ?_
                      exact g_iret C hr (by decide) ⟨rfl, rfl⟩ dL_isCommon_109
                  · skip
                    refine g_iload (pc' := 72) (q := 5) C dL_isCommon_70 rfl rfl ?_
                    refine g_iload_n (pc' := 73) (q := 3) C dL_isCommon_72 rfl rfl rfl ?_
                    refine g_icmp_ne (tgt := 80) (pc' := 76) C dL_isCommon_73 rfl (by decide) (fun (c_20 : ¬ (p9).toInt = (z).toInt) => ?_) (fun (c_20 : (p9).toInt = (z).toInt) => ?_)
                    · skip
                      refine g_iconst (pc' := 81) (v := 0) C dL_isCommon_80 rfl (by decide) ?_
                      refine g_istore (pc' := 83) (L' := [(6, .int 0), (0, .ref (a 0)), (1, .int (nI x)), (2, .int (nI y)), (3, .int z), (4, .int 1), (5, .int p9)]) C dL_isCommon_81 rfl (by decide) rfl ?_
                      have hpn := pon_le hO p9 hp.1
                      have hpl := hpn.2.2 (by omega)
                      refine g_aload_n (pc' := 84) (q := 1) C dL_isCommon_83 rfl rfl rfl ?_
                      refine g_iload (pc' := 86) (q := 6) C dL_isCommon_84 rfl rfl ?_
                      refine g_calliV (pc' := 89) (As := [.int p9]) (st := []) (cells' := 0) (slots' := 0) C (q_pon u p9 hIX ⟨by omega, by omega⟩) gL_isCommon_X0_parentOf rfl (by decide +kernel) ⟨Nat.le_of_ble_eq_true rfl, Nat.le_of_ble_eq_true rfl⟩ 0 (by rfl) rfl (n := 1) rfl rfl (Nat.le_of_ble_eq_true rfl) dL_isCommon_86 rfl rfl rfl ⟨Nat.le_of_ble_eq_true rfl, Nat.le_of_ble_eq_true rfl⟩ (fun r_21 u_21 h_22 => ?_)
                      obtain ⟨rfl, h_22⟩ := h_22
                      refine g_st h_22 ?_
                      refine g_istore (pc' := 91) (L' := [(5, .int (ponX u p9)), (6, .int 0), (0, .ref (a 0)), (1, .int (nI x)), (2, .int (nI y)), (3, .int z), (4, .int 1)]) C dL_isCommon_89 rfl (by decide) rfl ?_
                      refine g_goto (tgt := 59) C dL_isCommon_91 (by decide) ?_
                      refine g_sub (L' := [(0, .ref (a 0)), (1, .int (nI x)), (2, .int (nI y)), (3, .int z), (4, .int 1), (5, .int (ponX u p9)), (6, .int 0)]) [2, 3, 4, 5, 6, 0, 1] rfl ?_
                      exact ih_59 (ponX u p9) 0 (by omega) (by omega) (hf.elim (fun h => absurd h (by omega)) (fun h => Or.inr ⟨rfl, it_next h.2.1 (by assumption), h.2.2⟩))
                    · skip
                      refine g_iconst (pc' := 77) (v := 1) C dL_isCommon_76 rfl (by decide) ?_
                      refine g_goto (tgt := 81) C dL_isCommon_77 (by decide) ?_
                      refine g_istore (pc' := 83) (L' := [(6, .int 1), (0, .ref (a 0)), (1, .int (nI x)), (2, .int (nI y)), (3, .int z), (4, .int 1), (5, .int p9)]) C dL_isCommon_81 rfl (by decide) rfl ?_
                      have hpn := pon_le hO p9 hp.1
                      have hpl := hpn.2.2 (by omega)
                      refine g_aload_n (pc' := 84) (q := 1) C dL_isCommon_83 rfl rfl rfl ?_
                      refine g_iload (pc' := 86) (q := 6) C dL_isCommon_84 rfl rfl ?_
                      refine g_calliV (pc' := 89) (As := [.int p9]) (st := []) (cells' := 0) (slots' := 0) C (q_pon u p9 hIX ⟨by omega, by omega⟩) gL_isCommon_X0_parentOf rfl (by decide +kernel) ⟨Nat.le_of_ble_eq_true rfl, Nat.le_of_ble_eq_true rfl⟩ 0 (by rfl) rfl (n := 1) rfl rfl (Nat.le_of_ble_eq_true rfl) dL_isCommon_86 rfl rfl rfl ⟨Nat.le_of_ble_eq_true rfl, Nat.le_of_ble_eq_true rfl⟩ (fun r_23 u_23 h_24 => ?_)
                      obtain ⟨rfl, h_24⟩ := h_24
                      refine g_st h_24 ?_
                      refine g_istore (pc' := 91) (L' := [(5, .int (ponX u p9)), (6, .int 1), (0, .ref (a 0)), (1, .int (nI x)), (2, .int (nI y)), (3, .int z), (4, .int 1)]) C dL_isCommon_89 rfl (by decide) rfl ?_
                      refine g_goto (tgt := 59) C dL_isCommon_91 (by decide) ?_
                      refine g_sub (L' := [(0, .ref (a 0)), (1, .int (nI x)), (2, .int (nI y)), (3, .int z), (4, .int 1), (5, .int (ponX u p9)), (6, .int 1)]) [2, 3, 4, 5, 6, 0, 1] rfl ?_
                      exact ih_59 (ponX u p9) 1 (by omega) (by omega) (Or.inl rfl)
            refine g_sub (L' := [(0, .ref (a 0)), (1, .int (nI x)), (2, .int (nI y)), (3, .int z), (4, .int 1), (5, .int (nI x)), (6, .int 0)]) [4, 5, 6, 3, 2, 1, 0] rfl ?_
            exact loop_59 30 (nI x) 0 (by omega) (by omega) (Or.inr ⟨rfl, hzi, by omega⟩)
          · skip
            refine g_iconst (pc' := 53) (v := 1) C dL_isCommon_52 rfl (by decide) ?_
            refine g_goto (tgt := 57) C dL_isCommon_53 (by decide) ?_
            refine g_istore (pc' := 59) (L' := [(6, .int 1), (5, .int (nI x)), (4, .int 1), (3, .int z), (0, .ref (a 0)), (1, .int (nI x)), (2, .int (nI y))]) C dL_isCommon_57 rfl (by decide) rfl ?_
            have loop_59 : ∀ (k : Nat) (p9 f9 : Int32), -1 ≤ p9.toInt ∧ p9.toInt < (u 0 12).toInt → p9.toInt + 2 ≤ k → f9.toInt = 1 ∨ (f9.toInt = 0 ∧ (∃ j, itX u j p9 = z) ∧ ¬ z.toInt = -1) → G p l e ({ frames := 3, cells := 0, slots := 0, locals := 67 } : Room) s m args below meth c D A 7 (wX cI cZ cQ a) 0 0 (MQ below (va_Qi (fun (r : Int32) (u' : LU) => r = 1 ∧ u' = u) (KE D (tyX cI cZ cQ) (wX cI cZ cQ a)) A) args s 0 0 A) u 59 [(0, .ref (a 0)), (1, .int (nI x)), (2, .int (nI y)), (3, .int z), (4, .int 1), (5, .int p9), (6, .int f9)] [] := by
              intro k
              induction k with
              | zero =>
                intro p9 f9 hp hk hf
                omega
              | succ k ih_59 =>
                intro p9 f9 hp hk hf
                have hf2 : f9.toInt = 0 ∨ f9.toInt = 1 := by omega
                have hfin : p9.toInt = -1 → f9.toInt = 1 := fun e => by
                  rcases hf with h | ⟨h, h2, h3⟩
                  · exact h
                  · exact absurd (it_m1 hO e hzl.1 h2) h3
                refine g_iload (pc' := 61) (q := 5) C dL_isCommon_59 rfl rfl ?_
                refine g_iconst (pc' := 62) (v := (-1)) C dL_isCommon_61 rfl (by decide) ?_
                refine g_icmp_eq (tgt := 94) (pc' := 65) C dL_isCommon_62 rfl (by decide) (fun (c_25 : (p9).toInt = -1) => ?_) (fun (c_25 : ¬ ((p9).toInt = -1)) => ?_)
                · skip
                  refine g_iload (pc' := 96) (q := 4) C dL_isCommon_94 rfl rfl ?_
                  refine g_if_eq (tgt := 108) (pc' := 99) C dL_isCommon_96 rfl (by decide) (fun h => absurd h (by decide)) (fun _ => ?_)
                  refine g_iload (pc' := 101) (q := 6) C dL_isCommon_99 rfl rfl ?_
                  refine g_if_eq (tgt := 108) (pc' := 104) C dL_isCommon_101 rfl (by decide) (fun (c_26 : (f9).toInt = 0) => ?_) (fun (c_26 : ¬ ((f9).toInt = 0)) => ?_)
                  · skip
                    exact absurd (show False by omega) id
                  · skip
                    refine g_iconst (pc' := 105) (v := 1) C dL_isCommon_104 rfl (by decide) ?_
                    refine g_goto (tgt := 109) C dL_isCommon_105 (by decide) ?_
                    exact g_iret C hr (by decide) ⟨rfl, rfl⟩ dL_isCommon_109
                · skip
                  refine g_iload (pc' := 67) (q := 6) C dL_isCommon_65 rfl rfl ?_
                  refine g_if_ne (tgt := 94) (pc' := 70) C dL_isCommon_67 rfl (by decide) (fun (c_27 : ¬ (f9).toInt = 0) => ?_) (fun (c_27 : (f9).toInt = 0) => ?_)
                  · skip
                    refine g_iload (pc' := 96) (q := 4) C dL_isCommon_94 rfl rfl ?_
                    refine g_if_eq (tgt := 108) (pc' := 99) C dL_isCommon_96 rfl (by decide) (fun h => absurd h (by decide)) (fun _ => ?_)
                    refine g_iload (pc' := 101) (q := 6) C dL_isCommon_99 rfl rfl ?_
                    refine g_if_eq (tgt := 108) (pc' := 104) C dL_isCommon_101 rfl (by decide) (fun (c_28 : (f9).toInt = 0) => ?_) (fun (c_28 : ¬ ((f9).toInt = 0)) => ?_)
                    · skip
                      exact absurd (show False by omega) id
                    · skip
                      refine g_iconst (pc' := 105) (v := 1) C dL_isCommon_104 rfl (by decide) ?_
                      refine g_goto (tgt := 109) C dL_isCommon_105 (by decide) ?_
                      exact g_iret C hr (by decide) ⟨rfl, rfl⟩ dL_isCommon_109
                  · skip
                    refine g_iload (pc' := 72) (q := 5) C dL_isCommon_70 rfl rfl ?_
                    refine g_iload_n (pc' := 73) (q := 3) C dL_isCommon_72 rfl rfl rfl ?_
                    refine g_icmp_ne (tgt := 80) (pc' := 76) C dL_isCommon_73 rfl (by decide) (fun (c_29 : ¬ (p9).toInt = (z).toInt) => ?_) (fun (c_29 : (p9).toInt = (z).toInt) => ?_)
                    · skip
                      refine g_iconst (pc' := 81) (v := 0) C dL_isCommon_80 rfl (by decide) ?_
                      refine g_istore (pc' := 83) (L' := [(6, .int 0), (0, .ref (a 0)), (1, .int (nI x)), (2, .int (nI y)), (3, .int z), (4, .int 1), (5, .int p9)]) C dL_isCommon_81 rfl (by decide) rfl ?_
                      have hpn := pon_le hO p9 hp.1
                      have hpl := hpn.2.2 (by omega)
                      refine g_aload_n (pc' := 84) (q := 1) C dL_isCommon_83 rfl rfl rfl ?_
                      refine g_iload (pc' := 86) (q := 6) C dL_isCommon_84 rfl rfl ?_
                      refine g_calliV (pc' := 89) (As := [.int p9]) (st := []) (cells' := 0) (slots' := 0) C (q_pon u p9 hIX ⟨by omega, by omega⟩) gL_isCommon_X0_parentOf rfl (by decide +kernel) ⟨Nat.le_of_ble_eq_true rfl, Nat.le_of_ble_eq_true rfl⟩ 0 (by rfl) rfl (n := 1) rfl rfl (Nat.le_of_ble_eq_true rfl) dL_isCommon_86 rfl rfl rfl ⟨Nat.le_of_ble_eq_true rfl, Nat.le_of_ble_eq_true rfl⟩ (fun r_30 u_30 h_31 => ?_)
                      obtain ⟨rfl, h_31⟩ := h_31
                      refine g_st h_31 ?_
                      refine g_istore (pc' := 91) (L' := [(5, .int (ponX u p9)), (6, .int 0), (0, .ref (a 0)), (1, .int (nI x)), (2, .int (nI y)), (3, .int z), (4, .int 1)]) C dL_isCommon_89 rfl (by decide) rfl ?_
                      refine g_goto (tgt := 59) C dL_isCommon_91 (by decide) ?_
                      refine g_sub (L' := [(0, .ref (a 0)), (1, .int (nI x)), (2, .int (nI y)), (3, .int z), (4, .int 1), (5, .int (ponX u p9)), (6, .int 0)]) [2, 3, 4, 5, 6, 0, 1] rfl ?_
                      exact ih_59 (ponX u p9) 0 (by omega) (by omega) (hf.elim (fun h => absurd h (by omega)) (fun h => Or.inr ⟨rfl, it_next h.2.1 (by assumption), h.2.2⟩))
                    · skip
                      refine g_iconst (pc' := 77) (v := 1) C dL_isCommon_76 rfl (by decide) ?_
                      refine g_goto (tgt := 81) C dL_isCommon_77 (by decide) ?_
                      refine g_istore (pc' := 83) (L' := [(6, .int 1), (0, .ref (a 0)), (1, .int (nI x)), (2, .int (nI y)), (3, .int z), (4, .int 1), (5, .int p9)]) C dL_isCommon_81 rfl (by decide) rfl ?_
                      have hpn := pon_le hO p9 hp.1
                      have hpl := hpn.2.2 (by omega)
                      refine g_aload_n (pc' := 84) (q := 1) C dL_isCommon_83 rfl rfl rfl ?_
                      refine g_iload (pc' := 86) (q := 6) C dL_isCommon_84 rfl rfl ?_
                      refine g_calliV (pc' := 89) (As := [.int p9]) (st := []) (cells' := 0) (slots' := 0) C (q_pon u p9 hIX ⟨by omega, by omega⟩) gL_isCommon_X0_parentOf rfl (by decide +kernel) ⟨Nat.le_of_ble_eq_true rfl, Nat.le_of_ble_eq_true rfl⟩ 0 (by rfl) rfl (n := 1) rfl rfl (Nat.le_of_ble_eq_true rfl) dL_isCommon_86 rfl rfl rfl ⟨Nat.le_of_ble_eq_true rfl, Nat.le_of_ble_eq_true rfl⟩ (fun r_32 u_32 h_33 => ?_)
                      obtain ⟨rfl, h_33⟩ := h_33
                      refine g_st h_33 ?_
                      refine g_istore (pc' := 91) (L' := [(5, .int (ponX u p9)), (6, .int 1), (0, .ref (a 0)), (1, .int (nI x)), (2, .int (nI y)), (3, .int z), (4, .int 1)]) C dL_isCommon_89 rfl (by decide) rfl ?_
                      refine g_goto (tgt := 59) C dL_isCommon_91 (by decide) ?_
                      refine g_sub (L' := [(0, .ref (a 0)), (1, .int (nI x)), (2, .int (nI y)), (3, .int z), (4, .int 1), (5, .int (ponX u p9)), (6, .int 1)]) [2, 3, 4, 5, 6, 0, 1] rfl ?_
                      exact ih_59 (ponX u p9) 1 (by omega) (by omega) (Or.inl rfl)
            refine g_sub (L' := [(0, .ref (a 0)), (1, .int (nI x)), (2, .int (nI y)), (3, .int z), (4, .int 1), (5, .int (nI x)), (6, .int 1)]) [4, 5, 6, 3, 2, 1, 0] rfl ?_
            exact loop_59 30 (nI x) 1 (by omega) (by omega) (Or.inl rfl)
