theorem hxs_addStep (u : LU) (x : Int32) (y : Int32) (z : Int32) (b : Int32) : ∀ E, eX_addStep u x y z b E → E = "java/lang/IndexOutOfBoundsException" ∨ E = "java/lang/IllegalArgumentException" ∨ E = "java/lang/IllegalStateException" := fun E h => h.elim (fun q => Or.inl q.1) (fun h => Or.inr (h.elim (fun q => Or.inl q.1) (fun q => Or.inr q.1)))
theorem hxs_enter (u : LU) (x : Int32) : ∀ E, eX_enter u x E → E = "java/lang/IllegalArgumentException" ∨ E = "java/lang/IllegalStateException" := fun E h => h.elim (fun q => Or.inl q.1) (fun q => Or.inr q.1)
theorem hxs_start (u : LU) (x : Int32) : ∀ E, eX_start u x E → E = "java/lang/IndexOutOfBoundsException" ∨ E = "java/lang/IllegalStateException" := fun E h => h.elim (fun q => Or.inl q.1) (fun q => Or.inr q.1)
theorem hxs_rework (u : LU) (x : Int32) : ∀ E, eX_rework u x E → E = "java/lang/IndexOutOfBoundsException" ∨ E = "java/lang/IllegalStateException" := fun E h => h.elim (fun q => Or.inl q.1) (fun q => Or.inr q.1)
theorem hxs_split (u : LU) (x : Int32) (y : Int32) : ∀ E, eX_split u x y E → E = "java/lang/IndexOutOfBoundsException" ∨ E = "java/lang/IllegalArgumentException" ∨ E = "java/lang/IllegalStateException" := fun E h => h.elim (fun q => Or.inl q.1) (fun ⟨_, _, _, h⟩ => Or.inr (h.elim (fun q => Or.inl q.1) (fun q => Or.inr q.1)))
theorem hxs_merge (u : LU) (x : Int32) (y : Int32) : ∀ E, eX_merge u x y E → E = "java/lang/IndexOutOfBoundsException" ∨ E = "java/lang/IllegalArgumentException" ∨ E = "java/lang/IllegalStateException" := fun E h => h.elim (fun q => Or.inl q.1) (fun ⟨_, _, _, _, _, _, h⟩ => Or.inr (h.elim (fun q => Or.inl q.1) (fun q => Or.inr q.1)))
theorem hxs_hold (u : LU) (x : Int32) (P9 : Prop) : ∀ E, eX_hold u x P9 E → E = "java/lang/IndexOutOfBoundsException" ∨ E = "java/lang/IllegalStateException" := fun E h => h.elim (fun q => Or.inl q.1) (fun q => Or.inr q.1)
theorem hxs_scrap (u : LU) (x : Int32) : ∀ E, eX_scrap u x E → E = "java/lang/IndexOutOfBoundsException" ∨ E = "java/lang/IllegalStateException" := fun E h => h.elim (fun q => Or.inl q.1) (fun q => Or.inr q.1)
theorem hxs_advance (u : LU) (x : Int32) : ∀ E, eX_advance u x E → E = "java/lang/IllegalArgumentException" := fun E h => h.1
theorem hxs_state (u : LU) (x : Int32) : ∀ E, eX_state u x E → E = "java/lang/IndexOutOfBoundsException" := fun E h => h.1
theorem hxs_stepOf (u : LU) (x : Int32) : ∀ E, eX_stepOf u x E → E = "java/lang/IndexOutOfBoundsException" := fun E h => h.1
theorem hxs_size (u : LU) (x : Int32) : ∀ E, eX_size u x E → E = "java/lang/IndexOutOfBoundsException" := fun E h => h.1
theorem hxs_slack (u : LU) (x : Int32) : ∀ E, eX_slack u x E → E = "java/lang/IndexOutOfBoundsException" := fun E h => h.1
theorem hxs_isLate (u : LU) (x : Int32) : ∀ E, eX_isLate u x E → E = "java/lang/IndexOutOfBoundsException" := fun E h => h.1
theorem hxs_reworks (u : LU) (x : Int32) : ∀ E, eX_reworks u x E → E = "java/lang/IndexOutOfBoundsException" := fun E h => h.1
theorem hxs_nextFor (u : LU) (x : Int32) : ∀ E, eX_nextFor u x E → E = "java/lang/IndexOutOfBoundsException" := fun E h => h.1
theorem hxs_wafersAt (u : LU) (x : Int32) : ∀ E, eX_wafersAt u x E → E = "java/lang/IndexOutOfBoundsException" := fun E h => h.1
theorem hxs_wafersAtByWafers (u : LU) (x : Int32) : ∀ E, eX_wafersAtByWafers u x E → E = "java/lang/IndexOutOfBoundsException" := fun E h => h.1
theorem hxs_lotOf (u : LU) (x : Int32) : ∀ E, eX_lotOf u x E → E = "java/lang/IndexOutOfBoundsException" := fun E h => h.1
theorem hxs_parentOf (u : LU) (x : Int32) : ∀ E, eX_parentOf u x E → E = "java/lang/IndexOutOfBoundsException" := fun E h => h.1
theorem hxs_common (u : LU) (x : Int32) (y : Int32) : ∀ E, eX_common u x y E → E = "java/lang/IndexOutOfBoundsException" := fun E h => h.1
theorem hxs_path (u : LU) (x : Int32) : ∀ E, eX_path u x E → E = "java/lang/IndexOutOfBoundsException" := fun E h => h.1
theorem hxs_pathAt (u : LU) (x : Int32) (y : Int32) : ∀ E, eX_pathAt u x y E → E = "java/lang/IndexOutOfBoundsException" := fun E h => h.1
set_option maxHeartbeats 4000000 in
set_option maxRecDepth 100000 in
theorem law_case_0 {p : Program} {l : Launch} {e : Env} {s : State} {m : MethodId} {below : List Frame} {meth : Method} {c : Code} {D : va_G} {cI cZ cQ cL : ClassId} {ax am : Nat → Nat} {o b L9 : Nat} {xs : Nat → Int32} (hlt : l.stackTraces = false) (C : CX p s m #[.ref b] meth c D (tyL cI cZ cQ cL) (fun q => s.heap.size ≤ q) RL cL_law wsL_law 7 (wAll cI cZ cQ cL ax am o)) (hr : meth.sig.returnType = ret) (hE : EV (fun q => s.heap.size ≤ q) s s.heap tx0) (hXs : va_X b L9 xs s s.heap) (hbl : b < s.heap.size) {c0 s0 : Nat} (hc0 : c0 + 1600 ≤ 601024) (hs0 : s0 + 9600 ≤ 7293034) {j : Nat} {X M : LU} {f : Nat → Int64} (hj : 5 * j + 5 ≤ L9) (hL9 : L9 ≤ 2560) (hR : Rel (10000 * (j : Int)) X M) (next : ∀ (X2 M2 : LU) (f2 : Nat → Int64), Rel (10000 * (j : Int) + 10000) X2 M2 → G p l e room_1 s m #[.ref b] below meth c D (fun q => s.heap.size ≤ q) 7 (wAll cI cZ cQ cL ax am o) (c0 + 3 * j + 3) (s0 + 18 * j + 18) (lw_Z below #[.ref b] s) (X2, M2, f2) 1609 [(0, .ref b), (1, .ref (ax 0)), (2, .ref (am 0)), (3, .ref o), (4, .int (nI (5 * j)))] []) : G p l e room_1 s m #[.ref b] below meth c D (fun q => s.heap.size ≤ q) 7 (wAll cI cZ cQ cL ax am o) (c0 + 3 * j) (s0 + 18 * j) (lw_Z below #[.ref b] s) (X, M, f) 156 [(0, .ref b), (1, .ref (ax 0)), (2, .ref (am 0)), (3, .ref o), (4, .int (nI (5 * j)))] [] := by
  refine g_aload_n (pc' := 157) (q := 1) C dL_law_156 rfl rfl rfl ?_
  refine g_aload_n (pc' := 158) (q := 0) C dL_law_157 rfl rfl rfl ?_
  refine g_iload (pc' := 160) (q := 4) C dL_law_158 rfl rfl ?_
  refine g_iconst (pc' := 161) (v := 1) C dL_law_160 rfl (by decide) ?_
  refine g_iadd (pc' := 162) C dL_law_161 rfl ?_
  refine g_conv (show nI (5 * j) + 1 = nI (5 * j + 1) from nI_add (5 * j) 1) ?_
  refine g_sld (pc' := 163) (k := 5 * j + 1) C hXs hbl (Nat.not_le.mpr hbl) (vp_in_nI (by omega) (by omega)) (nI_clamp (by omega)) dL_law_162 rfl ?_
  refine g_aload_n (pc' := 164) (q := 0) C dL_law_163 rfl rfl rfl ?_
  refine g_iload (pc' := 166) (q := 4) C dL_law_164 rfl rfl ?_
  refine g_iconst (pc' := 167) (v := 2) C dL_law_166 rfl (by decide) ?_
  refine g_iadd (pc' := 168) C dL_law_167 rfl ?_
  refine g_conv (show nI (5 * j) + 2 = nI (5 * j + 2) from nI_add (5 * j) 2) ?_
  refine g_sld (pc' := 169) (k := 5 * j + 2) C hXs hbl (Nat.not_le.mpr hbl) (vp_in_nI (by omega) (by omega)) (nI_clamp (by omega)) dL_law_168 rfl ?_
  refine g_aload_n (pc' := 170) (q := 0) C dL_law_169 rfl rfl rfl ?_
  refine g_iload (pc' := 172) (q := 4) C dL_law_170 rfl rfl ?_
  refine g_iconst (pc' := 173) (v := 3) C dL_law_172 rfl (by decide) ?_
  refine g_iadd (pc' := 174) C dL_law_173 rfl ?_
  refine g_conv (show nI (5 * j) + 3 = nI (5 * j + 3) from nI_add (5 * j) 3) ?_
  refine g_sld (pc' := 175) (k := 5 * j + 3) C hXs hbl (Nat.not_le.mpr hbl) (vp_in_nI (by omega) (by omega)) (nI_clamp (by omega)) dL_law_174 rfl ?_
  refine g_aload_n (pc' := 176) (q := 0) C dL_law_175 rfl rfl rfl ?_
  refine g_iload (pc' := 178) (q := 4) C dL_law_176 rfl rfl ?_
  refine g_iconst (pc' := 179) (v := 4) C dL_law_178 rfl (by decide) ?_
  refine g_iadd (pc' := 180) C dL_law_179 rfl ?_
  refine g_conv (show nI (5 * j) + 4 = nI (5 * j + 4) from nI_add (5 * j) 4) ?_
  refine g_sld (pc' := 181) (k := 5 * j + 4) C hXs hbl (Nat.not_le.mpr hbl) (vp_in_nI (by omega) (by omega)) (nI_clamp (by omega)) dL_law_180 rfl ?_
  refine g_aload_n (pc' := 182) (q := 3) C dL_law_181 rfl rfl rfl ?_
  have hM1 := fr_XI (wg := wAll cI cZ cQ cL ax am o) (tysG := tyL cI cZ cQ cL) (emb := fun v : LU × (Nat → Int64) => ((v.1, M, v.2) : LU × LU × (Nat → Int64))) (E1 := []) (E2 := wM cI cZ am M) (fun v => rfl) [0, 1, 2, 3] rfl (c_L_addStep (l := l) (D := D) (cI := cI) (cZ := cZ) (cQ := cQ) (cL := cL) (a := ax) (o := o) (posti := pX_addStep X (xs (5 * j + 1)) (xs (5 * j + 2)) (xs (5 * j + 3)) (xs (5 * j + 4))) (xp := eX_addStep X (xs (5 * j + 1)) (xs (5 * j + 2)) (xs (5 * j + 3)) (xs (5 * j + 4))) X f (xs (5 * j + 1)) (xs (5 * j + 2)) (xs (5 * j + 3)) (xs (5 * j + 4)) (c_X0_addStep hlt X (xs (5 * j + 1)) (xs (5 * j + 2)) (xs (5 * j + 3)) (xs (5 * j + 4)) hR.ix) (hxs_addStep X (xs (5 * j + 1)) (xs (5 * j + 2)) (xs (5 * j + 3)) (xs (5 * j + 4))))
  refine g_callW (pc' := 185) (As := [.ref (ax 0), .int (xs (5 * j + 1)), .int (xs (5 * j + 2)), .int (xs (5 * j + 3)), .int (xs (5 * j + 4)), .ref o]) (st := []) (cells' := c0 + 3 * j + 2) (slots' := s0 + 18 * j + 12) C hE hM1 gL_law_L_addStep rfl (by decide +kernel) ⟨Nat.le_of_ble_eq_true rfl, Nat.le_of_ble_eq_true rfl⟩ (n := 6) rfl rfl (Nat.le_of_ble_eq_true rfl) dL_law_182 rfl rfl rfl ⟨(by show c0 + 3 * j + 2 ≤ 601024; omega), (by show s0 + 18 * j + 12 ≤ 7293034; omega)⟩ (fun k0 s9 hp => ?_)
  obtain ⟨s2, hw, rfl⟩ := hp
  refine g_istore (pc' := 187) (L' := [(5, .int k0), (0, .ref b), (1, .ref (ax 0)), (2, .ref (am 0)), (3, .ref o), (4, .int (nI (5 * j)))]) C dL_law_185 rfl (by decide) rfl ?_
  refine g_aload_n (pc' := 188) (q := 3) C dL_law_187 rfl rfl rfl ?_
  refine g_aload_n (pc' := 189) (q := 1) C dL_law_188 rfl rfl rfl ?_
  refine g_iload (pc' := 191) (q := 5) C dL_law_189 rfl rfl ?_
  refine g_iconst (pc' := 192) (v := 1) C dL_law_191 rfl (by decide) ?_
  refine g_iadd (pc' := 193) C dL_law_192 rfl ?_
  refine g_conv (show nI (5 * j) + 1 = nI (5 * j + 1) from nI_add (5 * j) 1) ?_
  refine g_sld (pc' := 194) (k := 5 * j + 1) C hXs hbl (Nat.not_le.mpr hbl) (vp_in_nI (by omega) (by omega)) (nI_clamp (by omega)) dL_law_193 rfl ?_
  refine g_aload_n (pc' := 195) (q := 1) C dL_law_194 rfl rfl rfl ?_
  refine g_iload (pc' := 197) (q := 5) C dL_law_195 rfl rfl ?_
  refine g_iconst (pc' := 198) (v := 2) C dL_law_197 rfl (by decide) ?_
  refine g_iadd (pc' := 199) C dL_law_198 rfl ?_
  refine g_conv (show nI (5 * j) + 2 = nI (5 * j + 2) from nI_add (5 * j) 2) ?_
  refine g_sld (pc' := 200) (k := 5 * j + 2) C hXs hbl (Nat.not_le.mpr hbl) (vp_in_nI (by omega) (by omega)) (nI_clamp (by omega)) dL_law_199 rfl ?_
  refine g_aload_n (pc' := 201) (q := 1) C dL_law_200 rfl rfl rfl ?_
  refine g_iload (pc' := 203) (q := 5) C dL_law_201 rfl rfl ?_
  refine g_iconst (pc' := 204) (v := 3) C dL_law_203 rfl (by decide) ?_
  refine g_iadd (pc' := 205) C dL_law_204 rfl ?_
  refine g_conv (show nI (5 * j) + 3 = nI (5 * j + 3) from nI_add (5 * j) 3) ?_
  refine g_sld (pc' := 206) (k := 5 * j + 3) C hXs hbl (Nat.not_le.mpr hbl) (vp_in_nI (by omega) (by omega)) (nI_clamp (by omega)) dL_law_205 rfl ?_
  refine g_aload_n (pc' := 207) (q := 1) C dL_law_206 rfl rfl rfl ?_
  refine g_iload (pc' := 209) (q := 5) C dL_law_207 rfl rfl ?_
  refine g_iconst (pc' := 210) (v := 4) C dL_law_209 rfl (by decide) ?_
  refine g_iadd (pc' := 211) C dL_law_210 rfl ?_
  refine g_conv (show nI (5 * j) + 4 = nI (5 * j + 4) from nI_add (5 * j) 4) ?_
  refine g_sld (pc' := 212) (k := 5 * j + 4) C hXs hbl (Nat.not_le.mpr hbl) (vp_in_nI (by omega) (by omega)) (nI_clamp (by omega)) dL_law_211 rfl ?_
  refine g_calliV (pc' := 215) (As := [.int (xs (5 * j + 1)), .int (xs (5 * j + 2)), .int (xs (5 * j + 3)), .int (xs (5 * j + 4))]) (st := []) (cells' := c0 + 3 * j + 2) (slots' := s0 + 18 * j + 12) C (fr_KI (wg := wAll cI cZ cQ cL ax am o) (tysG := tyL cI cZ cQ cL) (emb := fun v : LU => ((s2.1, v, s2.2) : LU × LU × (Nat → Int64))) (E1 := wL cI cZ cQ cL ax o s2) (E2 := []) (fun v => by simp [wAll]) [0, 1, 2] rfl (c_X1_addStep (l := l) (D := D) (cI := cI) (cZ := cZ) (cQ := cQ) (a := am) M (xs (5 * j + 1)) (xs (5 * j + 2)) (xs (5 * j + 3)) (xs (5 * j + 4)) hR.im)) gL_law_X1_addStep rfl (by decide +kernel) ⟨Nat.le_of_ble_eq_true rfl, Nat.le_of_ble_eq_true rfl⟩ 76 (wA_M _ _ _ _ _ _ _ _) rfl (n := 4) rfl rfl (Nat.le_of_ble_eq_true rfl) dL_law_212 rfl (by rfl) (by rfl) ⟨(by show c0 + 3 * j + 2 ≤ 601024; omega), (by show s0 + 18 * j + 12 ≤ 7293034; omega)⟩ (fun rb s9 hp => ?_)
  obtain ⟨M1, hm, rfl⟩ := hp
  obtain ⟨hR2, hkt, hkv⟩ := sim_addStep hR (by omega) (xs (5 * j + 1)) (xs (5 * j + 2)) (xs (5 * j + 3)) (xs (5 * j + 4)) hw hm
  refine g_istore (pc' := 217) (L' := [(6, .int rb), (5, .int k0), (0, .ref b), (1, .ref (ax 0)), (2, .ref (am 0)), (3, .ref o), (4, .int (nI (5 * j)))]) C dL_law_215 rfl (by decide) rfl ?_
  refine g_aload_n (pc' := 218) (q := 4) C dL_law_217 rfl rfl rfl ?_
  refine g_calliV (pc' := 221) (As := []) (st := []) (cells' := c0 + 3 * j + 2) (slots' := s0 + 18 * j + 12) C (fr_KI (wg := wAll cI cZ cQ cL ax am o) (tysG := tyL cI cZ cQ cL) (emb := fun v : LU => ((s2.1, v, s2.2) : LU × LU × (Nat → Int64))) (E1 := wL cI cZ cQ cL ax o s2) (E2 := []) (fun v => by simp [wAll]) [0, 1, 2] rfl (c_X1_thrown (l := l) (D := D) (cI := cI) (cZ := cZ) (cQ := cQ) (a := am) M1)) gL_law_X1_thrown rfl (by decide +kernel) ⟨Nat.le_of_ble_eq_true rfl, Nat.le_of_ble_eq_true rfl⟩ 76 (wA_M _ _ _ _ _ _ _ _) rfl (n := 0) rfl rfl (Nat.le_of_ble_eq_true rfl) dL_law_218 rfl (by rfl) (by rfl) ⟨(by show c0 + 3 * j + 2 ≤ 601024; omega), (by show s0 + 18 * j + 12 ≤ 7293034; omega)⟩ (fun r1 s9 hp => ?_)
  obtain ⟨v9, ⟨rfl, hv9⟩, rfl⟩ := hp
  rw [hv9]
  refine g_iload (pc' := 223) (q := 1) C dL_law_221 rfl rfl ?_
  refine g_icmp_eq (tgt := 228) (pc' := 226) C dL_law_223 rfl (by decide) (fun _ => ?_) (fun h9 => absurd (congrArg Int32.toInt hkt) h9)
  refine g_iload (pc' := 230) (q := 1) C dL_law_228 rfl rfl ?_
  refine g_if_ne (tgt := 245) (pc' := 233) C dL_law_230 rfl (by decide) (fun ck => ?_) (fun (ck : k0.toInt = 0) => ?_)
  · skip
    refine g_goto (tgt := 1609) C dL_law_245 (by decide) ?_
    exact g_widen (by omega) (by omega) (g_sub (L' := [(0, .ref b), (1, .ref (ax 0)), (2, .ref (am 0)), (3, .ref o), (4, .int (nI (5 * j)))]) [2, 3, 4, 5, 6] rfl (next _ _ _ hR2))
  · have hk0 : k0 = 0 := Int32.toInt_inj.mp (ck.trans ti_0.symm)
    refine g_aload_n (pc' := 234) (q := 5) C dL_law_233 rfl rfl rfl ?_
    refine g_iconst (pc' := 235) (v := 0) C dL_law_234 rfl (by decide) ?_
    refine g_lald (pc' := 236) (n := 1) C 75 3 (wA_out _ _ _ _ _ _ _ _) rfl (vp_of (by decide) (by decide)) (k := 0) rfl dL_law_235 rfl ?_
    refine g_iload (pc' := 238) (q := 0) C dL_law_236 rfl rfl ?_
    refine g_i2l (pc' := 239) C dL_law_238 rfl ?_
    refine g_lcmp (pc' := 240) C dL_law_239 rfl ?_
    refine g_if_eq (tgt := 245) (pc' := 243) C dL_law_240 rfl (by decide) (fun _ => ?_) (fun h9 => absurd (lg_self (hkv hk0)) h9)
    refine g_goto (tgt := 1609) C dL_law_245 (by decide) ?_
    exact g_widen (by omega) (by omega) (g_sub (L' := [(0, .ref b), (1, .ref (ax 0)), (2, .ref (am 0)), (3, .ref o), (4, .int (nI (5 * j)))]) [2, 3, 4, 5, 6] rfl (next _ _ _ hR2))
set_option maxHeartbeats 4000000 in
set_option maxRecDepth 100000 in
theorem law_case_1 {p : Program} {l : Launch} {e : Env} {s : State} {m : MethodId} {below : List Frame} {meth : Method} {c : Code} {D : va_G} {cI cZ cQ cL : ClassId} {ax am : Nat → Nat} {o b L9 : Nat} {xs : Nat → Int32} (hlt : l.stackTraces = false) (C : CX p s m #[.ref b] meth c D (tyL cI cZ cQ cL) (fun q => s.heap.size ≤ q) RL cL_law wsL_law 7 (wAll cI cZ cQ cL ax am o)) (hr : meth.sig.returnType = ret) (hE : EV (fun q => s.heap.size ≤ q) s s.heap tx0) (hXs : va_X b L9 xs s s.heap) (hbl : b < s.heap.size) {c0 s0 : Nat} (hc0 : c0 + 1600 ≤ 601024) (hs0 : s0 + 9600 ≤ 7293034) {j : Nat} {X M : LU} {f : Nat → Int64} (hj : 5 * j + 5 ≤ L9) (hL9 : L9 ≤ 2560) (hR : Rel (10000 * (j : Int)) X M) (next : ∀ (X2 M2 : LU) (f2 : Nat → Int64), Rel (10000 * (j : Int) + 10000) X2 M2 → G p l e room_1 s m #[.ref b] below meth c D (fun q => s.heap.size ≤ q) 7 (wAll cI cZ cQ cL ax am o) (c0 + 3 * j + 3) (s0 + 18 * j + 18) (lw_Z below #[.ref b] s) (X2, M2, f2) 1609 [(0, .ref b), (1, .ref (ax 0)), (2, .ref (am 0)), (3, .ref o), (4, .int (nI (5 * j)))] []) : G p l e room_1 s m #[.ref b] below meth c D (fun q => s.heap.size ≤ q) 7 (wAll cI cZ cQ cL ax am o) (c0 + 3 * j) (s0 + 18 * j) (lw_Z below #[.ref b] s) (X, M, f) 248 [(0, .ref b), (1, .ref (ax 0)), (2, .ref (am 0)), (3, .ref o), (4, .int (nI (5 * j)))] [] := by
  refine g_aload_n (pc' := 249) (q := 1) C dL_law_248 rfl rfl rfl ?_
  refine g_aload_n (pc' := 250) (q := 0) C dL_law_249 rfl rfl rfl ?_
  refine g_iload (pc' := 252) (q := 4) C dL_law_250 rfl rfl ?_
  refine g_iconst (pc' := 253) (v := 1) C dL_law_252 rfl (by decide) ?_
  refine g_iadd (pc' := 254) C dL_law_253 rfl ?_
  refine g_conv (show nI (5 * j) + 1 = nI (5 * j + 1) from nI_add (5 * j) 1) ?_
  refine g_sld (pc' := 255) (k := 5 * j + 1) C hXs hbl (Nat.not_le.mpr hbl) (vp_in_nI (by omega) (by omega)) (nI_clamp (by omega)) dL_law_254 rfl ?_
  refine g_aload_n (pc' := 256) (q := 3) C dL_law_255 rfl rfl rfl ?_
  have hM1 := fr_XI (wg := wAll cI cZ cQ cL ax am o) (tysG := tyL cI cZ cQ cL) (emb := fun v : LU × (Nat → Int64) => ((v.1, M, v.2) : LU × LU × (Nat → Int64))) (E1 := []) (E2 := wM cI cZ am M) (fun v => rfl) [0, 1, 2, 3] rfl (c_L_enter (l := l) (D := D) (cI := cI) (cZ := cZ) (cQ := cQ) (cL := cL) (a := ax) (o := o) (posti := pX_enter X (xs (5 * j + 1))) (xp := eX_enter X (xs (5 * j + 1))) X f (xs (5 * j + 1)) (c_X0_enter hlt X (xs (5 * j + 1)) hR.ix) (hxs_enter X (xs (5 * j + 1))))
  refine g_callW (pc' := 259) (As := [.ref (ax 0), .int (xs (5 * j + 1)), .ref o]) (st := []) (cells' := c0 + 3 * j + 1) (slots' := s0 + 18 * j + 6) C hE hM1 gL_law_L_enter rfl (by decide +kernel) ⟨Nat.le_of_ble_eq_true rfl, Nat.le_of_ble_eq_true rfl⟩ (n := 3) rfl rfl (Nat.le_of_ble_eq_true rfl) dL_law_256 rfl rfl rfl ⟨(by show c0 + 3 * j + 1 ≤ 601024; omega), (by show s0 + 18 * j + 6 ≤ 7293034; omega)⟩ (fun k0 s9 hp => ?_)
  obtain ⟨s2, hw, rfl⟩ := hp
  refine g_istore (pc' := 261) (L' := [(5, .int k0), (0, .ref b), (1, .ref (ax 0)), (2, .ref (am 0)), (3, .ref o), (4, .int (nI (5 * j)))]) C dL_law_259 rfl (by decide) rfl ?_
  refine g_aload_n (pc' := 262) (q := 3) C dL_law_261 rfl rfl rfl ?_
  refine g_aload_n (pc' := 263) (q := 1) C dL_law_262 rfl rfl rfl ?_
  refine g_iload (pc' := 265) (q := 5) C dL_law_263 rfl rfl ?_
  refine g_iconst (pc' := 266) (v := 1) C dL_law_265 rfl (by decide) ?_
  refine g_iadd (pc' := 267) C dL_law_266 rfl ?_
  refine g_conv (show nI (5 * j) + 1 = nI (5 * j + 1) from nI_add (5 * j) 1) ?_
  refine g_sld (pc' := 268) (k := 5 * j + 1) C hXs hbl (Nat.not_le.mpr hbl) (vp_in_nI (by omega) (by omega)) (nI_clamp (by omega)) dL_law_267 rfl ?_
  refine g_calliV (pc' := 271) (As := [.int (xs (5 * j + 1))]) (st := []) (cells' := c0 + 3 * j + 1) (slots' := s0 + 18 * j + 6) C (fr_KI (wg := wAll cI cZ cQ cL ax am o) (tysG := tyL cI cZ cQ cL) (emb := fun v : LU => ((s2.1, v, s2.2) : LU × LU × (Nat → Int64))) (E1 := wL cI cZ cQ cL ax o s2) (E2 := []) (fun v => by simp [wAll]) [0, 1, 2] rfl (c_X1_enter (l := l) (D := D) (cI := cI) (cZ := cZ) (cQ := cQ) (a := am) M (xs (5 * j + 1)) hR.im)) gL_law_X1_enter rfl (by decide +kernel) ⟨Nat.le_of_ble_eq_true rfl, Nat.le_of_ble_eq_true rfl⟩ 76 (wA_M _ _ _ _ _ _ _ _) rfl (n := 1) rfl rfl (Nat.le_of_ble_eq_true rfl) dL_law_268 rfl (by rfl) (by rfl) ⟨(by show c0 + 3 * j + 1 ≤ 601024; omega), (by show s0 + 18 * j + 6 ≤ 7293034; omega)⟩ (fun rb s9 hp => ?_)
  obtain ⟨M1, hm, rfl⟩ := hp
  obtain ⟨hR2, hkt, hkv⟩ := sim_enter hR (by omega) (xs (5 * j + 1)) hw hm
  refine g_istore (pc' := 273) (L' := [(6, .int rb), (5, .int k0), (0, .ref b), (1, .ref (ax 0)), (2, .ref (am 0)), (3, .ref o), (4, .int (nI (5 * j)))]) C dL_law_271 rfl (by decide) rfl ?_
  refine g_aload_n (pc' := 274) (q := 4) C dL_law_273 rfl rfl rfl ?_
  refine g_calliV (pc' := 277) (As := []) (st := []) (cells' := c0 + 3 * j + 1) (slots' := s0 + 18 * j + 6) C (fr_KI (wg := wAll cI cZ cQ cL ax am o) (tysG := tyL cI cZ cQ cL) (emb := fun v : LU => ((s2.1, v, s2.2) : LU × LU × (Nat → Int64))) (E1 := wL cI cZ cQ cL ax o s2) (E2 := []) (fun v => by simp [wAll]) [0, 1, 2] rfl (c_X1_thrown (l := l) (D := D) (cI := cI) (cZ := cZ) (cQ := cQ) (a := am) M1)) gL_law_X1_thrown rfl (by decide +kernel) ⟨Nat.le_of_ble_eq_true rfl, Nat.le_of_ble_eq_true rfl⟩ 76 (wA_M _ _ _ _ _ _ _ _) rfl (n := 0) rfl rfl (Nat.le_of_ble_eq_true rfl) dL_law_274 rfl (by rfl) (by rfl) ⟨(by show c0 + 3 * j + 1 ≤ 601024; omega), (by show s0 + 18 * j + 6 ≤ 7293034; omega)⟩ (fun r1 s9 hp => ?_)
  obtain ⟨v9, ⟨rfl, hv9⟩, rfl⟩ := hp
  rw [hv9]
  refine g_iload (pc' := 279) (q := 1) C dL_law_277 rfl rfl ?_
  refine g_icmp_eq (tgt := 284) (pc' := 282) C dL_law_279 rfl (by decide) (fun _ => ?_) (fun h9 => absurd (congrArg Int32.toInt hkt) h9)
  refine g_iload (pc' := 286) (q := 1) C dL_law_284 rfl rfl ?_
  refine g_if_ne (tgt := 301) (pc' := 289) C dL_law_286 rfl (by decide) (fun ck => ?_) (fun (ck : k0.toInt = 0) => ?_)
  · skip
    refine g_goto (tgt := 1609) C dL_law_301 (by decide) ?_
    exact g_widen (by omega) (by omega) (g_sub (L' := [(0, .ref b), (1, .ref (ax 0)), (2, .ref (am 0)), (3, .ref o), (4, .int (nI (5 * j)))]) [2, 3, 4, 5, 6] rfl (next _ _ _ hR2))
  · have hk0 : k0 = 0 := Int32.toInt_inj.mp (ck.trans ti_0.symm)
    refine g_aload_n (pc' := 290) (q := 5) C dL_law_289 rfl rfl rfl ?_
    refine g_iconst (pc' := 291) (v := 0) C dL_law_290 rfl (by decide) ?_
    refine g_lald (pc' := 292) (n := 1) C 75 3 (wA_out _ _ _ _ _ _ _ _) rfl (vp_of (by decide) (by decide)) (k := 0) rfl dL_law_291 rfl ?_
    refine g_iload (pc' := 294) (q := 0) C dL_law_292 rfl rfl ?_
    refine g_i2l (pc' := 295) C dL_law_294 rfl ?_
    refine g_lcmp (pc' := 296) C dL_law_295 rfl ?_
    refine g_if_eq (tgt := 301) (pc' := 299) C dL_law_296 rfl (by decide) (fun _ => ?_) (fun h9 => absurd (lg_self (hkv hk0)) h9)
    refine g_goto (tgt := 1609) C dL_law_301 (by decide) ?_
    exact g_widen (by omega) (by omega) (g_sub (L' := [(0, .ref b), (1, .ref (ax 0)), (2, .ref (am 0)), (3, .ref o), (4, .int (nI (5 * j)))]) [2, 3, 4, 5, 6] rfl (next _ _ _ hR2))
set_option maxHeartbeats 4000000 in
set_option maxRecDepth 100000 in
theorem law_case_2 {p : Program} {l : Launch} {e : Env} {s : State} {m : MethodId} {below : List Frame} {meth : Method} {c : Code} {D : va_G} {cI cZ cQ cL : ClassId} {ax am : Nat → Nat} {o b L9 : Nat} {xs : Nat → Int32} (hlt : l.stackTraces = false) (C : CX p s m #[.ref b] meth c D (tyL cI cZ cQ cL) (fun q => s.heap.size ≤ q) RL cL_law wsL_law 7 (wAll cI cZ cQ cL ax am o)) (hr : meth.sig.returnType = ret) (hE : EV (fun q => s.heap.size ≤ q) s s.heap tx0) (hXs : va_X b L9 xs s s.heap) (hbl : b < s.heap.size) {c0 s0 : Nat} (hc0 : c0 + 1600 ≤ 601024) (hs0 : s0 + 9600 ≤ 7293034) {j : Nat} {X M : LU} {f : Nat → Int64} (hj : 5 * j + 5 ≤ L9) (hL9 : L9 ≤ 2560) (hR : Rel (10000 * (j : Int)) X M) (next : ∀ (X2 M2 : LU) (f2 : Nat → Int64), Rel (10000 * (j : Int) + 10000) X2 M2 → G p l e room_1 s m #[.ref b] below meth c D (fun q => s.heap.size ≤ q) 7 (wAll cI cZ cQ cL ax am o) (c0 + 3 * j + 3) (s0 + 18 * j + 18) (lw_Z below #[.ref b] s) (X2, M2, f2) 1609 [(0, .ref b), (1, .ref (ax 0)), (2, .ref (am 0)), (3, .ref o), (4, .int (nI (5 * j)))] []) : G p l e room_1 s m #[.ref b] below meth c D (fun q => s.heap.size ≤ q) 7 (wAll cI cZ cQ cL ax am o) (c0 + 3 * j) (s0 + 18 * j) (lw_Z below #[.ref b] s) (X, M, f) 304 [(0, .ref b), (1, .ref (ax 0)), (2, .ref (am 0)), (3, .ref o), (4, .int (nI (5 * j)))] [] := by
  refine g_aload_n (pc' := 305) (q := 1) C dL_law_304 rfl rfl rfl ?_
  refine g_aload_n (pc' := 306) (q := 0) C dL_law_305 rfl rfl rfl ?_
  refine g_iload (pc' := 308) (q := 4) C dL_law_306 rfl rfl ?_
  refine g_iconst (pc' := 309) (v := 1) C dL_law_308 rfl (by decide) ?_
  refine g_iadd (pc' := 310) C dL_law_309 rfl ?_
  refine g_conv (show nI (5 * j) + 1 = nI (5 * j + 1) from nI_add (5 * j) 1) ?_
  refine g_sld (pc' := 311) (k := 5 * j + 1) C hXs hbl (Nat.not_le.mpr hbl) (vp_in_nI (by omega) (by omega)) (nI_clamp (by omega)) dL_law_310 rfl ?_
  refine g_aload_n (pc' := 312) (q := 3) C dL_law_311 rfl rfl rfl ?_
  have hM1 := fr_XI (wg := wAll cI cZ cQ cL ax am o) (tysG := tyL cI cZ cQ cL) (emb := fun v : LU × (Nat → Int64) => ((v.1, M, v.2) : LU × LU × (Nat → Int64))) (E1 := []) (E2 := wM cI cZ am M) (fun v => rfl) [0, 1, 2, 3] rfl (c_L_start (l := l) (D := D) (cI := cI) (cZ := cZ) (cQ := cQ) (cL := cL) (a := ax) (o := o) (posti := pX_start X (xs (5 * j + 1))) (xp := eX_start X (xs (5 * j + 1))) X f (xs (5 * j + 1)) (c_X0_start hlt X (xs (5 * j + 1)) hR.ix) (hxs_start X (xs (5 * j + 1))))
  refine g_callW (pc' := 315) (As := [.ref (ax 0), .int (xs (5 * j + 1)), .ref o]) (st := []) (cells' := c0 + 3 * j + 2) (slots' := s0 + 18 * j + 12) C hE hM1 gL_law_L_start rfl (by decide +kernel) ⟨Nat.le_of_ble_eq_true rfl, Nat.le_of_ble_eq_true rfl⟩ (n := 3) rfl rfl (Nat.le_of_ble_eq_true rfl) dL_law_312 rfl rfl rfl ⟨(by show c0 + 3 * j + 2 ≤ 601024; omega), (by show s0 + 18 * j + 12 ≤ 7293034; omega)⟩ (fun k0 s9 hp => ?_)
  obtain ⟨s2, hw, rfl⟩ := hp
  refine g_istore (pc' := 317) (L' := [(5, .int k0), (0, .ref b), (1, .ref (ax 0)), (2, .ref (am 0)), (3, .ref o), (4, .int (nI (5 * j)))]) C dL_law_315 rfl (by decide) rfl ?_
  refine g_aload_n (pc' := 318) (q := 3) C dL_law_317 rfl rfl rfl ?_
  refine g_aload_n (pc' := 319) (q := 1) C dL_law_318 rfl rfl rfl ?_
  refine g_iload (pc' := 321) (q := 5) C dL_law_319 rfl rfl ?_
  refine g_iconst (pc' := 322) (v := 1) C dL_law_321 rfl (by decide) ?_
  refine g_iadd (pc' := 323) C dL_law_322 rfl ?_
  refine g_conv (show nI (5 * j) + 1 = nI (5 * j + 1) from nI_add (5 * j) 1) ?_
  refine g_sld (pc' := 324) (k := 5 * j + 1) C hXs hbl (Nat.not_le.mpr hbl) (vp_in_nI (by omega) (by omega)) (nI_clamp (by omega)) dL_law_323 rfl ?_
  refine g_calliV (pc' := 327) (As := [.int (xs (5 * j + 1))]) (st := []) (cells' := c0 + 3 * j + 2) (slots' := s0 + 18 * j + 12) C (fr_KI (wg := wAll cI cZ cQ cL ax am o) (tysG := tyL cI cZ cQ cL) (emb := fun v : LU => ((s2.1, v, s2.2) : LU × LU × (Nat → Int64))) (E1 := wL cI cZ cQ cL ax o s2) (E2 := []) (fun v => by simp [wAll]) [0, 1, 2] rfl (c_X1_start (l := l) (D := D) (cI := cI) (cZ := cZ) (cQ := cQ) (a := am) M (xs (5 * j + 1)) hR.im)) gL_law_X1_start rfl (by decide +kernel) ⟨Nat.le_of_ble_eq_true rfl, Nat.le_of_ble_eq_true rfl⟩ 76 (wA_M _ _ _ _ _ _ _ _) rfl (n := 1) rfl rfl (Nat.le_of_ble_eq_true rfl) dL_law_324 rfl (by rfl) (by rfl) ⟨(by show c0 + 3 * j + 2 ≤ 601024; omega), (by show s0 + 18 * j + 12 ≤ 7293034; omega)⟩ (fun rb s9 hp => ?_)
  obtain ⟨M1, hm, rfl⟩ := hp
  obtain ⟨hR2, hkt, hkv⟩ := sim_start hR (by omega) (xs (5 * j + 1)) hw hm
  refine g_istore (pc' := 329) (L' := [(6, .int rb), (5, .int k0), (0, .ref b), (1, .ref (ax 0)), (2, .ref (am 0)), (3, .ref o), (4, .int (nI (5 * j)))]) C dL_law_327 rfl (by decide) rfl ?_
  refine g_aload_n (pc' := 330) (q := 4) C dL_law_329 rfl rfl rfl ?_
  refine g_calliV (pc' := 333) (As := []) (st := []) (cells' := c0 + 3 * j + 2) (slots' := s0 + 18 * j + 12) C (fr_KI (wg := wAll cI cZ cQ cL ax am o) (tysG := tyL cI cZ cQ cL) (emb := fun v : LU => ((s2.1, v, s2.2) : LU × LU × (Nat → Int64))) (E1 := wL cI cZ cQ cL ax o s2) (E2 := []) (fun v => by simp [wAll]) [0, 1, 2] rfl (c_X1_thrown (l := l) (D := D) (cI := cI) (cZ := cZ) (cQ := cQ) (a := am) M1)) gL_law_X1_thrown rfl (by decide +kernel) ⟨Nat.le_of_ble_eq_true rfl, Nat.le_of_ble_eq_true rfl⟩ 76 (wA_M _ _ _ _ _ _ _ _) rfl (n := 0) rfl rfl (Nat.le_of_ble_eq_true rfl) dL_law_330 rfl (by rfl) (by rfl) ⟨(by show c0 + 3 * j + 2 ≤ 601024; omega), (by show s0 + 18 * j + 12 ≤ 7293034; omega)⟩ (fun r1 s9 hp => ?_)
  obtain ⟨v9, ⟨rfl, hv9⟩, rfl⟩ := hp
  rw [hv9]
  refine g_iload (pc' := 335) (q := 1) C dL_law_333 rfl rfl ?_
  refine g_icmp_eq (tgt := 340) (pc' := 338) C dL_law_335 rfl (by decide) (fun _ => ?_) (fun h9 => absurd (congrArg Int32.toInt hkt) h9)
  refine g_iload (pc' := 342) (q := 1) C dL_law_340 rfl rfl ?_
  refine g_if_ne (tgt := 357) (pc' := 345) C dL_law_342 rfl (by decide) (fun ck => ?_) (fun (ck : k0.toInt = 0) => ?_)
  · skip
    refine g_goto (tgt := 1609) C dL_law_357 (by decide) ?_
    exact g_widen (by omega) (by omega) (g_sub (L' := [(0, .ref b), (1, .ref (ax 0)), (2, .ref (am 0)), (3, .ref o), (4, .int (nI (5 * j)))]) [2, 3, 4, 5, 6] rfl (next _ _ _ hR2))
  · have hk0 : k0 = 0 := Int32.toInt_inj.mp (ck.trans ti_0.symm)
    refine g_aload_n (pc' := 346) (q := 5) C dL_law_345 rfl rfl rfl ?_
    refine g_iconst (pc' := 347) (v := 0) C dL_law_346 rfl (by decide) ?_
    refine g_lald (pc' := 348) (n := 1) C 75 3 (wA_out _ _ _ _ _ _ _ _) rfl (vp_of (by decide) (by decide)) (k := 0) rfl dL_law_347 rfl ?_
    refine g_iload (pc' := 350) (q := 0) C dL_law_348 rfl rfl ?_
    refine g_i2l (pc' := 351) C dL_law_350 rfl ?_
    refine g_lcmp (pc' := 352) C dL_law_351 rfl ?_
    refine g_if_eq (tgt := 357) (pc' := 355) C dL_law_352 rfl (by decide) (fun _ => ?_) (fun h9 => absurd (lg_self (hkv hk0)) h9)
    refine g_goto (tgt := 1609) C dL_law_357 (by decide) ?_
    exact g_widen (by omega) (by omega) (g_sub (L' := [(0, .ref b), (1, .ref (ax 0)), (2, .ref (am 0)), (3, .ref o), (4, .int (nI (5 * j)))]) [2, 3, 4, 5, 6] rfl (next _ _ _ hR2))
set_option maxHeartbeats 4000000 in
set_option maxRecDepth 100000 in
theorem law_case_3 {p : Program} {l : Launch} {e : Env} {s : State} {m : MethodId} {below : List Frame} {meth : Method} {c : Code} {D : va_G} {cI cZ cQ cL : ClassId} {ax am : Nat → Nat} {o b L9 : Nat} {xs : Nat → Int32} (hlt : l.stackTraces = false) (C : CX p s m #[.ref b] meth c D (tyL cI cZ cQ cL) (fun q => s.heap.size ≤ q) RL cL_law wsL_law 7 (wAll cI cZ cQ cL ax am o)) (hr : meth.sig.returnType = ret) (hE : EV (fun q => s.heap.size ≤ q) s s.heap tx0) (hXs : va_X b L9 xs s s.heap) (hbl : b < s.heap.size) {c0 s0 : Nat} (hc0 : c0 + 1600 ≤ 601024) (hs0 : s0 + 9600 ≤ 7293034) {j : Nat} {X M : LU} {f : Nat → Int64} (hj : 5 * j + 5 ≤ L9) (hL9 : L9 ≤ 2560) (hR : Rel (10000 * (j : Int)) X M) (next : ∀ (X2 M2 : LU) (f2 : Nat → Int64), Rel (10000 * (j : Int) + 10000) X2 M2 → G p l e room_1 s m #[.ref b] below meth c D (fun q => s.heap.size ≤ q) 7 (wAll cI cZ cQ cL ax am o) (c0 + 3 * j + 3) (s0 + 18 * j + 18) (lw_Z below #[.ref b] s) (X2, M2, f2) 1609 [(0, .ref b), (1, .ref (ax 0)), (2, .ref (am 0)), (3, .ref o), (4, .int (nI (5 * j)))] []) : G p l e room_1 s m #[.ref b] below meth c D (fun q => s.heap.size ≤ q) 7 (wAll cI cZ cQ cL ax am o) (c0 + 3 * j) (s0 + 18 * j) (lw_Z below #[.ref b] s) (X, M, f) 360 [(0, .ref b), (1, .ref (ax 0)), (2, .ref (am 0)), (3, .ref o), (4, .int (nI (5 * j)))] [] := by
  refine g_aload_n (pc' := 361) (q := 1) C dL_law_360 rfl rfl rfl ?_
  refine g_aload_n (pc' := 362) (q := 0) C dL_law_361 rfl rfl rfl ?_
  refine g_iload (pc' := 364) (q := 4) C dL_law_362 rfl rfl ?_
  refine g_iconst (pc' := 365) (v := 1) C dL_law_364 rfl (by decide) ?_
  refine g_iadd (pc' := 366) C dL_law_365 rfl ?_
  refine g_conv (show nI (5 * j) + 1 = nI (5 * j + 1) from nI_add (5 * j) 1) ?_
  refine g_sld (pc' := 367) (k := 5 * j + 1) C hXs hbl (Nat.not_le.mpr hbl) (vp_in_nI (by omega) (by omega)) (nI_clamp (by omega)) dL_law_366 rfl ?_
  refine g_aload_n (pc' := 368) (q := 3) C dL_law_367 rfl rfl rfl ?_
  have hM1 := fr_XI (wg := wAll cI cZ cQ cL ax am o) (tysG := tyL cI cZ cQ cL) (emb := fun v : LU × (Nat → Int64) => ((v.1, M, v.2) : LU × LU × (Nat → Int64))) (E1 := []) (E2 := wM cI cZ am M) (fun v => rfl) [0, 1, 2, 3] rfl (c_L_rework (l := l) (D := D) (cI := cI) (cZ := cZ) (cQ := cQ) (cL := cL) (a := ax) (o := o) (posti := pX_rework X (xs (5 * j + 1))) (xp := eX_rework X (xs (5 * j + 1))) X f (xs (5 * j + 1)) (c_X0_rework hlt X (xs (5 * j + 1)) hR.ix) (hxs_rework X (xs (5 * j + 1))))
  refine g_callW (pc' := 371) (As := [.ref (ax 0), .int (xs (5 * j + 1)), .ref o]) (st := []) (cells' := c0 + 3 * j + 2) (slots' := s0 + 18 * j + 12) C hE hM1 gL_law_L_rework rfl (by decide +kernel) ⟨Nat.le_of_ble_eq_true rfl, Nat.le_of_ble_eq_true rfl⟩ (n := 3) rfl rfl (Nat.le_of_ble_eq_true rfl) dL_law_368 rfl rfl rfl ⟨(by show c0 + 3 * j + 2 ≤ 601024; omega), (by show s0 + 18 * j + 12 ≤ 7293034; omega)⟩ (fun k0 s9 hp => ?_)
  obtain ⟨s2, hw, rfl⟩ := hp
  refine g_istore (pc' := 373) (L' := [(5, .int k0), (0, .ref b), (1, .ref (ax 0)), (2, .ref (am 0)), (3, .ref o), (4, .int (nI (5 * j)))]) C dL_law_371 rfl (by decide) rfl ?_
  refine g_aload_n (pc' := 374) (q := 3) C dL_law_373 rfl rfl rfl ?_
  refine g_aload_n (pc' := 375) (q := 1) C dL_law_374 rfl rfl rfl ?_
  refine g_iload (pc' := 377) (q := 5) C dL_law_375 rfl rfl ?_
  refine g_iconst (pc' := 378) (v := 1) C dL_law_377 rfl (by decide) ?_
  refine g_iadd (pc' := 379) C dL_law_378 rfl ?_
  refine g_conv (show nI (5 * j) + 1 = nI (5 * j + 1) from nI_add (5 * j) 1) ?_
  refine g_sld (pc' := 380) (k := 5 * j + 1) C hXs hbl (Nat.not_le.mpr hbl) (vp_in_nI (by omega) (by omega)) (nI_clamp (by omega)) dL_law_379 rfl ?_
  refine g_calliV (pc' := 383) (As := [.int (xs (5 * j + 1))]) (st := []) (cells' := c0 + 3 * j + 2) (slots' := s0 + 18 * j + 12) C (fr_KI (wg := wAll cI cZ cQ cL ax am o) (tysG := tyL cI cZ cQ cL) (emb := fun v : LU => ((s2.1, v, s2.2) : LU × LU × (Nat → Int64))) (E1 := wL cI cZ cQ cL ax o s2) (E2 := []) (fun v => by simp [wAll]) [0, 1, 2] rfl (c_X1_rework (l := l) (D := D) (cI := cI) (cZ := cZ) (cQ := cQ) (a := am) M (xs (5 * j + 1)) hR.im)) gL_law_X1_rework rfl (by decide +kernel) ⟨Nat.le_of_ble_eq_true rfl, Nat.le_of_ble_eq_true rfl⟩ 76 (wA_M _ _ _ _ _ _ _ _) rfl (n := 1) rfl rfl (Nat.le_of_ble_eq_true rfl) dL_law_380 rfl (by rfl) (by rfl) ⟨(by show c0 + 3 * j + 2 ≤ 601024; omega), (by show s0 + 18 * j + 12 ≤ 7293034; omega)⟩ (fun rb s9 hp => ?_)
  obtain ⟨M1, hm, rfl⟩ := hp
  obtain ⟨hR2, hkt, hkv⟩ := sim_rework hR (by omega) (xs (5 * j + 1)) hw hm
  refine g_istore (pc' := 385) (L' := [(6, .int rb), (5, .int k0), (0, .ref b), (1, .ref (ax 0)), (2, .ref (am 0)), (3, .ref o), (4, .int (nI (5 * j)))]) C dL_law_383 rfl (by decide) rfl ?_
  refine g_aload_n (pc' := 386) (q := 4) C dL_law_385 rfl rfl rfl ?_
  refine g_calliV (pc' := 389) (As := []) (st := []) (cells' := c0 + 3 * j + 2) (slots' := s0 + 18 * j + 12) C (fr_KI (wg := wAll cI cZ cQ cL ax am o) (tysG := tyL cI cZ cQ cL) (emb := fun v : LU => ((s2.1, v, s2.2) : LU × LU × (Nat → Int64))) (E1 := wL cI cZ cQ cL ax o s2) (E2 := []) (fun v => by simp [wAll]) [0, 1, 2] rfl (c_X1_thrown (l := l) (D := D) (cI := cI) (cZ := cZ) (cQ := cQ) (a := am) M1)) gL_law_X1_thrown rfl (by decide +kernel) ⟨Nat.le_of_ble_eq_true rfl, Nat.le_of_ble_eq_true rfl⟩ 76 (wA_M _ _ _ _ _ _ _ _) rfl (n := 0) rfl rfl (Nat.le_of_ble_eq_true rfl) dL_law_386 rfl (by rfl) (by rfl) ⟨(by show c0 + 3 * j + 2 ≤ 601024; omega), (by show s0 + 18 * j + 12 ≤ 7293034; omega)⟩ (fun r1 s9 hp => ?_)
  obtain ⟨v9, ⟨rfl, hv9⟩, rfl⟩ := hp
  rw [hv9]
  refine g_iload (pc' := 391) (q := 1) C dL_law_389 rfl rfl ?_
  refine g_icmp_eq (tgt := 396) (pc' := 394) C dL_law_391 rfl (by decide) (fun _ => ?_) (fun h9 => absurd (congrArg Int32.toInt hkt) h9)
  refine g_iload (pc' := 398) (q := 1) C dL_law_396 rfl rfl ?_
  refine g_if_ne (tgt := 413) (pc' := 401) C dL_law_398 rfl (by decide) (fun ck => ?_) (fun (ck : k0.toInt = 0) => ?_)
  · skip
    refine g_goto (tgt := 1609) C dL_law_413 (by decide) ?_
    exact g_widen (by omega) (by omega) (g_sub (L' := [(0, .ref b), (1, .ref (ax 0)), (2, .ref (am 0)), (3, .ref o), (4, .int (nI (5 * j)))]) [2, 3, 4, 5, 6] rfl (next _ _ _ hR2))
  · have hk0 : k0 = 0 := Int32.toInt_inj.mp (ck.trans ti_0.symm)
    refine g_aload_n (pc' := 402) (q := 5) C dL_law_401 rfl rfl rfl ?_
    refine g_iconst (pc' := 403) (v := 0) C dL_law_402 rfl (by decide) ?_
    refine g_lald (pc' := 404) (n := 1) C 75 3 (wA_out _ _ _ _ _ _ _ _) rfl (vp_of (by decide) (by decide)) (k := 0) rfl dL_law_403 rfl ?_
    refine g_iload (pc' := 406) (q := 0) C dL_law_404 rfl rfl ?_
    refine g_i2l (pc' := 407) C dL_law_406 rfl ?_
    refine g_lcmp (pc' := 408) C dL_law_407 rfl ?_
    refine g_if_eq (tgt := 413) (pc' := 411) C dL_law_408 rfl (by decide) (fun _ => ?_) (fun h9 => absurd (lg_self (hkv hk0)) h9)
    refine g_goto (tgt := 1609) C dL_law_413 (by decide) ?_
    exact g_widen (by omega) (by omega) (g_sub (L' := [(0, .ref b), (1, .ref (ax 0)), (2, .ref (am 0)), (3, .ref o), (4, .int (nI (5 * j)))]) [2, 3, 4, 5, 6] rfl (next _ _ _ hR2))
set_option maxHeartbeats 4000000 in
set_option maxRecDepth 100000 in
theorem law_case_4 {p : Program} {l : Launch} {e : Env} {s : State} {m : MethodId} {below : List Frame} {meth : Method} {c : Code} {D : va_G} {cI cZ cQ cL : ClassId} {ax am : Nat → Nat} {o b L9 : Nat} {xs : Nat → Int32} (hlt : l.stackTraces = false) (C : CX p s m #[.ref b] meth c D (tyL cI cZ cQ cL) (fun q => s.heap.size ≤ q) RL cL_law wsL_law 7 (wAll cI cZ cQ cL ax am o)) (hr : meth.sig.returnType = ret) (hE : EV (fun q => s.heap.size ≤ q) s s.heap tx0) (hXs : va_X b L9 xs s s.heap) (hbl : b < s.heap.size) {c0 s0 : Nat} (hc0 : c0 + 1600 ≤ 601024) (hs0 : s0 + 9600 ≤ 7293034) {j : Nat} {X M : LU} {f : Nat → Int64} (hj : 5 * j + 5 ≤ L9) (hL9 : L9 ≤ 2560) (hR : Rel (10000 * (j : Int)) X M) (next : ∀ (X2 M2 : LU) (f2 : Nat → Int64), Rel (10000 * (j : Int) + 10000) X2 M2 → G p l e room_1 s m #[.ref b] below meth c D (fun q => s.heap.size ≤ q) 7 (wAll cI cZ cQ cL ax am o) (c0 + 3 * j + 3) (s0 + 18 * j + 18) (lw_Z below #[.ref b] s) (X2, M2, f2) 1609 [(0, .ref b), (1, .ref (ax 0)), (2, .ref (am 0)), (3, .ref o), (4, .int (nI (5 * j)))] []) : G p l e room_1 s m #[.ref b] below meth c D (fun q => s.heap.size ≤ q) 7 (wAll cI cZ cQ cL ax am o) (c0 + 3 * j) (s0 + 18 * j) (lw_Z below #[.ref b] s) (X, M, f) 416 [(0, .ref b), (1, .ref (ax 0)), (2, .ref (am 0)), (3, .ref o), (4, .int (nI (5 * j)))] [] := by
  refine g_aload_n (pc' := 417) (q := 1) C dL_law_416 rfl rfl rfl ?_
  refine g_aload_n (pc' := 418) (q := 0) C dL_law_417 rfl rfl rfl ?_
  refine g_iload (pc' := 420) (q := 4) C dL_law_418 rfl rfl ?_
  refine g_iconst (pc' := 421) (v := 1) C dL_law_420 rfl (by decide) ?_
  refine g_iadd (pc' := 422) C dL_law_421 rfl ?_
  refine g_conv (show nI (5 * j) + 1 = nI (5 * j + 1) from nI_add (5 * j) 1) ?_
  refine g_sld (pc' := 423) (k := 5 * j + 1) C hXs hbl (Nat.not_le.mpr hbl) (vp_in_nI (by omega) (by omega)) (nI_clamp (by omega)) dL_law_422 rfl ?_
  refine g_aload_n (pc' := 424) (q := 0) C dL_law_423 rfl rfl rfl ?_
  refine g_iload (pc' := 426) (q := 4) C dL_law_424 rfl rfl ?_
  refine g_iconst (pc' := 427) (v := 2) C dL_law_426 rfl (by decide) ?_
  refine g_iadd (pc' := 428) C dL_law_427 rfl ?_
  refine g_conv (show nI (5 * j) + 2 = nI (5 * j + 2) from nI_add (5 * j) 2) ?_
  refine g_sld (pc' := 429) (k := 5 * j + 2) C hXs hbl (Nat.not_le.mpr hbl) (vp_in_nI (by omega) (by omega)) (nI_clamp (by omega)) dL_law_428 rfl ?_
  refine g_aload_n (pc' := 430) (q := 3) C dL_law_429 rfl rfl rfl ?_
  have hM1 := fr_XI (wg := wAll cI cZ cQ cL ax am o) (tysG := tyL cI cZ cQ cL) (emb := fun v : LU × (Nat → Int64) => ((v.1, M, v.2) : LU × LU × (Nat → Int64))) (E1 := []) (E2 := wM cI cZ am M) (fun v => rfl) [0, 1, 2, 3] rfl (c_L_split (l := l) (D := D) (cI := cI) (cZ := cZ) (cQ := cQ) (cL := cL) (a := ax) (o := o) (posti := pX_split X (xs (5 * j + 1)) (xs (5 * j + 2))) (xp := eX_split X (xs (5 * j + 1)) (xs (5 * j + 2))) X f (xs (5 * j + 1)) (xs (5 * j + 2)) (c_X0_split hlt X (xs (5 * j + 1)) (xs (5 * j + 2)) hR.ix) (hxs_split X (xs (5 * j + 1)) (xs (5 * j + 2))))
  refine g_callW (pc' := 433) (As := [.ref (ax 0), .int (xs (5 * j + 1)), .int (xs (5 * j + 2)), .ref o]) (st := []) (cells' := c0 + 3 * j + 2) (slots' := s0 + 18 * j + 12) C hE hM1 gL_law_L_split rfl (by decide +kernel) ⟨Nat.le_of_ble_eq_true rfl, Nat.le_of_ble_eq_true rfl⟩ (n := 4) rfl rfl (Nat.le_of_ble_eq_true rfl) dL_law_430 rfl rfl rfl ⟨(by show c0 + 3 * j + 2 ≤ 601024; omega), (by show s0 + 18 * j + 12 ≤ 7293034; omega)⟩ (fun k0 s9 hp => ?_)
  obtain ⟨s2, hw, rfl⟩ := hp
  refine g_istore (pc' := 435) (L' := [(5, .int k0), (0, .ref b), (1, .ref (ax 0)), (2, .ref (am 0)), (3, .ref o), (4, .int (nI (5 * j)))]) C dL_law_433 rfl (by decide) rfl ?_
  refine g_aload_n (pc' := 436) (q := 3) C dL_law_435 rfl rfl rfl ?_
  refine g_aload_n (pc' := 437) (q := 1) C dL_law_436 rfl rfl rfl ?_
  refine g_iload (pc' := 439) (q := 5) C dL_law_437 rfl rfl ?_
  refine g_iconst (pc' := 440) (v := 1) C dL_law_439 rfl (by decide) ?_
  refine g_iadd (pc' := 441) C dL_law_440 rfl ?_
  refine g_conv (show nI (5 * j) + 1 = nI (5 * j + 1) from nI_add (5 * j) 1) ?_
  refine g_sld (pc' := 442) (k := 5 * j + 1) C hXs hbl (Nat.not_le.mpr hbl) (vp_in_nI (by omega) (by omega)) (nI_clamp (by omega)) dL_law_441 rfl ?_
  refine g_aload_n (pc' := 443) (q := 1) C dL_law_442 rfl rfl rfl ?_
  refine g_iload (pc' := 445) (q := 5) C dL_law_443 rfl rfl ?_
  refine g_iconst (pc' := 446) (v := 2) C dL_law_445 rfl (by decide) ?_
  refine g_iadd (pc' := 447) C dL_law_446 rfl ?_
  refine g_conv (show nI (5 * j) + 2 = nI (5 * j + 2) from nI_add (5 * j) 2) ?_
  refine g_sld (pc' := 448) (k := 5 * j + 2) C hXs hbl (Nat.not_le.mpr hbl) (vp_in_nI (by omega) (by omega)) (nI_clamp (by omega)) dL_law_447 rfl ?_
  refine g_calliV (pc' := 451) (As := [.int (xs (5 * j + 1)), .int (xs (5 * j + 2))]) (st := []) (cells' := c0 + 3 * j + 2) (slots' := s0 + 18 * j + 12) C (fr_KI (wg := wAll cI cZ cQ cL ax am o) (tysG := tyL cI cZ cQ cL) (emb := fun v : LU => ((s2.1, v, s2.2) : LU × LU × (Nat → Int64))) (E1 := wL cI cZ cQ cL ax o s2) (E2 := []) (fun v => by simp [wAll]) [0, 1, 2] rfl (c_X1_split (l := l) (D := D) (cI := cI) (cZ := cZ) (cQ := cQ) (a := am) M (xs (5 * j + 1)) (xs (5 * j + 2)) hR.im)) gL_law_X1_split rfl (by decide +kernel) ⟨Nat.le_of_ble_eq_true rfl, Nat.le_of_ble_eq_true rfl⟩ 76 (wA_M _ _ _ _ _ _ _ _) rfl (n := 2) rfl rfl (Nat.le_of_ble_eq_true rfl) dL_law_448 rfl (by rfl) (by rfl) ⟨(by show c0 + 3 * j + 2 ≤ 601024; omega), (by show s0 + 18 * j + 12 ≤ 7293034; omega)⟩ (fun rb s9 hp => ?_)
  obtain ⟨M1, hm, rfl⟩ := hp
  obtain ⟨hR2, hkt, hkv⟩ := sim_split hR (by omega) (xs (5 * j + 1)) (xs (5 * j + 2)) hw hm
  refine g_istore (pc' := 453) (L' := [(6, .int rb), (5, .int k0), (0, .ref b), (1, .ref (ax 0)), (2, .ref (am 0)), (3, .ref o), (4, .int (nI (5 * j)))]) C dL_law_451 rfl (by decide) rfl ?_
  refine g_aload_n (pc' := 454) (q := 4) C dL_law_453 rfl rfl rfl ?_
  refine g_calliV (pc' := 457) (As := []) (st := []) (cells' := c0 + 3 * j + 2) (slots' := s0 + 18 * j + 12) C (fr_KI (wg := wAll cI cZ cQ cL ax am o) (tysG := tyL cI cZ cQ cL) (emb := fun v : LU => ((s2.1, v, s2.2) : LU × LU × (Nat → Int64))) (E1 := wL cI cZ cQ cL ax o s2) (E2 := []) (fun v => by simp [wAll]) [0, 1, 2] rfl (c_X1_thrown (l := l) (D := D) (cI := cI) (cZ := cZ) (cQ := cQ) (a := am) M1)) gL_law_X1_thrown rfl (by decide +kernel) ⟨Nat.le_of_ble_eq_true rfl, Nat.le_of_ble_eq_true rfl⟩ 76 (wA_M _ _ _ _ _ _ _ _) rfl (n := 0) rfl rfl (Nat.le_of_ble_eq_true rfl) dL_law_454 rfl (by rfl) (by rfl) ⟨(by show c0 + 3 * j + 2 ≤ 601024; omega), (by show s0 + 18 * j + 12 ≤ 7293034; omega)⟩ (fun r1 s9 hp => ?_)
  obtain ⟨v9, ⟨rfl, hv9⟩, rfl⟩ := hp
  rw [hv9]
  refine g_iload (pc' := 459) (q := 1) C dL_law_457 rfl rfl ?_
  refine g_icmp_eq (tgt := 464) (pc' := 462) C dL_law_459 rfl (by decide) (fun _ => ?_) (fun h9 => absurd (congrArg Int32.toInt hkt) h9)
  refine g_iload (pc' := 466) (q := 1) C dL_law_464 rfl rfl ?_
  refine g_if_ne (tgt := 481) (pc' := 469) C dL_law_466 rfl (by decide) (fun ck => ?_) (fun (ck : k0.toInt = 0) => ?_)
  · skip
    refine g_goto (tgt := 1609) C dL_law_481 (by decide) ?_
    exact g_widen (by omega) (by omega) (g_sub (L' := [(0, .ref b), (1, .ref (ax 0)), (2, .ref (am 0)), (3, .ref o), (4, .int (nI (5 * j)))]) [2, 3, 4, 5, 6] rfl (next _ _ _ hR2))
  · have hk0 : k0 = 0 := Int32.toInt_inj.mp (ck.trans ti_0.symm)
    refine g_aload_n (pc' := 470) (q := 5) C dL_law_469 rfl rfl rfl ?_
    refine g_iconst (pc' := 471) (v := 0) C dL_law_470 rfl (by decide) ?_
    refine g_lald (pc' := 472) (n := 1) C 75 3 (wA_out _ _ _ _ _ _ _ _) rfl (vp_of (by decide) (by decide)) (k := 0) rfl dL_law_471 rfl ?_
    refine g_iload (pc' := 474) (q := 0) C dL_law_472 rfl rfl ?_
    refine g_i2l (pc' := 475) C dL_law_474 rfl ?_
    refine g_lcmp (pc' := 476) C dL_law_475 rfl ?_
    refine g_if_eq (tgt := 481) (pc' := 479) C dL_law_476 rfl (by decide) (fun _ => ?_) (fun h9 => absurd (lg_self (hkv hk0)) h9)
    refine g_goto (tgt := 1609) C dL_law_481 (by decide) ?_
    exact g_widen (by omega) (by omega) (g_sub (L' := [(0, .ref b), (1, .ref (ax 0)), (2, .ref (am 0)), (3, .ref o), (4, .int (nI (5 * j)))]) [2, 3, 4, 5, 6] rfl (next _ _ _ hR2))
set_option maxHeartbeats 4000000 in
set_option maxRecDepth 100000 in
theorem law_case_5 {p : Program} {l : Launch} {e : Env} {s : State} {m : MethodId} {below : List Frame} {meth : Method} {c : Code} {D : va_G} {cI cZ cQ cL : ClassId} {ax am : Nat → Nat} {o b L9 : Nat} {xs : Nat → Int32} (hlt : l.stackTraces = false) (C : CX p s m #[.ref b] meth c D (tyL cI cZ cQ cL) (fun q => s.heap.size ≤ q) RL cL_law wsL_law 7 (wAll cI cZ cQ cL ax am o)) (hr : meth.sig.returnType = ret) (hE : EV (fun q => s.heap.size ≤ q) s s.heap tx0) (hXs : va_X b L9 xs s s.heap) (hbl : b < s.heap.size) {c0 s0 : Nat} (hc0 : c0 + 1600 ≤ 601024) (hs0 : s0 + 9600 ≤ 7293034) {j : Nat} {X M : LU} {f : Nat → Int64} (hj : 5 * j + 5 ≤ L9) (hL9 : L9 ≤ 2560) (hR : Rel (10000 * (j : Int)) X M) (next : ∀ (X2 M2 : LU) (f2 : Nat → Int64), Rel (10000 * (j : Int) + 10000) X2 M2 → G p l e room_1 s m #[.ref b] below meth c D (fun q => s.heap.size ≤ q) 7 (wAll cI cZ cQ cL ax am o) (c0 + 3 * j + 3) (s0 + 18 * j + 18) (lw_Z below #[.ref b] s) (X2, M2, f2) 1609 [(0, .ref b), (1, .ref (ax 0)), (2, .ref (am 0)), (3, .ref o), (4, .int (nI (5 * j)))] []) : G p l e room_1 s m #[.ref b] below meth c D (fun q => s.heap.size ≤ q) 7 (wAll cI cZ cQ cL ax am o) (c0 + 3 * j) (s0 + 18 * j) (lw_Z below #[.ref b] s) (X, M, f) 484 [(0, .ref b), (1, .ref (ax 0)), (2, .ref (am 0)), (3, .ref o), (4, .int (nI (5 * j)))] [] := by
  refine g_aload_n (pc' := 485) (q := 1) C dL_law_484 rfl rfl rfl ?_
  refine g_aload_n (pc' := 486) (q := 0) C dL_law_485 rfl rfl rfl ?_
  refine g_iload (pc' := 488) (q := 4) C dL_law_486 rfl rfl ?_
  refine g_iconst (pc' := 489) (v := 1) C dL_law_488 rfl (by decide) ?_
  refine g_iadd (pc' := 490) C dL_law_489 rfl ?_
  refine g_conv (show nI (5 * j) + 1 = nI (5 * j + 1) from nI_add (5 * j) 1) ?_
  refine g_sld (pc' := 491) (k := 5 * j + 1) C hXs hbl (Nat.not_le.mpr hbl) (vp_in_nI (by omega) (by omega)) (nI_clamp (by omega)) dL_law_490 rfl ?_
  refine g_aload_n (pc' := 492) (q := 0) C dL_law_491 rfl rfl rfl ?_
  refine g_iload (pc' := 494) (q := 4) C dL_law_492 rfl rfl ?_
  refine g_iconst (pc' := 495) (v := 2) C dL_law_494 rfl (by decide) ?_
  refine g_iadd (pc' := 496) C dL_law_495 rfl ?_
  refine g_conv (show nI (5 * j) + 2 = nI (5 * j + 2) from nI_add (5 * j) 2) ?_
  refine g_sld (pc' := 497) (k := 5 * j + 2) C hXs hbl (Nat.not_le.mpr hbl) (vp_in_nI (by omega) (by omega)) (nI_clamp (by omega)) dL_law_496 rfl ?_
  refine g_aload_n (pc' := 498) (q := 3) C dL_law_497 rfl rfl rfl ?_
  have hM1 := fr_XI (wg := wAll cI cZ cQ cL ax am o) (tysG := tyL cI cZ cQ cL) (emb := fun v : LU × (Nat → Int64) => ((v.1, M, v.2) : LU × LU × (Nat → Int64))) (E1 := []) (E2 := wM cI cZ am M) (fun v => rfl) [0, 1, 2, 3] rfl (c_L_merge (l := l) (D := D) (cI := cI) (cZ := cZ) (cQ := cQ) (cL := cL) (a := ax) (o := o) (posti := pX_merge X (xs (5 * j + 1)) (xs (5 * j + 2))) (xp := eX_merge X (xs (5 * j + 1)) (xs (5 * j + 2))) X f (xs (5 * j + 1)) (xs (5 * j + 2)) (c_X0_merge hlt X (xs (5 * j + 1)) (xs (5 * j + 2)) hR.ix) (hxs_merge X (xs (5 * j + 1)) (xs (5 * j + 2))))
  refine g_callW (pc' := 501) (As := [.ref (ax 0), .int (xs (5 * j + 1)), .int (xs (5 * j + 2)), .ref o]) (st := []) (cells' := c0 + 3 * j + 3) (slots' := s0 + 18 * j + 18) C hE hM1 gL_law_L_merge rfl (by decide +kernel) ⟨Nat.le_of_ble_eq_true rfl, Nat.le_of_ble_eq_true rfl⟩ (n := 4) rfl rfl (Nat.le_of_ble_eq_true rfl) dL_law_498 rfl rfl rfl ⟨(by show c0 + 3 * j + 3 ≤ 601024; omega), (by show s0 + 18 * j + 18 ≤ 7293034; omega)⟩ (fun k0 s9 hp => ?_)
  obtain ⟨s2, hw, rfl⟩ := hp
  refine g_istore (pc' := 503) (L' := [(5, .int k0), (0, .ref b), (1, .ref (ax 0)), (2, .ref (am 0)), (3, .ref o), (4, .int (nI (5 * j)))]) C dL_law_501 rfl (by decide) rfl ?_
  refine g_aload_n (pc' := 504) (q := 3) C dL_law_503 rfl rfl rfl ?_
  refine g_aload_n (pc' := 505) (q := 1) C dL_law_504 rfl rfl rfl ?_
  refine g_iload (pc' := 507) (q := 5) C dL_law_505 rfl rfl ?_
  refine g_iconst (pc' := 508) (v := 1) C dL_law_507 rfl (by decide) ?_
  refine g_iadd (pc' := 509) C dL_law_508 rfl ?_
  refine g_conv (show nI (5 * j) + 1 = nI (5 * j + 1) from nI_add (5 * j) 1) ?_
  refine g_sld (pc' := 510) (k := 5 * j + 1) C hXs hbl (Nat.not_le.mpr hbl) (vp_in_nI (by omega) (by omega)) (nI_clamp (by omega)) dL_law_509 rfl ?_
  refine g_aload_n (pc' := 511) (q := 1) C dL_law_510 rfl rfl rfl ?_
  refine g_iload (pc' := 513) (q := 5) C dL_law_511 rfl rfl ?_
  refine g_iconst (pc' := 514) (v := 2) C dL_law_513 rfl (by decide) ?_
  refine g_iadd (pc' := 515) C dL_law_514 rfl ?_
  refine g_conv (show nI (5 * j) + 2 = nI (5 * j + 2) from nI_add (5 * j) 2) ?_
  refine g_sld (pc' := 516) (k := 5 * j + 2) C hXs hbl (Nat.not_le.mpr hbl) (vp_in_nI (by omega) (by omega)) (nI_clamp (by omega)) dL_law_515 rfl ?_
  refine g_calliV (pc' := 519) (As := [.int (xs (5 * j + 1)), .int (xs (5 * j + 2))]) (st := []) (cells' := c0 + 3 * j + 3) (slots' := s0 + 18 * j + 18) C (fr_KI (wg := wAll cI cZ cQ cL ax am o) (tysG := tyL cI cZ cQ cL) (emb := fun v : LU => ((s2.1, v, s2.2) : LU × LU × (Nat → Int64))) (E1 := wL cI cZ cQ cL ax o s2) (E2 := []) (fun v => by simp [wAll]) [0, 1, 2] rfl (c_X1_merge (l := l) (D := D) (cI := cI) (cZ := cZ) (cQ := cQ) (a := am) M (xs (5 * j + 1)) (xs (5 * j + 2)) hR.im)) gL_law_X1_merge rfl (by decide +kernel) ⟨Nat.le_of_ble_eq_true rfl, Nat.le_of_ble_eq_true rfl⟩ 76 (wA_M _ _ _ _ _ _ _ _) rfl (n := 2) rfl rfl (Nat.le_of_ble_eq_true rfl) dL_law_516 rfl (by rfl) (by rfl) ⟨(by show c0 + 3 * j + 3 ≤ 601024; omega), (by show s0 + 18 * j + 18 ≤ 7293034; omega)⟩ (fun rb s9 hp => ?_)
  obtain ⟨M1, hm, rfl⟩ := hp
  obtain ⟨hR2, hkt, hkv⟩ := sim_merge hR (by omega) (xs (5 * j + 1)) (xs (5 * j + 2)) hw hm
  refine g_istore (pc' := 521) (L' := [(6, .int rb), (5, .int k0), (0, .ref b), (1, .ref (ax 0)), (2, .ref (am 0)), (3, .ref o), (4, .int (nI (5 * j)))]) C dL_law_519 rfl (by decide) rfl ?_
  refine g_aload_n (pc' := 522) (q := 4) C dL_law_521 rfl rfl rfl ?_
  refine g_calliV (pc' := 525) (As := []) (st := []) (cells' := c0 + 3 * j + 3) (slots' := s0 + 18 * j + 18) C (fr_KI (wg := wAll cI cZ cQ cL ax am o) (tysG := tyL cI cZ cQ cL) (emb := fun v : LU => ((s2.1, v, s2.2) : LU × LU × (Nat → Int64))) (E1 := wL cI cZ cQ cL ax o s2) (E2 := []) (fun v => by simp [wAll]) [0, 1, 2] rfl (c_X1_thrown (l := l) (D := D) (cI := cI) (cZ := cZ) (cQ := cQ) (a := am) M1)) gL_law_X1_thrown rfl (by decide +kernel) ⟨Nat.le_of_ble_eq_true rfl, Nat.le_of_ble_eq_true rfl⟩ 76 (wA_M _ _ _ _ _ _ _ _) rfl (n := 0) rfl rfl (Nat.le_of_ble_eq_true rfl) dL_law_522 rfl (by rfl) (by rfl) ⟨(by show c0 + 3 * j + 3 ≤ 601024; omega), (by show s0 + 18 * j + 18 ≤ 7293034; omega)⟩ (fun r1 s9 hp => ?_)
  obtain ⟨v9, ⟨rfl, hv9⟩, rfl⟩ := hp
  rw [hv9]
  refine g_iload (pc' := 527) (q := 1) C dL_law_525 rfl rfl ?_
  refine g_icmp_eq (tgt := 532) (pc' := 530) C dL_law_527 rfl (by decide) (fun _ => ?_) (fun h9 => absurd (congrArg Int32.toInt hkt) h9)
  refine g_iload (pc' := 534) (q := 1) C dL_law_532 rfl rfl ?_
  refine g_if_ne (tgt := 549) (pc' := 537) C dL_law_534 rfl (by decide) (fun ck => ?_) (fun (ck : k0.toInt = 0) => ?_)
  · skip
    refine g_goto (tgt := 1609) C dL_law_549 (by decide) ?_
    exact g_widen (by omega) (by omega) (g_sub (L' := [(0, .ref b), (1, .ref (ax 0)), (2, .ref (am 0)), (3, .ref o), (4, .int (nI (5 * j)))]) [2, 3, 4, 5, 6] rfl (next _ _ _ hR2))
  · have hk0 : k0 = 0 := Int32.toInt_inj.mp (ck.trans ti_0.symm)
    refine g_aload_n (pc' := 538) (q := 5) C dL_law_537 rfl rfl rfl ?_
    refine g_iconst (pc' := 539) (v := 0) C dL_law_538 rfl (by decide) ?_
    refine g_lald (pc' := 540) (n := 1) C 75 3 (wA_out _ _ _ _ _ _ _ _) rfl (vp_of (by decide) (by decide)) (k := 0) rfl dL_law_539 rfl ?_
    refine g_iload (pc' := 542) (q := 0) C dL_law_540 rfl rfl ?_
    refine g_i2l (pc' := 543) C dL_law_542 rfl ?_
    refine g_lcmp (pc' := 544) C dL_law_543 rfl ?_
    refine g_if_eq (tgt := 549) (pc' := 547) C dL_law_544 rfl (by decide) (fun _ => ?_) (fun h9 => absurd (lg_self (hkv hk0)) h9)
    refine g_goto (tgt := 1609) C dL_law_549 (by decide) ?_
    exact g_widen (by omega) (by omega) (g_sub (L' := [(0, .ref b), (1, .ref (ax 0)), (2, .ref (am 0)), (3, .ref o), (4, .int (nI (5 * j)))]) [2, 3, 4, 5, 6] rfl (next _ _ _ hR2))
set_option maxHeartbeats 4000000 in
set_option maxRecDepth 100000 in
theorem law_case_6 {p : Program} {l : Launch} {e : Env} {s : State} {m : MethodId} {below : List Frame} {meth : Method} {c : Code} {D : va_G} {cI cZ cQ cL : ClassId} {ax am : Nat → Nat} {o b L9 : Nat} {xs : Nat → Int32} (hlt : l.stackTraces = false) (C : CX p s m #[.ref b] meth c D (tyL cI cZ cQ cL) (fun q => s.heap.size ≤ q) RL cL_law wsL_law 7 (wAll cI cZ cQ cL ax am o)) (hr : meth.sig.returnType = ret) (hE : EV (fun q => s.heap.size ≤ q) s s.heap tx0) (hXs : va_X b L9 xs s s.heap) (hbl : b < s.heap.size) {c0 s0 : Nat} (hc0 : c0 + 1600 ≤ 601024) (hs0 : s0 + 9600 ≤ 7293034) {j : Nat} {X M : LU} {f : Nat → Int64} (hj : 5 * j + 5 ≤ L9) (hL9 : L9 ≤ 2560) (hR : Rel (10000 * (j : Int)) X M) (next : ∀ (X2 M2 : LU) (f2 : Nat → Int64), Rel (10000 * (j : Int) + 10000) X2 M2 → G p l e room_1 s m #[.ref b] below meth c D (fun q => s.heap.size ≤ q) 7 (wAll cI cZ cQ cL ax am o) (c0 + 3 * j + 3) (s0 + 18 * j + 18) (lw_Z below #[.ref b] s) (X2, M2, f2) 1609 [(0, .ref b), (1, .ref (ax 0)), (2, .ref (am 0)), (3, .ref o), (4, .int (nI (5 * j)))] []) : G p l e room_1 s m #[.ref b] below meth c D (fun q => s.heap.size ≤ q) 7 (wAll cI cZ cQ cL ax am o) (c0 + 3 * j) (s0 + 18 * j) (lw_Z below #[.ref b] s) (X, M, f) 552 [(0, .ref b), (1, .ref (ax 0)), (2, .ref (am 0)), (3, .ref o), (4, .int (nI (5 * j)))] [] := by
  refine g_aload_n (pc' := 553) (q := 1) C dL_law_552 rfl rfl rfl ?_
  refine g_aload_n (pc' := 554) (q := 0) C dL_law_553 rfl rfl rfl ?_
  refine g_iload (pc' := 556) (q := 4) C dL_law_554 rfl rfl ?_
  refine g_iconst (pc' := 557) (v := 1) C dL_law_556 rfl (by decide) ?_
  refine g_iadd (pc' := 558) C dL_law_557 rfl ?_
  refine g_conv (show nI (5 * j) + 1 = nI (5 * j + 1) from nI_add (5 * j) 1) ?_
  refine g_sld (pc' := 559) (k := 5 * j + 1) C hXs hbl (Nat.not_le.mpr hbl) (vp_in_nI (by omega) (by omega)) (nI_clamp (by omega)) dL_law_558 rfl ?_
  refine g_aload_n (pc' := 560) (q := 0) C dL_law_559 rfl rfl rfl ?_
  refine g_iload (pc' := 562) (q := 4) C dL_law_560 rfl rfl ?_
  refine g_iconst (pc' := 563) (v := 2) C dL_law_562 rfl (by decide) ?_
  refine g_iadd (pc' := 564) C dL_law_563 rfl ?_
  refine g_conv (show nI (5 * j) + 2 = nI (5 * j + 2) from nI_add (5 * j) 2) ?_
  refine g_sld (pc' := 565) (k := 5 * j + 2) C hXs hbl (Nat.not_le.mpr hbl) (vp_in_nI (by omega) (by omega)) (nI_clamp (by omega)) dL_law_564 rfl ?_
  refine g_if_eq (tgt := 572) (pc' := 568) C dL_law_565 rfl (by decide) (fun (cz : (xs (5 * j + 2)).toInt = 0) => ?_) (fun (cz : ¬ (xs (5 * j + 2)).toInt = 0) => ?_)
  · skip
    refine g_iconst (pc' := 573) (v := 0) C dL_law_572 rfl (by decide) ?_
    refine g_conv (show (0 : Int32) = bP (¬ (xs (5 * j + 2)).toInt = 0) from (bP_f (fun h9 => h9 cz)).symm) ?_
    refine g_aload_n (pc' := 574) (q := 3) C dL_law_573 rfl rfl rfl ?_
    have hM1 := fr_XI (wg := wAll cI cZ cQ cL ax am o) (tysG := tyL cI cZ cQ cL) (emb := fun v : LU × (Nat → Int64) => ((v.1, M, v.2) : LU × LU × (Nat → Int64))) (E1 := []) (E2 := wM cI cZ am M) (fun v => rfl) [0, 1, 2, 3] rfl (c_L_hold (l := l) (D := D) (cI := cI) (cZ := cZ) (cQ := cQ) (cL := cL) (a := ax) (o := o) (posti := pX_hold X (xs (5 * j + 1)) (¬ (xs (5 * j + 2)).toInt = 0)) (xp := eX_hold X (xs (5 * j + 1)) (¬ (xs (5 * j + 2)).toInt = 0)) X f (xs (5 * j + 1)) (¬ (xs (5 * j + 2)).toInt = 0) (c_X0_hold hlt X (xs (5 * j + 1)) (¬ (xs (5 * j + 2)).toInt = 0) hR.ix) (hxs_hold X (xs (5 * j + 1)) (¬ (xs (5 * j + 2)).toInt = 0)))
    refine g_callW (pc' := 577) (As := [.ref (ax 0), .int (xs (5 * j + 1)), .int (bP (¬ (xs (5 * j + 2)).toInt = 0)), .ref o]) (st := []) (cells' := c0 + 3 * j + 2) (slots' := s0 + 18 * j + 12) C hE hM1 gL_law_L_hold rfl (by decide +kernel) ⟨Nat.le_of_ble_eq_true rfl, Nat.le_of_ble_eq_true rfl⟩ (n := 4) rfl rfl (Nat.le_of_ble_eq_true rfl) dL_law_574 rfl rfl rfl ⟨(by show c0 + 3 * j + 2 ≤ 601024; omega), (by show s0 + 18 * j + 12 ≤ 7293034; omega)⟩ (fun k0 s9 hp => ?_)
    obtain ⟨s2, hw, rfl⟩ := hp
    refine g_istore (pc' := 579) (L' := [(5, .int k0), (0, .ref b), (1, .ref (ax 0)), (2, .ref (am 0)), (3, .ref o), (4, .int (nI (5 * j)))]) C dL_law_577 rfl (by decide) rfl ?_
    refine g_aload_n (pc' := 580) (q := 3) C dL_law_579 rfl rfl rfl ?_
    refine g_aload_n (pc' := 581) (q := 1) C dL_law_580 rfl rfl rfl ?_
    refine g_iload (pc' := 583) (q := 5) C dL_law_581 rfl rfl ?_
    refine g_iconst (pc' := 584) (v := 1) C dL_law_583 rfl (by decide) ?_
    refine g_iadd (pc' := 585) C dL_law_584 rfl ?_
    refine g_conv (show nI (5 * j) + 1 = nI (5 * j + 1) from nI_add (5 * j) 1) ?_
    refine g_sld (pc' := 586) (k := 5 * j + 1) C hXs hbl (Nat.not_le.mpr hbl) (vp_in_nI (by omega) (by omega)) (nI_clamp (by omega)) dL_law_585 rfl ?_
    refine g_aload_n (pc' := 587) (q := 1) C dL_law_586 rfl rfl rfl ?_
    refine g_iload (pc' := 589) (q := 5) C dL_law_587 rfl rfl ?_
    refine g_iconst (pc' := 590) (v := 2) C dL_law_589 rfl (by decide) ?_
    refine g_iadd (pc' := 591) C dL_law_590 rfl ?_
    refine g_conv (show nI (5 * j) + 2 = nI (5 * j + 2) from nI_add (5 * j) 2) ?_
    refine g_sld (pc' := 592) (k := 5 * j + 2) C hXs hbl (Nat.not_le.mpr hbl) (vp_in_nI (by omega) (by omega)) (nI_clamp (by omega)) dL_law_591 rfl ?_
    refine g_if_eq (tgt := 599) (pc' := 595) C dL_law_592 rfl (by decide) (fun (cz : (xs (5 * j + 2)).toInt = 0) => ?_) (fun (cz : ¬ (xs (5 * j + 2)).toInt = 0) => ?_)
    · skip
      refine g_iconst (pc' := 600) (v := 0) C dL_law_599 rfl (by decide) ?_
      refine g_conv (show (0 : Int32) = bP (¬ (xs (5 * j + 2)).toInt = 0) from (bP_f (fun h9 => h9 cz)).symm) ?_
      refine g_calliV (pc' := 603) (As := [.int (xs (5 * j + 1)), .int (bP (¬ (xs (5 * j + 2)).toInt = 0))]) (st := []) (cells' := c0 + 3 * j + 2) (slots' := s0 + 18 * j + 12) C (fr_KI (wg := wAll cI cZ cQ cL ax am o) (tysG := tyL cI cZ cQ cL) (emb := fun v : LU => ((s2.1, v, s2.2) : LU × LU × (Nat → Int64))) (E1 := wL cI cZ cQ cL ax o s2) (E2 := []) (fun v => by simp [wAll]) [0, 1, 2] rfl (c_X1_hold (l := l) (D := D) (cI := cI) (cZ := cZ) (cQ := cQ) (a := am) M (xs (5 * j + 1)) (¬ (xs (5 * j + 2)).toInt = 0) hR.im)) gL_law_X1_hold rfl (by decide +kernel) ⟨Nat.le_of_ble_eq_true rfl, Nat.le_of_ble_eq_true rfl⟩ 76 (wA_M _ _ _ _ _ _ _ _) rfl (n := 2) rfl rfl (Nat.le_of_ble_eq_true rfl) dL_law_600 rfl (by rfl) (by rfl) ⟨(by show c0 + 3 * j + 2 ≤ 601024; omega), (by show s0 + 18 * j + 12 ≤ 7293034; omega)⟩ (fun rb s9 hp => ?_)
      obtain ⟨M1, hm, rfl⟩ := hp
      obtain ⟨hR2, hkt, hkv⟩ := sim_hold hR (by omega) (xs (5 * j + 1)) (¬ (xs (5 * j + 2)).toInt = 0) hw hm
      refine g_istore (pc' := 605) (L' := [(6, .int rb), (5, .int k0), (0, .ref b), (1, .ref (ax 0)), (2, .ref (am 0)), (3, .ref o), (4, .int (nI (5 * j)))]) C dL_law_603 rfl (by decide) rfl ?_
      refine g_aload_n (pc' := 606) (q := 4) C dL_law_605 rfl rfl rfl ?_
      refine g_calliV (pc' := 609) (As := []) (st := []) (cells' := c0 + 3 * j + 2) (slots' := s0 + 18 * j + 12) C (fr_KI (wg := wAll cI cZ cQ cL ax am o) (tysG := tyL cI cZ cQ cL) (emb := fun v : LU => ((s2.1, v, s2.2) : LU × LU × (Nat → Int64))) (E1 := wL cI cZ cQ cL ax o s2) (E2 := []) (fun v => by simp [wAll]) [0, 1, 2] rfl (c_X1_thrown (l := l) (D := D) (cI := cI) (cZ := cZ) (cQ := cQ) (a := am) M1)) gL_law_X1_thrown rfl (by decide +kernel) ⟨Nat.le_of_ble_eq_true rfl, Nat.le_of_ble_eq_true rfl⟩ 76 (wA_M _ _ _ _ _ _ _ _) rfl (n := 0) rfl rfl (Nat.le_of_ble_eq_true rfl) dL_law_606 rfl (by rfl) (by rfl) ⟨(by show c0 + 3 * j + 2 ≤ 601024; omega), (by show s0 + 18 * j + 12 ≤ 7293034; omega)⟩ (fun r1 s9 hp => ?_)
      obtain ⟨v9, ⟨rfl, hv9⟩, rfl⟩ := hp
      rw [hv9]
      refine g_iload (pc' := 611) (q := 1) C dL_law_609 rfl rfl ?_
      refine g_icmp_eq (tgt := 616) (pc' := 614) C dL_law_611 rfl (by decide) (fun _ => ?_) (fun h9 => absurd (congrArg Int32.toInt hkt) h9)
      refine g_iload (pc' := 618) (q := 1) C dL_law_616 rfl rfl ?_
      refine g_if_ne (tgt := 640) (pc' := 621) C dL_law_618 rfl (by decide) (fun ck => ?_) (fun (ck : k0.toInt = 0) => ?_)
      · skip
        refine g_goto (tgt := 1609) C dL_law_640 (by decide) ?_
        exact g_widen (by omega) (by omega) (g_sub (L' := [(0, .ref b), (1, .ref (ax 0)), (2, .ref (am 0)), (3, .ref o), (4, .int (nI (5 * j)))]) [2, 3, 4, 5, 6] rfl (next _ _ _ hR2))
      · have hk0 : k0 = 0 := Int32.toInt_inj.mp (ck.trans ti_0.symm)
        refine g_aload_n (pc' := 622) (q := 5) C dL_law_621 rfl rfl rfl ?_
        refine g_iconst (pc' := 623) (v := 0) C dL_law_622 rfl (by decide) ?_
        refine g_lald (pc' := 624) (n := 1) C 75 3 (wA_out _ _ _ _ _ _ _ _) rfl (vp_of (by decide) (by decide)) (k := 0) rfl dL_law_623 rfl ?_
        refine g_iload (pc' := 626) (q := 0) C dL_law_624 rfl rfl ?_
        refine g_if_eq (tgt := 633) (pc' := 629) C dL_law_626 rfl (by decide) (fun (cb : rb.toInt = 0) => ?_) (fun (cb : ¬ rb.toInt = 0) => ?_)
        · skip
          refine g_lconst (pc' := 634) (v := 0) C dL_law_633 rfl (by decide) ?_
          refine g_lcmp (pc' := 635) C dL_law_634 rfl ?_
          refine g_if_eq (tgt := 640) (pc' := 638) C dL_law_635 rfl (by decide) (fun _ => ?_) (fun h9 => absurd (lg_self ((hkv hk0).trans (by unfold lbI; rw [if_pos cb]))) h9)
          refine g_goto (tgt := 1609) C dL_law_640 (by decide) ?_
          exact g_widen (by omega) (by omega) (g_sub (L' := [(0, .ref b), (1, .ref (ax 0)), (2, .ref (am 0)), (3, .ref o), (4, .int (nI (5 * j)))]) [2, 3, 4, 5, 6] rfl (next _ _ _ hR2))
        · skip
          refine g_lconst (pc' := 630) (v := 1) C dL_law_629 rfl (by decide) ?_
          refine g_goto (tgt := 634) C dL_law_630 (by decide) ?_
          refine g_lcmp (pc' := 635) C dL_law_634 rfl ?_
          refine g_if_eq (tgt := 640) (pc' := 638) C dL_law_635 rfl (by decide) (fun _ => ?_) (fun h9 => absurd (lg_self ((hkv hk0).trans (by unfold lbI; rw [if_neg cb]))) h9)
          refine g_goto (tgt := 1609) C dL_law_640 (by decide) ?_
          exact g_widen (by omega) (by omega) (g_sub (L' := [(0, .ref b), (1, .ref (ax 0)), (2, .ref (am 0)), (3, .ref o), (4, .int (nI (5 * j)))]) [2, 3, 4, 5, 6] rfl (next _ _ _ hR2))
    · skip
      refine g_iconst (pc' := 596) (v := 1) C dL_law_595 rfl (by decide) ?_
      refine g_goto (tgt := 600) C dL_law_596 (by decide) ?_
      refine g_conv (show (1 : Int32) = bP (¬ (xs (5 * j + 2)).toInt = 0) from (bP_t cz).symm) ?_
      refine g_calliV (pc' := 603) (As := [.int (xs (5 * j + 1)), .int (bP (¬ (xs (5 * j + 2)).toInt = 0))]) (st := []) (cells' := c0 + 3 * j + 2) (slots' := s0 + 18 * j + 12) C (fr_KI (wg := wAll cI cZ cQ cL ax am o) (tysG := tyL cI cZ cQ cL) (emb := fun v : LU => ((s2.1, v, s2.2) : LU × LU × (Nat → Int64))) (E1 := wL cI cZ cQ cL ax o s2) (E2 := []) (fun v => by simp [wAll]) [0, 1, 2] rfl (c_X1_hold (l := l) (D := D) (cI := cI) (cZ := cZ) (cQ := cQ) (a := am) M (xs (5 * j + 1)) (¬ (xs (5 * j + 2)).toInt = 0) hR.im)) gL_law_X1_hold rfl (by decide +kernel) ⟨Nat.le_of_ble_eq_true rfl, Nat.le_of_ble_eq_true rfl⟩ 76 (wA_M _ _ _ _ _ _ _ _) rfl (n := 2) rfl rfl (Nat.le_of_ble_eq_true rfl) dL_law_600 rfl (by rfl) (by rfl) ⟨(by show c0 + 3 * j + 2 ≤ 601024; omega), (by show s0 + 18 * j + 12 ≤ 7293034; omega)⟩ (fun rb s9 hp => ?_)
      obtain ⟨M1, hm, rfl⟩ := hp
      obtain ⟨hR2, hkt, hkv⟩ := sim_hold hR (by omega) (xs (5 * j + 1)) (¬ (xs (5 * j + 2)).toInt = 0) hw hm
      refine g_istore (pc' := 605) (L' := [(6, .int rb), (5, .int k0), (0, .ref b), (1, .ref (ax 0)), (2, .ref (am 0)), (3, .ref o), (4, .int (nI (5 * j)))]) C dL_law_603 rfl (by decide) rfl ?_
      refine g_aload_n (pc' := 606) (q := 4) C dL_law_605 rfl rfl rfl ?_
      refine g_calliV (pc' := 609) (As := []) (st := []) (cells' := c0 + 3 * j + 2) (slots' := s0 + 18 * j + 12) C (fr_KI (wg := wAll cI cZ cQ cL ax am o) (tysG := tyL cI cZ cQ cL) (emb := fun v : LU => ((s2.1, v, s2.2) : LU × LU × (Nat → Int64))) (E1 := wL cI cZ cQ cL ax o s2) (E2 := []) (fun v => by simp [wAll]) [0, 1, 2] rfl (c_X1_thrown (l := l) (D := D) (cI := cI) (cZ := cZ) (cQ := cQ) (a := am) M1)) gL_law_X1_thrown rfl (by decide +kernel) ⟨Nat.le_of_ble_eq_true rfl, Nat.le_of_ble_eq_true rfl⟩ 76 (wA_M _ _ _ _ _ _ _ _) rfl (n := 0) rfl rfl (Nat.le_of_ble_eq_true rfl) dL_law_606 rfl (by rfl) (by rfl) ⟨(by show c0 + 3 * j + 2 ≤ 601024; omega), (by show s0 + 18 * j + 12 ≤ 7293034; omega)⟩ (fun r1 s9 hp => ?_)
      obtain ⟨v9, ⟨rfl, hv9⟩, rfl⟩ := hp
      rw [hv9]
      refine g_iload (pc' := 611) (q := 1) C dL_law_609 rfl rfl ?_
      refine g_icmp_eq (tgt := 616) (pc' := 614) C dL_law_611 rfl (by decide) (fun _ => ?_) (fun h9 => absurd (congrArg Int32.toInt hkt) h9)
      refine g_iload (pc' := 618) (q := 1) C dL_law_616 rfl rfl ?_
      refine g_if_ne (tgt := 640) (pc' := 621) C dL_law_618 rfl (by decide) (fun ck => ?_) (fun (ck : k0.toInt = 0) => ?_)
      · skip
        refine g_goto (tgt := 1609) C dL_law_640 (by decide) ?_
        exact g_widen (by omega) (by omega) (g_sub (L' := [(0, .ref b), (1, .ref (ax 0)), (2, .ref (am 0)), (3, .ref o), (4, .int (nI (5 * j)))]) [2, 3, 4, 5, 6] rfl (next _ _ _ hR2))
      · have hk0 : k0 = 0 := Int32.toInt_inj.mp (ck.trans ti_0.symm)
        refine g_aload_n (pc' := 622) (q := 5) C dL_law_621 rfl rfl rfl ?_
        refine g_iconst (pc' := 623) (v := 0) C dL_law_622 rfl (by decide) ?_
        refine g_lald (pc' := 624) (n := 1) C 75 3 (wA_out _ _ _ _ _ _ _ _) rfl (vp_of (by decide) (by decide)) (k := 0) rfl dL_law_623 rfl ?_
        refine g_iload (pc' := 626) (q := 0) C dL_law_624 rfl rfl ?_
        refine g_if_eq (tgt := 633) (pc' := 629) C dL_law_626 rfl (by decide) (fun (cb : rb.toInt = 0) => ?_) (fun (cb : ¬ rb.toInt = 0) => ?_)
        · skip
          refine g_lconst (pc' := 634) (v := 0) C dL_law_633 rfl (by decide) ?_
          refine g_lcmp (pc' := 635) C dL_law_634 rfl ?_
          refine g_if_eq (tgt := 640) (pc' := 638) C dL_law_635 rfl (by decide) (fun _ => ?_) (fun h9 => absurd (lg_self ((hkv hk0).trans (by unfold lbI; rw [if_pos cb]))) h9)
          refine g_goto (tgt := 1609) C dL_law_640 (by decide) ?_
          exact g_widen (by omega) (by omega) (g_sub (L' := [(0, .ref b), (1, .ref (ax 0)), (2, .ref (am 0)), (3, .ref o), (4, .int (nI (5 * j)))]) [2, 3, 4, 5, 6] rfl (next _ _ _ hR2))
        · skip
          refine g_lconst (pc' := 630) (v := 1) C dL_law_629 rfl (by decide) ?_
          refine g_goto (tgt := 634) C dL_law_630 (by decide) ?_
          refine g_lcmp (pc' := 635) C dL_law_634 rfl ?_
          refine g_if_eq (tgt := 640) (pc' := 638) C dL_law_635 rfl (by decide) (fun _ => ?_) (fun h9 => absurd (lg_self ((hkv hk0).trans (by unfold lbI; rw [if_neg cb]))) h9)
          refine g_goto (tgt := 1609) C dL_law_640 (by decide) ?_
          exact g_widen (by omega) (by omega) (g_sub (L' := [(0, .ref b), (1, .ref (ax 0)), (2, .ref (am 0)), (3, .ref o), (4, .int (nI (5 * j)))]) [2, 3, 4, 5, 6] rfl (next _ _ _ hR2))
  · skip
    refine g_iconst (pc' := 569) (v := 1) C dL_law_568 rfl (by decide) ?_
    refine g_goto (tgt := 573) C dL_law_569 (by decide) ?_
    refine g_conv (show (1 : Int32) = bP (¬ (xs (5 * j + 2)).toInt = 0) from (bP_t cz).symm) ?_
    refine g_aload_n (pc' := 574) (q := 3) C dL_law_573 rfl rfl rfl ?_
    have hM1 := fr_XI (wg := wAll cI cZ cQ cL ax am o) (tysG := tyL cI cZ cQ cL) (emb := fun v : LU × (Nat → Int64) => ((v.1, M, v.2) : LU × LU × (Nat → Int64))) (E1 := []) (E2 := wM cI cZ am M) (fun v => rfl) [0, 1, 2, 3] rfl (c_L_hold (l := l) (D := D) (cI := cI) (cZ := cZ) (cQ := cQ) (cL := cL) (a := ax) (o := o) (posti := pX_hold X (xs (5 * j + 1)) (¬ (xs (5 * j + 2)).toInt = 0)) (xp := eX_hold X (xs (5 * j + 1)) (¬ (xs (5 * j + 2)).toInt = 0)) X f (xs (5 * j + 1)) (¬ (xs (5 * j + 2)).toInt = 0) (c_X0_hold hlt X (xs (5 * j + 1)) (¬ (xs (5 * j + 2)).toInt = 0) hR.ix) (hxs_hold X (xs (5 * j + 1)) (¬ (xs (5 * j + 2)).toInt = 0)))
    refine g_callW (pc' := 577) (As := [.ref (ax 0), .int (xs (5 * j + 1)), .int (bP (¬ (xs (5 * j + 2)).toInt = 0)), .ref o]) (st := []) (cells' := c0 + 3 * j + 2) (slots' := s0 + 18 * j + 12) C hE hM1 gL_law_L_hold rfl (by decide +kernel) ⟨Nat.le_of_ble_eq_true rfl, Nat.le_of_ble_eq_true rfl⟩ (n := 4) rfl rfl (Nat.le_of_ble_eq_true rfl) dL_law_574 rfl rfl rfl ⟨(by show c0 + 3 * j + 2 ≤ 601024; omega), (by show s0 + 18 * j + 12 ≤ 7293034; omega)⟩ (fun k0 s9 hp => ?_)
    obtain ⟨s2, hw, rfl⟩ := hp
    refine g_istore (pc' := 579) (L' := [(5, .int k0), (0, .ref b), (1, .ref (ax 0)), (2, .ref (am 0)), (3, .ref o), (4, .int (nI (5 * j)))]) C dL_law_577 rfl (by decide) rfl ?_
    refine g_aload_n (pc' := 580) (q := 3) C dL_law_579 rfl rfl rfl ?_
    refine g_aload_n (pc' := 581) (q := 1) C dL_law_580 rfl rfl rfl ?_
    refine g_iload (pc' := 583) (q := 5) C dL_law_581 rfl rfl ?_
    refine g_iconst (pc' := 584) (v := 1) C dL_law_583 rfl (by decide) ?_
    refine g_iadd (pc' := 585) C dL_law_584 rfl ?_
    refine g_conv (show nI (5 * j) + 1 = nI (5 * j + 1) from nI_add (5 * j) 1) ?_
    refine g_sld (pc' := 586) (k := 5 * j + 1) C hXs hbl (Nat.not_le.mpr hbl) (vp_in_nI (by omega) (by omega)) (nI_clamp (by omega)) dL_law_585 rfl ?_
    refine g_aload_n (pc' := 587) (q := 1) C dL_law_586 rfl rfl rfl ?_
    refine g_iload (pc' := 589) (q := 5) C dL_law_587 rfl rfl ?_
    refine g_iconst (pc' := 590) (v := 2) C dL_law_589 rfl (by decide) ?_
    refine g_iadd (pc' := 591) C dL_law_590 rfl ?_
    refine g_conv (show nI (5 * j) + 2 = nI (5 * j + 2) from nI_add (5 * j) 2) ?_
    refine g_sld (pc' := 592) (k := 5 * j + 2) C hXs hbl (Nat.not_le.mpr hbl) (vp_in_nI (by omega) (by omega)) (nI_clamp (by omega)) dL_law_591 rfl ?_
    refine g_if_eq (tgt := 599) (pc' := 595) C dL_law_592 rfl (by decide) (fun (cz : (xs (5 * j + 2)).toInt = 0) => ?_) (fun (cz : ¬ (xs (5 * j + 2)).toInt = 0) => ?_)
    · skip
      refine g_iconst (pc' := 600) (v := 0) C dL_law_599 rfl (by decide) ?_
      refine g_conv (show (0 : Int32) = bP (¬ (xs (5 * j + 2)).toInt = 0) from (bP_f (fun h9 => h9 cz)).symm) ?_
      refine g_calliV (pc' := 603) (As := [.int (xs (5 * j + 1)), .int (bP (¬ (xs (5 * j + 2)).toInt = 0))]) (st := []) (cells' := c0 + 3 * j + 2) (slots' := s0 + 18 * j + 12) C (fr_KI (wg := wAll cI cZ cQ cL ax am o) (tysG := tyL cI cZ cQ cL) (emb := fun v : LU => ((s2.1, v, s2.2) : LU × LU × (Nat → Int64))) (E1 := wL cI cZ cQ cL ax o s2) (E2 := []) (fun v => by simp [wAll]) [0, 1, 2] rfl (c_X1_hold (l := l) (D := D) (cI := cI) (cZ := cZ) (cQ := cQ) (a := am) M (xs (5 * j + 1)) (¬ (xs (5 * j + 2)).toInt = 0) hR.im)) gL_law_X1_hold rfl (by decide +kernel) ⟨Nat.le_of_ble_eq_true rfl, Nat.le_of_ble_eq_true rfl⟩ 76 (wA_M _ _ _ _ _ _ _ _) rfl (n := 2) rfl rfl (Nat.le_of_ble_eq_true rfl) dL_law_600 rfl (by rfl) (by rfl) ⟨(by show c0 + 3 * j + 2 ≤ 601024; omega), (by show s0 + 18 * j + 12 ≤ 7293034; omega)⟩ (fun rb s9 hp => ?_)
      obtain ⟨M1, hm, rfl⟩ := hp
      obtain ⟨hR2, hkt, hkv⟩ := sim_hold hR (by omega) (xs (5 * j + 1)) (¬ (xs (5 * j + 2)).toInt = 0) hw hm
      refine g_istore (pc' := 605) (L' := [(6, .int rb), (5, .int k0), (0, .ref b), (1, .ref (ax 0)), (2, .ref (am 0)), (3, .ref o), (4, .int (nI (5 * j)))]) C dL_law_603 rfl (by decide) rfl ?_
      refine g_aload_n (pc' := 606) (q := 4) C dL_law_605 rfl rfl rfl ?_
      refine g_calliV (pc' := 609) (As := []) (st := []) (cells' := c0 + 3 * j + 2) (slots' := s0 + 18 * j + 12) C (fr_KI (wg := wAll cI cZ cQ cL ax am o) (tysG := tyL cI cZ cQ cL) (emb := fun v : LU => ((s2.1, v, s2.2) : LU × LU × (Nat → Int64))) (E1 := wL cI cZ cQ cL ax o s2) (E2 := []) (fun v => by simp [wAll]) [0, 1, 2] rfl (c_X1_thrown (l := l) (D := D) (cI := cI) (cZ := cZ) (cQ := cQ) (a := am) M1)) gL_law_X1_thrown rfl (by decide +kernel) ⟨Nat.le_of_ble_eq_true rfl, Nat.le_of_ble_eq_true rfl⟩ 76 (wA_M _ _ _ _ _ _ _ _) rfl (n := 0) rfl rfl (Nat.le_of_ble_eq_true rfl) dL_law_606 rfl (by rfl) (by rfl) ⟨(by show c0 + 3 * j + 2 ≤ 601024; omega), (by show s0 + 18 * j + 12 ≤ 7293034; omega)⟩ (fun r1 s9 hp => ?_)
      obtain ⟨v9, ⟨rfl, hv9⟩, rfl⟩ := hp
      rw [hv9]
      refine g_iload (pc' := 611) (q := 1) C dL_law_609 rfl rfl ?_
      refine g_icmp_eq (tgt := 616) (pc' := 614) C dL_law_611 rfl (by decide) (fun _ => ?_) (fun h9 => absurd (congrArg Int32.toInt hkt) h9)
      refine g_iload (pc' := 618) (q := 1) C dL_law_616 rfl rfl ?_
      refine g_if_ne (tgt := 640) (pc' := 621) C dL_law_618 rfl (by decide) (fun ck => ?_) (fun (ck : k0.toInt = 0) => ?_)
      · skip
        refine g_goto (tgt := 1609) C dL_law_640 (by decide) ?_
        exact g_widen (by omega) (by omega) (g_sub (L' := [(0, .ref b), (1, .ref (ax 0)), (2, .ref (am 0)), (3, .ref o), (4, .int (nI (5 * j)))]) [2, 3, 4, 5, 6] rfl (next _ _ _ hR2))
      · have hk0 : k0 = 0 := Int32.toInt_inj.mp (ck.trans ti_0.symm)
        refine g_aload_n (pc' := 622) (q := 5) C dL_law_621 rfl rfl rfl ?_
        refine g_iconst (pc' := 623) (v := 0) C dL_law_622 rfl (by decide) ?_
        refine g_lald (pc' := 624) (n := 1) C 75 3 (wA_out _ _ _ _ _ _ _ _) rfl (vp_of (by decide) (by decide)) (k := 0) rfl dL_law_623 rfl ?_
        refine g_iload (pc' := 626) (q := 0) C dL_law_624 rfl rfl ?_
        refine g_if_eq (tgt := 633) (pc' := 629) C dL_law_626 rfl (by decide) (fun (cb : rb.toInt = 0) => ?_) (fun (cb : ¬ rb.toInt = 0) => ?_)
        · skip
          refine g_lconst (pc' := 634) (v := 0) C dL_law_633 rfl (by decide) ?_
          refine g_lcmp (pc' := 635) C dL_law_634 rfl ?_
          refine g_if_eq (tgt := 640) (pc' := 638) C dL_law_635 rfl (by decide) (fun _ => ?_) (fun h9 => absurd (lg_self ((hkv hk0).trans (by unfold lbI; rw [if_pos cb]))) h9)
          refine g_goto (tgt := 1609) C dL_law_640 (by decide) ?_
          exact g_widen (by omega) (by omega) (g_sub (L' := [(0, .ref b), (1, .ref (ax 0)), (2, .ref (am 0)), (3, .ref o), (4, .int (nI (5 * j)))]) [2, 3, 4, 5, 6] rfl (next _ _ _ hR2))
        · skip
          refine g_lconst (pc' := 630) (v := 1) C dL_law_629 rfl (by decide) ?_
          refine g_goto (tgt := 634) C dL_law_630 (by decide) ?_
          refine g_lcmp (pc' := 635) C dL_law_634 rfl ?_
          refine g_if_eq (tgt := 640) (pc' := 638) C dL_law_635 rfl (by decide) (fun _ => ?_) (fun h9 => absurd (lg_self ((hkv hk0).trans (by unfold lbI; rw [if_neg cb]))) h9)
          refine g_goto (tgt := 1609) C dL_law_640 (by decide) ?_
          exact g_widen (by omega) (by omega) (g_sub (L' := [(0, .ref b), (1, .ref (ax 0)), (2, .ref (am 0)), (3, .ref o), (4, .int (nI (5 * j)))]) [2, 3, 4, 5, 6] rfl (next _ _ _ hR2))
    · skip
      refine g_iconst (pc' := 596) (v := 1) C dL_law_595 rfl (by decide) ?_
      refine g_goto (tgt := 600) C dL_law_596 (by decide) ?_
      refine g_conv (show (1 : Int32) = bP (¬ (xs (5 * j + 2)).toInt = 0) from (bP_t cz).symm) ?_
      refine g_calliV (pc' := 603) (As := [.int (xs (5 * j + 1)), .int (bP (¬ (xs (5 * j + 2)).toInt = 0))]) (st := []) (cells' := c0 + 3 * j + 2) (slots' := s0 + 18 * j + 12) C (fr_KI (wg := wAll cI cZ cQ cL ax am o) (tysG := tyL cI cZ cQ cL) (emb := fun v : LU => ((s2.1, v, s2.2) : LU × LU × (Nat → Int64))) (E1 := wL cI cZ cQ cL ax o s2) (E2 := []) (fun v => by simp [wAll]) [0, 1, 2] rfl (c_X1_hold (l := l) (D := D) (cI := cI) (cZ := cZ) (cQ := cQ) (a := am) M (xs (5 * j + 1)) (¬ (xs (5 * j + 2)).toInt = 0) hR.im)) gL_law_X1_hold rfl (by decide +kernel) ⟨Nat.le_of_ble_eq_true rfl, Nat.le_of_ble_eq_true rfl⟩ 76 (wA_M _ _ _ _ _ _ _ _) rfl (n := 2) rfl rfl (Nat.le_of_ble_eq_true rfl) dL_law_600 rfl (by rfl) (by rfl) ⟨(by show c0 + 3 * j + 2 ≤ 601024; omega), (by show s0 + 18 * j + 12 ≤ 7293034; omega)⟩ (fun rb s9 hp => ?_)
      obtain ⟨M1, hm, rfl⟩ := hp
      obtain ⟨hR2, hkt, hkv⟩ := sim_hold hR (by omega) (xs (5 * j + 1)) (¬ (xs (5 * j + 2)).toInt = 0) hw hm
      refine g_istore (pc' := 605) (L' := [(6, .int rb), (5, .int k0), (0, .ref b), (1, .ref (ax 0)), (2, .ref (am 0)), (3, .ref o), (4, .int (nI (5 * j)))]) C dL_law_603 rfl (by decide) rfl ?_
      refine g_aload_n (pc' := 606) (q := 4) C dL_law_605 rfl rfl rfl ?_
      refine g_calliV (pc' := 609) (As := []) (st := []) (cells' := c0 + 3 * j + 2) (slots' := s0 + 18 * j + 12) C (fr_KI (wg := wAll cI cZ cQ cL ax am o) (tysG := tyL cI cZ cQ cL) (emb := fun v : LU => ((s2.1, v, s2.2) : LU × LU × (Nat → Int64))) (E1 := wL cI cZ cQ cL ax o s2) (E2 := []) (fun v => by simp [wAll]) [0, 1, 2] rfl (c_X1_thrown (l := l) (D := D) (cI := cI) (cZ := cZ) (cQ := cQ) (a := am) M1)) gL_law_X1_thrown rfl (by decide +kernel) ⟨Nat.le_of_ble_eq_true rfl, Nat.le_of_ble_eq_true rfl⟩ 76 (wA_M _ _ _ _ _ _ _ _) rfl (n := 0) rfl rfl (Nat.le_of_ble_eq_true rfl) dL_law_606 rfl (by rfl) (by rfl) ⟨(by show c0 + 3 * j + 2 ≤ 601024; omega), (by show s0 + 18 * j + 12 ≤ 7293034; omega)⟩ (fun r1 s9 hp => ?_)
      obtain ⟨v9, ⟨rfl, hv9⟩, rfl⟩ := hp
      rw [hv9]
      refine g_iload (pc' := 611) (q := 1) C dL_law_609 rfl rfl ?_
      refine g_icmp_eq (tgt := 616) (pc' := 614) C dL_law_611 rfl (by decide) (fun _ => ?_) (fun h9 => absurd (congrArg Int32.toInt hkt) h9)
      refine g_iload (pc' := 618) (q := 1) C dL_law_616 rfl rfl ?_
      refine g_if_ne (tgt := 640) (pc' := 621) C dL_law_618 rfl (by decide) (fun ck => ?_) (fun (ck : k0.toInt = 0) => ?_)
      · skip
        refine g_goto (tgt := 1609) C dL_law_640 (by decide) ?_
        exact g_widen (by omega) (by omega) (g_sub (L' := [(0, .ref b), (1, .ref (ax 0)), (2, .ref (am 0)), (3, .ref o), (4, .int (nI (5 * j)))]) [2, 3, 4, 5, 6] rfl (next _ _ _ hR2))
      · have hk0 : k0 = 0 := Int32.toInt_inj.mp (ck.trans ti_0.symm)
        refine g_aload_n (pc' := 622) (q := 5) C dL_law_621 rfl rfl rfl ?_
        refine g_iconst (pc' := 623) (v := 0) C dL_law_622 rfl (by decide) ?_
        refine g_lald (pc' := 624) (n := 1) C 75 3 (wA_out _ _ _ _ _ _ _ _) rfl (vp_of (by decide) (by decide)) (k := 0) rfl dL_law_623 rfl ?_
        refine g_iload (pc' := 626) (q := 0) C dL_law_624 rfl rfl ?_
        refine g_if_eq (tgt := 633) (pc' := 629) C dL_law_626 rfl (by decide) (fun (cb : rb.toInt = 0) => ?_) (fun (cb : ¬ rb.toInt = 0) => ?_)
        · skip
          refine g_lconst (pc' := 634) (v := 0) C dL_law_633 rfl (by decide) ?_
          refine g_lcmp (pc' := 635) C dL_law_634 rfl ?_
          refine g_if_eq (tgt := 640) (pc' := 638) C dL_law_635 rfl (by decide) (fun _ => ?_) (fun h9 => absurd (lg_self ((hkv hk0).trans (by unfold lbI; rw [if_pos cb]))) h9)
          refine g_goto (tgt := 1609) C dL_law_640 (by decide) ?_
          exact g_widen (by omega) (by omega) (g_sub (L' := [(0, .ref b), (1, .ref (ax 0)), (2, .ref (am 0)), (3, .ref o), (4, .int (nI (5 * j)))]) [2, 3, 4, 5, 6] rfl (next _ _ _ hR2))
        · skip
          refine g_lconst (pc' := 630) (v := 1) C dL_law_629 rfl (by decide) ?_
          refine g_goto (tgt := 634) C dL_law_630 (by decide) ?_
          refine g_lcmp (pc' := 635) C dL_law_634 rfl ?_
          refine g_if_eq (tgt := 640) (pc' := 638) C dL_law_635 rfl (by decide) (fun _ => ?_) (fun h9 => absurd (lg_self ((hkv hk0).trans (by unfold lbI; rw [if_neg cb]))) h9)
          refine g_goto (tgt := 1609) C dL_law_640 (by decide) ?_
          exact g_widen (by omega) (by omega) (g_sub (L' := [(0, .ref b), (1, .ref (ax 0)), (2, .ref (am 0)), (3, .ref o), (4, .int (nI (5 * j)))]) [2, 3, 4, 5, 6] rfl (next _ _ _ hR2))
set_option maxHeartbeats 4000000 in
set_option maxRecDepth 100000 in
theorem law_case_7 {p : Program} {l : Launch} {e : Env} {s : State} {m : MethodId} {below : List Frame} {meth : Method} {c : Code} {D : va_G} {cI cZ cQ cL : ClassId} {ax am : Nat → Nat} {o b L9 : Nat} {xs : Nat → Int32} (hlt : l.stackTraces = false) (C : CX p s m #[.ref b] meth c D (tyL cI cZ cQ cL) (fun q => s.heap.size ≤ q) RL cL_law wsL_law 7 (wAll cI cZ cQ cL ax am o)) (hr : meth.sig.returnType = ret) (hE : EV (fun q => s.heap.size ≤ q) s s.heap tx0) (hXs : va_X b L9 xs s s.heap) (hbl : b < s.heap.size) {c0 s0 : Nat} (hc0 : c0 + 1600 ≤ 601024) (hs0 : s0 + 9600 ≤ 7293034) {j : Nat} {X M : LU} {f : Nat → Int64} (hj : 5 * j + 5 ≤ L9) (hL9 : L9 ≤ 2560) (hR : Rel (10000 * (j : Int)) X M) (next : ∀ (X2 M2 : LU) (f2 : Nat → Int64), Rel (10000 * (j : Int) + 10000) X2 M2 → G p l e room_1 s m #[.ref b] below meth c D (fun q => s.heap.size ≤ q) 7 (wAll cI cZ cQ cL ax am o) (c0 + 3 * j + 3) (s0 + 18 * j + 18) (lw_Z below #[.ref b] s) (X2, M2, f2) 1609 [(0, .ref b), (1, .ref (ax 0)), (2, .ref (am 0)), (3, .ref o), (4, .int (nI (5 * j)))] []) : G p l e room_1 s m #[.ref b] below meth c D (fun q => s.heap.size ≤ q) 7 (wAll cI cZ cQ cL ax am o) (c0 + 3 * j) (s0 + 18 * j) (lw_Z below #[.ref b] s) (X, M, f) 643 [(0, .ref b), (1, .ref (ax 0)), (2, .ref (am 0)), (3, .ref o), (4, .int (nI (5 * j)))] [] := by
  refine g_aload_n (pc' := 644) (q := 1) C dL_law_643 rfl rfl rfl ?_
  refine g_aload_n (pc' := 645) (q := 0) C dL_law_644 rfl rfl rfl ?_
  refine g_iload (pc' := 647) (q := 4) C dL_law_645 rfl rfl ?_
  refine g_iconst (pc' := 648) (v := 1) C dL_law_647 rfl (by decide) ?_
  refine g_iadd (pc' := 649) C dL_law_648 rfl ?_
  refine g_conv (show nI (5 * j) + 1 = nI (5 * j + 1) from nI_add (5 * j) 1) ?_
  refine g_sld (pc' := 650) (k := 5 * j + 1) C hXs hbl (Nat.not_le.mpr hbl) (vp_in_nI (by omega) (by omega)) (nI_clamp (by omega)) dL_law_649 rfl ?_
  refine g_aload_n (pc' := 651) (q := 3) C dL_law_650 rfl rfl rfl ?_
  have hM1 := fr_XI (wg := wAll cI cZ cQ cL ax am o) (tysG := tyL cI cZ cQ cL) (emb := fun v : LU × (Nat → Int64) => ((v.1, M, v.2) : LU × LU × (Nat → Int64))) (E1 := []) (E2 := wM cI cZ am M) (fun v => rfl) [0, 1, 2, 3] rfl (c_L_scrap (l := l) (D := D) (cI := cI) (cZ := cZ) (cQ := cQ) (cL := cL) (a := ax) (o := o) (posti := pX_scrap X (xs (5 * j + 1))) (xp := eX_scrap X (xs (5 * j + 1))) X f (xs (5 * j + 1)) (c_X0_scrap hlt X (xs (5 * j + 1)) hR.ix) (hxs_scrap X (xs (5 * j + 1))))
  refine g_callW (pc' := 654) (As := [.ref (ax 0), .int (xs (5 * j + 1)), .ref o]) (st := []) (cells' := c0 + 3 * j + 2) (slots' := s0 + 18 * j + 12) C hE hM1 gL_law_L_scrap rfl (by decide +kernel) ⟨Nat.le_of_ble_eq_true rfl, Nat.le_of_ble_eq_true rfl⟩ (n := 3) rfl rfl (Nat.le_of_ble_eq_true rfl) dL_law_651 rfl rfl rfl ⟨(by show c0 + 3 * j + 2 ≤ 601024; omega), (by show s0 + 18 * j + 12 ≤ 7293034; omega)⟩ (fun k0 s9 hp => ?_)
  obtain ⟨s2, hw, rfl⟩ := hp
  refine g_istore (pc' := 656) (L' := [(5, .int k0), (0, .ref b), (1, .ref (ax 0)), (2, .ref (am 0)), (3, .ref o), (4, .int (nI (5 * j)))]) C dL_law_654 rfl (by decide) rfl ?_
  refine g_aload_n (pc' := 657) (q := 3) C dL_law_656 rfl rfl rfl ?_
  refine g_aload_n (pc' := 658) (q := 1) C dL_law_657 rfl rfl rfl ?_
  refine g_iload (pc' := 660) (q := 5) C dL_law_658 rfl rfl ?_
  refine g_iconst (pc' := 661) (v := 1) C dL_law_660 rfl (by decide) ?_
  refine g_iadd (pc' := 662) C dL_law_661 rfl ?_
  refine g_conv (show nI (5 * j) + 1 = nI (5 * j + 1) from nI_add (5 * j) 1) ?_
  refine g_sld (pc' := 663) (k := 5 * j + 1) C hXs hbl (Nat.not_le.mpr hbl) (vp_in_nI (by omega) (by omega)) (nI_clamp (by omega)) dL_law_662 rfl ?_
  refine g_calliV (pc' := 666) (As := [.int (xs (5 * j + 1))]) (st := []) (cells' := c0 + 3 * j + 2) (slots' := s0 + 18 * j + 12) C (fr_KI (wg := wAll cI cZ cQ cL ax am o) (tysG := tyL cI cZ cQ cL) (emb := fun v : LU => ((s2.1, v, s2.2) : LU × LU × (Nat → Int64))) (E1 := wL cI cZ cQ cL ax o s2) (E2 := []) (fun v => by simp [wAll]) [0, 1, 2] rfl (c_X1_scrap (l := l) (D := D) (cI := cI) (cZ := cZ) (cQ := cQ) (a := am) M (xs (5 * j + 1)) hR.im)) gL_law_X1_scrap rfl (by decide +kernel) ⟨Nat.le_of_ble_eq_true rfl, Nat.le_of_ble_eq_true rfl⟩ 76 (wA_M _ _ _ _ _ _ _ _) rfl (n := 1) rfl rfl (Nat.le_of_ble_eq_true rfl) dL_law_663 rfl (by rfl) (by rfl) ⟨(by show c0 + 3 * j + 2 ≤ 601024; omega), (by show s0 + 18 * j + 12 ≤ 7293034; omega)⟩ (fun rb s9 hp => ?_)
  obtain ⟨M1, hm, rfl⟩ := hp
  obtain ⟨hR2, hkt, hkv⟩ := sim_scrap hR (by omega) (xs (5 * j + 1)) hw hm
  refine g_istore (pc' := 668) (L' := [(6, .int rb), (5, .int k0), (0, .ref b), (1, .ref (ax 0)), (2, .ref (am 0)), (3, .ref o), (4, .int (nI (5 * j)))]) C dL_law_666 rfl (by decide) rfl ?_
  refine g_aload_n (pc' := 669) (q := 4) C dL_law_668 rfl rfl rfl ?_
  refine g_calliV (pc' := 672) (As := []) (st := []) (cells' := c0 + 3 * j + 2) (slots' := s0 + 18 * j + 12) C (fr_KI (wg := wAll cI cZ cQ cL ax am o) (tysG := tyL cI cZ cQ cL) (emb := fun v : LU => ((s2.1, v, s2.2) : LU × LU × (Nat → Int64))) (E1 := wL cI cZ cQ cL ax o s2) (E2 := []) (fun v => by simp [wAll]) [0, 1, 2] rfl (c_X1_thrown (l := l) (D := D) (cI := cI) (cZ := cZ) (cQ := cQ) (a := am) M1)) gL_law_X1_thrown rfl (by decide +kernel) ⟨Nat.le_of_ble_eq_true rfl, Nat.le_of_ble_eq_true rfl⟩ 76 (wA_M _ _ _ _ _ _ _ _) rfl (n := 0) rfl rfl (Nat.le_of_ble_eq_true rfl) dL_law_669 rfl (by rfl) (by rfl) ⟨(by show c0 + 3 * j + 2 ≤ 601024; omega), (by show s0 + 18 * j + 12 ≤ 7293034; omega)⟩ (fun r1 s9 hp => ?_)
  obtain ⟨v9, ⟨rfl, hv9⟩, rfl⟩ := hp
  rw [hv9]
  refine g_iload (pc' := 674) (q := 1) C dL_law_672 rfl rfl ?_
  refine g_icmp_eq (tgt := 679) (pc' := 677) C dL_law_674 rfl (by decide) (fun _ => ?_) (fun h9 => absurd (congrArg Int32.toInt hkt) h9)
  refine g_iload (pc' := 681) (q := 1) C dL_law_679 rfl rfl ?_
  refine g_if_ne (tgt := 696) (pc' := 684) C dL_law_681 rfl (by decide) (fun ck => ?_) (fun (ck : k0.toInt = 0) => ?_)
  · skip
    refine g_goto (tgt := 1609) C dL_law_696 (by decide) ?_
    exact g_widen (by omega) (by omega) (g_sub (L' := [(0, .ref b), (1, .ref (ax 0)), (2, .ref (am 0)), (3, .ref o), (4, .int (nI (5 * j)))]) [2, 3, 4, 5, 6] rfl (next _ _ _ hR2))
  · have hk0 : k0 = 0 := Int32.toInt_inj.mp (ck.trans ti_0.symm)
    refine g_aload_n (pc' := 685) (q := 5) C dL_law_684 rfl rfl rfl ?_
    refine g_iconst (pc' := 686) (v := 0) C dL_law_685 rfl (by decide) ?_
    refine g_lald (pc' := 687) (n := 1) C 75 3 (wA_out _ _ _ _ _ _ _ _) rfl (vp_of (by decide) (by decide)) (k := 0) rfl dL_law_686 rfl ?_
    refine g_iload (pc' := 689) (q := 0) C dL_law_687 rfl rfl ?_
    refine g_i2l (pc' := 690) C dL_law_689 rfl ?_
    refine g_lcmp (pc' := 691) C dL_law_690 rfl ?_
    refine g_if_eq (tgt := 696) (pc' := 694) C dL_law_691 rfl (by decide) (fun _ => ?_) (fun h9 => absurd (lg_self (hkv hk0)) h9)
    refine g_goto (tgt := 1609) C dL_law_696 (by decide) ?_
    exact g_widen (by omega) (by omega) (g_sub (L' := [(0, .ref b), (1, .ref (ax 0)), (2, .ref (am 0)), (3, .ref o), (4, .int (nI (5 * j)))]) [2, 3, 4, 5, 6] rfl (next _ _ _ hR2))
set_option maxHeartbeats 4000000 in
set_option maxRecDepth 100000 in
theorem law_case_8 {p : Program} {l : Launch} {e : Env} {s : State} {m : MethodId} {below : List Frame} {meth : Method} {c : Code} {D : va_G} {cI cZ cQ cL : ClassId} {ax am : Nat → Nat} {o b L9 : Nat} {xs : Nat → Int32} (hlt : l.stackTraces = false) (C : CX p s m #[.ref b] meth c D (tyL cI cZ cQ cL) (fun q => s.heap.size ≤ q) RL cL_law wsL_law 7 (wAll cI cZ cQ cL ax am o)) (hr : meth.sig.returnType = ret) (hE : EV (fun q => s.heap.size ≤ q) s s.heap tx0) (hXs : va_X b L9 xs s s.heap) (hbl : b < s.heap.size) {c0 s0 : Nat} (hc0 : c0 + 1600 ≤ 601024) (hs0 : s0 + 9600 ≤ 7293034) {j : Nat} {X M : LU} {f : Nat → Int64} (hj : 5 * j + 5 ≤ L9) (hL9 : L9 ≤ 2560) (hR : Rel (10000 * (j : Int)) X M) (next : ∀ (X2 M2 : LU) (f2 : Nat → Int64), Rel (10000 * (j : Int) + 10000) X2 M2 → G p l e room_1 s m #[.ref b] below meth c D (fun q => s.heap.size ≤ q) 7 (wAll cI cZ cQ cL ax am o) (c0 + 3 * j + 3) (s0 + 18 * j + 18) (lw_Z below #[.ref b] s) (X2, M2, f2) 1609 [(0, .ref b), (1, .ref (ax 0)), (2, .ref (am 0)), (3, .ref o), (4, .int (nI (5 * j)))] []) : G p l e room_1 s m #[.ref b] below meth c D (fun q => s.heap.size ≤ q) 7 (wAll cI cZ cQ cL ax am o) (c0 + 3 * j) (s0 + 18 * j) (lw_Z below #[.ref b] s) (X, M, f) 699 [(0, .ref b), (1, .ref (ax 0)), (2, .ref (am 0)), (3, .ref o), (4, .int (nI (5 * j)))] [] := by
  refine g_aload_n (pc' := 700) (q := 1) C dL_law_699 rfl rfl rfl ?_
  refine g_aload_n (pc' := 701) (q := 0) C dL_law_700 rfl rfl rfl ?_
  refine g_iload (pc' := 703) (q := 4) C dL_law_701 rfl rfl ?_
  refine g_iconst (pc' := 704) (v := 1) C dL_law_703 rfl (by decide) ?_
  refine g_iadd (pc' := 705) C dL_law_704 rfl ?_
  refine g_conv (show nI (5 * j) + 1 = nI (5 * j + 1) from nI_add (5 * j) 1) ?_
  refine g_sld (pc' := 706) (k := 5 * j + 1) C hXs hbl (Nat.not_le.mpr hbl) (vp_in_nI (by omega) (by omega)) (nI_clamp (by omega)) dL_law_705 rfl ?_
  refine g_aload_n (pc' := 707) (q := 3) C dL_law_706 rfl rfl rfl ?_
  have hM1 := fr_XI (wg := wAll cI cZ cQ cL ax am o) (tysG := tyL cI cZ cQ cL) (emb := fun v : LU × (Nat → Int64) => ((v.1, M, v.2) : LU × LU × (Nat → Int64))) (E1 := []) (E2 := wM cI cZ am M) (fun v => rfl) [0, 1, 2, 3] rfl (c_L_advance (l := l) (D := D) (cI := cI) (cZ := cZ) (cQ := cQ) (cL := cL) (a := ax) (o := o) (posti := pX_advance X (xs (5 * j + 1))) (xp := eX_advance X (xs (5 * j + 1))) X f (xs (5 * j + 1)) (c_X0_advance hlt X (xs (5 * j + 1)) hR.ix) (hxs_advance X (xs (5 * j + 1))))
  refine g_callW (pc' := 710) (As := [.ref (ax 0), .int (xs (5 * j + 1)), .ref o]) (st := []) (cells' := c0 + 3 * j + 1) (slots' := s0 + 18 * j + 6) C hE hM1 gL_law_L_advance rfl (by decide +kernel) ⟨Nat.le_of_ble_eq_true rfl, Nat.le_of_ble_eq_true rfl⟩ (n := 3) rfl rfl (Nat.le_of_ble_eq_true rfl) dL_law_707 rfl rfl rfl ⟨(by show c0 + 3 * j + 1 ≤ 601024; omega), (by show s0 + 18 * j + 6 ≤ 7293034; omega)⟩ (fun k0 s9 hp => ?_)
  obtain ⟨s2, hw, rfl⟩ := hp
  refine g_istore (pc' := 712) (L' := [(5, .int k0), (0, .ref b), (1, .ref (ax 0)), (2, .ref (am 0)), (3, .ref o), (4, .int (nI (5 * j)))]) C dL_law_710 rfl (by decide) rfl ?_
  refine g_aload_n (pc' := 713) (q := 3) C dL_law_712 rfl rfl rfl ?_
  refine g_aload_n (pc' := 714) (q := 1) C dL_law_713 rfl rfl rfl ?_
  refine g_iload (pc' := 716) (q := 5) C dL_law_714 rfl rfl ?_
  refine g_iconst (pc' := 717) (v := 1) C dL_law_716 rfl (by decide) ?_
  refine g_iadd (pc' := 718) C dL_law_717 rfl ?_
  refine g_conv (show nI (5 * j) + 1 = nI (5 * j + 1) from nI_add (5 * j) 1) ?_
  refine g_sld (pc' := 719) (k := 5 * j + 1) C hXs hbl (Nat.not_le.mpr hbl) (vp_in_nI (by omega) (by omega)) (nI_clamp (by omega)) dL_law_718 rfl ?_
  refine g_calliV (pc' := 722) (As := [.int (xs (5 * j + 1))]) (st := []) (cells' := c0 + 3 * j + 1) (slots' := s0 + 18 * j + 6) C (fr_KI (wg := wAll cI cZ cQ cL ax am o) (tysG := tyL cI cZ cQ cL) (emb := fun v : LU => ((s2.1, v, s2.2) : LU × LU × (Nat → Int64))) (E1 := wL cI cZ cQ cL ax o s2) (E2 := []) (fun v => by simp [wAll]) [0, 1, 2] rfl (c_X1_advance (l := l) (D := D) (cI := cI) (cZ := cZ) (cQ := cQ) (a := am) M (xs (5 * j + 1)) hR.im)) gL_law_X1_advance rfl (by decide +kernel) ⟨Nat.le_of_ble_eq_true rfl, Nat.le_of_ble_eq_true rfl⟩ 76 (wA_M _ _ _ _ _ _ _ _) rfl (n := 1) rfl rfl (Nat.le_of_ble_eq_true rfl) dL_law_719 rfl (by rfl) (by rfl) ⟨(by show c0 + 3 * j + 1 ≤ 601024; omega), (by show s0 + 18 * j + 6 ≤ 7293034; omega)⟩ (fun rb s9 hp => ?_)
  obtain ⟨M1, hm, rfl⟩ := hp
  obtain ⟨hR2, hkt, hkv⟩ := sim_advance hR (by omega) (xs (5 * j + 1)) hw hm
  refine g_istore (pc' := 724) (L' := [(6, .int rb), (5, .int k0), (0, .ref b), (1, .ref (ax 0)), (2, .ref (am 0)), (3, .ref o), (4, .int (nI (5 * j)))]) C dL_law_722 rfl (by decide) rfl ?_
  refine g_aload_n (pc' := 725) (q := 4) C dL_law_724 rfl rfl rfl ?_
  refine g_calliV (pc' := 728) (As := []) (st := []) (cells' := c0 + 3 * j + 1) (slots' := s0 + 18 * j + 6) C (fr_KI (wg := wAll cI cZ cQ cL ax am o) (tysG := tyL cI cZ cQ cL) (emb := fun v : LU => ((s2.1, v, s2.2) : LU × LU × (Nat → Int64))) (E1 := wL cI cZ cQ cL ax o s2) (E2 := []) (fun v => by simp [wAll]) [0, 1, 2] rfl (c_X1_thrown (l := l) (D := D) (cI := cI) (cZ := cZ) (cQ := cQ) (a := am) M1)) gL_law_X1_thrown rfl (by decide +kernel) ⟨Nat.le_of_ble_eq_true rfl, Nat.le_of_ble_eq_true rfl⟩ 76 (wA_M _ _ _ _ _ _ _ _) rfl (n := 0) rfl rfl (Nat.le_of_ble_eq_true rfl) dL_law_725 rfl (by rfl) (by rfl) ⟨(by show c0 + 3 * j + 1 ≤ 601024; omega), (by show s0 + 18 * j + 6 ≤ 7293034; omega)⟩ (fun r1 s9 hp => ?_)
  obtain ⟨v9, ⟨rfl, hv9⟩, rfl⟩ := hp
  rw [hv9]
  refine g_iload (pc' := 730) (q := 1) C dL_law_728 rfl rfl ?_
  refine g_icmp_eq (tgt := 735) (pc' := 733) C dL_law_730 rfl (by decide) (fun _ => ?_) (fun h9 => absurd (congrArg Int32.toInt hkt) h9)
  refine g_iload (pc' := 737) (q := 1) C dL_law_735 rfl rfl ?_
  refine g_if_ne (tgt := 752) (pc' := 740) C dL_law_737 rfl (by decide) (fun ck => ?_) (fun (ck : k0.toInt = 0) => ?_)
  · skip
    refine g_goto (tgt := 1609) C dL_law_752 (by decide) ?_
    exact g_widen (by omega) (by omega) (g_sub (L' := [(0, .ref b), (1, .ref (ax 0)), (2, .ref (am 0)), (3, .ref o), (4, .int (nI (5 * j)))]) [2, 3, 4, 5, 6] rfl (next _ _ _ hR2))
  · have hk0 : k0 = 0 := Int32.toInt_inj.mp (ck.trans ti_0.symm)
    refine g_aload_n (pc' := 741) (q := 5) C dL_law_740 rfl rfl rfl ?_
    refine g_iconst (pc' := 742) (v := 0) C dL_law_741 rfl (by decide) ?_
    refine g_lald (pc' := 743) (n := 1) C 75 3 (wA_out _ _ _ _ _ _ _ _) rfl (vp_of (by decide) (by decide)) (k := 0) rfl dL_law_742 rfl ?_
    refine g_iload (pc' := 745) (q := 0) C dL_law_743 rfl rfl ?_
    refine g_i2l (pc' := 746) C dL_law_745 rfl ?_
    refine g_lcmp (pc' := 747) C dL_law_746 rfl ?_
    refine g_if_eq (tgt := 752) (pc' := 750) C dL_law_747 rfl (by decide) (fun _ => ?_) (fun h9 => absurd (lg_self (hkv hk0)) h9)
    refine g_goto (tgt := 1609) C dL_law_752 (by decide) ?_
    exact g_widen (by omega) (by omega) (g_sub (L' := [(0, .ref b), (1, .ref (ax 0)), (2, .ref (am 0)), (3, .ref o), (4, .int (nI (5 * j)))]) [2, 3, 4, 5, 6] rfl (next _ _ _ hR2))
set_option maxHeartbeats 4000000 in
set_option maxRecDepth 100000 in
theorem law_case_9 {p : Program} {l : Launch} {e : Env} {s : State} {m : MethodId} {below : List Frame} {meth : Method} {c : Code} {D : va_G} {cI cZ cQ cL : ClassId} {ax am : Nat → Nat} {o b L9 : Nat} {xs : Nat → Int32} (hlt : l.stackTraces = false) (C : CX p s m #[.ref b] meth c D (tyL cI cZ cQ cL) (fun q => s.heap.size ≤ q) RL cL_law wsL_law 7 (wAll cI cZ cQ cL ax am o)) (hr : meth.sig.returnType = ret) (hE : EV (fun q => s.heap.size ≤ q) s s.heap tx0) (hXs : va_X b L9 xs s s.heap) (hbl : b < s.heap.size) {c0 s0 : Nat} (hc0 : c0 + 1600 ≤ 601024) (hs0 : s0 + 9600 ≤ 7293034) {j : Nat} {X M : LU} {f : Nat → Int64} (hj : 5 * j + 5 ≤ L9) (hL9 : L9 ≤ 2560) (hR : Rel (10000 * (j : Int)) X M) (next : ∀ (X2 M2 : LU) (f2 : Nat → Int64), Rel (10000 * (j : Int) + 10000) X2 M2 → G p l e room_1 s m #[.ref b] below meth c D (fun q => s.heap.size ≤ q) 7 (wAll cI cZ cQ cL ax am o) (c0 + 3 * j + 3) (s0 + 18 * j + 18) (lw_Z below #[.ref b] s) (X2, M2, f2) 1609 [(0, .ref b), (1, .ref (ax 0)), (2, .ref (am 0)), (3, .ref o), (4, .int (nI (5 * j)))] []) : G p l e room_1 s m #[.ref b] below meth c D (fun q => s.heap.size ≤ q) 7 (wAll cI cZ cQ cL ax am o) (c0 + 3 * j) (s0 + 18 * j) (lw_Z below #[.ref b] s) (X, M, f) 755 [(0, .ref b), (1, .ref (ax 0)), (2, .ref (am 0)), (3, .ref o), (4, .int (nI (5 * j)))] [] := by
  refine g_aload_n (pc' := 756) (q := 1) C dL_law_755 rfl rfl rfl ?_
  refine g_calliV (pc' := 759) (As := []) (st := []) (cells' := c0 + 3 * j) (slots' := s0 + 18 * j) C (fr_KI (wg := wAll cI cZ cQ cL ax am o) (tysG := tyL cI cZ cQ cL) (emb := fun v : LU => ((v, M, f) : LU × LU × (Nat → Int64))) (E1 := []) (E2 := [(o, .inl (cL, 1, .inr (.inl f)))] ++ wM cI cZ am M) (fun v => by simp [wAll, wL]) [0, 1, 2] rfl (c_X0_time (l := l) (D := D) (cI := cI) (cZ := cZ) (cQ := cQ) (a := ax) X)) gL_law_X0_time rfl (by decide +kernel) ⟨Nat.le_of_ble_eq_true rfl, Nat.le_of_ble_eq_true rfl⟩ 0 (by rfl) rfl (n := 0) rfl rfl (Nat.le_of_ble_eq_true rfl) dL_law_756 rfl (by rfl) (by rfl) ⟨(by show c0 + 3 * j ≤ 601024; omega), (by show s0 + 18 * j ≤ 7293034; omega)⟩ (fun r1 s9 hp => ?_)
  obtain ⟨v1, ⟨hr1, hv1⟩, rfl⟩ := hp
  rw [hv1]
  refine g_aload_n (pc' := 760) (q := 2) C dL_law_759 rfl rfl rfl ?_
  refine g_calliV (pc' := 763) (As := []) (st := [.int r1]) (cells' := c0 + 3 * j) (slots' := s0 + 18 * j) C (fr_KI (wg := wAll cI cZ cQ cL ax am o) (tysG := tyL cI cZ cQ cL) (emb := fun v : LU => ((X, v, f) : LU × LU × (Nat → Int64))) (E1 := wL cI cZ cQ cL ax o (X, f)) (E2 := []) (fun v => by simp [wAll]) [0, 1, 2] rfl (c_X1_time (l := l) (D := D) (cI := cI) (cZ := cZ) (cQ := cQ) (a := am) M  )) gL_law_X1_time rfl (by decide +kernel) ⟨Nat.le_of_ble_eq_true rfl, Nat.le_of_ble_eq_true rfl⟩ 76 (wA_M _ _ _ _ _ _ _ _) rfl (n := 0) rfl rfl (Nat.le_of_ble_eq_true rfl) dL_law_760 rfl (by rfl) (by rfl) ⟨(by show c0 + 3 * j ≤ 601024; omega), (by show s0 + 18 * j ≤ 7293034; omega)⟩ (fun rb s9 hp => ?_)
  obtain ⟨M1, hm, rfl⟩ := hp
  obtain ⟨hm1, hm2⟩ := hm
  have heq : r1.toInt = rb.toInt := by rw [hr1, hm1, hR.1.2.2.2.1]
  refine g_icmp_eq (tgt := 1609) (pc' := 766) C dL_law_763 rfl (by decide) (fun _ => ?_) (fun h9 => absurd heq h9)
  exact g_widen (by omega) (by omega) (g_sub (L' := [(0, .ref b), (1, .ref (ax 0)), (2, .ref (am 0)), (3, .ref o), (4, .int (nI (5 * j)))]) [0, 1, 2, 3, 4] rfl (next _ _ _ ((by rw [hm2]; exact (hR.up (by omega)) : Rel (10000 * (j : Int) + 10000) X M1))))
set_option maxHeartbeats 4000000 in
set_option maxRecDepth 100000 in
theorem law_case_10 {p : Program} {l : Launch} {e : Env} {s : State} {m : MethodId} {below : List Frame} {meth : Method} {c : Code} {D : va_G} {cI cZ cQ cL : ClassId} {ax am : Nat → Nat} {o b L9 : Nat} {xs : Nat → Int32} (hlt : l.stackTraces = false) (C : CX p s m #[.ref b] meth c D (tyL cI cZ cQ cL) (fun q => s.heap.size ≤ q) RL cL_law wsL_law 7 (wAll cI cZ cQ cL ax am o)) (hr : meth.sig.returnType = ret) (hE : EV (fun q => s.heap.size ≤ q) s s.heap tx0) (hXs : va_X b L9 xs s s.heap) (hbl : b < s.heap.size) {c0 s0 : Nat} (hc0 : c0 + 1600 ≤ 601024) (hs0 : s0 + 9600 ≤ 7293034) {j : Nat} {X M : LU} {f : Nat → Int64} (hj : 5 * j + 5 ≤ L9) (hL9 : L9 ≤ 2560) (hR : Rel (10000 * (j : Int)) X M) (next : ∀ (X2 M2 : LU) (f2 : Nat → Int64), Rel (10000 * (j : Int) + 10000) X2 M2 → G p l e room_1 s m #[.ref b] below meth c D (fun q => s.heap.size ≤ q) 7 (wAll cI cZ cQ cL ax am o) (c0 + 3 * j + 3) (s0 + 18 * j + 18) (lw_Z below #[.ref b] s) (X2, M2, f2) 1609 [(0, .ref b), (1, .ref (ax 0)), (2, .ref (am 0)), (3, .ref o), (4, .int (nI (5 * j)))] []) : G p l e room_1 s m #[.ref b] below meth c D (fun q => s.heap.size ≤ q) 7 (wAll cI cZ cQ cL ax am o) (c0 + 3 * j) (s0 + 18 * j) (lw_Z below #[.ref b] s) (X, M, f) 768 [(0, .ref b), (1, .ref (ax 0)), (2, .ref (am 0)), (3, .ref o), (4, .int (nI (5 * j)))] [] := by
  refine g_aload_n (pc' := 769) (q := 1) C dL_law_768 rfl rfl rfl ?_
  refine g_calliV (pc' := 772) (As := []) (st := []) (cells' := c0 + 3 * j) (slots' := s0 + 18 * j) C (fr_KI (wg := wAll cI cZ cQ cL ax am o) (tysG := tyL cI cZ cQ cL) (emb := fun v : LU => ((v, M, f) : LU × LU × (Nat → Int64))) (E1 := []) (E2 := [(o, .inl (cL, 1, .inr (.inl f)))] ++ wM cI cZ am M) (fun v => by simp [wAll, wL]) [0, 1, 2] rfl (c_X0_lots (l := l) (D := D) (cI := cI) (cZ := cZ) (cQ := cQ) (a := ax) X)) gL_law_X0_lots rfl (by decide +kernel) ⟨Nat.le_of_ble_eq_true rfl, Nat.le_of_ble_eq_true rfl⟩ 0 (by rfl) rfl (n := 0) rfl rfl (Nat.le_of_ble_eq_true rfl) dL_law_769 rfl (by rfl) (by rfl) ⟨(by show c0 + 3 * j ≤ 601024; omega), (by show s0 + 18 * j ≤ 7293034; omega)⟩ (fun r1 s9 hp => ?_)
  obtain ⟨v1, ⟨hr1, hv1⟩, rfl⟩ := hp
  rw [hv1]
  refine g_aload_n (pc' := 773) (q := 2) C dL_law_772 rfl rfl rfl ?_
  refine g_calliV (pc' := 776) (As := []) (st := [.int r1]) (cells' := c0 + 3 * j) (slots' := s0 + 18 * j) C (fr_KI (wg := wAll cI cZ cQ cL ax am o) (tysG := tyL cI cZ cQ cL) (emb := fun v : LU => ((X, v, f) : LU × LU × (Nat → Int64))) (E1 := wL cI cZ cQ cL ax o (X, f)) (E2 := []) (fun v => by simp [wAll]) [0, 1, 2] rfl (c_X1_lots (l := l) (D := D) (cI := cI) (cZ := cZ) (cQ := cQ) (a := am) M  )) gL_law_X1_lots rfl (by decide +kernel) ⟨Nat.le_of_ble_eq_true rfl, Nat.le_of_ble_eq_true rfl⟩ 76 (wA_M _ _ _ _ _ _ _ _) rfl (n := 0) rfl rfl (Nat.le_of_ble_eq_true rfl) dL_law_773 rfl (by rfl) (by rfl) ⟨(by show c0 + 3 * j ≤ 601024; omega), (by show s0 + 18 * j ≤ 7293034; omega)⟩ (fun rb s9 hp => ?_)
  obtain ⟨M1, hm, rfl⟩ := hp
  obtain ⟨hm1, hm2⟩ := hm
  have heq : r1.toInt = rb.toInt := by rw [hr1, hm1, hR.1.2.1]
  refine g_icmp_eq (tgt := 1609) (pc' := 779) C dL_law_776 rfl (by decide) (fun _ => ?_) (fun h9 => absurd heq h9)
  exact g_widen (by omega) (by omega) (g_sub (L' := [(0, .ref b), (1, .ref (ax 0)), (2, .ref (am 0)), (3, .ref o), (4, .int (nI (5 * j)))]) [0, 1, 2, 3, 4] rfl (next _ _ _ ((by rw [hm2]; exact (hR.up (by omega)) : Rel (10000 * (j : Int) + 10000) X M1))))
set_option maxHeartbeats 4000000 in
set_option maxRecDepth 100000 in
theorem law_case_11 {p : Program} {l : Launch} {e : Env} {s : State} {m : MethodId} {below : List Frame} {meth : Method} {c : Code} {D : va_G} {cI cZ cQ cL : ClassId} {ax am : Nat → Nat} {o b L9 : Nat} {xs : Nat → Int32} (hlt : l.stackTraces = false) (C : CX p s m #[.ref b] meth c D (tyL cI cZ cQ cL) (fun q => s.heap.size ≤ q) RL cL_law wsL_law 7 (wAll cI cZ cQ cL ax am o)) (hr : meth.sig.returnType = ret) (hE : EV (fun q => s.heap.size ≤ q) s s.heap tx0) (hXs : va_X b L9 xs s s.heap) (hbl : b < s.heap.size) {c0 s0 : Nat} (hc0 : c0 + 1600 ≤ 601024) (hs0 : s0 + 9600 ≤ 7293034) {j : Nat} {X M : LU} {f : Nat → Int64} (hj : 5 * j + 5 ≤ L9) (hL9 : L9 ≤ 2560) (hR : Rel (10000 * (j : Int)) X M) (next : ∀ (X2 M2 : LU) (f2 : Nat → Int64), Rel (10000 * (j : Int) + 10000) X2 M2 → G p l e room_1 s m #[.ref b] below meth c D (fun q => s.heap.size ≤ q) 7 (wAll cI cZ cQ cL ax am o) (c0 + 3 * j + 3) (s0 + 18 * j + 18) (lw_Z below #[.ref b] s) (X2, M2, f2) 1609 [(0, .ref b), (1, .ref (ax 0)), (2, .ref (am 0)), (3, .ref o), (4, .int (nI (5 * j)))] []) : G p l e room_1 s m #[.ref b] below meth c D (fun q => s.heap.size ≤ q) 7 (wAll cI cZ cQ cL ax am o) (c0 + 3 * j) (s0 + 18 * j) (lw_Z below #[.ref b] s) (X, M, f) 781 [(0, .ref b), (1, .ref (ax 0)), (2, .ref (am 0)), (3, .ref o), (4, .int (nI (5 * j)))] [] := by
  refine g_aload_n (pc' := 782) (q := 1) C dL_law_781 rfl rfl rfl ?_
  refine g_calliV (pc' := 785) (As := []) (st := []) (cells' := c0 + 3 * j) (slots' := s0 + 18 * j) C (fr_KI (wg := wAll cI cZ cQ cL ax am o) (tysG := tyL cI cZ cQ cL) (emb := fun v : LU => ((v, M, f) : LU × LU × (Nat → Int64))) (E1 := []) (E2 := [(o, .inl (cL, 1, .inr (.inl f)))] ++ wM cI cZ am M) (fun v => by simp [wAll, wL]) [0, 1, 2] rfl (c_X0_wafers (l := l) (D := D) (cI := cI) (cZ := cZ) (cQ := cQ) (a := ax) X)) gL_law_X0_wafers rfl (by decide +kernel) ⟨Nat.le_of_ble_eq_true rfl, Nat.le_of_ble_eq_true rfl⟩ 0 (by rfl) rfl (n := 0) rfl rfl (Nat.le_of_ble_eq_true rfl) dL_law_782 rfl (by rfl) (by rfl) ⟨(by show c0 + 3 * j ≤ 601024; omega), (by show s0 + 18 * j ≤ 7293034; omega)⟩ (fun r1 s9 hp => ?_)
  obtain ⟨v1, ⟨hr1, hv1⟩, rfl⟩ := hp
  rw [hv1]
  refine g_aload_n (pc' := 786) (q := 2) C dL_law_785 rfl rfl rfl ?_
  refine g_calliV (pc' := 789) (As := []) (st := [.int r1]) (cells' := c0 + 3 * j) (slots' := s0 + 18 * j) C (fr_KI (wg := wAll cI cZ cQ cL ax am o) (tysG := tyL cI cZ cQ cL) (emb := fun v : LU => ((X, v, f) : LU × LU × (Nat → Int64))) (E1 := wL cI cZ cQ cL ax o (X, f)) (E2 := []) (fun v => by simp [wAll]) [0, 1, 2] rfl (c_X1_wafers (l := l) (D := D) (cI := cI) (cZ := cZ) (cQ := cQ) (a := am) M  )) gL_law_X1_wafers rfl (by decide +kernel) ⟨Nat.le_of_ble_eq_true rfl, Nat.le_of_ble_eq_true rfl⟩ 76 (wA_M _ _ _ _ _ _ _ _) rfl (n := 0) rfl rfl (Nat.le_of_ble_eq_true rfl) dL_law_786 rfl (by rfl) (by rfl) ⟨(by show c0 + 3 * j ≤ 601024; omega), (by show s0 + 18 * j ≤ 7293034; omega)⟩ (fun rb s9 hp => ?_)
  obtain ⟨M1, hm, rfl⟩ := hp
  obtain ⟨hm1, hm2⟩ := hm
  have heq : r1.toInt = rb.toInt := by rw [hr1, hm1, hR.1.2.2.1]
  refine g_icmp_eq (tgt := 1609) (pc' := 792) C dL_law_789 rfl (by decide) (fun _ => ?_) (fun h9 => absurd heq h9)
  exact g_widen (by omega) (by omega) (g_sub (L' := [(0, .ref b), (1, .ref (ax 0)), (2, .ref (am 0)), (3, .ref o), (4, .int (nI (5 * j)))]) [0, 1, 2, 3, 4] rfl (next _ _ _ ((by rw [hm2]; exact (hR.up (by omega)) : Rel (10000 * (j : Int) + 10000) X M1))))
set_option maxHeartbeats 4000000 in
set_option maxRecDepth 100000 in
theorem law_case_12 {p : Program} {l : Launch} {e : Env} {s : State} {m : MethodId} {below : List Frame} {meth : Method} {c : Code} {D : va_G} {cI cZ cQ cL : ClassId} {ax am : Nat → Nat} {o b L9 : Nat} {xs : Nat → Int32} (hlt : l.stackTraces = false) (C : CX p s m #[.ref b] meth c D (tyL cI cZ cQ cL) (fun q => s.heap.size ≤ q) RL cL_law wsL_law 7 (wAll cI cZ cQ cL ax am o)) (hr : meth.sig.returnType = ret) (hE : EV (fun q => s.heap.size ≤ q) s s.heap tx0) (hXs : va_X b L9 xs s s.heap) (hbl : b < s.heap.size) {c0 s0 : Nat} (hc0 : c0 + 1600 ≤ 601024) (hs0 : s0 + 9600 ≤ 7293034) {j : Nat} {X M : LU} {f : Nat → Int64} (hj : 5 * j + 5 ≤ L9) (hL9 : L9 ≤ 2560) (hR : Rel (10000 * (j : Int)) X M) (next : ∀ (X2 M2 : LU) (f2 : Nat → Int64), Rel (10000 * (j : Int) + 10000) X2 M2 → G p l e room_1 s m #[.ref b] below meth c D (fun q => s.heap.size ≤ q) 7 (wAll cI cZ cQ cL ax am o) (c0 + 3 * j + 3) (s0 + 18 * j + 18) (lw_Z below #[.ref b] s) (X2, M2, f2) 1609 [(0, .ref b), (1, .ref (ax 0)), (2, .ref (am 0)), (3, .ref o), (4, .int (nI (5 * j)))] []) : G p l e room_1 s m #[.ref b] below meth c D (fun q => s.heap.size ≤ q) 7 (wAll cI cZ cQ cL ax am o) (c0 + 3 * j) (s0 + 18 * j) (lw_Z below #[.ref b] s) (X, M, f) 794 [(0, .ref b), (1, .ref (ax 0)), (2, .ref (am 0)), (3, .ref o), (4, .int (nI (5 * j)))] [] := by
  refine g_aload_n (pc' := 795) (q := 1) C dL_law_794 rfl rfl rfl ?_
  refine g_aload_n (pc' := 796) (q := 0) C dL_law_795 rfl rfl rfl ?_
  refine g_iload (pc' := 798) (q := 4) C dL_law_796 rfl rfl ?_
  refine g_iconst (pc' := 799) (v := 1) C dL_law_798 rfl (by decide) ?_
  refine g_iadd (pc' := 800) C dL_law_799 rfl ?_
  refine g_conv (show nI (5 * j) + 1 = nI (5 * j + 1) from nI_add (5 * j) 1) ?_
  refine g_sld (pc' := 801) (k := 5 * j + 1) C hXs hbl (Nat.not_le.mpr hbl) (vp_in_nI (by omega) (by omega)) (nI_clamp (by omega)) dL_law_800 rfl ?_
  refine g_aload_n (pc' := 802) (q := 3) C dL_law_801 rfl rfl rfl ?_
  have hM1 := fr_XI (wg := wAll cI cZ cQ cL ax am o) (tysG := tyL cI cZ cQ cL) (emb := fun v : LU × (Nat → Int64) => ((v.1, M, v.2) : LU × LU × (Nat → Int64))) (E1 := []) (E2 := wM cI cZ am M) (fun v => rfl) [0, 1, 2, 3] rfl (c_L_state (l := l) (D := D) (cI := cI) (cZ := cZ) (cQ := cQ) (cL := cL) (a := ax) (o := o) (posti := pX_state X (xs (5 * j + 1))) (xp := eX_state X (xs (5 * j + 1))) X f (xs (5 * j + 1)) (c_X0_state hlt X (xs (5 * j + 1)) hR.ix) (hxs_state X (xs (5 * j + 1))))
  refine g_callW (pc' := 805) (As := [.ref (ax 0), .int (xs (5 * j + 1)), .ref o]) (st := []) (cells' := c0 + 3 * j + 1) (slots' := s0 + 18 * j + 6) C hE hM1 gL_law_L_state rfl (by decide +kernel) ⟨Nat.le_of_ble_eq_true rfl, Nat.le_of_ble_eq_true rfl⟩ (n := 3) rfl rfl (Nat.le_of_ble_eq_true rfl) dL_law_802 rfl rfl rfl ⟨(by show c0 + 3 * j + 1 ≤ 601024; omega), (by show s0 + 18 * j + 6 ≤ 7293034; omega)⟩ (fun k0 s9 hp => ?_)
  obtain ⟨s2, hw, rfl⟩ := hp
  refine g_istore (pc' := 807) (L' := [(5, .int k0), (0, .ref b), (1, .ref (ax 0)), (2, .ref (am 0)), (3, .ref o), (4, .int (nI (5 * j)))]) C dL_law_805 rfl (by decide) rfl ?_
  refine g_aload_n (pc' := 808) (q := 3) C dL_law_807 rfl rfl rfl ?_
  refine g_aload_n (pc' := 809) (q := 1) C dL_law_808 rfl rfl rfl ?_
  refine g_iload (pc' := 811) (q := 5) C dL_law_809 rfl rfl ?_
  refine g_iconst (pc' := 812) (v := 1) C dL_law_811 rfl (by decide) ?_
  refine g_iadd (pc' := 813) C dL_law_812 rfl ?_
  refine g_conv (show nI (5 * j) + 1 = nI (5 * j + 1) from nI_add (5 * j) 1) ?_
  refine g_sld (pc' := 814) (k := 5 * j + 1) C hXs hbl (Nat.not_le.mpr hbl) (vp_in_nI (by omega) (by omega)) (nI_clamp (by omega)) dL_law_813 rfl ?_
  refine g_calliV (pc' := 817) (As := [.int (xs (5 * j + 1))]) (st := []) (cells' := c0 + 3 * j + 1) (slots' := s0 + 18 * j + 6) C (fr_KI (wg := wAll cI cZ cQ cL ax am o) (tysG := tyL cI cZ cQ cL) (emb := fun v : LU => ((s2.1, v, s2.2) : LU × LU × (Nat → Int64))) (E1 := wL cI cZ cQ cL ax o s2) (E2 := []) (fun v => by simp [wAll]) [0, 1, 2] rfl (c_X1_state (l := l) (D := D) (cI := cI) (cZ := cZ) (cQ := cQ) (a := am) M (xs (5 * j + 1)) hR.im)) gL_law_X1_state rfl (by decide +kernel) ⟨Nat.le_of_ble_eq_true rfl, Nat.le_of_ble_eq_true rfl⟩ 76 (wA_M _ _ _ _ _ _ _ _) rfl (n := 1) rfl rfl (Nat.le_of_ble_eq_true rfl) dL_law_814 rfl (by rfl) (by rfl) ⟨(by show c0 + 3 * j + 1 ≤ 601024; omega), (by show s0 + 18 * j + 6 ≤ 7293034; omega)⟩ (fun rb s9 hp => ?_)
  obtain ⟨M1, hm, rfl⟩ := hp
  obtain ⟨hR2, hkt, hkv⟩ := sim_state hR (by omega) (xs (5 * j + 1)) hw hm
  refine g_istore (pc' := 819) (L' := [(6, .int rb), (5, .int k0), (0, .ref b), (1, .ref (ax 0)), (2, .ref (am 0)), (3, .ref o), (4, .int (nI (5 * j)))]) C dL_law_817 rfl (by decide) rfl ?_
  refine g_aload_n (pc' := 820) (q := 4) C dL_law_819 rfl rfl rfl ?_
  refine g_calliV (pc' := 823) (As := []) (st := []) (cells' := c0 + 3 * j + 1) (slots' := s0 + 18 * j + 6) C (fr_KI (wg := wAll cI cZ cQ cL ax am o) (tysG := tyL cI cZ cQ cL) (emb := fun v : LU => ((s2.1, v, s2.2) : LU × LU × (Nat → Int64))) (E1 := wL cI cZ cQ cL ax o s2) (E2 := []) (fun v => by simp [wAll]) [0, 1, 2] rfl (c_X1_thrown (l := l) (D := D) (cI := cI) (cZ := cZ) (cQ := cQ) (a := am) M1)) gL_law_X1_thrown rfl (by decide +kernel) ⟨Nat.le_of_ble_eq_true rfl, Nat.le_of_ble_eq_true rfl⟩ 76 (wA_M _ _ _ _ _ _ _ _) rfl (n := 0) rfl rfl (Nat.le_of_ble_eq_true rfl) dL_law_820 rfl (by rfl) (by rfl) ⟨(by show c0 + 3 * j + 1 ≤ 601024; omega), (by show s0 + 18 * j + 6 ≤ 7293034; omega)⟩ (fun r1 s9 hp => ?_)
  obtain ⟨v9, ⟨rfl, hv9⟩, rfl⟩ := hp
  rw [hv9]
  refine g_iload (pc' := 825) (q := 1) C dL_law_823 rfl rfl ?_
  refine g_icmp_eq (tgt := 830) (pc' := 828) C dL_law_825 rfl (by decide) (fun _ => ?_) (fun h9 => absurd (congrArg Int32.toInt hkt) h9)
  refine g_iload (pc' := 832) (q := 1) C dL_law_830 rfl rfl ?_
  refine g_if_ne (tgt := 847) (pc' := 835) C dL_law_832 rfl (by decide) (fun ck => ?_) (fun (ck : k0.toInt = 0) => ?_)
  · skip
    refine g_goto (tgt := 1609) C dL_law_847 (by decide) ?_
    exact g_widen (by omega) (by omega) (g_sub (L' := [(0, .ref b), (1, .ref (ax 0)), (2, .ref (am 0)), (3, .ref o), (4, .int (nI (5 * j)))]) [2, 3, 4, 5, 6] rfl (next _ _ _ hR2))
  · have hk0 : k0 = 0 := Int32.toInt_inj.mp (ck.trans ti_0.symm)
    refine g_aload_n (pc' := 836) (q := 5) C dL_law_835 rfl rfl rfl ?_
    refine g_iconst (pc' := 837) (v := 0) C dL_law_836 rfl (by decide) ?_
    refine g_lald (pc' := 838) (n := 1) C 75 3 (wA_out _ _ _ _ _ _ _ _) rfl (vp_of (by decide) (by decide)) (k := 0) rfl dL_law_837 rfl ?_
    refine g_iload (pc' := 840) (q := 0) C dL_law_838 rfl rfl ?_
    refine g_i2l (pc' := 841) C dL_law_840 rfl ?_
    refine g_lcmp (pc' := 842) C dL_law_841 rfl ?_
    refine g_if_eq (tgt := 847) (pc' := 845) C dL_law_842 rfl (by decide) (fun _ => ?_) (fun h9 => absurd (lg_self (hkv hk0)) h9)
    refine g_goto (tgt := 1609) C dL_law_847 (by decide) ?_
    exact g_widen (by omega) (by omega) (g_sub (L' := [(0, .ref b), (1, .ref (ax 0)), (2, .ref (am 0)), (3, .ref o), (4, .int (nI (5 * j)))]) [2, 3, 4, 5, 6] rfl (next _ _ _ hR2))
set_option maxHeartbeats 4000000 in
set_option maxRecDepth 100000 in
theorem law_case_13 {p : Program} {l : Launch} {e : Env} {s : State} {m : MethodId} {below : List Frame} {meth : Method} {c : Code} {D : va_G} {cI cZ cQ cL : ClassId} {ax am : Nat → Nat} {o b L9 : Nat} {xs : Nat → Int32} (hlt : l.stackTraces = false) (C : CX p s m #[.ref b] meth c D (tyL cI cZ cQ cL) (fun q => s.heap.size ≤ q) RL cL_law wsL_law 7 (wAll cI cZ cQ cL ax am o)) (hr : meth.sig.returnType = ret) (hE : EV (fun q => s.heap.size ≤ q) s s.heap tx0) (hXs : va_X b L9 xs s s.heap) (hbl : b < s.heap.size) {c0 s0 : Nat} (hc0 : c0 + 1600 ≤ 601024) (hs0 : s0 + 9600 ≤ 7293034) {j : Nat} {X M : LU} {f : Nat → Int64} (hj : 5 * j + 5 ≤ L9) (hL9 : L9 ≤ 2560) (hR : Rel (10000 * (j : Int)) X M) (next : ∀ (X2 M2 : LU) (f2 : Nat → Int64), Rel (10000 * (j : Int) + 10000) X2 M2 → G p l e room_1 s m #[.ref b] below meth c D (fun q => s.heap.size ≤ q) 7 (wAll cI cZ cQ cL ax am o) (c0 + 3 * j + 3) (s0 + 18 * j + 18) (lw_Z below #[.ref b] s) (X2, M2, f2) 1609 [(0, .ref b), (1, .ref (ax 0)), (2, .ref (am 0)), (3, .ref o), (4, .int (nI (5 * j)))] []) : G p l e room_1 s m #[.ref b] below meth c D (fun q => s.heap.size ≤ q) 7 (wAll cI cZ cQ cL ax am o) (c0 + 3 * j) (s0 + 18 * j) (lw_Z below #[.ref b] s) (X, M, f) 850 [(0, .ref b), (1, .ref (ax 0)), (2, .ref (am 0)), (3, .ref o), (4, .int (nI (5 * j)))] [] := by
  refine g_aload_n (pc' := 851) (q := 1) C dL_law_850 rfl rfl rfl ?_
  refine g_aload_n (pc' := 852) (q := 0) C dL_law_851 rfl rfl rfl ?_
  refine g_iload (pc' := 854) (q := 4) C dL_law_852 rfl rfl ?_
  refine g_iconst (pc' := 855) (v := 1) C dL_law_854 rfl (by decide) ?_
  refine g_iadd (pc' := 856) C dL_law_855 rfl ?_
  refine g_conv (show nI (5 * j) + 1 = nI (5 * j + 1) from nI_add (5 * j) 1) ?_
  refine g_sld (pc' := 857) (k := 5 * j + 1) C hXs hbl (Nat.not_le.mpr hbl) (vp_in_nI (by omega) (by omega)) (nI_clamp (by omega)) dL_law_856 rfl ?_
  refine g_aload_n (pc' := 858) (q := 3) C dL_law_857 rfl rfl rfl ?_
  have hM1 := fr_XI (wg := wAll cI cZ cQ cL ax am o) (tysG := tyL cI cZ cQ cL) (emb := fun v : LU × (Nat → Int64) => ((v.1, M, v.2) : LU × LU × (Nat → Int64))) (E1 := []) (E2 := wM cI cZ am M) (fun v => rfl) [0, 1, 2, 3] rfl (c_L_stepOf (l := l) (D := D) (cI := cI) (cZ := cZ) (cQ := cQ) (cL := cL) (a := ax) (o := o) (posti := pX_stepOf X (xs (5 * j + 1))) (xp := eX_stepOf X (xs (5 * j + 1))) X f (xs (5 * j + 1)) (c_X0_stepOf hlt X (xs (5 * j + 1)) hR.ix) (hxs_stepOf X (xs (5 * j + 1))))
  refine g_callW (pc' := 861) (As := [.ref (ax 0), .int (xs (5 * j + 1)), .ref o]) (st := []) (cells' := c0 + 3 * j + 1) (slots' := s0 + 18 * j + 6) C hE hM1 gL_law_L_stepOf rfl (by decide +kernel) ⟨Nat.le_of_ble_eq_true rfl, Nat.le_of_ble_eq_true rfl⟩ (n := 3) rfl rfl (Nat.le_of_ble_eq_true rfl) dL_law_858 rfl rfl rfl ⟨(by show c0 + 3 * j + 1 ≤ 601024; omega), (by show s0 + 18 * j + 6 ≤ 7293034; omega)⟩ (fun k0 s9 hp => ?_)
  obtain ⟨s2, hw, rfl⟩ := hp
  refine g_istore (pc' := 863) (L' := [(5, .int k0), (0, .ref b), (1, .ref (ax 0)), (2, .ref (am 0)), (3, .ref o), (4, .int (nI (5 * j)))]) C dL_law_861 rfl (by decide) rfl ?_
  refine g_aload_n (pc' := 864) (q := 3) C dL_law_863 rfl rfl rfl ?_
  refine g_aload_n (pc' := 865) (q := 1) C dL_law_864 rfl rfl rfl ?_
  refine g_iload (pc' := 867) (q := 5) C dL_law_865 rfl rfl ?_
  refine g_iconst (pc' := 868) (v := 1) C dL_law_867 rfl (by decide) ?_
  refine g_iadd (pc' := 869) C dL_law_868 rfl ?_
  refine g_conv (show nI (5 * j) + 1 = nI (5 * j + 1) from nI_add (5 * j) 1) ?_
  refine g_sld (pc' := 870) (k := 5 * j + 1) C hXs hbl (Nat.not_le.mpr hbl) (vp_in_nI (by omega) (by omega)) (nI_clamp (by omega)) dL_law_869 rfl ?_
  refine g_calliV (pc' := 873) (As := [.int (xs (5 * j + 1))]) (st := []) (cells' := c0 + 3 * j + 1) (slots' := s0 + 18 * j + 6) C (fr_KI (wg := wAll cI cZ cQ cL ax am o) (tysG := tyL cI cZ cQ cL) (emb := fun v : LU => ((s2.1, v, s2.2) : LU × LU × (Nat → Int64))) (E1 := wL cI cZ cQ cL ax o s2) (E2 := []) (fun v => by simp [wAll]) [0, 1, 2] rfl (c_X1_stepOf (l := l) (D := D) (cI := cI) (cZ := cZ) (cQ := cQ) (a := am) M (xs (5 * j + 1)) hR.im)) gL_law_X1_stepOf rfl (by decide +kernel) ⟨Nat.le_of_ble_eq_true rfl, Nat.le_of_ble_eq_true rfl⟩ 76 (wA_M _ _ _ _ _ _ _ _) rfl (n := 1) rfl rfl (Nat.le_of_ble_eq_true rfl) dL_law_870 rfl (by rfl) (by rfl) ⟨(by show c0 + 3 * j + 1 ≤ 601024; omega), (by show s0 + 18 * j + 6 ≤ 7293034; omega)⟩ (fun rb s9 hp => ?_)
  obtain ⟨M1, hm, rfl⟩ := hp
  obtain ⟨hR2, hkt, hkv⟩ := sim_stepOf hR (by omega) (xs (5 * j + 1)) hw hm
  refine g_istore (pc' := 875) (L' := [(6, .int rb), (5, .int k0), (0, .ref b), (1, .ref (ax 0)), (2, .ref (am 0)), (3, .ref o), (4, .int (nI (5 * j)))]) C dL_law_873 rfl (by decide) rfl ?_
  refine g_aload_n (pc' := 876) (q := 4) C dL_law_875 rfl rfl rfl ?_
  refine g_calliV (pc' := 879) (As := []) (st := []) (cells' := c0 + 3 * j + 1) (slots' := s0 + 18 * j + 6) C (fr_KI (wg := wAll cI cZ cQ cL ax am o) (tysG := tyL cI cZ cQ cL) (emb := fun v : LU => ((s2.1, v, s2.2) : LU × LU × (Nat → Int64))) (E1 := wL cI cZ cQ cL ax o s2) (E2 := []) (fun v => by simp [wAll]) [0, 1, 2] rfl (c_X1_thrown (l := l) (D := D) (cI := cI) (cZ := cZ) (cQ := cQ) (a := am) M1)) gL_law_X1_thrown rfl (by decide +kernel) ⟨Nat.le_of_ble_eq_true rfl, Nat.le_of_ble_eq_true rfl⟩ 76 (wA_M _ _ _ _ _ _ _ _) rfl (n := 0) rfl rfl (Nat.le_of_ble_eq_true rfl) dL_law_876 rfl (by rfl) (by rfl) ⟨(by show c0 + 3 * j + 1 ≤ 601024; omega), (by show s0 + 18 * j + 6 ≤ 7293034; omega)⟩ (fun r1 s9 hp => ?_)
  obtain ⟨v9, ⟨rfl, hv9⟩, rfl⟩ := hp
  rw [hv9]
  refine g_iload (pc' := 881) (q := 1) C dL_law_879 rfl rfl ?_
  refine g_icmp_eq (tgt := 886) (pc' := 884) C dL_law_881 rfl (by decide) (fun _ => ?_) (fun h9 => absurd (congrArg Int32.toInt hkt) h9)
  refine g_iload (pc' := 888) (q := 1) C dL_law_886 rfl rfl ?_
  refine g_if_ne (tgt := 903) (pc' := 891) C dL_law_888 rfl (by decide) (fun ck => ?_) (fun (ck : k0.toInt = 0) => ?_)
  · skip
    refine g_goto (tgt := 1609) C dL_law_903 (by decide) ?_
    exact g_widen (by omega) (by omega) (g_sub (L' := [(0, .ref b), (1, .ref (ax 0)), (2, .ref (am 0)), (3, .ref o), (4, .int (nI (5 * j)))]) [2, 3, 4, 5, 6] rfl (next _ _ _ hR2))
  · have hk0 : k0 = 0 := Int32.toInt_inj.mp (ck.trans ti_0.symm)
    refine g_aload_n (pc' := 892) (q := 5) C dL_law_891 rfl rfl rfl ?_
    refine g_iconst (pc' := 893) (v := 0) C dL_law_892 rfl (by decide) ?_
    refine g_lald (pc' := 894) (n := 1) C 75 3 (wA_out _ _ _ _ _ _ _ _) rfl (vp_of (by decide) (by decide)) (k := 0) rfl dL_law_893 rfl ?_
    refine g_iload (pc' := 896) (q := 0) C dL_law_894 rfl rfl ?_
    refine g_i2l (pc' := 897) C dL_law_896 rfl ?_
    refine g_lcmp (pc' := 898) C dL_law_897 rfl ?_
    refine g_if_eq (tgt := 903) (pc' := 901) C dL_law_898 rfl (by decide) (fun _ => ?_) (fun h9 => absurd (lg_self (hkv hk0)) h9)
    refine g_goto (tgt := 1609) C dL_law_903 (by decide) ?_
    exact g_widen (by omega) (by omega) (g_sub (L' := [(0, .ref b), (1, .ref (ax 0)), (2, .ref (am 0)), (3, .ref o), (4, .int (nI (5 * j)))]) [2, 3, 4, 5, 6] rfl (next _ _ _ hR2))
set_option maxHeartbeats 4000000 in
set_option maxRecDepth 100000 in
theorem law_case_14 {p : Program} {l : Launch} {e : Env} {s : State} {m : MethodId} {below : List Frame} {meth : Method} {c : Code} {D : va_G} {cI cZ cQ cL : ClassId} {ax am : Nat → Nat} {o b L9 : Nat} {xs : Nat → Int32} (hlt : l.stackTraces = false) (C : CX p s m #[.ref b] meth c D (tyL cI cZ cQ cL) (fun q => s.heap.size ≤ q) RL cL_law wsL_law 7 (wAll cI cZ cQ cL ax am o)) (hr : meth.sig.returnType = ret) (hE : EV (fun q => s.heap.size ≤ q) s s.heap tx0) (hXs : va_X b L9 xs s s.heap) (hbl : b < s.heap.size) {c0 s0 : Nat} (hc0 : c0 + 1600 ≤ 601024) (hs0 : s0 + 9600 ≤ 7293034) {j : Nat} {X M : LU} {f : Nat → Int64} (hj : 5 * j + 5 ≤ L9) (hL9 : L9 ≤ 2560) (hR : Rel (10000 * (j : Int)) X M) (next : ∀ (X2 M2 : LU) (f2 : Nat → Int64), Rel (10000 * (j : Int) + 10000) X2 M2 → G p l e room_1 s m #[.ref b] below meth c D (fun q => s.heap.size ≤ q) 7 (wAll cI cZ cQ cL ax am o) (c0 + 3 * j + 3) (s0 + 18 * j + 18) (lw_Z below #[.ref b] s) (X2, M2, f2) 1609 [(0, .ref b), (1, .ref (ax 0)), (2, .ref (am 0)), (3, .ref o), (4, .int (nI (5 * j)))] []) : G p l e room_1 s m #[.ref b] below meth c D (fun q => s.heap.size ≤ q) 7 (wAll cI cZ cQ cL ax am o) (c0 + 3 * j) (s0 + 18 * j) (lw_Z below #[.ref b] s) (X, M, f) 906 [(0, .ref b), (1, .ref (ax 0)), (2, .ref (am 0)), (3, .ref o), (4, .int (nI (5 * j)))] [] := by
  refine g_aload_n (pc' := 907) (q := 1) C dL_law_906 rfl rfl rfl ?_
  refine g_aload_n (pc' := 908) (q := 0) C dL_law_907 rfl rfl rfl ?_
  refine g_iload (pc' := 910) (q := 4) C dL_law_908 rfl rfl ?_
  refine g_iconst (pc' := 911) (v := 1) C dL_law_910 rfl (by decide) ?_
  refine g_iadd (pc' := 912) C dL_law_911 rfl ?_
  refine g_conv (show nI (5 * j) + 1 = nI (5 * j + 1) from nI_add (5 * j) 1) ?_
  refine g_sld (pc' := 913) (k := 5 * j + 1) C hXs hbl (Nat.not_le.mpr hbl) (vp_in_nI (by omega) (by omega)) (nI_clamp (by omega)) dL_law_912 rfl ?_
  refine g_aload_n (pc' := 914) (q := 3) C dL_law_913 rfl rfl rfl ?_
  have hM1 := fr_XI (wg := wAll cI cZ cQ cL ax am o) (tysG := tyL cI cZ cQ cL) (emb := fun v : LU × (Nat → Int64) => ((v.1, M, v.2) : LU × LU × (Nat → Int64))) (E1 := []) (E2 := wM cI cZ am M) (fun v => rfl) [0, 1, 2, 3] rfl (c_L_size (l := l) (D := D) (cI := cI) (cZ := cZ) (cQ := cQ) (cL := cL) (a := ax) (o := o) (posti := pX_size X (xs (5 * j + 1))) (xp := eX_size X (xs (5 * j + 1))) X f (xs (5 * j + 1)) (c_X0_size hlt X (xs (5 * j + 1)) hR.ix) (hxs_size X (xs (5 * j + 1))))
  refine g_callW (pc' := 917) (As := [.ref (ax 0), .int (xs (5 * j + 1)), .ref o]) (st := []) (cells' := c0 + 3 * j + 1) (slots' := s0 + 18 * j + 6) C hE hM1 gL_law_L_size rfl (by decide +kernel) ⟨Nat.le_of_ble_eq_true rfl, Nat.le_of_ble_eq_true rfl⟩ (n := 3) rfl rfl (Nat.le_of_ble_eq_true rfl) dL_law_914 rfl rfl rfl ⟨(by show c0 + 3 * j + 1 ≤ 601024; omega), (by show s0 + 18 * j + 6 ≤ 7293034; omega)⟩ (fun k0 s9 hp => ?_)
  obtain ⟨s2, hw, rfl⟩ := hp
  refine g_istore (pc' := 919) (L' := [(5, .int k0), (0, .ref b), (1, .ref (ax 0)), (2, .ref (am 0)), (3, .ref o), (4, .int (nI (5 * j)))]) C dL_law_917 rfl (by decide) rfl ?_
  refine g_aload_n (pc' := 920) (q := 3) C dL_law_919 rfl rfl rfl ?_
  refine g_aload_n (pc' := 921) (q := 1) C dL_law_920 rfl rfl rfl ?_
  refine g_iload (pc' := 923) (q := 5) C dL_law_921 rfl rfl ?_
  refine g_iconst (pc' := 924) (v := 1) C dL_law_923 rfl (by decide) ?_
  refine g_iadd (pc' := 925) C dL_law_924 rfl ?_
  refine g_conv (show nI (5 * j) + 1 = nI (5 * j + 1) from nI_add (5 * j) 1) ?_
  refine g_sld (pc' := 926) (k := 5 * j + 1) C hXs hbl (Nat.not_le.mpr hbl) (vp_in_nI (by omega) (by omega)) (nI_clamp (by omega)) dL_law_925 rfl ?_
  refine g_calliV (pc' := 929) (As := [.int (xs (5 * j + 1))]) (st := []) (cells' := c0 + 3 * j + 1) (slots' := s0 + 18 * j + 6) C (fr_KI (wg := wAll cI cZ cQ cL ax am o) (tysG := tyL cI cZ cQ cL) (emb := fun v : LU => ((s2.1, v, s2.2) : LU × LU × (Nat → Int64))) (E1 := wL cI cZ cQ cL ax o s2) (E2 := []) (fun v => by simp [wAll]) [0, 1, 2] rfl (c_X1_size (l := l) (D := D) (cI := cI) (cZ := cZ) (cQ := cQ) (a := am) M (xs (5 * j + 1)) hR.im)) gL_law_X1_size rfl (by decide +kernel) ⟨Nat.le_of_ble_eq_true rfl, Nat.le_of_ble_eq_true rfl⟩ 76 (wA_M _ _ _ _ _ _ _ _) rfl (n := 1) rfl rfl (Nat.le_of_ble_eq_true rfl) dL_law_926 rfl (by rfl) (by rfl) ⟨(by show c0 + 3 * j + 1 ≤ 601024; omega), (by show s0 + 18 * j + 6 ≤ 7293034; omega)⟩ (fun rb s9 hp => ?_)
  obtain ⟨M1, hm, rfl⟩ := hp
  obtain ⟨hR2, hkt, hkv⟩ := sim_size hR (by omega) (xs (5 * j + 1)) hw hm
  refine g_istore (pc' := 931) (L' := [(6, .int rb), (5, .int k0), (0, .ref b), (1, .ref (ax 0)), (2, .ref (am 0)), (3, .ref o), (4, .int (nI (5 * j)))]) C dL_law_929 rfl (by decide) rfl ?_
  refine g_aload_n (pc' := 932) (q := 4) C dL_law_931 rfl rfl rfl ?_
  refine g_calliV (pc' := 935) (As := []) (st := []) (cells' := c0 + 3 * j + 1) (slots' := s0 + 18 * j + 6) C (fr_KI (wg := wAll cI cZ cQ cL ax am o) (tysG := tyL cI cZ cQ cL) (emb := fun v : LU => ((s2.1, v, s2.2) : LU × LU × (Nat → Int64))) (E1 := wL cI cZ cQ cL ax o s2) (E2 := []) (fun v => by simp [wAll]) [0, 1, 2] rfl (c_X1_thrown (l := l) (D := D) (cI := cI) (cZ := cZ) (cQ := cQ) (a := am) M1)) gL_law_X1_thrown rfl (by decide +kernel) ⟨Nat.le_of_ble_eq_true rfl, Nat.le_of_ble_eq_true rfl⟩ 76 (wA_M _ _ _ _ _ _ _ _) rfl (n := 0) rfl rfl (Nat.le_of_ble_eq_true rfl) dL_law_932 rfl (by rfl) (by rfl) ⟨(by show c0 + 3 * j + 1 ≤ 601024; omega), (by show s0 + 18 * j + 6 ≤ 7293034; omega)⟩ (fun r1 s9 hp => ?_)
  obtain ⟨v9, ⟨rfl, hv9⟩, rfl⟩ := hp
  rw [hv9]
  refine g_iload (pc' := 937) (q := 1) C dL_law_935 rfl rfl ?_
  refine g_icmp_eq (tgt := 942) (pc' := 940) C dL_law_937 rfl (by decide) (fun _ => ?_) (fun h9 => absurd (congrArg Int32.toInt hkt) h9)
  refine g_iload (pc' := 944) (q := 1) C dL_law_942 rfl rfl ?_
  refine g_if_ne (tgt := 959) (pc' := 947) C dL_law_944 rfl (by decide) (fun ck => ?_) (fun (ck : k0.toInt = 0) => ?_)
  · skip
    refine g_goto (tgt := 1609) C dL_law_959 (by decide) ?_
    exact g_widen (by omega) (by omega) (g_sub (L' := [(0, .ref b), (1, .ref (ax 0)), (2, .ref (am 0)), (3, .ref o), (4, .int (nI (5 * j)))]) [2, 3, 4, 5, 6] rfl (next _ _ _ hR2))
  · have hk0 : k0 = 0 := Int32.toInt_inj.mp (ck.trans ti_0.symm)
    refine g_aload_n (pc' := 948) (q := 5) C dL_law_947 rfl rfl rfl ?_
    refine g_iconst (pc' := 949) (v := 0) C dL_law_948 rfl (by decide) ?_
    refine g_lald (pc' := 950) (n := 1) C 75 3 (wA_out _ _ _ _ _ _ _ _) rfl (vp_of (by decide) (by decide)) (k := 0) rfl dL_law_949 rfl ?_
    refine g_iload (pc' := 952) (q := 0) C dL_law_950 rfl rfl ?_
    refine g_i2l (pc' := 953) C dL_law_952 rfl ?_
    refine g_lcmp (pc' := 954) C dL_law_953 rfl ?_
    refine g_if_eq (tgt := 959) (pc' := 957) C dL_law_954 rfl (by decide) (fun _ => ?_) (fun h9 => absurd (lg_self (hkv hk0)) h9)
    refine g_goto (tgt := 1609) C dL_law_959 (by decide) ?_
    exact g_widen (by omega) (by omega) (g_sub (L' := [(0, .ref b), (1, .ref (ax 0)), (2, .ref (am 0)), (3, .ref o), (4, .int (nI (5 * j)))]) [2, 3, 4, 5, 6] rfl (next _ _ _ hR2))
set_option maxHeartbeats 4000000 in
set_option maxRecDepth 100000 in
theorem law_case_15 {p : Program} {l : Launch} {e : Env} {s : State} {m : MethodId} {below : List Frame} {meth : Method} {c : Code} {D : va_G} {cI cZ cQ cL : ClassId} {ax am : Nat → Nat} {o b L9 : Nat} {xs : Nat → Int32} (hlt : l.stackTraces = false) (C : CX p s m #[.ref b] meth c D (tyL cI cZ cQ cL) (fun q => s.heap.size ≤ q) RL cL_law wsL_law 7 (wAll cI cZ cQ cL ax am o)) (hr : meth.sig.returnType = ret) (hE : EV (fun q => s.heap.size ≤ q) s s.heap tx0) (hXs : va_X b L9 xs s s.heap) (hbl : b < s.heap.size) {c0 s0 : Nat} (hc0 : c0 + 1600 ≤ 601024) (hs0 : s0 + 9600 ≤ 7293034) {j : Nat} {X M : LU} {f : Nat → Int64} (hj : 5 * j + 5 ≤ L9) (hL9 : L9 ≤ 2560) (hR : Rel (10000 * (j : Int)) X M) (next : ∀ (X2 M2 : LU) (f2 : Nat → Int64), Rel (10000 * (j : Int) + 10000) X2 M2 → G p l e room_1 s m #[.ref b] below meth c D (fun q => s.heap.size ≤ q) 7 (wAll cI cZ cQ cL ax am o) (c0 + 3 * j + 3) (s0 + 18 * j + 18) (lw_Z below #[.ref b] s) (X2, M2, f2) 1609 [(0, .ref b), (1, .ref (ax 0)), (2, .ref (am 0)), (3, .ref o), (4, .int (nI (5 * j)))] []) : G p l e room_1 s m #[.ref b] below meth c D (fun q => s.heap.size ≤ q) 7 (wAll cI cZ cQ cL ax am o) (c0 + 3 * j) (s0 + 18 * j) (lw_Z below #[.ref b] s) (X, M, f) 962 [(0, .ref b), (1, .ref (ax 0)), (2, .ref (am 0)), (3, .ref o), (4, .int (nI (5 * j)))] [] := by
  refine g_aload_n (pc' := 963) (q := 1) C dL_law_962 rfl rfl rfl ?_
  refine g_aload_n (pc' := 964) (q := 0) C dL_law_963 rfl rfl rfl ?_
  refine g_iload (pc' := 966) (q := 4) C dL_law_964 rfl rfl ?_
  refine g_iconst (pc' := 967) (v := 1) C dL_law_966 rfl (by decide) ?_
  refine g_iadd (pc' := 968) C dL_law_967 rfl ?_
  refine g_conv (show nI (5 * j) + 1 = nI (5 * j + 1) from nI_add (5 * j) 1) ?_
  refine g_sld (pc' := 969) (k := 5 * j + 1) C hXs hbl (Nat.not_le.mpr hbl) (vp_in_nI (by omega) (by omega)) (nI_clamp (by omega)) dL_law_968 rfl ?_
  refine g_aload_n (pc' := 970) (q := 3) C dL_law_969 rfl rfl rfl ?_
  have hM1 := fr_XI (wg := wAll cI cZ cQ cL ax am o) (tysG := tyL cI cZ cQ cL) (emb := fun v : LU × (Nat → Int64) => ((v.1, M, v.2) : LU × LU × (Nat → Int64))) (E1 := []) (E2 := wM cI cZ am M) (fun v => rfl) [0, 1, 2, 3] rfl (c_L_slack (l := l) (D := D) (cI := cI) (cZ := cZ) (cQ := cQ) (cL := cL) (a := ax) (o := o) (posti := pX_slack X (xs (5 * j + 1))) (xp := eX_slack X (xs (5 * j + 1))) X f (xs (5 * j + 1)) (c_X0_slack hlt X (xs (5 * j + 1)) hR.ix) (hxs_slack X (xs (5 * j + 1))))
  refine g_callW (pc' := 973) (As := [.ref (ax 0), .int (xs (5 * j + 1)), .ref o]) (st := []) (cells' := c0 + 3 * j + 1) (slots' := s0 + 18 * j + 6) C hE hM1 gL_law_L_slack rfl (by decide +kernel) ⟨Nat.le_of_ble_eq_true rfl, Nat.le_of_ble_eq_true rfl⟩ (n := 3) rfl rfl (Nat.le_of_ble_eq_true rfl) dL_law_970 rfl rfl rfl ⟨(by show c0 + 3 * j + 1 ≤ 601024; omega), (by show s0 + 18 * j + 6 ≤ 7293034; omega)⟩ (fun k0 s9 hp => ?_)
  obtain ⟨s2, hw, rfl⟩ := hp
  refine g_istore (pc' := 975) (L' := [(5, .int k0), (0, .ref b), (1, .ref (ax 0)), (2, .ref (am 0)), (3, .ref o), (4, .int (nI (5 * j)))]) C dL_law_973 rfl (by decide) rfl ?_
  refine g_aload_n (pc' := 976) (q := 3) C dL_law_975 rfl rfl rfl ?_
  refine g_aload_n (pc' := 977) (q := 1) C dL_law_976 rfl rfl rfl ?_
  refine g_iload (pc' := 979) (q := 5) C dL_law_977 rfl rfl ?_
  refine g_iconst (pc' := 980) (v := 1) C dL_law_979 rfl (by decide) ?_
  refine g_iadd (pc' := 981) C dL_law_980 rfl ?_
  refine g_conv (show nI (5 * j) + 1 = nI (5 * j + 1) from nI_add (5 * j) 1) ?_
  refine g_sld (pc' := 982) (k := 5 * j + 1) C hXs hbl (Nat.not_le.mpr hbl) (vp_in_nI (by omega) (by omega)) (nI_clamp (by omega)) dL_law_981 rfl ?_
  refine g_calliV (pc' := 985) (As := [.int (xs (5 * j + 1))]) (st := []) (cells' := c0 + 3 * j + 1) (slots' := s0 + 18 * j + 6) C (fr_KI (wg := wAll cI cZ cQ cL ax am o) (tysG := tyL cI cZ cQ cL) (emb := fun v : LU => ((s2.1, v, s2.2) : LU × LU × (Nat → Int64))) (E1 := wL cI cZ cQ cL ax o s2) (E2 := []) (fun v => by simp [wAll]) [0, 1, 2] rfl (c_X1_slack (l := l) (D := D) (cI := cI) (cZ := cZ) (cQ := cQ) (a := am) M (xs (5 * j + 1)) hR.im)) gL_law_X1_slack rfl (by decide +kernel) ⟨Nat.le_of_ble_eq_true rfl, Nat.le_of_ble_eq_true rfl⟩ 76 (wA_M _ _ _ _ _ _ _ _) rfl (n := 1) rfl rfl (Nat.le_of_ble_eq_true rfl) dL_law_982 rfl (by rfl) (by rfl) ⟨(by show c0 + 3 * j + 1 ≤ 601024; omega), (by show s0 + 18 * j + 6 ≤ 7293034; omega)⟩ (fun rb s9 hp => ?_)
  obtain ⟨M1, hm, rfl⟩ := hp
  obtain ⟨hR2, hkt, hkv⟩ := sim_slack hR (by omega) (xs (5 * j + 1)) hw hm
  refine g_istore (pc' := 987) (L' := [(6, .int rb), (5, .int k0), (0, .ref b), (1, .ref (ax 0)), (2, .ref (am 0)), (3, .ref o), (4, .int (nI (5 * j)))]) C dL_law_985 rfl (by decide) rfl ?_
  refine g_aload_n (pc' := 988) (q := 4) C dL_law_987 rfl rfl rfl ?_
  refine g_calliV (pc' := 991) (As := []) (st := []) (cells' := c0 + 3 * j + 1) (slots' := s0 + 18 * j + 6) C (fr_KI (wg := wAll cI cZ cQ cL ax am o) (tysG := tyL cI cZ cQ cL) (emb := fun v : LU => ((s2.1, v, s2.2) : LU × LU × (Nat → Int64))) (E1 := wL cI cZ cQ cL ax o s2) (E2 := []) (fun v => by simp [wAll]) [0, 1, 2] rfl (c_X1_thrown (l := l) (D := D) (cI := cI) (cZ := cZ) (cQ := cQ) (a := am) M1)) gL_law_X1_thrown rfl (by decide +kernel) ⟨Nat.le_of_ble_eq_true rfl, Nat.le_of_ble_eq_true rfl⟩ 76 (wA_M _ _ _ _ _ _ _ _) rfl (n := 0) rfl rfl (Nat.le_of_ble_eq_true rfl) dL_law_988 rfl (by rfl) (by rfl) ⟨(by show c0 + 3 * j + 1 ≤ 601024; omega), (by show s0 + 18 * j + 6 ≤ 7293034; omega)⟩ (fun r1 s9 hp => ?_)
  obtain ⟨v9, ⟨rfl, hv9⟩, rfl⟩ := hp
  rw [hv9]
  refine g_iload (pc' := 993) (q := 1) C dL_law_991 rfl rfl ?_
  refine g_icmp_eq (tgt := 998) (pc' := 996) C dL_law_993 rfl (by decide) (fun _ => ?_) (fun h9 => absurd (congrArg Int32.toInt hkt) h9)
  refine g_iload (pc' := 1000) (q := 1) C dL_law_998 rfl rfl ?_
  refine g_if_ne (tgt := 1015) (pc' := 1003) C dL_law_1000 rfl (by decide) (fun ck => ?_) (fun (ck : k0.toInt = 0) => ?_)
  · skip
    refine g_goto (tgt := 1609) C dL_law_1015 (by decide) ?_
    exact g_widen (by omega) (by omega) (g_sub (L' := [(0, .ref b), (1, .ref (ax 0)), (2, .ref (am 0)), (3, .ref o), (4, .int (nI (5 * j)))]) [2, 3, 4, 5, 6] rfl (next _ _ _ hR2))
  · have hk0 : k0 = 0 := Int32.toInt_inj.mp (ck.trans ti_0.symm)
    refine g_aload_n (pc' := 1004) (q := 5) C dL_law_1003 rfl rfl rfl ?_
    refine g_iconst (pc' := 1005) (v := 0) C dL_law_1004 rfl (by decide) ?_
    refine g_lald (pc' := 1006) (n := 1) C 75 3 (wA_out _ _ _ _ _ _ _ _) rfl (vp_of (by decide) (by decide)) (k := 0) rfl dL_law_1005 rfl ?_
    refine g_iload (pc' := 1008) (q := 0) C dL_law_1006 rfl rfl ?_
    refine g_i2l (pc' := 1009) C dL_law_1008 rfl ?_
    refine g_lcmp (pc' := 1010) C dL_law_1009 rfl ?_
    refine g_if_eq (tgt := 1015) (pc' := 1013) C dL_law_1010 rfl (by decide) (fun _ => ?_) (fun h9 => absurd (lg_self (hkv hk0)) h9)
    refine g_goto (tgt := 1609) C dL_law_1015 (by decide) ?_
    exact g_widen (by omega) (by omega) (g_sub (L' := [(0, .ref b), (1, .ref (ax 0)), (2, .ref (am 0)), (3, .ref o), (4, .int (nI (5 * j)))]) [2, 3, 4, 5, 6] rfl (next _ _ _ hR2))
set_option maxHeartbeats 4000000 in
set_option maxRecDepth 100000 in
theorem law_case_16 {p : Program} {l : Launch} {e : Env} {s : State} {m : MethodId} {below : List Frame} {meth : Method} {c : Code} {D : va_G} {cI cZ cQ cL : ClassId} {ax am : Nat → Nat} {o b L9 : Nat} {xs : Nat → Int32} (hlt : l.stackTraces = false) (C : CX p s m #[.ref b] meth c D (tyL cI cZ cQ cL) (fun q => s.heap.size ≤ q) RL cL_law wsL_law 7 (wAll cI cZ cQ cL ax am o)) (hr : meth.sig.returnType = ret) (hE : EV (fun q => s.heap.size ≤ q) s s.heap tx0) (hXs : va_X b L9 xs s s.heap) (hbl : b < s.heap.size) {c0 s0 : Nat} (hc0 : c0 + 1600 ≤ 601024) (hs0 : s0 + 9600 ≤ 7293034) {j : Nat} {X M : LU} {f : Nat → Int64} (hj : 5 * j + 5 ≤ L9) (hL9 : L9 ≤ 2560) (hR : Rel (10000 * (j : Int)) X M) (next : ∀ (X2 M2 : LU) (f2 : Nat → Int64), Rel (10000 * (j : Int) + 10000) X2 M2 → G p l e room_1 s m #[.ref b] below meth c D (fun q => s.heap.size ≤ q) 7 (wAll cI cZ cQ cL ax am o) (c0 + 3 * j + 3) (s0 + 18 * j + 18) (lw_Z below #[.ref b] s) (X2, M2, f2) 1609 [(0, .ref b), (1, .ref (ax 0)), (2, .ref (am 0)), (3, .ref o), (4, .int (nI (5 * j)))] []) : G p l e room_1 s m #[.ref b] below meth c D (fun q => s.heap.size ≤ q) 7 (wAll cI cZ cQ cL ax am o) (c0 + 3 * j) (s0 + 18 * j) (lw_Z below #[.ref b] s) (X, M, f) 1018 [(0, .ref b), (1, .ref (ax 0)), (2, .ref (am 0)), (3, .ref o), (4, .int (nI (5 * j)))] [] := by
  refine g_aload_n (pc' := 1019) (q := 1) C dL_law_1018 rfl rfl rfl ?_
  refine g_aload_n (pc' := 1020) (q := 0) C dL_law_1019 rfl rfl rfl ?_
  refine g_iload (pc' := 1022) (q := 4) C dL_law_1020 rfl rfl ?_
  refine g_iconst (pc' := 1023) (v := 1) C dL_law_1022 rfl (by decide) ?_
  refine g_iadd (pc' := 1024) C dL_law_1023 rfl ?_
  refine g_conv (show nI (5 * j) + 1 = nI (5 * j + 1) from nI_add (5 * j) 1) ?_
  refine g_sld (pc' := 1025) (k := 5 * j + 1) C hXs hbl (Nat.not_le.mpr hbl) (vp_in_nI (by omega) (by omega)) (nI_clamp (by omega)) dL_law_1024 rfl ?_
  refine g_aload_n (pc' := 1026) (q := 3) C dL_law_1025 rfl rfl rfl ?_
  have hM1 := fr_XI (wg := wAll cI cZ cQ cL ax am o) (tysG := tyL cI cZ cQ cL) (emb := fun v : LU × (Nat → Int64) => ((v.1, M, v.2) : LU × LU × (Nat → Int64))) (E1 := []) (E2 := wM cI cZ am M) (fun v => rfl) [0, 1, 2, 3] rfl (c_L_isLate (l := l) (D := D) (cI := cI) (cZ := cZ) (cQ := cQ) (cL := cL) (a := ax) (o := o) (posti := pX_isLate X (xs (5 * j + 1))) (xp := eX_isLate X (xs (5 * j + 1))) X f (xs (5 * j + 1)) (c_X0_isLate hlt X (xs (5 * j + 1)) hR.ix) (hxs_isLate X (xs (5 * j + 1))))
  refine g_callW (pc' := 1029) (As := [.ref (ax 0), .int (xs (5 * j + 1)), .ref o]) (st := []) (cells' := c0 + 3 * j + 1) (slots' := s0 + 18 * j + 6) C hE hM1 gL_law_L_isLate rfl (by decide +kernel) ⟨Nat.le_of_ble_eq_true rfl, Nat.le_of_ble_eq_true rfl⟩ (n := 3) rfl rfl (Nat.le_of_ble_eq_true rfl) dL_law_1026 rfl rfl rfl ⟨(by show c0 + 3 * j + 1 ≤ 601024; omega), (by show s0 + 18 * j + 6 ≤ 7293034; omega)⟩ (fun k0 s9 hp => ?_)
  obtain ⟨s2, hw, rfl⟩ := hp
  refine g_istore (pc' := 1031) (L' := [(5, .int k0), (0, .ref b), (1, .ref (ax 0)), (2, .ref (am 0)), (3, .ref o), (4, .int (nI (5 * j)))]) C dL_law_1029 rfl (by decide) rfl ?_
  refine g_aload_n (pc' := 1032) (q := 3) C dL_law_1031 rfl rfl rfl ?_
  refine g_aload_n (pc' := 1033) (q := 1) C dL_law_1032 rfl rfl rfl ?_
  refine g_iload (pc' := 1035) (q := 5) C dL_law_1033 rfl rfl ?_
  refine g_iconst (pc' := 1036) (v := 1) C dL_law_1035 rfl (by decide) ?_
  refine g_iadd (pc' := 1037) C dL_law_1036 rfl ?_
  refine g_conv (show nI (5 * j) + 1 = nI (5 * j + 1) from nI_add (5 * j) 1) ?_
  refine g_sld (pc' := 1038) (k := 5 * j + 1) C hXs hbl (Nat.not_le.mpr hbl) (vp_in_nI (by omega) (by omega)) (nI_clamp (by omega)) dL_law_1037 rfl ?_
  refine g_calliV (pc' := 1041) (As := [.int (xs (5 * j + 1))]) (st := []) (cells' := c0 + 3 * j + 1) (slots' := s0 + 18 * j + 6) C (fr_KI (wg := wAll cI cZ cQ cL ax am o) (tysG := tyL cI cZ cQ cL) (emb := fun v : LU => ((s2.1, v, s2.2) : LU × LU × (Nat → Int64))) (E1 := wL cI cZ cQ cL ax o s2) (E2 := []) (fun v => by simp [wAll]) [0, 1, 2] rfl (c_X1_isLate (l := l) (D := D) (cI := cI) (cZ := cZ) (cQ := cQ) (a := am) M (xs (5 * j + 1)) hR.im)) gL_law_X1_isLate rfl (by decide +kernel) ⟨Nat.le_of_ble_eq_true rfl, Nat.le_of_ble_eq_true rfl⟩ 76 (wA_M _ _ _ _ _ _ _ _) rfl (n := 1) rfl rfl (Nat.le_of_ble_eq_true rfl) dL_law_1038 rfl (by rfl) (by rfl) ⟨(by show c0 + 3 * j + 1 ≤ 601024; omega), (by show s0 + 18 * j + 6 ≤ 7293034; omega)⟩ (fun rb s9 hp => ?_)
  obtain ⟨M1, hm, rfl⟩ := hp
  obtain ⟨hR2, hkt, hkv⟩ := sim_isLate hR (by omega) (xs (5 * j + 1)) hw hm
  refine g_istore (pc' := 1043) (L' := [(6, .int rb), (5, .int k0), (0, .ref b), (1, .ref (ax 0)), (2, .ref (am 0)), (3, .ref o), (4, .int (nI (5 * j)))]) C dL_law_1041 rfl (by decide) rfl ?_
  refine g_aload_n (pc' := 1044) (q := 4) C dL_law_1043 rfl rfl rfl ?_
  refine g_calliV (pc' := 1047) (As := []) (st := []) (cells' := c0 + 3 * j + 1) (slots' := s0 + 18 * j + 6) C (fr_KI (wg := wAll cI cZ cQ cL ax am o) (tysG := tyL cI cZ cQ cL) (emb := fun v : LU => ((s2.1, v, s2.2) : LU × LU × (Nat → Int64))) (E1 := wL cI cZ cQ cL ax o s2) (E2 := []) (fun v => by simp [wAll]) [0, 1, 2] rfl (c_X1_thrown (l := l) (D := D) (cI := cI) (cZ := cZ) (cQ := cQ) (a := am) M1)) gL_law_X1_thrown rfl (by decide +kernel) ⟨Nat.le_of_ble_eq_true rfl, Nat.le_of_ble_eq_true rfl⟩ 76 (wA_M _ _ _ _ _ _ _ _) rfl (n := 0) rfl rfl (Nat.le_of_ble_eq_true rfl) dL_law_1044 rfl (by rfl) (by rfl) ⟨(by show c0 + 3 * j + 1 ≤ 601024; omega), (by show s0 + 18 * j + 6 ≤ 7293034; omega)⟩ (fun r1 s9 hp => ?_)
  obtain ⟨v9, ⟨rfl, hv9⟩, rfl⟩ := hp
  rw [hv9]
  refine g_iload (pc' := 1049) (q := 1) C dL_law_1047 rfl rfl ?_
  refine g_icmp_eq (tgt := 1054) (pc' := 1052) C dL_law_1049 rfl (by decide) (fun _ => ?_) (fun h9 => absurd (congrArg Int32.toInt hkt) h9)
  refine g_iload (pc' := 1056) (q := 1) C dL_law_1054 rfl rfl ?_
  refine g_if_ne (tgt := 1078) (pc' := 1059) C dL_law_1056 rfl (by decide) (fun ck => ?_) (fun (ck : k0.toInt = 0) => ?_)
  · skip
    refine g_goto (tgt := 1609) C dL_law_1078 (by decide) ?_
    exact g_widen (by omega) (by omega) (g_sub (L' := [(0, .ref b), (1, .ref (ax 0)), (2, .ref (am 0)), (3, .ref o), (4, .int (nI (5 * j)))]) [2, 3, 4, 5, 6] rfl (next _ _ _ hR2))
  · have hk0 : k0 = 0 := Int32.toInt_inj.mp (ck.trans ti_0.symm)
    refine g_aload_n (pc' := 1060) (q := 5) C dL_law_1059 rfl rfl rfl ?_
    refine g_iconst (pc' := 1061) (v := 0) C dL_law_1060 rfl (by decide) ?_
    refine g_lald (pc' := 1062) (n := 1) C 75 3 (wA_out _ _ _ _ _ _ _ _) rfl (vp_of (by decide) (by decide)) (k := 0) rfl dL_law_1061 rfl ?_
    refine g_iload (pc' := 1064) (q := 0) C dL_law_1062 rfl rfl ?_
    refine g_if_eq (tgt := 1071) (pc' := 1067) C dL_law_1064 rfl (by decide) (fun (cb : rb.toInt = 0) => ?_) (fun (cb : ¬ rb.toInt = 0) => ?_)
    · skip
      refine g_lconst (pc' := 1072) (v := 0) C dL_law_1071 rfl (by decide) ?_
      refine g_lcmp (pc' := 1073) C dL_law_1072 rfl ?_
      refine g_if_eq (tgt := 1078) (pc' := 1076) C dL_law_1073 rfl (by decide) (fun _ => ?_) (fun h9 => absurd (lg_self ((hkv hk0).trans (by unfold lbI; rw [if_pos cb]))) h9)
      refine g_goto (tgt := 1609) C dL_law_1078 (by decide) ?_
      exact g_widen (by omega) (by omega) (g_sub (L' := [(0, .ref b), (1, .ref (ax 0)), (2, .ref (am 0)), (3, .ref o), (4, .int (nI (5 * j)))]) [2, 3, 4, 5, 6] rfl (next _ _ _ hR2))
    · skip
      refine g_lconst (pc' := 1068) (v := 1) C dL_law_1067 rfl (by decide) ?_
      refine g_goto (tgt := 1072) C dL_law_1068 (by decide) ?_
      refine g_lcmp (pc' := 1073) C dL_law_1072 rfl ?_
      refine g_if_eq (tgt := 1078) (pc' := 1076) C dL_law_1073 rfl (by decide) (fun _ => ?_) (fun h9 => absurd (lg_self ((hkv hk0).trans (by unfold lbI; rw [if_neg cb]))) h9)
      refine g_goto (tgt := 1609) C dL_law_1078 (by decide) ?_
      exact g_widen (by omega) (by omega) (g_sub (L' := [(0, .ref b), (1, .ref (ax 0)), (2, .ref (am 0)), (3, .ref o), (4, .int (nI (5 * j)))]) [2, 3, 4, 5, 6] rfl (next _ _ _ hR2))
set_option maxHeartbeats 4000000 in
set_option maxRecDepth 100000 in
theorem law_case_17 {p : Program} {l : Launch} {e : Env} {s : State} {m : MethodId} {below : List Frame} {meth : Method} {c : Code} {D : va_G} {cI cZ cQ cL : ClassId} {ax am : Nat → Nat} {o b L9 : Nat} {xs : Nat → Int32} (hlt : l.stackTraces = false) (C : CX p s m #[.ref b] meth c D (tyL cI cZ cQ cL) (fun q => s.heap.size ≤ q) RL cL_law wsL_law 7 (wAll cI cZ cQ cL ax am o)) (hr : meth.sig.returnType = ret) (hE : EV (fun q => s.heap.size ≤ q) s s.heap tx0) (hXs : va_X b L9 xs s s.heap) (hbl : b < s.heap.size) {c0 s0 : Nat} (hc0 : c0 + 1600 ≤ 601024) (hs0 : s0 + 9600 ≤ 7293034) {j : Nat} {X M : LU} {f : Nat → Int64} (hj : 5 * j + 5 ≤ L9) (hL9 : L9 ≤ 2560) (hR : Rel (10000 * (j : Int)) X M) (next : ∀ (X2 M2 : LU) (f2 : Nat → Int64), Rel (10000 * (j : Int) + 10000) X2 M2 → G p l e room_1 s m #[.ref b] below meth c D (fun q => s.heap.size ≤ q) 7 (wAll cI cZ cQ cL ax am o) (c0 + 3 * j + 3) (s0 + 18 * j + 18) (lw_Z below #[.ref b] s) (X2, M2, f2) 1609 [(0, .ref b), (1, .ref (ax 0)), (2, .ref (am 0)), (3, .ref o), (4, .int (nI (5 * j)))] []) : G p l e room_1 s m #[.ref b] below meth c D (fun q => s.heap.size ≤ q) 7 (wAll cI cZ cQ cL ax am o) (c0 + 3 * j) (s0 + 18 * j) (lw_Z below #[.ref b] s) (X, M, f) 1081 [(0, .ref b), (1, .ref (ax 0)), (2, .ref (am 0)), (3, .ref o), (4, .int (nI (5 * j)))] [] := by
  refine g_aload_n (pc' := 1082) (q := 1) C dL_law_1081 rfl rfl rfl ?_
  refine g_aload_n (pc' := 1083) (q := 0) C dL_law_1082 rfl rfl rfl ?_
  refine g_iload (pc' := 1085) (q := 4) C dL_law_1083 rfl rfl ?_
  refine g_iconst (pc' := 1086) (v := 1) C dL_law_1085 rfl (by decide) ?_
  refine g_iadd (pc' := 1087) C dL_law_1086 rfl ?_
  refine g_conv (show nI (5 * j) + 1 = nI (5 * j + 1) from nI_add (5 * j) 1) ?_
  refine g_sld (pc' := 1088) (k := 5 * j + 1) C hXs hbl (Nat.not_le.mpr hbl) (vp_in_nI (by omega) (by omega)) (nI_clamp (by omega)) dL_law_1087 rfl ?_
  refine g_aload_n (pc' := 1089) (q := 3) C dL_law_1088 rfl rfl rfl ?_
  have hM1 := fr_XI (wg := wAll cI cZ cQ cL ax am o) (tysG := tyL cI cZ cQ cL) (emb := fun v : LU × (Nat → Int64) => ((v.1, M, v.2) : LU × LU × (Nat → Int64))) (E1 := []) (E2 := wM cI cZ am M) (fun v => rfl) [0, 1, 2, 3] rfl (c_L_reworks (l := l) (D := D) (cI := cI) (cZ := cZ) (cQ := cQ) (cL := cL) (a := ax) (o := o) (posti := pX_reworks X (xs (5 * j + 1))) (xp := eX_reworks X (xs (5 * j + 1))) X f (xs (5 * j + 1)) (c_X0_reworks hlt X (xs (5 * j + 1)) hR.ix) (hxs_reworks X (xs (5 * j + 1))))
  refine g_callW (pc' := 1092) (As := [.ref (ax 0), .int (xs (5 * j + 1)), .ref o]) (st := []) (cells' := c0 + 3 * j + 1) (slots' := s0 + 18 * j + 6) C hE hM1 gL_law_L_reworks rfl (by decide +kernel) ⟨Nat.le_of_ble_eq_true rfl, Nat.le_of_ble_eq_true rfl⟩ (n := 3) rfl rfl (Nat.le_of_ble_eq_true rfl) dL_law_1089 rfl rfl rfl ⟨(by show c0 + 3 * j + 1 ≤ 601024; omega), (by show s0 + 18 * j + 6 ≤ 7293034; omega)⟩ (fun k0 s9 hp => ?_)
  obtain ⟨s2, hw, rfl⟩ := hp
  refine g_istore (pc' := 1094) (L' := [(5, .int k0), (0, .ref b), (1, .ref (ax 0)), (2, .ref (am 0)), (3, .ref o), (4, .int (nI (5 * j)))]) C dL_law_1092 rfl (by decide) rfl ?_
  refine g_aload_n (pc' := 1095) (q := 3) C dL_law_1094 rfl rfl rfl ?_
  refine g_aload_n (pc' := 1096) (q := 1) C dL_law_1095 rfl rfl rfl ?_
  refine g_iload (pc' := 1098) (q := 5) C dL_law_1096 rfl rfl ?_
  refine g_iconst (pc' := 1099) (v := 1) C dL_law_1098 rfl (by decide) ?_
  refine g_iadd (pc' := 1100) C dL_law_1099 rfl ?_
  refine g_conv (show nI (5 * j) + 1 = nI (5 * j + 1) from nI_add (5 * j) 1) ?_
  refine g_sld (pc' := 1101) (k := 5 * j + 1) C hXs hbl (Nat.not_le.mpr hbl) (vp_in_nI (by omega) (by omega)) (nI_clamp (by omega)) dL_law_1100 rfl ?_
  refine g_calliV (pc' := 1104) (As := [.int (xs (5 * j + 1))]) (st := []) (cells' := c0 + 3 * j + 1) (slots' := s0 + 18 * j + 6) C (fr_KI (wg := wAll cI cZ cQ cL ax am o) (tysG := tyL cI cZ cQ cL) (emb := fun v : LU => ((s2.1, v, s2.2) : LU × LU × (Nat → Int64))) (E1 := wL cI cZ cQ cL ax o s2) (E2 := []) (fun v => by simp [wAll]) [0, 1, 2] rfl (c_X1_reworks (l := l) (D := D) (cI := cI) (cZ := cZ) (cQ := cQ) (a := am) M (xs (5 * j + 1)) hR.im)) gL_law_X1_reworks rfl (by decide +kernel) ⟨Nat.le_of_ble_eq_true rfl, Nat.le_of_ble_eq_true rfl⟩ 76 (wA_M _ _ _ _ _ _ _ _) rfl (n := 1) rfl rfl (Nat.le_of_ble_eq_true rfl) dL_law_1101 rfl (by rfl) (by rfl) ⟨(by show c0 + 3 * j + 1 ≤ 601024; omega), (by show s0 + 18 * j + 6 ≤ 7293034; omega)⟩ (fun rb s9 hp => ?_)
  obtain ⟨M1, hm, rfl⟩ := hp
  obtain ⟨hR2, hkt, hkv⟩ := sim_reworks hR (by omega) (xs (5 * j + 1)) hw hm
  refine g_istore (pc' := 1106) (L' := [(6, .int rb), (5, .int k0), (0, .ref b), (1, .ref (ax 0)), (2, .ref (am 0)), (3, .ref o), (4, .int (nI (5 * j)))]) C dL_law_1104 rfl (by decide) rfl ?_
  refine g_aload_n (pc' := 1107) (q := 4) C dL_law_1106 rfl rfl rfl ?_
  refine g_calliV (pc' := 1110) (As := []) (st := []) (cells' := c0 + 3 * j + 1) (slots' := s0 + 18 * j + 6) C (fr_KI (wg := wAll cI cZ cQ cL ax am o) (tysG := tyL cI cZ cQ cL) (emb := fun v : LU => ((s2.1, v, s2.2) : LU × LU × (Nat → Int64))) (E1 := wL cI cZ cQ cL ax o s2) (E2 := []) (fun v => by simp [wAll]) [0, 1, 2] rfl (c_X1_thrown (l := l) (D := D) (cI := cI) (cZ := cZ) (cQ := cQ) (a := am) M1)) gL_law_X1_thrown rfl (by decide +kernel) ⟨Nat.le_of_ble_eq_true rfl, Nat.le_of_ble_eq_true rfl⟩ 76 (wA_M _ _ _ _ _ _ _ _) rfl (n := 0) rfl rfl (Nat.le_of_ble_eq_true rfl) dL_law_1107 rfl (by rfl) (by rfl) ⟨(by show c0 + 3 * j + 1 ≤ 601024; omega), (by show s0 + 18 * j + 6 ≤ 7293034; omega)⟩ (fun r1 s9 hp => ?_)
  obtain ⟨v9, ⟨rfl, hv9⟩, rfl⟩ := hp
  rw [hv9]
  refine g_iload (pc' := 1112) (q := 1) C dL_law_1110 rfl rfl ?_
  refine g_icmp_eq (tgt := 1117) (pc' := 1115) C dL_law_1112 rfl (by decide) (fun _ => ?_) (fun h9 => absurd (congrArg Int32.toInt hkt) h9)
  refine g_iload (pc' := 1119) (q := 1) C dL_law_1117 rfl rfl ?_
  refine g_if_ne (tgt := 1134) (pc' := 1122) C dL_law_1119 rfl (by decide) (fun ck => ?_) (fun (ck : k0.toInt = 0) => ?_)
  · skip
    refine g_goto (tgt := 1609) C dL_law_1134 (by decide) ?_
    exact g_widen (by omega) (by omega) (g_sub (L' := [(0, .ref b), (1, .ref (ax 0)), (2, .ref (am 0)), (3, .ref o), (4, .int (nI (5 * j)))]) [2, 3, 4, 5, 6] rfl (next _ _ _ hR2))
  · have hk0 : k0 = 0 := Int32.toInt_inj.mp (ck.trans ti_0.symm)
    refine g_aload_n (pc' := 1123) (q := 5) C dL_law_1122 rfl rfl rfl ?_
    refine g_iconst (pc' := 1124) (v := 0) C dL_law_1123 rfl (by decide) ?_
    refine g_lald (pc' := 1125) (n := 1) C 75 3 (wA_out _ _ _ _ _ _ _ _) rfl (vp_of (by decide) (by decide)) (k := 0) rfl dL_law_1124 rfl ?_
    refine g_iload (pc' := 1127) (q := 0) C dL_law_1125 rfl rfl ?_
    refine g_i2l (pc' := 1128) C dL_law_1127 rfl ?_
    refine g_lcmp (pc' := 1129) C dL_law_1128 rfl ?_
    refine g_if_eq (tgt := 1134) (pc' := 1132) C dL_law_1129 rfl (by decide) (fun _ => ?_) (fun h9 => absurd (lg_self (hkv hk0)) h9)
    refine g_goto (tgt := 1609) C dL_law_1134 (by decide) ?_
    exact g_widen (by omega) (by omega) (g_sub (L' := [(0, .ref b), (1, .ref (ax 0)), (2, .ref (am 0)), (3, .ref o), (4, .int (nI (5 * j)))]) [2, 3, 4, 5, 6] rfl (next _ _ _ hR2))
set_option maxHeartbeats 4000000 in
set_option maxRecDepth 100000 in
theorem law_case_18 {p : Program} {l : Launch} {e : Env} {s : State} {m : MethodId} {below : List Frame} {meth : Method} {c : Code} {D : va_G} {cI cZ cQ cL : ClassId} {ax am : Nat → Nat} {o b L9 : Nat} {xs : Nat → Int32} (hlt : l.stackTraces = false) (C : CX p s m #[.ref b] meth c D (tyL cI cZ cQ cL) (fun q => s.heap.size ≤ q) RL cL_law wsL_law 7 (wAll cI cZ cQ cL ax am o)) (hr : meth.sig.returnType = ret) (hE : EV (fun q => s.heap.size ≤ q) s s.heap tx0) (hXs : va_X b L9 xs s s.heap) (hbl : b < s.heap.size) {c0 s0 : Nat} (hc0 : c0 + 1600 ≤ 601024) (hs0 : s0 + 9600 ≤ 7293034) {j : Nat} {X M : LU} {f : Nat → Int64} (hj : 5 * j + 5 ≤ L9) (hL9 : L9 ≤ 2560) (hR : Rel (10000 * (j : Int)) X M) (next : ∀ (X2 M2 : LU) (f2 : Nat → Int64), Rel (10000 * (j : Int) + 10000) X2 M2 → G p l e room_1 s m #[.ref b] below meth c D (fun q => s.heap.size ≤ q) 7 (wAll cI cZ cQ cL ax am o) (c0 + 3 * j + 3) (s0 + 18 * j + 18) (lw_Z below #[.ref b] s) (X2, M2, f2) 1609 [(0, .ref b), (1, .ref (ax 0)), (2, .ref (am 0)), (3, .ref o), (4, .int (nI (5 * j)))] []) : G p l e room_1 s m #[.ref b] below meth c D (fun q => s.heap.size ≤ q) 7 (wAll cI cZ cQ cL ax am o) (c0 + 3 * j) (s0 + 18 * j) (lw_Z below #[.ref b] s) (X, M, f) 1137 [(0, .ref b), (1, .ref (ax 0)), (2, .ref (am 0)), (3, .ref o), (4, .int (nI (5 * j)))] [] := by
  refine g_aload_n (pc' := 1138) (q := 1) C dL_law_1137 rfl rfl rfl ?_
  refine g_aload_n (pc' := 1139) (q := 0) C dL_law_1138 rfl rfl rfl ?_
  refine g_iload (pc' := 1141) (q := 4) C dL_law_1139 rfl rfl ?_
  refine g_iconst (pc' := 1142) (v := 1) C dL_law_1141 rfl (by decide) ?_
  refine g_iadd (pc' := 1143) C dL_law_1142 rfl ?_
  refine g_conv (show nI (5 * j) + 1 = nI (5 * j + 1) from nI_add (5 * j) 1) ?_
  refine g_sld (pc' := 1144) (k := 5 * j + 1) C hXs hbl (Nat.not_le.mpr hbl) (vp_in_nI (by omega) (by omega)) (nI_clamp (by omega)) dL_law_1143 rfl ?_
  refine g_aload_n (pc' := 1145) (q := 3) C dL_law_1144 rfl rfl rfl ?_
  have hM1 := fr_XI (wg := wAll cI cZ cQ cL ax am o) (tysG := tyL cI cZ cQ cL) (emb := fun v : LU × (Nat → Int64) => ((v.1, M, v.2) : LU × LU × (Nat → Int64))) (E1 := []) (E2 := wM cI cZ am M) (fun v => rfl) [0, 1, 2, 3] rfl (c_L_nextFor (l := l) (D := D) (cI := cI) (cZ := cZ) (cQ := cQ) (cL := cL) (a := ax) (o := o) (posti := pX_nextFor X (xs (5 * j + 1))) (xp := eX_nextFor X (xs (5 * j + 1))) X f (xs (5 * j + 1)) (c_X0_nextFor hlt X (xs (5 * j + 1)) hR.ix) (hxs_nextFor X (xs (5 * j + 1))))
  refine g_callW (pc' := 1148) (As := [.ref (ax 0), .int (xs (5 * j + 1)), .ref o]) (st := []) (cells' := c0 + 3 * j + 1) (slots' := s0 + 18 * j + 6) C hE hM1 gL_law_L_nextFor rfl (by decide +kernel) ⟨Nat.le_of_ble_eq_true rfl, Nat.le_of_ble_eq_true rfl⟩ (n := 3) rfl rfl (Nat.le_of_ble_eq_true rfl) dL_law_1145 rfl rfl rfl ⟨(by show c0 + 3 * j + 1 ≤ 601024; omega), (by show s0 + 18 * j + 6 ≤ 7293034; omega)⟩ (fun k0 s9 hp => ?_)
  obtain ⟨s2, hw, rfl⟩ := hp
  refine g_istore (pc' := 1150) (L' := [(5, .int k0), (0, .ref b), (1, .ref (ax 0)), (2, .ref (am 0)), (3, .ref o), (4, .int (nI (5 * j)))]) C dL_law_1148 rfl (by decide) rfl ?_
  refine g_aload_n (pc' := 1151) (q := 3) C dL_law_1150 rfl rfl rfl ?_
  refine g_aload_n (pc' := 1152) (q := 1) C dL_law_1151 rfl rfl rfl ?_
  refine g_iload (pc' := 1154) (q := 5) C dL_law_1152 rfl rfl ?_
  refine g_iconst (pc' := 1155) (v := 1) C dL_law_1154 rfl (by decide) ?_
  refine g_iadd (pc' := 1156) C dL_law_1155 rfl ?_
  refine g_conv (show nI (5 * j) + 1 = nI (5 * j + 1) from nI_add (5 * j) 1) ?_
  refine g_sld (pc' := 1157) (k := 5 * j + 1) C hXs hbl (Nat.not_le.mpr hbl) (vp_in_nI (by omega) (by omega)) (nI_clamp (by omega)) dL_law_1156 rfl ?_
  refine g_calliV (pc' := 1160) (As := [.int (xs (5 * j + 1))]) (st := []) (cells' := c0 + 3 * j + 1) (slots' := s0 + 18 * j + 6) C (fr_KI (wg := wAll cI cZ cQ cL ax am o) (tysG := tyL cI cZ cQ cL) (emb := fun v : LU => ((s2.1, v, s2.2) : LU × LU × (Nat → Int64))) (E1 := wL cI cZ cQ cL ax o s2) (E2 := []) (fun v => by simp [wAll]) [0, 1, 2] rfl (c_X1_nextFor (l := l) (D := D) (cI := cI) (cZ := cZ) (cQ := cQ) (a := am) M (xs (5 * j + 1)) hR.im)) gL_law_X1_nextFor rfl (by decide +kernel) ⟨Nat.le_of_ble_eq_true rfl, Nat.le_of_ble_eq_true rfl⟩ 76 (wA_M _ _ _ _ _ _ _ _) rfl (n := 1) rfl rfl (Nat.le_of_ble_eq_true rfl) dL_law_1157 rfl (by rfl) (by rfl) ⟨(by show c0 + 3 * j + 1 ≤ 601024; omega), (by show s0 + 18 * j + 6 ≤ 7293034; omega)⟩ (fun rb s9 hp => ?_)
  obtain ⟨M1, hm, rfl⟩ := hp
  obtain ⟨hR2, hkt, hkv⟩ := sim_nextFor hR (by omega) (xs (5 * j + 1)) hw hm
  refine g_istore (pc' := 1162) (L' := [(6, .int rb), (5, .int k0), (0, .ref b), (1, .ref (ax 0)), (2, .ref (am 0)), (3, .ref o), (4, .int (nI (5 * j)))]) C dL_law_1160 rfl (by decide) rfl ?_
  refine g_aload_n (pc' := 1163) (q := 4) C dL_law_1162 rfl rfl rfl ?_
  refine g_calliV (pc' := 1166) (As := []) (st := []) (cells' := c0 + 3 * j + 1) (slots' := s0 + 18 * j + 6) C (fr_KI (wg := wAll cI cZ cQ cL ax am o) (tysG := tyL cI cZ cQ cL) (emb := fun v : LU => ((s2.1, v, s2.2) : LU × LU × (Nat → Int64))) (E1 := wL cI cZ cQ cL ax o s2) (E2 := []) (fun v => by simp [wAll]) [0, 1, 2] rfl (c_X1_thrown (l := l) (D := D) (cI := cI) (cZ := cZ) (cQ := cQ) (a := am) M1)) gL_law_X1_thrown rfl (by decide +kernel) ⟨Nat.le_of_ble_eq_true rfl, Nat.le_of_ble_eq_true rfl⟩ 76 (wA_M _ _ _ _ _ _ _ _) rfl (n := 0) rfl rfl (Nat.le_of_ble_eq_true rfl) dL_law_1163 rfl (by rfl) (by rfl) ⟨(by show c0 + 3 * j + 1 ≤ 601024; omega), (by show s0 + 18 * j + 6 ≤ 7293034; omega)⟩ (fun r1 s9 hp => ?_)
  obtain ⟨v9, ⟨rfl, hv9⟩, rfl⟩ := hp
  rw [hv9]
  refine g_iload (pc' := 1168) (q := 1) C dL_law_1166 rfl rfl ?_
  refine g_icmp_eq (tgt := 1173) (pc' := 1171) C dL_law_1168 rfl (by decide) (fun _ => ?_) (fun h9 => absurd (congrArg Int32.toInt hkt) h9)
  refine g_iload (pc' := 1175) (q := 1) C dL_law_1173 rfl rfl ?_
  refine g_if_ne (tgt := 1190) (pc' := 1178) C dL_law_1175 rfl (by decide) (fun ck => ?_) (fun (ck : k0.toInt = 0) => ?_)
  · skip
    refine g_goto (tgt := 1609) C dL_law_1190 (by decide) ?_
    exact g_widen (by omega) (by omega) (g_sub (L' := [(0, .ref b), (1, .ref (ax 0)), (2, .ref (am 0)), (3, .ref o), (4, .int (nI (5 * j)))]) [2, 3, 4, 5, 6] rfl (next _ _ _ hR2))
  · have hk0 : k0 = 0 := Int32.toInt_inj.mp (ck.trans ti_0.symm)
    refine g_aload_n (pc' := 1179) (q := 5) C dL_law_1178 rfl rfl rfl ?_
    refine g_iconst (pc' := 1180) (v := 0) C dL_law_1179 rfl (by decide) ?_
    refine g_lald (pc' := 1181) (n := 1) C 75 3 (wA_out _ _ _ _ _ _ _ _) rfl (vp_of (by decide) (by decide)) (k := 0) rfl dL_law_1180 rfl ?_
    refine g_iload (pc' := 1183) (q := 0) C dL_law_1181 rfl rfl ?_
    refine g_i2l (pc' := 1184) C dL_law_1183 rfl ?_
    refine g_lcmp (pc' := 1185) C dL_law_1184 rfl ?_
    refine g_if_eq (tgt := 1190) (pc' := 1188) C dL_law_1185 rfl (by decide) (fun _ => ?_) (fun h9 => absurd (lg_self (hkv hk0)) h9)
    refine g_goto (tgt := 1609) C dL_law_1190 (by decide) ?_
    exact g_widen (by omega) (by omega) (g_sub (L' := [(0, .ref b), (1, .ref (ax 0)), (2, .ref (am 0)), (3, .ref o), (4, .int (nI (5 * j)))]) [2, 3, 4, 5, 6] rfl (next _ _ _ hR2))
set_option maxHeartbeats 4000000 in
set_option maxRecDepth 100000 in
theorem law_case_19 {p : Program} {l : Launch} {e : Env} {s : State} {m : MethodId} {below : List Frame} {meth : Method} {c : Code} {D : va_G} {cI cZ cQ cL : ClassId} {ax am : Nat → Nat} {o b L9 : Nat} {xs : Nat → Int32} (hlt : l.stackTraces = false) (C : CX p s m #[.ref b] meth c D (tyL cI cZ cQ cL) (fun q => s.heap.size ≤ q) RL cL_law wsL_law 7 (wAll cI cZ cQ cL ax am o)) (hr : meth.sig.returnType = ret) (hE : EV (fun q => s.heap.size ≤ q) s s.heap tx0) (hXs : va_X b L9 xs s s.heap) (hbl : b < s.heap.size) {c0 s0 : Nat} (hc0 : c0 + 1600 ≤ 601024) (hs0 : s0 + 9600 ≤ 7293034) {j : Nat} {X M : LU} {f : Nat → Int64} (hj : 5 * j + 5 ≤ L9) (hL9 : L9 ≤ 2560) (hR : Rel (10000 * (j : Int)) X M) (next : ∀ (X2 M2 : LU) (f2 : Nat → Int64), Rel (10000 * (j : Int) + 10000) X2 M2 → G p l e room_1 s m #[.ref b] below meth c D (fun q => s.heap.size ≤ q) 7 (wAll cI cZ cQ cL ax am o) (c0 + 3 * j + 3) (s0 + 18 * j + 18) (lw_Z below #[.ref b] s) (X2, M2, f2) 1609 [(0, .ref b), (1, .ref (ax 0)), (2, .ref (am 0)), (3, .ref o), (4, .int (nI (5 * j)))] []) : G p l e room_1 s m #[.ref b] below meth c D (fun q => s.heap.size ≤ q) 7 (wAll cI cZ cQ cL ax am o) (c0 + 3 * j) (s0 + 18 * j) (lw_Z below #[.ref b] s) (X, M, f) 1193 [(0, .ref b), (1, .ref (ax 0)), (2, .ref (am 0)), (3, .ref o), (4, .int (nI (5 * j)))] [] := by
  refine g_aload_n (pc' := 1194) (q := 1) C dL_law_1193 rfl rfl rfl ?_
  refine g_aload_n (pc' := 1195) (q := 0) C dL_law_1194 rfl rfl rfl ?_
  refine g_iload (pc' := 1197) (q := 4) C dL_law_1195 rfl rfl ?_
  refine g_iconst (pc' := 1198) (v := 1) C dL_law_1197 rfl (by decide) ?_
  refine g_iadd (pc' := 1199) C dL_law_1198 rfl ?_
  refine g_conv (show nI (5 * j) + 1 = nI (5 * j + 1) from nI_add (5 * j) 1) ?_
  refine g_sld (pc' := 1200) (k := 5 * j + 1) C hXs hbl (Nat.not_le.mpr hbl) (vp_in_nI (by omega) (by omega)) (nI_clamp (by omega)) dL_law_1199 rfl ?_
  refine g_aload_n (pc' := 1201) (q := 3) C dL_law_1200 rfl rfl rfl ?_
  have hM1 := fr_XI (wg := wAll cI cZ cQ cL ax am o) (tysG := tyL cI cZ cQ cL) (emb := fun v : LU × (Nat → Int64) => ((v.1, M, v.2) : LU × LU × (Nat → Int64))) (E1 := []) (E2 := wM cI cZ am M) (fun v => rfl) [0, 1, 2, 3] rfl (c_L_wafersAt (l := l) (D := D) (cI := cI) (cZ := cZ) (cQ := cQ) (cL := cL) (a := ax) (o := o) (posti := pX_wafersAt X (xs (5 * j + 1))) (xp := eX_wafersAt X (xs (5 * j + 1))) X f (xs (5 * j + 1)) (c_X0_wafersAt hlt X (xs (5 * j + 1)) hR.ix) (hxs_wafersAt X (xs (5 * j + 1))))
  refine g_callW (pc' := 1204) (As := [.ref (ax 0), .int (xs (5 * j + 1)), .ref o]) (st := []) (cells' := c0 + 3 * j + 1) (slots' := s0 + 18 * j + 6) C hE hM1 gL_law_L_wafersAt rfl (by decide +kernel) ⟨Nat.le_of_ble_eq_true rfl, Nat.le_of_ble_eq_true rfl⟩ (n := 3) rfl rfl (Nat.le_of_ble_eq_true rfl) dL_law_1201 rfl rfl rfl ⟨(by show c0 + 3 * j + 1 ≤ 601024; omega), (by show s0 + 18 * j + 6 ≤ 7293034; omega)⟩ (fun k0 s9 hp => ?_)
  obtain ⟨s2, hw, rfl⟩ := hp
  refine g_istore (pc' := 1206) (L' := [(5, .int k0), (0, .ref b), (1, .ref (ax 0)), (2, .ref (am 0)), (3, .ref o), (4, .int (nI (5 * j)))]) C dL_law_1204 rfl (by decide) rfl ?_
  refine g_aload_n (pc' := 1207) (q := 3) C dL_law_1206 rfl rfl rfl ?_
  refine g_aload_n (pc' := 1208) (q := 1) C dL_law_1207 rfl rfl rfl ?_
  refine g_iload (pc' := 1210) (q := 5) C dL_law_1208 rfl rfl ?_
  refine g_iconst (pc' := 1211) (v := 1) C dL_law_1210 rfl (by decide) ?_
  refine g_iadd (pc' := 1212) C dL_law_1211 rfl ?_
  refine g_conv (show nI (5 * j) + 1 = nI (5 * j + 1) from nI_add (5 * j) 1) ?_
  refine g_sld (pc' := 1213) (k := 5 * j + 1) C hXs hbl (Nat.not_le.mpr hbl) (vp_in_nI (by omega) (by omega)) (nI_clamp (by omega)) dL_law_1212 rfl ?_
  refine g_calliV (pc' := 1216) (As := [.int (xs (5 * j + 1))]) (st := []) (cells' := c0 + 3 * j + 1) (slots' := s0 + 18 * j + 6) C (fr_KI (wg := wAll cI cZ cQ cL ax am o) (tysG := tyL cI cZ cQ cL) (emb := fun v : LU => ((s2.1, v, s2.2) : LU × LU × (Nat → Int64))) (E1 := wL cI cZ cQ cL ax o s2) (E2 := []) (fun v => by simp [wAll]) [0, 1, 2] rfl (c_X1_wafersAt (l := l) (D := D) (cI := cI) (cZ := cZ) (cQ := cQ) (a := am) M (xs (5 * j + 1)) hR.im)) gL_law_X1_wafersAt rfl (by decide +kernel) ⟨Nat.le_of_ble_eq_true rfl, Nat.le_of_ble_eq_true rfl⟩ 76 (wA_M _ _ _ _ _ _ _ _) rfl (n := 1) rfl rfl (Nat.le_of_ble_eq_true rfl) dL_law_1213 rfl (by rfl) (by rfl) ⟨(by show c0 + 3 * j + 1 ≤ 601024; omega), (by show s0 + 18 * j + 6 ≤ 7293034; omega)⟩ (fun rb s9 hp => ?_)
  obtain ⟨M1, hm, rfl⟩ := hp
  obtain ⟨hR2, hkt, hkv⟩ := sim_wafersAt hR (by omega) (xs (5 * j + 1)) hw hm
  refine g_istore (pc' := 1218) (L' := [(6, .int rb), (5, .int k0), (0, .ref b), (1, .ref (ax 0)), (2, .ref (am 0)), (3, .ref o), (4, .int (nI (5 * j)))]) C dL_law_1216 rfl (by decide) rfl ?_
  refine g_aload_n (pc' := 1219) (q := 4) C dL_law_1218 rfl rfl rfl ?_
  refine g_calliV (pc' := 1222) (As := []) (st := []) (cells' := c0 + 3 * j + 1) (slots' := s0 + 18 * j + 6) C (fr_KI (wg := wAll cI cZ cQ cL ax am o) (tysG := tyL cI cZ cQ cL) (emb := fun v : LU => ((s2.1, v, s2.2) : LU × LU × (Nat → Int64))) (E1 := wL cI cZ cQ cL ax o s2) (E2 := []) (fun v => by simp [wAll]) [0, 1, 2] rfl (c_X1_thrown (l := l) (D := D) (cI := cI) (cZ := cZ) (cQ := cQ) (a := am) M1)) gL_law_X1_thrown rfl (by decide +kernel) ⟨Nat.le_of_ble_eq_true rfl, Nat.le_of_ble_eq_true rfl⟩ 76 (wA_M _ _ _ _ _ _ _ _) rfl (n := 0) rfl rfl (Nat.le_of_ble_eq_true rfl) dL_law_1219 rfl (by rfl) (by rfl) ⟨(by show c0 + 3 * j + 1 ≤ 601024; omega), (by show s0 + 18 * j + 6 ≤ 7293034; omega)⟩ (fun r1 s9 hp => ?_)
  obtain ⟨v9, ⟨rfl, hv9⟩, rfl⟩ := hp
  rw [hv9]
  refine g_iload (pc' := 1224) (q := 1) C dL_law_1222 rfl rfl ?_
  refine g_icmp_eq (tgt := 1229) (pc' := 1227) C dL_law_1224 rfl (by decide) (fun _ => ?_) (fun h9 => absurd (congrArg Int32.toInt hkt) h9)
  refine g_iload (pc' := 1231) (q := 1) C dL_law_1229 rfl rfl ?_
  refine g_if_ne (tgt := 1246) (pc' := 1234) C dL_law_1231 rfl (by decide) (fun ck => ?_) (fun (ck : k0.toInt = 0) => ?_)
  · skip
    refine g_goto (tgt := 1609) C dL_law_1246 (by decide) ?_
    exact g_widen (by omega) (by omega) (g_sub (L' := [(0, .ref b), (1, .ref (ax 0)), (2, .ref (am 0)), (3, .ref o), (4, .int (nI (5 * j)))]) [2, 3, 4, 5, 6] rfl (next _ _ _ hR2))
  · have hk0 : k0 = 0 := Int32.toInt_inj.mp (ck.trans ti_0.symm)
    refine g_aload_n (pc' := 1235) (q := 5) C dL_law_1234 rfl rfl rfl ?_
    refine g_iconst (pc' := 1236) (v := 0) C dL_law_1235 rfl (by decide) ?_
    refine g_lald (pc' := 1237) (n := 1) C 75 3 (wA_out _ _ _ _ _ _ _ _) rfl (vp_of (by decide) (by decide)) (k := 0) rfl dL_law_1236 rfl ?_
    refine g_iload (pc' := 1239) (q := 0) C dL_law_1237 rfl rfl ?_
    refine g_i2l (pc' := 1240) C dL_law_1239 rfl ?_
    refine g_lcmp (pc' := 1241) C dL_law_1240 rfl ?_
    refine g_if_eq (tgt := 1246) (pc' := 1244) C dL_law_1241 rfl (by decide) (fun _ => ?_) (fun h9 => absurd (lg_self (hkv hk0)) h9)
    refine g_goto (tgt := 1609) C dL_law_1246 (by decide) ?_
    exact g_widen (by omega) (by omega) (g_sub (L' := [(0, .ref b), (1, .ref (ax 0)), (2, .ref (am 0)), (3, .ref o), (4, .int (nI (5 * j)))]) [2, 3, 4, 5, 6] rfl (next _ _ _ hR2))
set_option maxHeartbeats 4000000 in
set_option maxRecDepth 100000 in
theorem law_case_20 {p : Program} {l : Launch} {e : Env} {s : State} {m : MethodId} {below : List Frame} {meth : Method} {c : Code} {D : va_G} {cI cZ cQ cL : ClassId} {ax am : Nat → Nat} {o b L9 : Nat} {xs : Nat → Int32} (hlt : l.stackTraces = false) (C : CX p s m #[.ref b] meth c D (tyL cI cZ cQ cL) (fun q => s.heap.size ≤ q) RL cL_law wsL_law 7 (wAll cI cZ cQ cL ax am o)) (hr : meth.sig.returnType = ret) (hE : EV (fun q => s.heap.size ≤ q) s s.heap tx0) (hXs : va_X b L9 xs s s.heap) (hbl : b < s.heap.size) {c0 s0 : Nat} (hc0 : c0 + 1600 ≤ 601024) (hs0 : s0 + 9600 ≤ 7293034) {j : Nat} {X M : LU} {f : Nat → Int64} (hj : 5 * j + 5 ≤ L9) (hL9 : L9 ≤ 2560) (hR : Rel (10000 * (j : Int)) X M) (next : ∀ (X2 M2 : LU) (f2 : Nat → Int64), Rel (10000 * (j : Int) + 10000) X2 M2 → G p l e room_1 s m #[.ref b] below meth c D (fun q => s.heap.size ≤ q) 7 (wAll cI cZ cQ cL ax am o) (c0 + 3 * j + 3) (s0 + 18 * j + 18) (lw_Z below #[.ref b] s) (X2, M2, f2) 1609 [(0, .ref b), (1, .ref (ax 0)), (2, .ref (am 0)), (3, .ref o), (4, .int (nI (5 * j)))] []) : G p l e room_1 s m #[.ref b] below meth c D (fun q => s.heap.size ≤ q) 7 (wAll cI cZ cQ cL ax am o) (c0 + 3 * j) (s0 + 18 * j) (lw_Z below #[.ref b] s) (X, M, f) 1249 [(0, .ref b), (1, .ref (ax 0)), (2, .ref (am 0)), (3, .ref o), (4, .int (nI (5 * j)))] [] := by
  refine g_aload_n (pc' := 1250) (q := 1) C dL_law_1249 rfl rfl rfl ?_
  refine g_aload_n (pc' := 1251) (q := 0) C dL_law_1250 rfl rfl rfl ?_
  refine g_iload (pc' := 1253) (q := 4) C dL_law_1251 rfl rfl ?_
  refine g_iconst (pc' := 1254) (v := 1) C dL_law_1253 rfl (by decide) ?_
  refine g_iadd (pc' := 1255) C dL_law_1254 rfl ?_
  refine g_conv (show nI (5 * j) + 1 = nI (5 * j + 1) from nI_add (5 * j) 1) ?_
  refine g_sld (pc' := 1256) (k := 5 * j + 1) C hXs hbl (Nat.not_le.mpr hbl) (vp_in_nI (by omega) (by omega)) (nI_clamp (by omega)) dL_law_1255 rfl ?_
  refine g_aload_n (pc' := 1257) (q := 3) C dL_law_1256 rfl rfl rfl ?_
  have hM1 := fr_XI (wg := wAll cI cZ cQ cL ax am o) (tysG := tyL cI cZ cQ cL) (emb := fun v : LU × (Nat → Int64) => ((v.1, M, v.2) : LU × LU × (Nat → Int64))) (E1 := []) (E2 := wM cI cZ am M) (fun v => rfl) [0, 1, 2, 3] rfl (c_L_wafersAtByWafers (l := l) (D := D) (cI := cI) (cZ := cZ) (cQ := cQ) (cL := cL) (a := ax) (o := o) (posti := pX_wafersAtByWafers X (xs (5 * j + 1))) (xp := eX_wafersAtByWafers X (xs (5 * j + 1))) X f (xs (5 * j + 1)) (c_X0_wafersAtByWafers hlt X (xs (5 * j + 1)) hR.ix) (hxs_wafersAtByWafers X (xs (5 * j + 1))))
  refine g_callW (pc' := 1260) (As := [.ref (ax 0), .int (xs (5 * j + 1)), .ref o]) (st := []) (cells' := c0 + 3 * j + 1) (slots' := s0 + 18 * j + 6) C hE hM1 gL_law_L_wafersAtByWafers rfl (by decide +kernel) ⟨Nat.le_of_ble_eq_true rfl, Nat.le_of_ble_eq_true rfl⟩ (n := 3) rfl rfl (Nat.le_of_ble_eq_true rfl) dL_law_1257 rfl rfl rfl ⟨(by show c0 + 3 * j + 1 ≤ 601024; omega), (by show s0 + 18 * j + 6 ≤ 7293034; omega)⟩ (fun k0 s9 hp => ?_)
  obtain ⟨s2, hw, rfl⟩ := hp
  refine g_istore (pc' := 1262) (L' := [(5, .int k0), (0, .ref b), (1, .ref (ax 0)), (2, .ref (am 0)), (3, .ref o), (4, .int (nI (5 * j)))]) C dL_law_1260 rfl (by decide) rfl ?_
  refine g_aload_n (pc' := 1263) (q := 3) C dL_law_1262 rfl rfl rfl ?_
  refine g_aload_n (pc' := 1264) (q := 1) C dL_law_1263 rfl rfl rfl ?_
  refine g_iload (pc' := 1266) (q := 5) C dL_law_1264 rfl rfl ?_
  refine g_iconst (pc' := 1267) (v := 1) C dL_law_1266 rfl (by decide) ?_
  refine g_iadd (pc' := 1268) C dL_law_1267 rfl ?_
  refine g_conv (show nI (5 * j) + 1 = nI (5 * j + 1) from nI_add (5 * j) 1) ?_
  refine g_sld (pc' := 1269) (k := 5 * j + 1) C hXs hbl (Nat.not_le.mpr hbl) (vp_in_nI (by omega) (by omega)) (nI_clamp (by omega)) dL_law_1268 rfl ?_
  refine g_calliV (pc' := 1272) (As := [.int (xs (5 * j + 1))]) (st := []) (cells' := c0 + 3 * j + 1) (slots' := s0 + 18 * j + 6) C (fr_KI (wg := wAll cI cZ cQ cL ax am o) (tysG := tyL cI cZ cQ cL) (emb := fun v : LU => ((s2.1, v, s2.2) : LU × LU × (Nat → Int64))) (E1 := wL cI cZ cQ cL ax o s2) (E2 := []) (fun v => by simp [wAll]) [0, 1, 2] rfl (c_X1_wafersAtByWafers (l := l) (D := D) (cI := cI) (cZ := cZ) (cQ := cQ) (a := am) M (xs (5 * j + 1)) hR.im)) gL_law_X1_wafersAtByWafers rfl (by decide +kernel) ⟨Nat.le_of_ble_eq_true rfl, Nat.le_of_ble_eq_true rfl⟩ 76 (wA_M _ _ _ _ _ _ _ _) rfl (n := 1) rfl rfl (Nat.le_of_ble_eq_true rfl) dL_law_1269 rfl (by rfl) (by rfl) ⟨(by show c0 + 3 * j + 1 ≤ 601024; omega), (by show s0 + 18 * j + 6 ≤ 7293034; omega)⟩ (fun rb s9 hp => ?_)
  obtain ⟨M1, hm, rfl⟩ := hp
  obtain ⟨hR2, hkt, hkv⟩ := sim_wafersAtByWafers hR (by omega) (xs (5 * j + 1)) hw hm
  refine g_istore (pc' := 1274) (L' := [(6, .int rb), (5, .int k0), (0, .ref b), (1, .ref (ax 0)), (2, .ref (am 0)), (3, .ref o), (4, .int (nI (5 * j)))]) C dL_law_1272 rfl (by decide) rfl ?_
  refine g_aload_n (pc' := 1275) (q := 4) C dL_law_1274 rfl rfl rfl ?_
  refine g_calliV (pc' := 1278) (As := []) (st := []) (cells' := c0 + 3 * j + 1) (slots' := s0 + 18 * j + 6) C (fr_KI (wg := wAll cI cZ cQ cL ax am o) (tysG := tyL cI cZ cQ cL) (emb := fun v : LU => ((s2.1, v, s2.2) : LU × LU × (Nat → Int64))) (E1 := wL cI cZ cQ cL ax o s2) (E2 := []) (fun v => by simp [wAll]) [0, 1, 2] rfl (c_X1_thrown (l := l) (D := D) (cI := cI) (cZ := cZ) (cQ := cQ) (a := am) M1)) gL_law_X1_thrown rfl (by decide +kernel) ⟨Nat.le_of_ble_eq_true rfl, Nat.le_of_ble_eq_true rfl⟩ 76 (wA_M _ _ _ _ _ _ _ _) rfl (n := 0) rfl rfl (Nat.le_of_ble_eq_true rfl) dL_law_1275 rfl (by rfl) (by rfl) ⟨(by show c0 + 3 * j + 1 ≤ 601024; omega), (by show s0 + 18 * j + 6 ≤ 7293034; omega)⟩ (fun r1 s9 hp => ?_)
  obtain ⟨v9, ⟨rfl, hv9⟩, rfl⟩ := hp
  rw [hv9]
  refine g_iload (pc' := 1280) (q := 1) C dL_law_1278 rfl rfl ?_
  refine g_icmp_eq (tgt := 1285) (pc' := 1283) C dL_law_1280 rfl (by decide) (fun _ => ?_) (fun h9 => absurd (congrArg Int32.toInt hkt) h9)
  refine g_iload (pc' := 1287) (q := 1) C dL_law_1285 rfl rfl ?_
  refine g_if_ne (tgt := 1302) (pc' := 1290) C dL_law_1287 rfl (by decide) (fun ck => ?_) (fun (ck : k0.toInt = 0) => ?_)
  · skip
    refine g_goto (tgt := 1609) C dL_law_1302 (by decide) ?_
    exact g_widen (by omega) (by omega) (g_sub (L' := [(0, .ref b), (1, .ref (ax 0)), (2, .ref (am 0)), (3, .ref o), (4, .int (nI (5 * j)))]) [2, 3, 4, 5, 6] rfl (next _ _ _ hR2))
  · have hk0 : k0 = 0 := Int32.toInt_inj.mp (ck.trans ti_0.symm)
    refine g_aload_n (pc' := 1291) (q := 5) C dL_law_1290 rfl rfl rfl ?_
    refine g_iconst (pc' := 1292) (v := 0) C dL_law_1291 rfl (by decide) ?_
    refine g_lald (pc' := 1293) (n := 1) C 75 3 (wA_out _ _ _ _ _ _ _ _) rfl (vp_of (by decide) (by decide)) (k := 0) rfl dL_law_1292 rfl ?_
    refine g_iload (pc' := 1295) (q := 0) C dL_law_1293 rfl rfl ?_
    refine g_i2l (pc' := 1296) C dL_law_1295 rfl ?_
    refine g_lcmp (pc' := 1297) C dL_law_1296 rfl ?_
    refine g_if_eq (tgt := 1302) (pc' := 1300) C dL_law_1297 rfl (by decide) (fun _ => ?_) (fun h9 => absurd (lg_self (hkv hk0)) h9)
    refine g_goto (tgt := 1609) C dL_law_1302 (by decide) ?_
    exact g_widen (by omega) (by omega) (g_sub (L' := [(0, .ref b), (1, .ref (ax 0)), (2, .ref (am 0)), (3, .ref o), (4, .int (nI (5 * j)))]) [2, 3, 4, 5, 6] rfl (next _ _ _ hR2))
set_option maxHeartbeats 4000000 in
set_option maxRecDepth 100000 in
theorem law_case_21 {p : Program} {l : Launch} {e : Env} {s : State} {m : MethodId} {below : List Frame} {meth : Method} {c : Code} {D : va_G} {cI cZ cQ cL : ClassId} {ax am : Nat → Nat} {o b L9 : Nat} {xs : Nat → Int32} (hlt : l.stackTraces = false) (C : CX p s m #[.ref b] meth c D (tyL cI cZ cQ cL) (fun q => s.heap.size ≤ q) RL cL_law wsL_law 7 (wAll cI cZ cQ cL ax am o)) (hr : meth.sig.returnType = ret) (hE : EV (fun q => s.heap.size ≤ q) s s.heap tx0) (hXs : va_X b L9 xs s s.heap) (hbl : b < s.heap.size) {c0 s0 : Nat} (hc0 : c0 + 1600 ≤ 601024) (hs0 : s0 + 9600 ≤ 7293034) {j : Nat} {X M : LU} {f : Nat → Int64} (hj : 5 * j + 5 ≤ L9) (hL9 : L9 ≤ 2560) (hR : Rel (10000 * (j : Int)) X M) (next : ∀ (X2 M2 : LU) (f2 : Nat → Int64), Rel (10000 * (j : Int) + 10000) X2 M2 → G p l e room_1 s m #[.ref b] below meth c D (fun q => s.heap.size ≤ q) 7 (wAll cI cZ cQ cL ax am o) (c0 + 3 * j + 3) (s0 + 18 * j + 18) (lw_Z below #[.ref b] s) (X2, M2, f2) 1609 [(0, .ref b), (1, .ref (ax 0)), (2, .ref (am 0)), (3, .ref o), (4, .int (nI (5 * j)))] []) : G p l e room_1 s m #[.ref b] below meth c D (fun q => s.heap.size ≤ q) 7 (wAll cI cZ cQ cL ax am o) (c0 + 3 * j) (s0 + 18 * j) (lw_Z below #[.ref b] s) (X, M, f) 1305 [(0, .ref b), (1, .ref (ax 0)), (2, .ref (am 0)), (3, .ref o), (4, .int (nI (5 * j)))] [] := by
  refine g_aload_n (pc' := 1306) (q := 1) C dL_law_1305 rfl rfl rfl ?_
  refine g_aload_n (pc' := 1307) (q := 0) C dL_law_1306 rfl rfl rfl ?_
  refine g_iload (pc' := 1309) (q := 4) C dL_law_1307 rfl rfl ?_
  refine g_iconst (pc' := 1310) (v := 1) C dL_law_1309 rfl (by decide) ?_
  refine g_iadd (pc' := 1311) C dL_law_1310 rfl ?_
  refine g_conv (show nI (5 * j) + 1 = nI (5 * j + 1) from nI_add (5 * j) 1) ?_
  refine g_sld (pc' := 1312) (k := 5 * j + 1) C hXs hbl (Nat.not_le.mpr hbl) (vp_in_nI (by omega) (by omega)) (nI_clamp (by omega)) dL_law_1311 rfl ?_
  refine g_aload_n (pc' := 1313) (q := 3) C dL_law_1312 rfl rfl rfl ?_
  have hM1 := fr_XI (wg := wAll cI cZ cQ cL ax am o) (tysG := tyL cI cZ cQ cL) (emb := fun v : LU × (Nat → Int64) => ((v.1, M, v.2) : LU × LU × (Nat → Int64))) (E1 := []) (E2 := wM cI cZ am M) (fun v => rfl) [0, 1, 2, 3] rfl (c_L_lotOf (l := l) (D := D) (cI := cI) (cZ := cZ) (cQ := cQ) (cL := cL) (a := ax) (o := o) (posti := pX_lotOf X (xs (5 * j + 1))) (xp := eX_lotOf X (xs (5 * j + 1))) X f (xs (5 * j + 1)) (c_X0_lotOf hlt X (xs (5 * j + 1)) hR.ix) (hxs_lotOf X (xs (5 * j + 1))))
  refine g_callW (pc' := 1316) (As := [.ref (ax 0), .int (xs (5 * j + 1)), .ref o]) (st := []) (cells' := c0 + 3 * j + 1) (slots' := s0 + 18 * j + 6) C hE hM1 gL_law_L_lotOf rfl (by decide +kernel) ⟨Nat.le_of_ble_eq_true rfl, Nat.le_of_ble_eq_true rfl⟩ (n := 3) rfl rfl (Nat.le_of_ble_eq_true rfl) dL_law_1313 rfl rfl rfl ⟨(by show c0 + 3 * j + 1 ≤ 601024; omega), (by show s0 + 18 * j + 6 ≤ 7293034; omega)⟩ (fun k0 s9 hp => ?_)
  obtain ⟨s2, hw, rfl⟩ := hp
  refine g_istore (pc' := 1318) (L' := [(5, .int k0), (0, .ref b), (1, .ref (ax 0)), (2, .ref (am 0)), (3, .ref o), (4, .int (nI (5 * j)))]) C dL_law_1316 rfl (by decide) rfl ?_
  refine g_aload_n (pc' := 1319) (q := 3) C dL_law_1318 rfl rfl rfl ?_
  refine g_aload_n (pc' := 1320) (q := 1) C dL_law_1319 rfl rfl rfl ?_
  refine g_iload (pc' := 1322) (q := 5) C dL_law_1320 rfl rfl ?_
  refine g_iconst (pc' := 1323) (v := 1) C dL_law_1322 rfl (by decide) ?_
  refine g_iadd (pc' := 1324) C dL_law_1323 rfl ?_
  refine g_conv (show nI (5 * j) + 1 = nI (5 * j + 1) from nI_add (5 * j) 1) ?_
  refine g_sld (pc' := 1325) (k := 5 * j + 1) C hXs hbl (Nat.not_le.mpr hbl) (vp_in_nI (by omega) (by omega)) (nI_clamp (by omega)) dL_law_1324 rfl ?_
  refine g_calliV (pc' := 1328) (As := [.int (xs (5 * j + 1))]) (st := []) (cells' := c0 + 3 * j + 1) (slots' := s0 + 18 * j + 6) C (fr_KI (wg := wAll cI cZ cQ cL ax am o) (tysG := tyL cI cZ cQ cL) (emb := fun v : LU => ((s2.1, v, s2.2) : LU × LU × (Nat → Int64))) (E1 := wL cI cZ cQ cL ax o s2) (E2 := []) (fun v => by simp [wAll]) [0, 1, 2] rfl (c_X1_lotOf (l := l) (D := D) (cI := cI) (cZ := cZ) (cQ := cQ) (a := am) M (xs (5 * j + 1)) hR.im)) gL_law_X1_lotOf rfl (by decide +kernel) ⟨Nat.le_of_ble_eq_true rfl, Nat.le_of_ble_eq_true rfl⟩ 76 (wA_M _ _ _ _ _ _ _ _) rfl (n := 1) rfl rfl (Nat.le_of_ble_eq_true rfl) dL_law_1325 rfl (by rfl) (by rfl) ⟨(by show c0 + 3 * j + 1 ≤ 601024; omega), (by show s0 + 18 * j + 6 ≤ 7293034; omega)⟩ (fun rb s9 hp => ?_)
  obtain ⟨M1, hm, rfl⟩ := hp
  obtain ⟨hR2, hkt, hkv⟩ := sim_lotOf hR (by omega) (xs (5 * j + 1)) hw hm
  refine g_istore (pc' := 1330) (L' := [(6, .int rb), (5, .int k0), (0, .ref b), (1, .ref (ax 0)), (2, .ref (am 0)), (3, .ref o), (4, .int (nI (5 * j)))]) C dL_law_1328 rfl (by decide) rfl ?_
  refine g_aload_n (pc' := 1331) (q := 4) C dL_law_1330 rfl rfl rfl ?_
  refine g_calliV (pc' := 1334) (As := []) (st := []) (cells' := c0 + 3 * j + 1) (slots' := s0 + 18 * j + 6) C (fr_KI (wg := wAll cI cZ cQ cL ax am o) (tysG := tyL cI cZ cQ cL) (emb := fun v : LU => ((s2.1, v, s2.2) : LU × LU × (Nat → Int64))) (E1 := wL cI cZ cQ cL ax o s2) (E2 := []) (fun v => by simp [wAll]) [0, 1, 2] rfl (c_X1_thrown (l := l) (D := D) (cI := cI) (cZ := cZ) (cQ := cQ) (a := am) M1)) gL_law_X1_thrown rfl (by decide +kernel) ⟨Nat.le_of_ble_eq_true rfl, Nat.le_of_ble_eq_true rfl⟩ 76 (wA_M _ _ _ _ _ _ _ _) rfl (n := 0) rfl rfl (Nat.le_of_ble_eq_true rfl) dL_law_1331 rfl (by rfl) (by rfl) ⟨(by show c0 + 3 * j + 1 ≤ 601024; omega), (by show s0 + 18 * j + 6 ≤ 7293034; omega)⟩ (fun r1 s9 hp => ?_)
  obtain ⟨v9, ⟨rfl, hv9⟩, rfl⟩ := hp
  rw [hv9]
  refine g_iload (pc' := 1336) (q := 1) C dL_law_1334 rfl rfl ?_
  refine g_icmp_eq (tgt := 1341) (pc' := 1339) C dL_law_1336 rfl (by decide) (fun _ => ?_) (fun h9 => absurd (congrArg Int32.toInt hkt) h9)
  refine g_iload (pc' := 1343) (q := 1) C dL_law_1341 rfl rfl ?_
  refine g_if_ne (tgt := 1358) (pc' := 1346) C dL_law_1343 rfl (by decide) (fun ck => ?_) (fun (ck : k0.toInt = 0) => ?_)
  · skip
    refine g_goto (tgt := 1609) C dL_law_1358 (by decide) ?_
    exact g_widen (by omega) (by omega) (g_sub (L' := [(0, .ref b), (1, .ref (ax 0)), (2, .ref (am 0)), (3, .ref o), (4, .int (nI (5 * j)))]) [2, 3, 4, 5, 6] rfl (next _ _ _ hR2))
  · have hk0 : k0 = 0 := Int32.toInt_inj.mp (ck.trans ti_0.symm)
    refine g_aload_n (pc' := 1347) (q := 5) C dL_law_1346 rfl rfl rfl ?_
    refine g_iconst (pc' := 1348) (v := 0) C dL_law_1347 rfl (by decide) ?_
    refine g_lald (pc' := 1349) (n := 1) C 75 3 (wA_out _ _ _ _ _ _ _ _) rfl (vp_of (by decide) (by decide)) (k := 0) rfl dL_law_1348 rfl ?_
    refine g_iload (pc' := 1351) (q := 0) C dL_law_1349 rfl rfl ?_
    refine g_i2l (pc' := 1352) C dL_law_1351 rfl ?_
    refine g_lcmp (pc' := 1353) C dL_law_1352 rfl ?_
    refine g_if_eq (tgt := 1358) (pc' := 1356) C dL_law_1353 rfl (by decide) (fun _ => ?_) (fun h9 => absurd (lg_self (hkv hk0)) h9)
    refine g_goto (tgt := 1609) C dL_law_1358 (by decide) ?_
    exact g_widen (by omega) (by omega) (g_sub (L' := [(0, .ref b), (1, .ref (ax 0)), (2, .ref (am 0)), (3, .ref o), (4, .int (nI (5 * j)))]) [2, 3, 4, 5, 6] rfl (next _ _ _ hR2))
set_option maxHeartbeats 4000000 in
set_option maxRecDepth 100000 in
theorem law_case_22 {p : Program} {l : Launch} {e : Env} {s : State} {m : MethodId} {below : List Frame} {meth : Method} {c : Code} {D : va_G} {cI cZ cQ cL : ClassId} {ax am : Nat → Nat} {o b L9 : Nat} {xs : Nat → Int32} (hlt : l.stackTraces = false) (C : CX p s m #[.ref b] meth c D (tyL cI cZ cQ cL) (fun q => s.heap.size ≤ q) RL cL_law wsL_law 7 (wAll cI cZ cQ cL ax am o)) (hr : meth.sig.returnType = ret) (hE : EV (fun q => s.heap.size ≤ q) s s.heap tx0) (hXs : va_X b L9 xs s s.heap) (hbl : b < s.heap.size) {c0 s0 : Nat} (hc0 : c0 + 1600 ≤ 601024) (hs0 : s0 + 9600 ≤ 7293034) {j : Nat} {X M : LU} {f : Nat → Int64} (hj : 5 * j + 5 ≤ L9) (hL9 : L9 ≤ 2560) (hR : Rel (10000 * (j : Int)) X M) (next : ∀ (X2 M2 : LU) (f2 : Nat → Int64), Rel (10000 * (j : Int) + 10000) X2 M2 → G p l e room_1 s m #[.ref b] below meth c D (fun q => s.heap.size ≤ q) 7 (wAll cI cZ cQ cL ax am o) (c0 + 3 * j + 3) (s0 + 18 * j + 18) (lw_Z below #[.ref b] s) (X2, M2, f2) 1609 [(0, .ref b), (1, .ref (ax 0)), (2, .ref (am 0)), (3, .ref o), (4, .int (nI (5 * j)))] []) : G p l e room_1 s m #[.ref b] below meth c D (fun q => s.heap.size ≤ q) 7 (wAll cI cZ cQ cL ax am o) (c0 + 3 * j) (s0 + 18 * j) (lw_Z below #[.ref b] s) (X, M, f) 1361 [(0, .ref b), (1, .ref (ax 0)), (2, .ref (am 0)), (3, .ref o), (4, .int (nI (5 * j)))] [] := by
  refine g_aload_n (pc' := 1362) (q := 1) C dL_law_1361 rfl rfl rfl ?_
  refine g_aload_n (pc' := 1363) (q := 0) C dL_law_1362 rfl rfl rfl ?_
  refine g_iload (pc' := 1365) (q := 4) C dL_law_1363 rfl rfl ?_
  refine g_iconst (pc' := 1366) (v := 1) C dL_law_1365 rfl (by decide) ?_
  refine g_iadd (pc' := 1367) C dL_law_1366 rfl ?_
  refine g_conv (show nI (5 * j) + 1 = nI (5 * j + 1) from nI_add (5 * j) 1) ?_
  refine g_sld (pc' := 1368) (k := 5 * j + 1) C hXs hbl (Nat.not_le.mpr hbl) (vp_in_nI (by omega) (by omega)) (nI_clamp (by omega)) dL_law_1367 rfl ?_
  refine g_aload_n (pc' := 1369) (q := 3) C dL_law_1368 rfl rfl rfl ?_
  have hM1 := fr_XI (wg := wAll cI cZ cQ cL ax am o) (tysG := tyL cI cZ cQ cL) (emb := fun v : LU × (Nat → Int64) => ((v.1, M, v.2) : LU × LU × (Nat → Int64))) (E1 := []) (E2 := wM cI cZ am M) (fun v => rfl) [0, 1, 2, 3] rfl (c_L_parentOf (l := l) (D := D) (cI := cI) (cZ := cZ) (cQ := cQ) (cL := cL) (a := ax) (o := o) (posti := pX_parentOf X (xs (5 * j + 1))) (xp := eX_parentOf X (xs (5 * j + 1))) X f (xs (5 * j + 1)) (c_X0_parentOf hlt X (xs (5 * j + 1)) hR.ix) (hxs_parentOf X (xs (5 * j + 1))))
  refine g_callW (pc' := 1372) (As := [.ref (ax 0), .int (xs (5 * j + 1)), .ref o]) (st := []) (cells' := c0 + 3 * j + 1) (slots' := s0 + 18 * j + 6) C hE hM1 gL_law_L_parentOf rfl (by decide +kernel) ⟨Nat.le_of_ble_eq_true rfl, Nat.le_of_ble_eq_true rfl⟩ (n := 3) rfl rfl (Nat.le_of_ble_eq_true rfl) dL_law_1369 rfl rfl rfl ⟨(by show c0 + 3 * j + 1 ≤ 601024; omega), (by show s0 + 18 * j + 6 ≤ 7293034; omega)⟩ (fun k0 s9 hp => ?_)
  obtain ⟨s2, hw, rfl⟩ := hp
  refine g_istore (pc' := 1374) (L' := [(5, .int k0), (0, .ref b), (1, .ref (ax 0)), (2, .ref (am 0)), (3, .ref o), (4, .int (nI (5 * j)))]) C dL_law_1372 rfl (by decide) rfl ?_
  refine g_aload_n (pc' := 1375) (q := 3) C dL_law_1374 rfl rfl rfl ?_
  refine g_aload_n (pc' := 1376) (q := 1) C dL_law_1375 rfl rfl rfl ?_
  refine g_iload (pc' := 1378) (q := 5) C dL_law_1376 rfl rfl ?_
  refine g_iconst (pc' := 1379) (v := 1) C dL_law_1378 rfl (by decide) ?_
  refine g_iadd (pc' := 1380) C dL_law_1379 rfl ?_
  refine g_conv (show nI (5 * j) + 1 = nI (5 * j + 1) from nI_add (5 * j) 1) ?_
  refine g_sld (pc' := 1381) (k := 5 * j + 1) C hXs hbl (Nat.not_le.mpr hbl) (vp_in_nI (by omega) (by omega)) (nI_clamp (by omega)) dL_law_1380 rfl ?_
  refine g_calliV (pc' := 1384) (As := [.int (xs (5 * j + 1))]) (st := []) (cells' := c0 + 3 * j + 1) (slots' := s0 + 18 * j + 6) C (fr_KI (wg := wAll cI cZ cQ cL ax am o) (tysG := tyL cI cZ cQ cL) (emb := fun v : LU => ((s2.1, v, s2.2) : LU × LU × (Nat → Int64))) (E1 := wL cI cZ cQ cL ax o s2) (E2 := []) (fun v => by simp [wAll]) [0, 1, 2] rfl (c_X1_parentOf (l := l) (D := D) (cI := cI) (cZ := cZ) (cQ := cQ) (a := am) M (xs (5 * j + 1)) hR.im)) gL_law_X1_parentOf rfl (by decide +kernel) ⟨Nat.le_of_ble_eq_true rfl, Nat.le_of_ble_eq_true rfl⟩ 76 (wA_M _ _ _ _ _ _ _ _) rfl (n := 1) rfl rfl (Nat.le_of_ble_eq_true rfl) dL_law_1381 rfl (by rfl) (by rfl) ⟨(by show c0 + 3 * j + 1 ≤ 601024; omega), (by show s0 + 18 * j + 6 ≤ 7293034; omega)⟩ (fun rb s9 hp => ?_)
  obtain ⟨M1, hm, rfl⟩ := hp
  obtain ⟨hR2, hkt, hkv⟩ := sim_parentOf hR (by omega) (xs (5 * j + 1)) hw hm
  refine g_istore (pc' := 1386) (L' := [(6, .int rb), (5, .int k0), (0, .ref b), (1, .ref (ax 0)), (2, .ref (am 0)), (3, .ref o), (4, .int (nI (5 * j)))]) C dL_law_1384 rfl (by decide) rfl ?_
  refine g_aload_n (pc' := 1387) (q := 4) C dL_law_1386 rfl rfl rfl ?_
  refine g_calliV (pc' := 1390) (As := []) (st := []) (cells' := c0 + 3 * j + 1) (slots' := s0 + 18 * j + 6) C (fr_KI (wg := wAll cI cZ cQ cL ax am o) (tysG := tyL cI cZ cQ cL) (emb := fun v : LU => ((s2.1, v, s2.2) : LU × LU × (Nat → Int64))) (E1 := wL cI cZ cQ cL ax o s2) (E2 := []) (fun v => by simp [wAll]) [0, 1, 2] rfl (c_X1_thrown (l := l) (D := D) (cI := cI) (cZ := cZ) (cQ := cQ) (a := am) M1)) gL_law_X1_thrown rfl (by decide +kernel) ⟨Nat.le_of_ble_eq_true rfl, Nat.le_of_ble_eq_true rfl⟩ 76 (wA_M _ _ _ _ _ _ _ _) rfl (n := 0) rfl rfl (Nat.le_of_ble_eq_true rfl) dL_law_1387 rfl (by rfl) (by rfl) ⟨(by show c0 + 3 * j + 1 ≤ 601024; omega), (by show s0 + 18 * j + 6 ≤ 7293034; omega)⟩ (fun r1 s9 hp => ?_)
  obtain ⟨v9, ⟨rfl, hv9⟩, rfl⟩ := hp
  rw [hv9]
  refine g_iload (pc' := 1392) (q := 1) C dL_law_1390 rfl rfl ?_
  refine g_icmp_eq (tgt := 1397) (pc' := 1395) C dL_law_1392 rfl (by decide) (fun _ => ?_) (fun h9 => absurd (congrArg Int32.toInt hkt) h9)
  refine g_iload (pc' := 1399) (q := 1) C dL_law_1397 rfl rfl ?_
  refine g_if_ne (tgt := 1414) (pc' := 1402) C dL_law_1399 rfl (by decide) (fun ck => ?_) (fun (ck : k0.toInt = 0) => ?_)
  · skip
    refine g_goto (tgt := 1609) C dL_law_1414 (by decide) ?_
    exact g_widen (by omega) (by omega) (g_sub (L' := [(0, .ref b), (1, .ref (ax 0)), (2, .ref (am 0)), (3, .ref o), (4, .int (nI (5 * j)))]) [2, 3, 4, 5, 6] rfl (next _ _ _ hR2))
  · have hk0 : k0 = 0 := Int32.toInt_inj.mp (ck.trans ti_0.symm)
    refine g_aload_n (pc' := 1403) (q := 5) C dL_law_1402 rfl rfl rfl ?_
    refine g_iconst (pc' := 1404) (v := 0) C dL_law_1403 rfl (by decide) ?_
    refine g_lald (pc' := 1405) (n := 1) C 75 3 (wA_out _ _ _ _ _ _ _ _) rfl (vp_of (by decide) (by decide)) (k := 0) rfl dL_law_1404 rfl ?_
    refine g_iload (pc' := 1407) (q := 0) C dL_law_1405 rfl rfl ?_
    refine g_i2l (pc' := 1408) C dL_law_1407 rfl ?_
    refine g_lcmp (pc' := 1409) C dL_law_1408 rfl ?_
    refine g_if_eq (tgt := 1414) (pc' := 1412) C dL_law_1409 rfl (by decide) (fun _ => ?_) (fun h9 => absurd (lg_self (hkv hk0)) h9)
    refine g_goto (tgt := 1609) C dL_law_1414 (by decide) ?_
    exact g_widen (by omega) (by omega) (g_sub (L' := [(0, .ref b), (1, .ref (ax 0)), (2, .ref (am 0)), (3, .ref o), (4, .int (nI (5 * j)))]) [2, 3, 4, 5, 6] rfl (next _ _ _ hR2))
set_option maxHeartbeats 4000000 in
set_option maxRecDepth 100000 in
theorem law_case_23 {p : Program} {l : Launch} {e : Env} {s : State} {m : MethodId} {below : List Frame} {meth : Method} {c : Code} {D : va_G} {cI cZ cQ cL : ClassId} {ax am : Nat → Nat} {o b L9 : Nat} {xs : Nat → Int32} (hlt : l.stackTraces = false) (C : CX p s m #[.ref b] meth c D (tyL cI cZ cQ cL) (fun q => s.heap.size ≤ q) RL cL_law wsL_law 7 (wAll cI cZ cQ cL ax am o)) (hr : meth.sig.returnType = ret) (hE : EV (fun q => s.heap.size ≤ q) s s.heap tx0) (hXs : va_X b L9 xs s s.heap) (hbl : b < s.heap.size) {c0 s0 : Nat} (hc0 : c0 + 1600 ≤ 601024) (hs0 : s0 + 9600 ≤ 7293034) {j : Nat} {X M : LU} {f : Nat → Int64} (hj : 5 * j + 5 ≤ L9) (hL9 : L9 ≤ 2560) (hR : Rel (10000 * (j : Int)) X M) (next : ∀ (X2 M2 : LU) (f2 : Nat → Int64), Rel (10000 * (j : Int) + 10000) X2 M2 → G p l e room_1 s m #[.ref b] below meth c D (fun q => s.heap.size ≤ q) 7 (wAll cI cZ cQ cL ax am o) (c0 + 3 * j + 3) (s0 + 18 * j + 18) (lw_Z below #[.ref b] s) (X2, M2, f2) 1609 [(0, .ref b), (1, .ref (ax 0)), (2, .ref (am 0)), (3, .ref o), (4, .int (nI (5 * j)))] []) : G p l e room_1 s m #[.ref b] below meth c D (fun q => s.heap.size ≤ q) 7 (wAll cI cZ cQ cL ax am o) (c0 + 3 * j) (s0 + 18 * j) (lw_Z below #[.ref b] s) (X, M, f) 1417 [(0, .ref b), (1, .ref (ax 0)), (2, .ref (am 0)), (3, .ref o), (4, .int (nI (5 * j)))] [] := by
  refine g_aload_n (pc' := 1418) (q := 1) C dL_law_1417 rfl rfl rfl ?_
  refine g_aload_n (pc' := 1419) (q := 0) C dL_law_1418 rfl rfl rfl ?_
  refine g_iload (pc' := 1421) (q := 4) C dL_law_1419 rfl rfl ?_
  refine g_iconst (pc' := 1422) (v := 1) C dL_law_1421 rfl (by decide) ?_
  refine g_iadd (pc' := 1423) C dL_law_1422 rfl ?_
  refine g_conv (show nI (5 * j) + 1 = nI (5 * j + 1) from nI_add (5 * j) 1) ?_
  refine g_sld (pc' := 1424) (k := 5 * j + 1) C hXs hbl (Nat.not_le.mpr hbl) (vp_in_nI (by omega) (by omega)) (nI_clamp (by omega)) dL_law_1423 rfl ?_
  refine g_aload_n (pc' := 1425) (q := 0) C dL_law_1424 rfl rfl rfl ?_
  refine g_iload (pc' := 1427) (q := 4) C dL_law_1425 rfl rfl ?_
  refine g_iconst (pc' := 1428) (v := 2) C dL_law_1427 rfl (by decide) ?_
  refine g_iadd (pc' := 1429) C dL_law_1428 rfl ?_
  refine g_conv (show nI (5 * j) + 2 = nI (5 * j + 2) from nI_add (5 * j) 2) ?_
  refine g_sld (pc' := 1430) (k := 5 * j + 2) C hXs hbl (Nat.not_le.mpr hbl) (vp_in_nI (by omega) (by omega)) (nI_clamp (by omega)) dL_law_1429 rfl ?_
  refine g_aload_n (pc' := 1431) (q := 3) C dL_law_1430 rfl rfl rfl ?_
  have hM1 := fr_XI (wg := wAll cI cZ cQ cL ax am o) (tysG := tyL cI cZ cQ cL) (emb := fun v : LU × (Nat → Int64) => ((v.1, M, v.2) : LU × LU × (Nat → Int64))) (E1 := []) (E2 := wM cI cZ am M) (fun v => rfl) [0, 1, 2, 3] rfl (c_L_common (l := l) (D := D) (cI := cI) (cZ := cZ) (cQ := cQ) (cL := cL) (a := ax) (o := o) (posti := pX_common X (xs (5 * j + 1)) (xs (5 * j + 2))) (xp := eX_common X (xs (5 * j + 1)) (xs (5 * j + 2))) X f (xs (5 * j + 1)) (xs (5 * j + 2)) (c_X0_common hlt X (xs (5 * j + 1)) (xs (5 * j + 2)) hR.ix) (hxs_common X (xs (5 * j + 1)) (xs (5 * j + 2))))
  refine g_callW (pc' := 1434) (As := [.ref (ax 0), .int (xs (5 * j + 1)), .int (xs (5 * j + 2)), .ref o]) (st := []) (cells' := c0 + 3 * j + 2) (slots' := s0 + 18 * j + 12) C hE hM1 gL_law_L_common rfl (by decide +kernel) ⟨Nat.le_of_ble_eq_true rfl, Nat.le_of_ble_eq_true rfl⟩ (n := 4) rfl rfl (Nat.le_of_ble_eq_true rfl) dL_law_1431 rfl rfl rfl ⟨(by show c0 + 3 * j + 2 ≤ 601024; omega), (by show s0 + 18 * j + 12 ≤ 7293034; omega)⟩ (fun k0 s9 hp => ?_)
  obtain ⟨s2, hw, rfl⟩ := hp
  refine g_istore (pc' := 1436) (L' := [(5, .int k0), (0, .ref b), (1, .ref (ax 0)), (2, .ref (am 0)), (3, .ref o), (4, .int (nI (5 * j)))]) C dL_law_1434 rfl (by decide) rfl ?_
  refine g_aload_n (pc' := 1437) (q := 3) C dL_law_1436 rfl rfl rfl ?_
  refine g_aload_n (pc' := 1438) (q := 1) C dL_law_1437 rfl rfl rfl ?_
  refine g_iload (pc' := 1440) (q := 5) C dL_law_1438 rfl rfl ?_
  refine g_iconst (pc' := 1441) (v := 1) C dL_law_1440 rfl (by decide) ?_
  refine g_iadd (pc' := 1442) C dL_law_1441 rfl ?_
  refine g_conv (show nI (5 * j) + 1 = nI (5 * j + 1) from nI_add (5 * j) 1) ?_
  refine g_sld (pc' := 1443) (k := 5 * j + 1) C hXs hbl (Nat.not_le.mpr hbl) (vp_in_nI (by omega) (by omega)) (nI_clamp (by omega)) dL_law_1442 rfl ?_
  refine g_aload_n (pc' := 1444) (q := 1) C dL_law_1443 rfl rfl rfl ?_
  refine g_iload (pc' := 1446) (q := 5) C dL_law_1444 rfl rfl ?_
  refine g_iconst (pc' := 1447) (v := 2) C dL_law_1446 rfl (by decide) ?_
  refine g_iadd (pc' := 1448) C dL_law_1447 rfl ?_
  refine g_conv (show nI (5 * j) + 2 = nI (5 * j + 2) from nI_add (5 * j) 2) ?_
  refine g_sld (pc' := 1449) (k := 5 * j + 2) C hXs hbl (Nat.not_le.mpr hbl) (vp_in_nI (by omega) (by omega)) (nI_clamp (by omega)) dL_law_1448 rfl ?_
  refine g_calliV (pc' := 1452) (As := [.int (xs (5 * j + 1)), .int (xs (5 * j + 2))]) (st := []) (cells' := c0 + 3 * j + 2) (slots' := s0 + 18 * j + 12) C (fr_KI (wg := wAll cI cZ cQ cL ax am o) (tysG := tyL cI cZ cQ cL) (emb := fun v : LU => ((s2.1, v, s2.2) : LU × LU × (Nat → Int64))) (E1 := wL cI cZ cQ cL ax o s2) (E2 := []) (fun v => by simp [wAll]) [0, 1, 2] rfl (c_X1_common (l := l) (D := D) (cI := cI) (cZ := cZ) (cQ := cQ) (a := am) M (xs (5 * j + 1)) (xs (5 * j + 2)) hR.im)) gL_law_X1_common rfl (by decide +kernel) ⟨Nat.le_of_ble_eq_true rfl, Nat.le_of_ble_eq_true rfl⟩ 76 (wA_M _ _ _ _ _ _ _ _) rfl (n := 2) rfl rfl (Nat.le_of_ble_eq_true rfl) dL_law_1449 rfl (by rfl) (by rfl) ⟨(by show c0 + 3 * j + 2 ≤ 601024; omega), (by show s0 + 18 * j + 12 ≤ 7293034; omega)⟩ (fun rb s9 hp => ?_)
  obtain ⟨M1, hm, rfl⟩ := hp
  obtain ⟨hR2, hkt, hkv⟩ := sim_common hR (by omega) (xs (5 * j + 1)) (xs (5 * j + 2)) hw hm
  refine g_istore (pc' := 1454) (L' := [(6, .int rb), (5, .int k0), (0, .ref b), (1, .ref (ax 0)), (2, .ref (am 0)), (3, .ref o), (4, .int (nI (5 * j)))]) C dL_law_1452 rfl (by decide) rfl ?_
  refine g_aload_n (pc' := 1455) (q := 4) C dL_law_1454 rfl rfl rfl ?_
  refine g_calliV (pc' := 1458) (As := []) (st := []) (cells' := c0 + 3 * j + 2) (slots' := s0 + 18 * j + 12) C (fr_KI (wg := wAll cI cZ cQ cL ax am o) (tysG := tyL cI cZ cQ cL) (emb := fun v : LU => ((s2.1, v, s2.2) : LU × LU × (Nat → Int64))) (E1 := wL cI cZ cQ cL ax o s2) (E2 := []) (fun v => by simp [wAll]) [0, 1, 2] rfl (c_X1_thrown (l := l) (D := D) (cI := cI) (cZ := cZ) (cQ := cQ) (a := am) M1)) gL_law_X1_thrown rfl (by decide +kernel) ⟨Nat.le_of_ble_eq_true rfl, Nat.le_of_ble_eq_true rfl⟩ 76 (wA_M _ _ _ _ _ _ _ _) rfl (n := 0) rfl rfl (Nat.le_of_ble_eq_true rfl) dL_law_1455 rfl (by rfl) (by rfl) ⟨(by show c0 + 3 * j + 2 ≤ 601024; omega), (by show s0 + 18 * j + 12 ≤ 7293034; omega)⟩ (fun r1 s9 hp => ?_)
  obtain ⟨v9, ⟨rfl, hv9⟩, rfl⟩ := hp
  rw [hv9]
  refine g_iload (pc' := 1460) (q := 1) C dL_law_1458 rfl rfl ?_
  refine g_icmp_eq (tgt := 1465) (pc' := 1463) C dL_law_1460 rfl (by decide) (fun _ => ?_) (fun h9 => absurd (congrArg Int32.toInt hkt) h9)
  refine g_iload (pc' := 1467) (q := 1) C dL_law_1465 rfl rfl ?_
  refine g_if_ne (tgt := 1482) (pc' := 1470) C dL_law_1467 rfl (by decide) (fun ck => ?_) (fun (ck : k0.toInt = 0) => ?_)
  · skip
    refine g_goto (tgt := 1609) C dL_law_1482 (by decide) ?_
    exact g_widen (by omega) (by omega) (g_sub (L' := [(0, .ref b), (1, .ref (ax 0)), (2, .ref (am 0)), (3, .ref o), (4, .int (nI (5 * j)))]) [2, 3, 4, 5, 6] rfl (next _ _ _ hR2))
  · have hk0 : k0 = 0 := Int32.toInt_inj.mp (ck.trans ti_0.symm)
    refine g_aload_n (pc' := 1471) (q := 5) C dL_law_1470 rfl rfl rfl ?_
    refine g_iconst (pc' := 1472) (v := 0) C dL_law_1471 rfl (by decide) ?_
    refine g_lald (pc' := 1473) (n := 1) C 75 3 (wA_out _ _ _ _ _ _ _ _) rfl (vp_of (by decide) (by decide)) (k := 0) rfl dL_law_1472 rfl ?_
    refine g_iload (pc' := 1475) (q := 0) C dL_law_1473 rfl rfl ?_
    refine g_i2l (pc' := 1476) C dL_law_1475 rfl ?_
    refine g_lcmp (pc' := 1477) C dL_law_1476 rfl ?_
    refine g_if_eq (tgt := 1482) (pc' := 1480) C dL_law_1477 rfl (by decide) (fun _ => ?_) (fun h9 => absurd (lg_self (hkv hk0)) h9)
    refine g_goto (tgt := 1609) C dL_law_1482 (by decide) ?_
    exact g_widen (by omega) (by omega) (g_sub (L' := [(0, .ref b), (1, .ref (ax 0)), (2, .ref (am 0)), (3, .ref o), (4, .int (nI (5 * j)))]) [2, 3, 4, 5, 6] rfl (next _ _ _ hR2))
set_option maxHeartbeats 4000000 in
set_option maxRecDepth 100000 in
theorem law_case_24 {p : Program} {l : Launch} {e : Env} {s : State} {m : MethodId} {below : List Frame} {meth : Method} {c : Code} {D : va_G} {cI cZ cQ cL : ClassId} {ax am : Nat → Nat} {o b L9 : Nat} {xs : Nat → Int32} (hlt : l.stackTraces = false) (C : CX p s m #[.ref b] meth c D (tyL cI cZ cQ cL) (fun q => s.heap.size ≤ q) RL cL_law wsL_law 7 (wAll cI cZ cQ cL ax am o)) (hr : meth.sig.returnType = ret) (hE : EV (fun q => s.heap.size ≤ q) s s.heap tx0) (hXs : va_X b L9 xs s s.heap) (hbl : b < s.heap.size) {c0 s0 : Nat} (hc0 : c0 + 1600 ≤ 601024) (hs0 : s0 + 9600 ≤ 7293034) {j : Nat} {X M : LU} {f : Nat → Int64} (hj : 5 * j + 5 ≤ L9) (hL9 : L9 ≤ 2560) (hR : Rel (10000 * (j : Int)) X M) (next : ∀ (X2 M2 : LU) (f2 : Nat → Int64), Rel (10000 * (j : Int) + 10000) X2 M2 → G p l e room_1 s m #[.ref b] below meth c D (fun q => s.heap.size ≤ q) 7 (wAll cI cZ cQ cL ax am o) (c0 + 3 * j + 3) (s0 + 18 * j + 18) (lw_Z below #[.ref b] s) (X2, M2, f2) 1609 [(0, .ref b), (1, .ref (ax 0)), (2, .ref (am 0)), (3, .ref o), (4, .int (nI (5 * j)))] []) : G p l e room_1 s m #[.ref b] below meth c D (fun q => s.heap.size ≤ q) 7 (wAll cI cZ cQ cL ax am o) (c0 + 3 * j) (s0 + 18 * j) (lw_Z below #[.ref b] s) (X, M, f) 1485 [(0, .ref b), (1, .ref (ax 0)), (2, .ref (am 0)), (3, .ref o), (4, .int (nI (5 * j)))] [] := by
  refine g_aload_n (pc' := 1486) (q := 1) C dL_law_1485 rfl rfl rfl ?_
  refine g_aload_n (pc' := 1487) (q := 0) C dL_law_1486 rfl rfl rfl ?_
  refine g_iload (pc' := 1489) (q := 4) C dL_law_1487 rfl rfl ?_
  refine g_iconst (pc' := 1490) (v := 1) C dL_law_1489 rfl (by decide) ?_
  refine g_iadd (pc' := 1491) C dL_law_1490 rfl ?_
  refine g_conv (show nI (5 * j) + 1 = nI (5 * j + 1) from nI_add (5 * j) 1) ?_
  refine g_sld (pc' := 1492) (k := 5 * j + 1) C hXs hbl (Nat.not_le.mpr hbl) (vp_in_nI (by omega) (by omega)) (nI_clamp (by omega)) dL_law_1491 rfl ?_
  refine g_aload_n (pc' := 1493) (q := 3) C dL_law_1492 rfl rfl rfl ?_
  have hM1 := fr_XI (wg := wAll cI cZ cQ cL ax am o) (tysG := tyL cI cZ cQ cL) (emb := fun v : LU × (Nat → Int64) => ((v.1, M, v.2) : LU × LU × (Nat → Int64))) (E1 := []) (E2 := wM cI cZ am M) (fun v => rfl) [0, 1, 2, 3] rfl (c_L_path (l := l) (D := D) (cI := cI) (cZ := cZ) (cQ := cQ) (cL := cL) (a := ax) (o := o) (posti := pX_path X (xs (5 * j + 1))) (xp := eX_path X (xs (5 * j + 1))) X f (xs (5 * j + 1)) (c_X0_path hlt X (xs (5 * j + 1)) hR.ix) (hxs_path X (xs (5 * j + 1))))
  refine g_callW (pc' := 1496) (As := [.ref (ax 0), .int (xs (5 * j + 1)), .ref o]) (st := []) (cells' := c0 + 3 * j + 1) (slots' := s0 + 18 * j + 6) C hE hM1 gL_law_L_path rfl (by decide +kernel) ⟨Nat.le_of_ble_eq_true rfl, Nat.le_of_ble_eq_true rfl⟩ (n := 3) rfl rfl (Nat.le_of_ble_eq_true rfl) dL_law_1493 rfl rfl rfl ⟨(by show c0 + 3 * j + 1 ≤ 601024; omega), (by show s0 + 18 * j + 6 ≤ 7293034; omega)⟩ (fun k0 s9 hp => ?_)
  obtain ⟨s2, hw, rfl⟩ := hp
  refine g_istore (pc' := 1498) (L' := [(5, .int k0), (0, .ref b), (1, .ref (ax 0)), (2, .ref (am 0)), (3, .ref o), (4, .int (nI (5 * j)))]) C dL_law_1496 rfl (by decide) rfl ?_
  refine g_aload_n (pc' := 1499) (q := 3) C dL_law_1498 rfl rfl rfl ?_
  refine g_aload_n (pc' := 1500) (q := 1) C dL_law_1499 rfl rfl rfl ?_
  refine g_iload (pc' := 1502) (q := 5) C dL_law_1500 rfl rfl ?_
  refine g_iconst (pc' := 1503) (v := 1) C dL_law_1502 rfl (by decide) ?_
  refine g_iadd (pc' := 1504) C dL_law_1503 rfl ?_
  refine g_conv (show nI (5 * j) + 1 = nI (5 * j + 1) from nI_add (5 * j) 1) ?_
  refine g_sld (pc' := 1505) (k := 5 * j + 1) C hXs hbl (Nat.not_le.mpr hbl) (vp_in_nI (by omega) (by omega)) (nI_clamp (by omega)) dL_law_1504 rfl ?_
  refine g_calliV (pc' := 1508) (As := [.int (xs (5 * j + 1))]) (st := []) (cells' := c0 + 3 * j + 1) (slots' := s0 + 18 * j + 6) C (fr_KI (wg := wAll cI cZ cQ cL ax am o) (tysG := tyL cI cZ cQ cL) (emb := fun v : LU => ((s2.1, v, s2.2) : LU × LU × (Nat → Int64))) (E1 := wL cI cZ cQ cL ax o s2) (E2 := []) (fun v => by simp [wAll]) [0, 1, 2] rfl (c_X1_path (l := l) (D := D) (cI := cI) (cZ := cZ) (cQ := cQ) (a := am) M (xs (5 * j + 1)) hR.im)) gL_law_X1_path rfl (by decide +kernel) ⟨Nat.le_of_ble_eq_true rfl, Nat.le_of_ble_eq_true rfl⟩ 76 (wA_M _ _ _ _ _ _ _ _) rfl (n := 1) rfl rfl (Nat.le_of_ble_eq_true rfl) dL_law_1505 rfl (by rfl) (by rfl) ⟨(by show c0 + 3 * j + 1 ≤ 601024; omega), (by show s0 + 18 * j + 6 ≤ 7293034; omega)⟩ (fun rb s9 hp => ?_)
  obtain ⟨M1, hm, rfl⟩ := hp
  obtain ⟨hR2, hkt, hkv⟩ := sim_path hR (by omega) (xs (5 * j + 1)) hw hm
  refine g_istore (pc' := 1510) (L' := [(6, .int rb), (5, .int k0), (0, .ref b), (1, .ref (ax 0)), (2, .ref (am 0)), (3, .ref o), (4, .int (nI (5 * j)))]) C dL_law_1508 rfl (by decide) rfl ?_
  refine g_aload_n (pc' := 1511) (q := 4) C dL_law_1510 rfl rfl rfl ?_
  refine g_calliV (pc' := 1514) (As := []) (st := []) (cells' := c0 + 3 * j + 1) (slots' := s0 + 18 * j + 6) C (fr_KI (wg := wAll cI cZ cQ cL ax am o) (tysG := tyL cI cZ cQ cL) (emb := fun v : LU => ((s2.1, v, s2.2) : LU × LU × (Nat → Int64))) (E1 := wL cI cZ cQ cL ax o s2) (E2 := []) (fun v => by simp [wAll]) [0, 1, 2] rfl (c_X1_thrown (l := l) (D := D) (cI := cI) (cZ := cZ) (cQ := cQ) (a := am) M1)) gL_law_X1_thrown rfl (by decide +kernel) ⟨Nat.le_of_ble_eq_true rfl, Nat.le_of_ble_eq_true rfl⟩ 76 (wA_M _ _ _ _ _ _ _ _) rfl (n := 0) rfl rfl (Nat.le_of_ble_eq_true rfl) dL_law_1511 rfl (by rfl) (by rfl) ⟨(by show c0 + 3 * j + 1 ≤ 601024; omega), (by show s0 + 18 * j + 6 ≤ 7293034; omega)⟩ (fun r1 s9 hp => ?_)
  obtain ⟨v9, ⟨rfl, hv9⟩, rfl⟩ := hp
  rw [hv9]
  refine g_iload (pc' := 1516) (q := 1) C dL_law_1514 rfl rfl ?_
  refine g_icmp_eq (tgt := 1521) (pc' := 1519) C dL_law_1516 rfl (by decide) (fun _ => ?_) (fun h9 => absurd (congrArg Int32.toInt hkt) h9)
  refine g_iload (pc' := 1523) (q := 1) C dL_law_1521 rfl rfl ?_
  refine g_if_ne (tgt := 1538) (pc' := 1526) C dL_law_1523 rfl (by decide) (fun ck => ?_) (fun (ck : k0.toInt = 0) => ?_)
  · skip
    refine g_goto (tgt := 1609) C dL_law_1538 (by decide) ?_
    exact g_widen (by omega) (by omega) (g_sub (L' := [(0, .ref b), (1, .ref (ax 0)), (2, .ref (am 0)), (3, .ref o), (4, .int (nI (5 * j)))]) [2, 3, 4, 5, 6] rfl (next _ _ _ hR2))
  · have hk0 : k0 = 0 := Int32.toInt_inj.mp (ck.trans ti_0.symm)
    refine g_aload_n (pc' := 1527) (q := 5) C dL_law_1526 rfl rfl rfl ?_
    refine g_iconst (pc' := 1528) (v := 0) C dL_law_1527 rfl (by decide) ?_
    refine g_lald (pc' := 1529) (n := 1) C 75 3 (wA_out _ _ _ _ _ _ _ _) rfl (vp_of (by decide) (by decide)) (k := 0) rfl dL_law_1528 rfl ?_
    refine g_iload (pc' := 1531) (q := 0) C dL_law_1529 rfl rfl ?_
    refine g_i2l (pc' := 1532) C dL_law_1531 rfl ?_
    refine g_lcmp (pc' := 1533) C dL_law_1532 rfl ?_
    refine g_if_eq (tgt := 1538) (pc' := 1536) C dL_law_1533 rfl (by decide) (fun _ => ?_) (fun h9 => absurd (lg_self (hkv hk0)) h9)
    refine g_goto (tgt := 1609) C dL_law_1538 (by decide) ?_
    exact g_widen (by omega) (by omega) (g_sub (L' := [(0, .ref b), (1, .ref (ax 0)), (2, .ref (am 0)), (3, .ref o), (4, .int (nI (5 * j)))]) [2, 3, 4, 5, 6] rfl (next _ _ _ hR2))
set_option maxHeartbeats 4000000 in
set_option maxRecDepth 100000 in
theorem law_case_25 {p : Program} {l : Launch} {e : Env} {s : State} {m : MethodId} {below : List Frame} {meth : Method} {c : Code} {D : va_G} {cI cZ cQ cL : ClassId} {ax am : Nat → Nat} {o b L9 : Nat} {xs : Nat → Int32} (hlt : l.stackTraces = false) (C : CX p s m #[.ref b] meth c D (tyL cI cZ cQ cL) (fun q => s.heap.size ≤ q) RL cL_law wsL_law 7 (wAll cI cZ cQ cL ax am o)) (hr : meth.sig.returnType = ret) (hE : EV (fun q => s.heap.size ≤ q) s s.heap tx0) (hXs : va_X b L9 xs s s.heap) (hbl : b < s.heap.size) {c0 s0 : Nat} (hc0 : c0 + 1600 ≤ 601024) (hs0 : s0 + 9600 ≤ 7293034) {j : Nat} {X M : LU} {f : Nat → Int64} (hj : 5 * j + 5 ≤ L9) (hL9 : L9 ≤ 2560) (hR : Rel (10000 * (j : Int)) X M) (next : ∀ (X2 M2 : LU) (f2 : Nat → Int64), Rel (10000 * (j : Int) + 10000) X2 M2 → G p l e room_1 s m #[.ref b] below meth c D (fun q => s.heap.size ≤ q) 7 (wAll cI cZ cQ cL ax am o) (c0 + 3 * j + 3) (s0 + 18 * j + 18) (lw_Z below #[.ref b] s) (X2, M2, f2) 1609 [(0, .ref b), (1, .ref (ax 0)), (2, .ref (am 0)), (3, .ref o), (4, .int (nI (5 * j)))] []) : G p l e room_1 s m #[.ref b] below meth c D (fun q => s.heap.size ≤ q) 7 (wAll cI cZ cQ cL ax am o) (c0 + 3 * j) (s0 + 18 * j) (lw_Z below #[.ref b] s) (X, M, f) 1541 [(0, .ref b), (1, .ref (ax 0)), (2, .ref (am 0)), (3, .ref o), (4, .int (nI (5 * j)))] [] := by
  refine g_aload_n (pc' := 1542) (q := 1) C dL_law_1541 rfl rfl rfl ?_
  refine g_aload_n (pc' := 1543) (q := 0) C dL_law_1542 rfl rfl rfl ?_
  refine g_iload (pc' := 1545) (q := 4) C dL_law_1543 rfl rfl ?_
  refine g_iconst (pc' := 1546) (v := 1) C dL_law_1545 rfl (by decide) ?_
  refine g_iadd (pc' := 1547) C dL_law_1546 rfl ?_
  refine g_conv (show nI (5 * j) + 1 = nI (5 * j + 1) from nI_add (5 * j) 1) ?_
  refine g_sld (pc' := 1548) (k := 5 * j + 1) C hXs hbl (Nat.not_le.mpr hbl) (vp_in_nI (by omega) (by omega)) (nI_clamp (by omega)) dL_law_1547 rfl ?_
  refine g_aload_n (pc' := 1549) (q := 0) C dL_law_1548 rfl rfl rfl ?_
  refine g_iload (pc' := 1551) (q := 4) C dL_law_1549 rfl rfl ?_
  refine g_iconst (pc' := 1552) (v := 2) C dL_law_1551 rfl (by decide) ?_
  refine g_iadd (pc' := 1553) C dL_law_1552 rfl ?_
  refine g_conv (show nI (5 * j) + 2 = nI (5 * j + 2) from nI_add (5 * j) 2) ?_
  refine g_sld (pc' := 1554) (k := 5 * j + 2) C hXs hbl (Nat.not_le.mpr hbl) (vp_in_nI (by omega) (by omega)) (nI_clamp (by omega)) dL_law_1553 rfl ?_
  refine g_aload_n (pc' := 1555) (q := 3) C dL_law_1554 rfl rfl rfl ?_
  have hM1 := fr_XI (wg := wAll cI cZ cQ cL ax am o) (tysG := tyL cI cZ cQ cL) (emb := fun v : LU × (Nat → Int64) => ((v.1, M, v.2) : LU × LU × (Nat → Int64))) (E1 := []) (E2 := wM cI cZ am M) (fun v => rfl) [0, 1, 2, 3] rfl (c_L_pathAt (l := l) (D := D) (cI := cI) (cZ := cZ) (cQ := cQ) (cL := cL) (a := ax) (o := o) (posti := pX_pathAt X (xs (5 * j + 1)) (xs (5 * j + 2))) (xp := eX_pathAt X (xs (5 * j + 1)) (xs (5 * j + 2))) X f (xs (5 * j + 1)) (xs (5 * j + 2)) (c_X0_pathAt hlt X (xs (5 * j + 1)) (xs (5 * j + 2)) hR.ix) (hxs_pathAt X (xs (5 * j + 1)) (xs (5 * j + 2))))
  refine g_callW (pc' := 1558) (As := [.ref (ax 0), .int (xs (5 * j + 1)), .int (xs (5 * j + 2)), .ref o]) (st := []) (cells' := c0 + 3 * j + 2) (slots' := s0 + 18 * j + 12) C hE hM1 gL_law_L_pathAt rfl (by decide +kernel) ⟨Nat.le_of_ble_eq_true rfl, Nat.le_of_ble_eq_true rfl⟩ (n := 4) rfl rfl (Nat.le_of_ble_eq_true rfl) dL_law_1555 rfl rfl rfl ⟨(by show c0 + 3 * j + 2 ≤ 601024; omega), (by show s0 + 18 * j + 12 ≤ 7293034; omega)⟩ (fun k0 s9 hp => ?_)
  obtain ⟨s2, hw, rfl⟩ := hp
  refine g_istore (pc' := 1560) (L' := [(5, .int k0), (0, .ref b), (1, .ref (ax 0)), (2, .ref (am 0)), (3, .ref o), (4, .int (nI (5 * j)))]) C dL_law_1558 rfl (by decide) rfl ?_
  refine g_aload_n (pc' := 1561) (q := 3) C dL_law_1560 rfl rfl rfl ?_
  refine g_aload_n (pc' := 1562) (q := 1) C dL_law_1561 rfl rfl rfl ?_
  refine g_iload (pc' := 1564) (q := 5) C dL_law_1562 rfl rfl ?_
  refine g_iconst (pc' := 1565) (v := 1) C dL_law_1564 rfl (by decide) ?_
  refine g_iadd (pc' := 1566) C dL_law_1565 rfl ?_
  refine g_conv (show nI (5 * j) + 1 = nI (5 * j + 1) from nI_add (5 * j) 1) ?_
  refine g_sld (pc' := 1567) (k := 5 * j + 1) C hXs hbl (Nat.not_le.mpr hbl) (vp_in_nI (by omega) (by omega)) (nI_clamp (by omega)) dL_law_1566 rfl ?_
  refine g_aload_n (pc' := 1568) (q := 1) C dL_law_1567 rfl rfl rfl ?_
  refine g_iload (pc' := 1570) (q := 5) C dL_law_1568 rfl rfl ?_
  refine g_iconst (pc' := 1571) (v := 2) C dL_law_1570 rfl (by decide) ?_
  refine g_iadd (pc' := 1572) C dL_law_1571 rfl ?_
  refine g_conv (show nI (5 * j) + 2 = nI (5 * j + 2) from nI_add (5 * j) 2) ?_
  refine g_sld (pc' := 1573) (k := 5 * j + 2) C hXs hbl (Nat.not_le.mpr hbl) (vp_in_nI (by omega) (by omega)) (nI_clamp (by omega)) dL_law_1572 rfl ?_
  refine g_calliV (pc' := 1576) (As := [.int (xs (5 * j + 1)), .int (xs (5 * j + 2))]) (st := []) (cells' := c0 + 3 * j + 2) (slots' := s0 + 18 * j + 12) C (fr_KI (wg := wAll cI cZ cQ cL ax am o) (tysG := tyL cI cZ cQ cL) (emb := fun v : LU => ((s2.1, v, s2.2) : LU × LU × (Nat → Int64))) (E1 := wL cI cZ cQ cL ax o s2) (E2 := []) (fun v => by simp [wAll]) [0, 1, 2] rfl (c_X1_pathAt (l := l) (D := D) (cI := cI) (cZ := cZ) (cQ := cQ) (a := am) M (xs (5 * j + 1)) (xs (5 * j + 2)) hR.im)) gL_law_X1_pathAt rfl (by decide +kernel) ⟨Nat.le_of_ble_eq_true rfl, Nat.le_of_ble_eq_true rfl⟩ 76 (wA_M _ _ _ _ _ _ _ _) rfl (n := 2) rfl rfl (Nat.le_of_ble_eq_true rfl) dL_law_1573 rfl (by rfl) (by rfl) ⟨(by show c0 + 3 * j + 2 ≤ 601024; omega), (by show s0 + 18 * j + 12 ≤ 7293034; omega)⟩ (fun rb s9 hp => ?_)
  obtain ⟨M1, hm, rfl⟩ := hp
  obtain ⟨hR2, hkt, hkv⟩ := sim_pathAt hR (by omega) (xs (5 * j + 1)) (xs (5 * j + 2)) hw hm
  refine g_istore (pc' := 1578) (L' := [(6, .int rb), (5, .int k0), (0, .ref b), (1, .ref (ax 0)), (2, .ref (am 0)), (3, .ref o), (4, .int (nI (5 * j)))]) C dL_law_1576 rfl (by decide) rfl ?_
  refine g_aload_n (pc' := 1579) (q := 4) C dL_law_1578 rfl rfl rfl ?_
  refine g_calliV (pc' := 1582) (As := []) (st := []) (cells' := c0 + 3 * j + 2) (slots' := s0 + 18 * j + 12) C (fr_KI (wg := wAll cI cZ cQ cL ax am o) (tysG := tyL cI cZ cQ cL) (emb := fun v : LU => ((s2.1, v, s2.2) : LU × LU × (Nat → Int64))) (E1 := wL cI cZ cQ cL ax o s2) (E2 := []) (fun v => by simp [wAll]) [0, 1, 2] rfl (c_X1_thrown (l := l) (D := D) (cI := cI) (cZ := cZ) (cQ := cQ) (a := am) M1)) gL_law_X1_thrown rfl (by decide +kernel) ⟨Nat.le_of_ble_eq_true rfl, Nat.le_of_ble_eq_true rfl⟩ 76 (wA_M _ _ _ _ _ _ _ _) rfl (n := 0) rfl rfl (Nat.le_of_ble_eq_true rfl) dL_law_1579 rfl (by rfl) (by rfl) ⟨(by show c0 + 3 * j + 2 ≤ 601024; omega), (by show s0 + 18 * j + 12 ≤ 7293034; omega)⟩ (fun r1 s9 hp => ?_)
  obtain ⟨v9, ⟨rfl, hv9⟩, rfl⟩ := hp
  rw [hv9]
  refine g_iload (pc' := 1584) (q := 1) C dL_law_1582 rfl rfl ?_
  refine g_icmp_eq (tgt := 1589) (pc' := 1587) C dL_law_1584 rfl (by decide) (fun _ => ?_) (fun h9 => absurd (congrArg Int32.toInt hkt) h9)
  refine g_iload (pc' := 1591) (q := 1) C dL_law_1589 rfl rfl ?_
  refine g_if_ne (tgt := 1606) (pc' := 1594) C dL_law_1591 rfl (by decide) (fun ck => ?_) (fun (ck : k0.toInt = 0) => ?_)
  · skip
    refine g_goto (tgt := 1609) C dL_law_1606 (by decide) ?_
    exact g_widen (by omega) (by omega) (g_sub (L' := [(0, .ref b), (1, .ref (ax 0)), (2, .ref (am 0)), (3, .ref o), (4, .int (nI (5 * j)))]) [2, 3, 4, 5, 6] rfl (next _ _ _ hR2))
  · have hk0 : k0 = 0 := Int32.toInt_inj.mp (ck.trans ti_0.symm)
    refine g_aload_n (pc' := 1595) (q := 5) C dL_law_1594 rfl rfl rfl ?_
    refine g_iconst (pc' := 1596) (v := 0) C dL_law_1595 rfl (by decide) ?_
    refine g_lald (pc' := 1597) (n := 1) C 75 3 (wA_out _ _ _ _ _ _ _ _) rfl (vp_of (by decide) (by decide)) (k := 0) rfl dL_law_1596 rfl ?_
    refine g_iload (pc' := 1599) (q := 0) C dL_law_1597 rfl rfl ?_
    refine g_i2l (pc' := 1600) C dL_law_1599 rfl ?_
    refine g_lcmp (pc' := 1601) C dL_law_1600 rfl ?_
    refine g_if_eq (tgt := 1606) (pc' := 1604) C dL_law_1601 rfl (by decide) (fun _ => ?_) (fun h9 => absurd (lg_self (hkv hk0)) h9)
    refine g_goto (tgt := 1609) C dL_law_1606 (by decide) ?_
    exact g_widen (by omega) (by omega) (g_sub (L' := [(0, .ref b), (1, .ref (ax 0)), (2, .ref (am 0)), (3, .ref o), (4, .int (nI (5 * j)))]) [2, 3, 4, 5, 6] rfl (next _ _ _ hR2))
set_option maxHeartbeats 4000000 in
set_option maxRecDepth 100000 in
theorem law_loop {p : Program} {l : Launch} {e : Env} {s : State} {m : MethodId} {below : List Frame} {meth : Method} {c : Code} {D : va_G} {cI cZ cQ cL : ClassId} {ax am : Nat → Nat} {o b L9 : Nat} {xs : Nat → Int32} (hlt : l.stackTraces = false) (C : CX p s m #[.ref b] meth c D (tyL cI cZ cQ cL) (fun q => s.heap.size ≤ q) RL cL_law wsL_law 7 (wAll cI cZ cQ cL ax am o)) (hr : meth.sig.returnType = ret) (hE : EV (fun q => s.heap.size ≤ q) s s.heap tx0) (hXs : va_X b L9 xs s s.heap) (hbl : b < s.heap.size) {c0 s0 : Nat} (hc0 : c0 + 1600 ≤ 601024) (hs0 : s0 + 9600 ≤ 7293034) (hL9 : L9 ≤ 2560) : ∀ (k j : Nat) (X M : LU) (f : Nat → Int64), 5 * j ≤ L9 → L9 + 1 ≤ 5 * j + k → Rel (10000 * (j : Int)) X M → G p l e room_1 s m #[.ref b] below meth c D (fun q => s.heap.size ≤ q) 7 (wAll cI cZ cQ cL ax am o) (c0 + 3 * j) (s0 + 18 * j) (lw_Z below #[.ref b] s) (X, M, f) 23 [(0, .ref b), (1, .ref (ax 0)), (2, .ref (am 0)), (3, .ref o), (4, .int (nI (5 * j)))] [] := by
  intro k
  induction k with
  | zero =>
    intro j X M f h1 h2
    omega
  | succ k ih =>
    intro j X M f hi hk hR
    refine g_iload (pc' := 25) (q := 4) C dL_law_23 rfl rfl ?_
    refine g_aload_n (pc' := 26) (q := 0) C dL_law_25 rfl rfl rfl ?_
    refine g_slen (pc' := 27) C hXs hbl (Nat.not_le.mpr hbl) dL_law_26 rfl ?_
    refine g_iconst (pc' := 28) (v := 5) C dL_law_27 rfl (by decide) ?_
    refine g_isub (pc' := 29) C dL_law_28 rfl ?_
    have tL : (nI L9).toInt = (L9 : Int) := nI_toInt (by omega)
    have t5 : (5 : Int32).toInt = 5 := rfl
    have tj : (nI (5 * j)).toInt = ((5 * j : Nat) : Int) := nI_toInt (by omega)
    have ts : (nI L9 - 5).toInt = (nI L9).toInt - (5 : Int32).toInt := ti_sub (by omega) (by omega)
    refine g_icmp_gt (tgt := 1615) (pc' := 32) C dL_law_29 rfl (by decide) (fun cg => ?_) (fun cg => ?_)
    · refine g_iconst (pc' := 1616) (v := 1) C dL_law_1615 rfl (by decide) ?_
      exact g_lawret C hr (by omega) (by omega) dL_law_1616
    · have hj : 5 * j + 5 ≤ L9 := by omega
      have next : ∀ (X2 M2 : LU) (f2 : Nat → Int64), Rel (10000 * (j : Int) + 10000) X2 M2 → G p l e room_1 s m #[.ref b] below meth c D (fun q => s.heap.size ≤ q) 7 (wAll cI cZ cQ cL ax am o) (c0 + 3 * j + 3) (s0 + 18 * j + 18) (lw_Z below #[.ref b] s) (X2, M2, f2) 1609 [(0, .ref b), (1, .ref (ax 0)), (2, .ref (am 0)), (3, .ref o), (4, .int (nI (5 * j)))] [] := by
        intro X2 M2 f2 hR2
        refine g_iinc (pc' := 1612) (v := nI (5 * (j + 1))) (L' := [(4, .int (nI (5 * (j + 1)))), (0, .ref b), (1, .ref (ax 0)), (2, .ref (am 0)), (3, .ref o)]) C dL_law_1609 rfl (k := 4) rfl (nI_add (5 * j) 5) (by decide) rfl ?_
        refine g_goto (tgt := 23) C dL_law_1612 (by decide) ?_
        refine g_sub (L' := [(0, .ref b), (1, .ref (ax 0)), (2, .ref (am 0)), (3, .ref o), (4, .int (nI (5 * (j + 1))))]) [1, 2, 3, 4, 0] rfl ?_
        exact ih (j + 1) X2 M2 f2 (by omega) (by omega) (hR2.up (by omega))
      refine g_aload_n (pc' := 33) (q := 0) C dL_law_32 rfl rfl rfl ?_
      refine g_iload (pc' := 35) (q := 4) C dL_law_33 rfl rfl ?_
      refine g_sld (pc' := 36) (k := 5 * j) C hXs hbl (Nat.not_le.mpr hbl) (vp_in_nI (by omega) (by omega)) (nI_clamp (by omega)) dL_law_35 rfl ?_
      refine g_bipush (pc' := 38) (v := 31) C dL_law_36 rfl (by decide) ?_
      refine g_iand (pc' := 39) C dL_law_38 rfl ?_
      obtain ⟨k9, hk9, ek9⟩ := pk_andE (xs (5 * j)) (m := 31) 5 (by decide)
      refine g_conv ek9 ?_
      have t9 : (nI k9).toInt = (k9 : Int) := nI_toInt (by omega)
      rcases Nat.lt_or_ge k9 26 with hlt9 | hge9
      · rcases (show k9 = 0 ∨ k9 = 1 ∨ k9 = 2 ∨ k9 = 3 ∨ k9 = 4 ∨ k9 = 5 ∨ k9 = 6 ∨ k9 = 7 ∨ k9 = 8 ∨ k9 = 9 ∨ k9 = 10 ∨ k9 = 11 ∨ k9 = 12 ∨ k9 = 13 ∨ k9 = 14 ∨ k9 = 15 ∨ k9 = 16 ∨ k9 = 17 ∨ k9 = 18 ∨ k9 = 19 ∨ k9 = 20 ∨ k9 = 21 ∨ k9 = 22 ∨ k9 = 23 ∨ k9 = 24 ∨ k9 = 25 by omega) with rfl | rfl | rfl | rfl | rfl | rfl | rfl | rfl | rfl | rfl | rfl | rfl | rfl | rfl | rfl | rfl | rfl | rfl | rfl | rfl | rfl | rfl | rfl | rfl | rfl | rfl
        · exact g_tabIn (tgt := 156) C dL_law_39 (by rw [t9]; omega) (by rw [t9]; omega) (by rw [t9]; rfl) (by decide) (law_case_0 hlt C hr hE hXs hbl hc0 hs0 hj hL9 hR next)
        · exact g_tabIn (tgt := 248) C dL_law_39 (by rw [t9]; omega) (by rw [t9]; omega) (by rw [t9]; rfl) (by decide) (law_case_1 hlt C hr hE hXs hbl hc0 hs0 hj hL9 hR next)
        · exact g_tabIn (tgt := 304) C dL_law_39 (by rw [t9]; omega) (by rw [t9]; omega) (by rw [t9]; rfl) (by decide) (law_case_2 hlt C hr hE hXs hbl hc0 hs0 hj hL9 hR next)
        · exact g_tabIn (tgt := 360) C dL_law_39 (by rw [t9]; omega) (by rw [t9]; omega) (by rw [t9]; rfl) (by decide) (law_case_3 hlt C hr hE hXs hbl hc0 hs0 hj hL9 hR next)
        · exact g_tabIn (tgt := 416) C dL_law_39 (by rw [t9]; omega) (by rw [t9]; omega) (by rw [t9]; rfl) (by decide) (law_case_4 hlt C hr hE hXs hbl hc0 hs0 hj hL9 hR next)
        · exact g_tabIn (tgt := 484) C dL_law_39 (by rw [t9]; omega) (by rw [t9]; omega) (by rw [t9]; rfl) (by decide) (law_case_5 hlt C hr hE hXs hbl hc0 hs0 hj hL9 hR next)
        · exact g_tabIn (tgt := 552) C dL_law_39 (by rw [t9]; omega) (by rw [t9]; omega) (by rw [t9]; rfl) (by decide) (law_case_6 hlt C hr hE hXs hbl hc0 hs0 hj hL9 hR next)
        · exact g_tabIn (tgt := 643) C dL_law_39 (by rw [t9]; omega) (by rw [t9]; omega) (by rw [t9]; rfl) (by decide) (law_case_7 hlt C hr hE hXs hbl hc0 hs0 hj hL9 hR next)
        · exact g_tabIn (tgt := 699) C dL_law_39 (by rw [t9]; omega) (by rw [t9]; omega) (by rw [t9]; rfl) (by decide) (law_case_8 hlt C hr hE hXs hbl hc0 hs0 hj hL9 hR next)
        · exact g_tabIn (tgt := 755) C dL_law_39 (by rw [t9]; omega) (by rw [t9]; omega) (by rw [t9]; rfl) (by decide) (law_case_9 hlt C hr hE hXs hbl hc0 hs0 hj hL9 hR next)
        · exact g_tabIn (tgt := 768) C dL_law_39 (by rw [t9]; omega) (by rw [t9]; omega) (by rw [t9]; rfl) (by decide) (law_case_10 hlt C hr hE hXs hbl hc0 hs0 hj hL9 hR next)
        · exact g_tabIn (tgt := 781) C dL_law_39 (by rw [t9]; omega) (by rw [t9]; omega) (by rw [t9]; rfl) (by decide) (law_case_11 hlt C hr hE hXs hbl hc0 hs0 hj hL9 hR next)
        · exact g_tabIn (tgt := 794) C dL_law_39 (by rw [t9]; omega) (by rw [t9]; omega) (by rw [t9]; rfl) (by decide) (law_case_12 hlt C hr hE hXs hbl hc0 hs0 hj hL9 hR next)
        · exact g_tabIn (tgt := 850) C dL_law_39 (by rw [t9]; omega) (by rw [t9]; omega) (by rw [t9]; rfl) (by decide) (law_case_13 hlt C hr hE hXs hbl hc0 hs0 hj hL9 hR next)
        · exact g_tabIn (tgt := 906) C dL_law_39 (by rw [t9]; omega) (by rw [t9]; omega) (by rw [t9]; rfl) (by decide) (law_case_14 hlt C hr hE hXs hbl hc0 hs0 hj hL9 hR next)
        · exact g_tabIn (tgt := 962) C dL_law_39 (by rw [t9]; omega) (by rw [t9]; omega) (by rw [t9]; rfl) (by decide) (law_case_15 hlt C hr hE hXs hbl hc0 hs0 hj hL9 hR next)
        · exact g_tabIn (tgt := 1018) C dL_law_39 (by rw [t9]; omega) (by rw [t9]; omega) (by rw [t9]; rfl) (by decide) (law_case_16 hlt C hr hE hXs hbl hc0 hs0 hj hL9 hR next)
        · exact g_tabIn (tgt := 1081) C dL_law_39 (by rw [t9]; omega) (by rw [t9]; omega) (by rw [t9]; rfl) (by decide) (law_case_17 hlt C hr hE hXs hbl hc0 hs0 hj hL9 hR next)
        · exact g_tabIn (tgt := 1137) C dL_law_39 (by rw [t9]; omega) (by rw [t9]; omega) (by rw [t9]; rfl) (by decide) (law_case_18 hlt C hr hE hXs hbl hc0 hs0 hj hL9 hR next)
        · exact g_tabIn (tgt := 1193) C dL_law_39 (by rw [t9]; omega) (by rw [t9]; omega) (by rw [t9]; rfl) (by decide) (law_case_19 hlt C hr hE hXs hbl hc0 hs0 hj hL9 hR next)
        · exact g_tabIn (tgt := 1249) C dL_law_39 (by rw [t9]; omega) (by rw [t9]; omega) (by rw [t9]; rfl) (by decide) (law_case_20 hlt C hr hE hXs hbl hc0 hs0 hj hL9 hR next)
        · exact g_tabIn (tgt := 1305) C dL_law_39 (by rw [t9]; omega) (by rw [t9]; omega) (by rw [t9]; rfl) (by decide) (law_case_21 hlt C hr hE hXs hbl hc0 hs0 hj hL9 hR next)
        · exact g_tabIn (tgt := 1361) C dL_law_39 (by rw [t9]; omega) (by rw [t9]; omega) (by rw [t9]; rfl) (by decide) (law_case_22 hlt C hr hE hXs hbl hc0 hs0 hj hL9 hR next)
        · exact g_tabIn (tgt := 1417) C dL_law_39 (by rw [t9]; omega) (by rw [t9]; omega) (by rw [t9]; rfl) (by decide) (law_case_23 hlt C hr hE hXs hbl hc0 hs0 hj hL9 hR next)
        · exact g_tabIn (tgt := 1485) C dL_law_39 (by rw [t9]; omega) (by rw [t9]; omega) (by rw [t9]; rfl) (by decide) (law_case_24 hlt C hr hE hXs hbl hc0 hs0 hj hL9 hR next)
        · exact g_tabIn (tgt := 1541) C dL_law_39 (by rw [t9]; omega) (by rw [t9]; omega) (by rw [t9]; rfl) (by decide) (law_case_25 hlt C hr hE hXs hbl hc0 hs0 hj hL9 hR next)
      · exact g_tabOut (tgt := 1609) C dL_law_39 (Or.inr (by rw [t9]; omega)) (by decide) (g_widen (by omega) (by omega) (next _ _ _ (hR.up (by omega))))
