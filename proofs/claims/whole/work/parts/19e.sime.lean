/-! the calls that move wafers -/
theorem ctA_g {f g : Nat → Int32} {x : Int32} : ∀ L, (∀ l, l < L → f l = g l) → ctA f x L = ctA g x L
  | 0, _ => rfl
  | L + 1, h => by
    simp only [ctA]
    rw [ctA_g L (fun l hl => h l (by omega)), h L (by omega)]
theorem ctA_z {f : Nat → Int32} {x : Int32} : ∀ L, (∀ l, l < L → ¬ (f l).toInt = x.toInt) → ctA f x L = 0
  | 0, _ => rfl
  | L + 1, h => by
    simp only [ctA]
    rw [if_neg (h L (by omega))]
    exact ctA_z L (fun l hl => h l (by omega))
theorem ctA_mono (f : Nat → Int32) (x : Int32) (i : Nat) : ∀ d, ctA f x i ≤ ctA f x (i + d)
  | 0 => Nat.le_refl _
  | d + 1 => by
    have h := ctA_mono f x i d
    show _ ≤ ctA f x ((i + d) + 1)
    simp only [ctA]
    split <;> omega
theorem ctA_lt {f : Nat → Int32} {x : Int32} {i W : Nat} (h : (f i).toInt = x.toInt) (hi : i < W) : ctA f x i + 1 ≤ ctA f x W := by
  have h1 : ctA f x (i + 1) = ctA f x i + 1 := by simp only [ctA]; exact if_pos h
  have h2 := ctA_mono f x (i + 1) (W - (i + 1))
  rw [show i + 1 + (W - (i + 1)) = W by omega] at h2
  omega
theorem ctA_two {f : Nat → Int32} {n k L : Nat} (hn : n < L) (hk : k < L) (h : ¬ n = k) (h1 : ¬ (f n).toInt = (3 : Int32).toInt) (h2 : ¬ (f k).toInt = (3 : Int32).toInt) : ctA f 3 L + 2 ≤ L ∧ ctA (upd f n 3) 3 L = ctA f 3 L + 1 := by
  have a := ctA_upd f 3 3 n L
  rw [if_neg (fun z => h1 z.2), if_pos ⟨hn, rfl⟩] at a
  have b := ctA_upd (upd f n 3) 3 3 k L
  rw [upd_n (fun z => h z.symm), if_neg (fun z => h2 z.2), if_pos ⟨hk, rfl⟩] at b
  have c := ctA_le (upd (upd f n 3) k 3) 3 L
  omega
theorem putX_lo (u : LU) (w n : Nat) {j : Nat} (h : j < 100) (h16 : j ≠ 16) : putX u w n j = put1 u w n j := by
  unfold putX
  split
  · rw [up_n _ _ _ h16]
    unfold put2
    rw [up_n _ _ _ (by omega)]
  · rfl
theorem put1_row (u : LU) (w n q : Nat) : put1 u w n (100 + q) = u (100 + q) := by
  unfold put1
  rw [up_n _ _ _ (by omega), up_n _ _ _ (by omega)]
theorem putX_row {u : LU} {w n : Nat} (h : (u 16 w).toInt < 47) (q : Nat) : putX u w n (100 + q) = if q = w then upd (u (100 + w)) (u 16 w).toNatClampNeg (nI n) else u (100 + q) := by
  unfold putX
  rw [if_pos h, up_n _ _ _ (by omega)]
  unfold put2
  rw [put1_row]
  by_cases e : q = w
  · subst e
    rw [if_pos rfl]
    exact if_pos rfl
  · rw [if_neg e, up_n _ _ _ (by omega), put1_row]
theorem put_gen {B : Int} {u v x' m' : LU} {f t i : Nat} (hR : Rel B u v) (hf : (f : Int) < (v 0 7).toInt) (ht : (t : Int) < (v 0 7).toInt) (hft : ¬ f = t) (hi : (i : Int) < (v 0 15).toInt) (h17 : v 17 i = nI f) (h47 : (v 18 i).toInt < 47) (hLE : (v 18 i).toInt + 1 ≤ (v 0 7).toInt + endM v) (hx : ∀ j, j < 100 → j ≠ 12 → j ≠ 14 → j ≠ 16 → x' j = u j) (f12 : x' 12 = upd (upd (u 12) f (u 12 f - 1)) t (upd (u 12) f (u 12 f - 1) t + 1)) (f14 : x' 14 = upd (u 14) i (nI t)) (f16 : x' 16 = upd (u 16) i (u 16 i + 1)) (fr : ∀ q, x' (100 + q) = if q = i then upd (u (100 + i)) (u 16 i).toNatClampNeg (nI t) else u (100 + q)) (gm : ∀ j, j ≠ 17 → j ≠ 18 → j ≠ 19 → m' j = v j) (g17 : m' 17 = upd (v 17) i (nI t)) (g18 : m' 18 = upd (v 18) i (v 18 i + 1)) (g19 : m' 19 = upd (v 19) (48 * i + (v 18 i).toInt.toNat) (nI t)) : Rel B x' m' := by
  obtain ⟨hC, hS, hL, hZ, hN, hW⟩ := hR
  have h7 := hC.2.2.2.2.2.1
  have h15 := hC.2.2.2.2.2.2.1
  have G0 := gm 0 (by decide) (by decide) (by decide)
  have G9 := gm 9 (by decide) (by decide) (by decide)
  have hE : endM m' = endM v := by unfold endM; rw [G9, G0]
  have eti : (nI t).toInt = (t : Int) := ti_nI (by omega)
  have efi : (nI f).toInt = (f : Int) := ti_nI (by omega)
  refine ⟨?_, ?_, ?_, ?_, ?_, ?_⟩
  · unfold RC
    rw [hx 0 (by decide) (by decide) (by decide) (by decide), G0]
    exact hC
  · intro k hk
    rw [G0] at hk
    unfold RS1
    rw [hx 1 (by decide) (by decide) (by decide) (by decide), hx 2 (by decide) (by decide) (by decide) (by decide), hx 3 (by decide) (by decide) (by decide) (by decide), hx 4 (by decide) (by decide) (by decide) (by decide), gm 4 (by decide) (by decide) (by decide), gm 5 (by decide) (by decide) (by decide), gm 6 (by decide) (by decide) (by decide), gm 7 (by decide) (by decide) (by decide)]
    exact hS k hk
  · intro l hl
    rw [G0] at hl
    unfold RL1
    rw [hx 6 (by decide) (by decide) (by decide) (by decide), hx 7 (by decide) (by decide) (by decide) (by decide), hx 8 (by decide) (by decide) (by decide) (by decide), hx 9 (by decide) (by decide) (by decide) (by decide), hx 10 (by decide) (by decide) (by decide) (by decide), hx 11 (by decide) (by decide) (by decide) (by decide), G9, gm 10 (by decide) (by decide) (by decide), gm 11 (by decide) (by decide) (by decide), gm 12 (by decide) (by decide) (by decide), gm 13 (by decide) (by decide) (by decide), gm 14 (by decide) (by decide) (by decide), gm 15 (by decide) (by decide) (by decide), G0]
    exact hL l hl
  · intro l hl
    rw [hx 9 (by decide) (by decide) (by decide) (by decide), G9, gm 10 (by decide) (by decide) (by decide), gm 13 (by decide) (by decide) (by decide), gm 14 (by decide) (by decide) (by decide), G0]
    exact hZ l hl
  · intro l hl
    rw [G0] at hl
    rw [f12, g17, G0]
    have h := ctA_upd (v 17) (nI l) (nI t) i (v 0 15).toInt.toNat
    have eli : (nI l).toInt = (l : Int) := ti_nI (by omega)
    rw [h17, eti, efi, eli] at h
    by_cases e : l = t
    · subst e
      rw [if_neg (by omega), if_pos ⟨by omega, rfl⟩] at h
      rw [upd_s, upd_n (by omega), hN l hl, nI_1]
      exact congrArg nI (by omega)
    · rw [upd_n e]
      by_cases e2 : l = f
      · subst e2
        rw [if_pos ⟨by omega, rfl⟩, if_neg (by omega)] at h
        rw [upd_s, hN l hl, show ctA (v 17) (nI l) (v 0 15).toInt.toNat = ctA (upd (v 17) i (nI t)) (nI l) (v 0 15).toInt.toNat + 1 by omega]
        exact nI_pred _
      · rw [if_neg (by omega), if_neg (by omega)] at h
        rw [upd_n e2, hN l hl]
        exact congrArg nI (by omega)
  · intro q hq
    obtain ⟨ha, hb⟩ := hW q hq
    unfold RW1
    rw [f14, f16, fr, g17, g18, g19, G0, hE]
    refine ⟨fun z => ?_, fun z => ?_⟩
    · obtain ⟨b1, b2, b3, b4, b5, b6⟩ := ha z
      by_cases e : q = i
      · subst e
        have e1 : (1 : Int32).toInt = 1 := rfl
        have hs : (v 18 q + 1).toInt = (v 18 q).toInt + 1 := ti_add (by rw [e1]; omega) (by rw [e1]; omega)
        rw [if_pos rfl]
        simp only [upd_s]
        rw [b3]
        refine ⟨trivial, by omega, rfl, by omega, by omega, fun j hj => ?_⟩
        have hk := tnc (x := v 18 q) (by omega)
        by_cases ej : j = (v 18 q).toNatClampNeg
        · rw [show 48 * q + j = 48 * q + (v 18 q).toInt.toNat from congrArg (fun z => 48 * q + z) ej, upd_s, ej, upd_s]
        · rw [upd_n ej, upd_n (by omega)]
          exact b6 j (by omega)
      · rw [if_neg e]
        simp only [upd_n e]
        refine ⟨b1, b2, b3, b4, b5, fun j hj => ?_⟩
        rw [upd_n (by omega)]
        exact b6 j hj
    · have e : q ≠ i := by omega
      simp only [upd_n e]
      exact hb z
theorem en_gen {B : Int} {u v x' m' : LU} {n w : Nat} (hR : Rel B u v) (hn : (n : Int) < (v 0 7).toInt) (hw : v 0 15 = nI w) (hw60 : w < 60) (hx : ∀ j, j < 100 → j ≠ 0 → j ≠ 12 → j ≠ 14 → j ≠ 16 → x' j = u j) (f04 : x' 0 4 = u 0 4) (f012 : x' 0 12 = u 0 12) (f017 : x' 0 17 = u 0 17) (f016 : x' 0 16 = nI w + 1) (f12 : x' 12 = upd (u 12) n (u 12 n + 1)) (f14 : x' 14 = upd (u 14) w (nI n)) (f16 : x' 16 w = 1) (f16' : ∀ q, q ≠ w → x' 16 q = u 16 q) (fr : x' (100 + w) 0 = nI n) (fr' : ∀ q, q ≠ w → x' (100 + q) = u (100 + q)) (gm : ∀ j, j ≠ 0 → j ≠ 17 → j ≠ 18 → j ≠ 19 → m' j = v j) (g02 : m' 0 2 = v 0 2) (g07 : m' 0 7 = v 0 7) (g01 : m' 0 1 = v 0 1) (g015 : m' 0 15 = nI w + 1) (g17 : m' 17 = upd (v 17) w (nI n)) (g18 : m' 18 = upd (v 18) w (v 18 w + 1)) (g19 : m' 19 = upd (v 19) (48 * w + (v 18 w).toInt.toNat) (nI n)) : Rel B x' m' := by
  obtain ⟨⟨e4, e12, e16, e17, h2, h7, h15, h1⟩, hS, hL, hZ, hN, hW⟩ := hR
  have G9 := gm 9 (by decide) (by decide) (by decide) (by decide)
  have hE : endM m' = endM v := by unfold endM; rw [G9, g07]
  have eni : (nI n).toInt = (n : Int) := ti_nI (by omega)
  have ewi : (nI w).toInt = (w : Int) := ti_nI (by omega)
  have ews : (nI w + 1).toInt = (w : Int) + 1 := by rw [nI_1]; exact ti_nI (by omega)
  have g015i : (m' 0 15).toInt = (w : Int) + 1 := by rw [g015, ews]
  have g015n : (m' 0 15).toInt.toNat = w + 1 := by omega
  have hvw : (v 0 15).toInt = (w : Int) := by rw [hw, ewi]
  have hvn : (v 0 15).toInt.toNat = w := by omega
  have hz18 := ((hW w hw60).2 (by omega)).2.1
  refine ⟨?_, ?_, ?_, ?_, ?_, ?_⟩
  · unfold RC
    rw [f04, f012, f017, f016, g02, g07, g01, g015, ews]
    exact ⟨e4, e12, rfl, e17, h2, h7, by omega, h1⟩
  · intro k hk
    rw [g02] at hk
    unfold RS1
    rw [hx 1 (by decide) (by decide) (by decide) (by decide) (by decide), hx 2 (by decide) (by decide) (by decide) (by decide) (by decide), hx 3 (by decide) (by decide) (by decide) (by decide) (by decide), hx 4 (by decide) (by decide) (by decide) (by decide) (by decide), gm 4 (by decide) (by decide) (by decide) (by decide), gm 5 (by decide) (by decide) (by decide) (by decide), gm 6 (by decide) (by decide) (by decide) (by decide), gm 7 (by decide) (by decide) (by decide) (by decide)]
    exact hS k hk
  · intro l hl
    rw [g07] at hl
    unfold RL1
    rw [hx 6 (by decide) (by decide) (by decide) (by decide) (by decide), hx 7 (by decide) (by decide) (by decide) (by decide) (by decide), hx 8 (by decide) (by decide) (by decide) (by decide) (by decide), hx 9 (by decide) (by decide) (by decide) (by decide) (by decide), hx 10 (by decide) (by decide) (by decide) (by decide) (by decide), hx 11 (by decide) (by decide) (by decide) (by decide) (by decide), G9, gm 10 (by decide) (by decide) (by decide) (by decide), gm 11 (by decide) (by decide) (by decide) (by decide), gm 12 (by decide) (by decide) (by decide) (by decide), gm 13 (by decide) (by decide) (by decide) (by decide), gm 14 (by decide) (by decide) (by decide) (by decide), gm 15 (by decide) (by decide) (by decide) (by decide), g02, g01]
    exact hL l hl
  · intro l hl
    rw [hx 9 (by decide) (by decide) (by decide) (by decide) (by decide), G9, gm 10 (by decide) (by decide) (by decide) (by decide), gm 13 (by decide) (by decide) (by decide) (by decide), gm 14 (by decide) (by decide) (by decide) (by decide), g07]
    exact hZ l hl
  · intro l hl
    rw [g07] at hl
    rw [f12, g17, g015n]
    have hl0 := hN l hl
    rw [hvn] at hl0
    have h := ctA_upd (v 17) (nI l) (nI n) w w
    have eli : (nI l).toInt = (l : Int) := ti_nI (by omega)
    rw [if_neg (by omega), if_neg (by omega)] at h
    simp only [ctA]
    rw [upd_s, eni, eli]
    by_cases e : l = n
    · subst e
      rw [upd_s, if_pos rfl, hl0, nI_1]
      exact congrArg nI (by omega)
    · rw [upd_n e, if_neg (by omega), hl0]
      exact congrArg nI (by omega)
  · intro q hq
    obtain ⟨ha, hb⟩ := hW q hq
    unfold RW1
    rw [f14, g17, g18, g19, g07, hE, g015i]
    by_cases e : q = w
    · subst e
      simp only [upd_s]
      rw [f16, hz18]
      have e0 : (0 + 1 : Int32) = 1 := rfl
      have e1 : (1 : Int32).toInt = 1 := rfl
      rw [e0, e1, eni]
      refine ⟨fun _ => ⟨trivial, by omega, rfl, by omega, by omega, fun j hj => ?_⟩, fun z => by omega⟩
      have : j = 0 := by omega
      subst this
      have e00 : (0 : Int32).toInt.toNat = 0 := rfl
      rw [fr, e00, upd_s]
    · simp only [upd_n e]
      rw [f16' q e, fr' q e]
      refine ⟨fun z => ?_, fun z => hb (by omega)⟩
      obtain ⟨b1, b2, b3, b4, b5, b6⟩ := ha (by omega)
      refine ⟨b1, b2, b3, b4, b5, fun j hj => ?_⟩
      have e00 : (0 : Int32).toInt.toNat = 0 := rfl
      rw [hz18, e00, upd_n (by omega)]
      exact b6 j hj
theorem nl_gen {B : Int} {x m m' : LU} {k : Nat} {st si hd r9 pa : Int32} (hR : Rel B x m) (hk : m 0 7 = nI k) (hk24 : k < 24) (hst : 0 ≤ st.toInt ∧ st.toInt < (m 0 2).toInt) (hsi : 0 ≤ si.toInt ∧ si.toInt ≤ (m 0 1).toInt) (hhd : hd = 0 ∨ hd = 1) (hr9 : 0 ≤ r9.toInt ∧ r9.toInt ≤ 2) (hpa : -1 ≤ pa.toInt ∧ pa.toInt < k) (g9 : m' 9 k = 0) (g10 : m' 10 k = st) (g11 : m' 11 k = si) (g13 : m' 13 k = hd) (g14 : m' 14 k = r9) (g15 : m' 15 k = pa) (go : ∀ l, l ≠ k → m' 9 l = m 9 l ∧ m' 10 l = m 10 l ∧ m' 11 l = m 11 l ∧ m' 13 l = m 13 l ∧ m' 14 l = m 14 l ∧ m' 15 l = m 15 l) (g4 : m' 4 = m 4) (g5 : m' 5 = m 5) (g6 : m' 6 = m 6) (g7 : m' 7 = m 7) (g12 : m' 12 = m 12) (g17 : m' 17 = m 17) (g18 : m' 18 = m 18) (g19 : m' 19 = m 19) (g02 : m' 0 2 = m 0 2) (g01 : m' 0 1 = m 0 1) (g015 : m' 0 15 = m 0 15) (g07 : m' 0 7 = nI k + 1) : Rel B (mkLX x k st si hd r9 pa) m' ∧ endM m ≤ endM m' := by
  obtain ⟨⟨e4, e12, e16, e17, h2, h7, h15, h1⟩, hS, hL, hZ, hN, hW⟩ := hR
  have eki : (nI k).toInt = (k : Int) := ti_nI (by omega)
  have eks : (nI k + 1).toInt = (k : Int) + 1 := by rw [nI_1]; exact ti_nI (by omega)
  have hki : (m 0 7).toInt = (k : Int) := by rw [hk, eki]
  have g07i : (m' 0 7).toInt = (k : Int) + 1 := by rw [g07, eks]
  have hE : endM m ≤ endM m' := by
    unfold endM
    rw [show (m' 0 7).toInt.toNat = k + 1 by omega, show (m 0 7).toInt.toNat = k by omega, ctA_g (f := m 9) (g := m' 9) k (fun l hl => ((go l (by omega)).1).symm)]
    exact ctA_mono _ _ _ 1
  refine ⟨⟨⟨?_, ?_, ?_, ?_, ?_, ?_, ?_, ?_⟩, ?_, ?_, ?_, ?_, RW_keep hW rfl rfl (fun w => ?_) g17 g18 g19 g015 (by omega) hE⟩, hE⟩
  · rw [g02]; exact e4
  · rw [g07]; rfl
  · rw [g015]; exact e16
  · rw [g01]; exact e17
  · rw [g02]; exact h2
  · rw [g07i]; omega
  · rw [g015]; exact h15
  · rw [g01]; exact h1
  · intro q hq
    rw [g02] at hq
    unfold RS1
    rw [g4, g5, g6, g7]
    exact hS q hq
  · intro l hl
    by_cases e : l = k
    · subst e
      have F6 : mkLX x l st si hd r9 pa 6 l = 0 := upd_s
      have F7 : mkLX x l st si hd r9 pa 7 l = st := upd_s
      have F8 : mkLX x l st si hd r9 pa 8 l = si := upd_s
      have F9 : mkLX x l st si hd r9 pa 9 l = hd := upd_s
      have F10 : mkLX x l st si hd r9 pa 10 l = r9 := upd_s
      have F11 : mkLX x l st si hd r9 pa 11 l = pa := upd_s
      unfold RL1
      rw [F6, F7, F8, F9, F10, F11, g9, g10, g11, g13, g14, g15, g02, g01]
      exact ⟨rfl, by decide, rfl, rfl, hr9, rfl, hpa, fun _ => ⟨rfl, hst⟩, fun z => absurd z (by decide), fun _ => ⟨rfl, hsi⟩, fun z => absurd z (by decide)⟩
    · have F6 : mkLX x k st si hd r9 pa 6 l = x 6 l := upd_n e
      have F7 : mkLX x k st si hd r9 pa 7 l = x 7 l := upd_n e
      have F8 : mkLX x k st si hd r9 pa 8 l = x 8 l := upd_n e
      have F9 : mkLX x k st si hd r9 pa 9 l = x 9 l := upd_n e
      have F10 : mkLX x k st si hd r9 pa 10 l = x 10 l := upd_n e
      have F11 : mkLX x k st si hd r9 pa 11 l = x 11 l := upd_n e
      obtain ⟨o9, o10, o11, o13, o14, o15⟩ := go l e
      unfold RL1
      rw [F6, F7, F8, F9, F10, F11, o9, o10, o11, o13, o14, o15, g12, g02, g01]
      exact hL l (by omega)
  · intro l hl
    have h := hZ l hl
    by_cases e : l = k
    · subst e
      refine ⟨?_, fun z => by omega⟩
      have F9 : mkLX x l st si hd r9 pa 9 l = hd := upd_s
      rw [F9]
      exact hhd
    · have F9 : mkLX x k st si hd r9 pa 9 l = x 9 l := upd_n e
      obtain ⟨o9, o10, o11, o13, o14, o15⟩ := go l e
      rw [F9, o9, o10, o13, o14]
      exact ⟨h.1, fun z => h.2 (by omega)⟩
  · intro l hl
    rw [g17, g015]
    by_cases e : l = k
    · subst e
      have F12 : mkLX x l st si hd r9 pa 12 l = 0 := upd_s
      rw [F12, ctA_z]
      · exact nI_0.symm
      · intro w hw z
        obtain ⟨-, b2, -⟩ := (hW w (by omega)).1 (by omega)
        omega
    · have F12 : mkLX x k st si hd r9 pa 12 l = x 12 l := upd_n e
      rw [F12]
      exact hN l (by omega)
  · unfold mkLX
    rw [up_n _ _ _ (by omega), up_n _ _ _ (by omega), up_n _ _ _ (by omega), up_n _ _ _ (by omega), up_n _ _ _ (by omega), up_n _ _ _ (by omega), up_n _ _ _ (by omega), up_n _ _ _ (by omega)]
theorem en_step {B : Int} {u v : LU} {n w : Nat} (hR : Rel B u (e1M v n)) (hn : n < 24) (hw : v 0 15 = nI w) (hw60 : w < 60) : Rel B (mwX u w n) (e1M (ewM v w n) n) := by
  have h16 : up (up u 16 (upd (u 16) w 0)) 0 (upd (u 0) 16 (nI w + 1)) 16 w = 0 := upd_s
  have h47 : (up (up u 16 (upd (u 16) w 0)) 0 (upd (u 0) 16 (nI w + 1)) 16 w).toInt < 47 := by rw [h16]; decide
  have hL : (n : Int) < (e1M v n 0 7).toInt := by
    have : e1M v n 0 7 = nI n + 1 := rfl
    rw [this, nI_1]
    have : (nI (n + 1)).toInt = ((n + 1 : Nat) : Int) := ti_nI (by omega)
    omega
  unfold mwX
  refine en_gen hR hL (w := w) hw hw60 (fun j j1 j2 j3 j4 j5 => ?_) ?_ ?_ ?_ ?_ ?_ ?_ ?_ (fun q hq => ?_) ?_ (fun q hq => ?_) (fun j j1 j2 j3 j4 => ?_) rfl rfl rfl rfl rfl rfl rfl
  · rw [putX_lo _ _ _ j1 j5]
    unfold put1
    rw [up_n _ _ _ j3, up_n _ _ _ j4, up_n _ _ _ j2, up_n _ _ _ j5]
  · rw [putX_0]; rfl
  · rw [putX_0]; rfl
  · rw [putX_0]; rfl
  · rw [putX_0]; rfl
  · rw [putX_lo _ _ _ (by omega) (by omega)]; rfl
  · rw [putX_lo _ _ _ (by omega) (by omega)]; rfl
  · rw [putX_16 _ _ _ hw60, if_pos h47, upd_s, h16]; rfl
  · rw [putX_16 _ _ _ hw60, if_pos h47, upd_n hq]
    exact upd_n hq
  · rw [putX_row h47, if_pos rfl, h16]
    exact upd_s
  · rw [putX_row h47, if_neg hq, up_n _ _ _ (by omega), up_n _ _ _ (by omega)]
  · unfold e1M ewM ptM
    rw [up_n _ _ _ j1, up_n _ _ _ j1, up_n _ _ _ j3, up_n _ _ _ j4, up_n _ _ _ j2, up_n _ _ _ j1]
theorem en_loop {B : Int} {u v : LU} {n w : Nat} (hR : Rel B u (e1M v n)) (hn : n < 24) (hw : v 0 15 = nI w) : ∀ c : Nat, w + c ≤ 60 → Rel B (enX u w n c) (e1M (enM v w n c) n) ∧ enM v w n c 0 15 = nI (w + c) ∧ enM v w n c 0 0 = v 0 0
  | 0, _ => ⟨hR, hw, rfl⟩
  | c + 1, hc => by
    obtain ⟨h1, h2, h3⟩ := en_loop hR hn hw c (by omega)
    refine ⟨en_step h1 hn h2 (by omega), ?_, h3⟩
    simp only [enM]
    rw [ewM_15]
    rfl
theorem sim_enter {B : Int} {X M : LU} {f : Nat → Int64} (hR : Rel B X M) (hB : B ≤ 5110000) (x : Int32) {k : Int32} {s2 : LU × (Nat → Int64)} {rb : Int32} {M' : LU} (hX : wX_enter X f x k s2) (hM : pM_enter M x rb M') : Rel (B + 10000) s2.1 M' ∧ M' 0 0 = k ∧ (k = 0 → s2.2 0 = rb.toInt64) := by
  have hU := hR.up (show B ≤ B + 10000 by omega)
  obtain ⟨⟨e4, e12, e16, e17, h2, h7, h15, h1⟩, hS, hL, hZ, hN, hW⟩ := id hR
  have hx1 : ∀ q : Int32, q + 1 - 1 = q := fun q => Int32.add_sub_cancel q 1
  rcases hX with ⟨rfl, r0, v, ⟨p1, p2, n, w0, hn24, hw60, hn, hw0, rfl, rfl⟩, rfl⟩ | ⟨rfl, hx, rfl⟩ | ⟨rfl, hx, rfl⟩
  · rw [e4, e12, e16] at p2
    rw [e12] at hn
    rw [e16] at hw0
    have hni : (nI n).toInt = (n : Int) := ti_nI (by omega)
    have hwi : (nI w0).toInt = (w0 : Int) := ti_nI (by omega)
    rcases hM with ⟨hm, rfl⟩ | ⟨hm, hm2, rfl⟩ | ⟨hm, hm2, n', w', hn24', hw60', hn', hw', rfl, rfl⟩
    · exact absurd p1 hm
    · exact absurd ⟨p2.1, by omega, p2.2.2⟩ hm2
    · have hn2 := hn'
      have hw2 := hw'
      rw [hn] at hn2
      rw [hw0] at hw2
      obtain rfl : n' = n := nI_inj2 hn2 (by omega) (by omega)
      obtain rfl : w' = w0 := nI_inj2 hw2 (by omega) (by omega)
      have hz2 := (hZ n' hn24).2 (by rw [hn, hni]; exact Int.le_refl _)
      have hb := (nl_gen (m' := e1M (e0M M n') n') (k := n') (st := 0) (si := X 0 17) (hd := 0) (r9 := 0) (pa := -1) hU hn hn24 ⟨by decide, by show (0 : Int) < _; omega⟩ (by rw [e17]; omega) (Or.inl rfl) (by decide) ⟨by decide, by show (-1 : Int) < _; omega⟩ hz2.1 hz2.2.1 (by rw [e17]; exact upd_s) hz2.2.2.1 hz2.2.2.2 upd_s (fun l hl => ⟨rfl, rfl, upd_n hl, rfl, rfl, upd_n hl⟩) rfl rfl rfl rfl rfl rfl rfl rfl rfl rfl rfl rfl).1
      have p22 := p2.2.2
      rw [hw0, hwi] at p22
      obtain ⟨g1, -, g3⟩ := en_loop (w := w') hb hn24 hw0 x.toInt.toNat (by omega)
      refine ⟨g1, ?_, fun _ => updL_ti f (hx1 _).symm⟩
      show enM (e0M M n') w' n' x.toInt.toNat 0 0 = 0
      rw [g3]
      rfl
  · unfold eX_enter at hx
    rw [e4, e12, e16] at hx
    rcases hx with ⟨-, hx⟩ | ⟨hx, -⟩
    · rcases hM with ⟨hm, rfl⟩ | ⟨hm, hm2, rfl⟩ | ⟨hm, -⟩
      · exact ⟨hU.th 1, rfl, fun h => absurd h (by decide)⟩
      · exact absurd hm hx
      · exact absurd hm hx
    · exact absurd hx (by decide)
  · unfold eX_enter at hx
    rw [e4, e12, e16] at hx
    rcases hx with ⟨hx, -⟩ | ⟨-, hx, hx2⟩
    · exact absurd hx (by decide)
    · rcases hM with ⟨hm, rfl⟩ | ⟨hm, hm2, rfl⟩ | ⟨hm, hm2, -⟩
      · exact absurd hx hm
      · exact ⟨hU.th 2, rfl, fun h => absurd h (by decide)⟩
      · exact absurd ⟨hm2.1, by omega, hm2.2.2⟩ hx2
