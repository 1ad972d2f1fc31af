/-! what each call asks, kept by the relation: the plain ones -/
theorem tnc {x : Int32} (h : 0 ≤ x.toInt) : (x.toNatClampNeg : Int) = x.toInt := Int.toNat_of_nonneg h
theorem ti_inj {x y : Int32} (h : x.toInt = y.toInt) : x = y := Int32.toInt.inj h
theorem ti_nI {n : Nat} (h : n < 2000000000) : (nI n).toInt = (n : Int) := nI_toInt (by omega)
theorem tn_nI {n : Nat} (h : n < 2000000000) : (nI n).toNatClampNeg = n := nI_clamp (by omega)
theorem updL_ti (f : Nat → Int64) {r r' : Int32} (h : r = r') : vp_updL f 0 r.toInt64 0 = r'.toInt64 := by rw [updL_0, h]
theorem updL_lb (f : Nat → Int64) {r r' : Int32} (h : r = r') : vp_updL f 0 (lbI r) 0 = lbI r' := by rw [updL_0, h]
theorem sim_state {B : Int} {X M : LU} {f : Nat → Int64} (hR : Rel B X M) (hB : B ≤ 5110000) (x : Int32) {k : Int32} {s2 : LU × (Nat → Int64)} {rb : Int32} {M' : LU} (hX : wX_state X f x k s2) (hM : pM_state M x rb M') : Rel (B + 10000) s2.1 M' ∧ M' 0 0 = k ∧ (k = 0 → s2.2 0 = rb.toInt64) := by
  have hU := hR.up (show B ≤ B + 10000 by omega)
  obtain ⟨⟨e4, e12, e16, e17, h2, h7, h15, h1⟩, hS, hL, hZ, hN, hW⟩ := hR
  rcases hX with ⟨rfl, r0, v, ⟨n, rfl, hn, rfl, rfl⟩, rfl⟩ | ⟨rfl, ⟨-, hx⟩, rfl⟩
  · rw [e12] at hn
    have hi : (nI n).toInt = (n : Int) := ti_nI (by omega)
    have hc : (nI n).toNatClampNeg = n := tn_nI (by omega)
    rcases hM with ⟨hm, rfl, rfl⟩ | ⟨hm, rfl⟩
    · refine ⟨hU.th 0, rfl, fun _ => ?_⟩
      refine updL_ti f ?_
      rw [hc, (hL n hn).1]
    · exact absurd ⟨by omega, by omega⟩ hm
  · rw [e12] at hx
    rcases hM with ⟨hm, rfl, rfl⟩ | ⟨hm, rfl⟩
    · exact absurd hm hx
    · exact ⟨(hU.th 0).th 1, rfl, fun h => absurd h (by decide)⟩
theorem sim_stepOf {B : Int} {X M : LU} {f : Nat → Int64} (hR : Rel B X M) (hB : B ≤ 5110000) (x : Int32) {k : Int32} {s2 : LU × (Nat → Int64)} {rb : Int32} {M' : LU} (hX : wX_stepOf X f x k s2) (hM : pM_stepOf M x rb M') : Rel (B + 10000) s2.1 M' ∧ M' 0 0 = k ∧ (k = 0 → s2.2 0 = rb.toInt64) := by
  have hU := hR.up (show B ≤ B + 10000 by omega)
  obtain ⟨⟨e4, e12, e16, e17, h2, h7, h15, h1⟩, hS, hL, hZ, hN, hW⟩ := hR
  rcases hX with ⟨rfl, r0, v, ⟨n, rfl, hn, rfl, rfl⟩, rfl⟩ | ⟨rfl, ⟨-, hx⟩, rfl⟩
  · rw [e12] at hn
    have hi : (nI n).toInt = (n : Int) := ti_nI (by omega)
    have hc : (nI n).toNatClampNeg = n := tn_nI (by omega)
    rcases hM with ⟨hm, rfl, rfl⟩ | ⟨hm, rfl⟩
    · refine ⟨hU.th 0, rfl, fun _ => ?_⟩
      refine updL_ti f ?_
      rw [hc]
      split
      · next q => exact ((hL n hn).2.2.2.2.2.2.2.1 q).1
      · next q => exact (hL n hn).2.2.2.2.2.2.2.2.1 (by omega)
    · exact absurd ⟨by omega, by omega⟩ hm
  · rw [e12] at hx
    rcases hM with ⟨hm, rfl, rfl⟩ | ⟨hm, rfl⟩
    · exact absurd hm hx
    · exact ⟨(hU.th 0).th 1, rfl, fun h => absurd h (by decide)⟩
theorem sim_size {B : Int} {X M : LU} {f : Nat → Int64} (hR : Rel B X M) (hB : B ≤ 5110000) (x : Int32) {k : Int32} {s2 : LU × (Nat → Int64)} {rb : Int32} {M' : LU} (hX : wX_size X f x k s2) (hM : pM_size M x rb M') : Rel (B + 10000) s2.1 M' ∧ M' 0 0 = k ∧ (k = 0 → s2.2 0 = rb.toInt64) := by
  have hU := hR.up (show B ≤ B + 10000 by omega)
  obtain ⟨⟨e4, e12, e16, e17, h2, h7, h15, h1⟩, hS, hL, hZ, hN, hW⟩ := hR
  rcases hX with ⟨rfl, r0, v, ⟨n, rfl, hn, rfl, rfl⟩, rfl⟩ | ⟨rfl, ⟨-, hx⟩, rfl⟩
  · rw [e12] at hn
    have hi : (nI n).toInt = (n : Int) := ti_nI (by omega)
    have hc : (nI n).toNatClampNeg = n := tn_nI (by omega)
    rcases hM with ⟨hm, rfl, rfl⟩ | ⟨hm, rfl⟩
    · refine ⟨hU.th 0, rfl, fun _ => ?_⟩
      refine updL_ti f ?_
      exact hN n hn
    · exact absurd ⟨by omega, by omega⟩ hm
  · rw [e12] at hx
    rcases hM with ⟨hm, rfl, rfl⟩ | ⟨hm, rfl⟩
    · exact absurd hm hx
    · exact ⟨(hU.th 0).th 1, rfl, fun h => absurd h (by decide)⟩
theorem sim_reworks {B : Int} {X M : LU} {f : Nat → Int64} (hR : Rel B X M) (hB : B ≤ 5110000) (x : Int32) {k : Int32} {s2 : LU × (Nat → Int64)} {rb : Int32} {M' : LU} (hX : wX_reworks X f x k s2) (hM : pM_reworks M x rb M') : Rel (B + 10000) s2.1 M' ∧ M' 0 0 = k ∧ (k = 0 → s2.2 0 = rb.toInt64) := by
  have hU := hR.up (show B ≤ B + 10000 by omega)
  obtain ⟨⟨e4, e12, e16, e17, h2, h7, h15, h1⟩, hS, hL, hZ, hN, hW⟩ := hR
  rcases hX with ⟨rfl, r0, v, ⟨n, rfl, hn, rfl, rfl⟩, rfl⟩ | ⟨rfl, ⟨-, hx⟩, rfl⟩
  · rw [e12] at hn
    have hi : (nI n).toInt = (n : Int) := ti_nI (by omega)
    have hc : (nI n).toNatClampNeg = n := tn_nI (by omega)
    rcases hM with ⟨hm, rfl, rfl⟩ | ⟨hm, rfl⟩
    · refine ⟨hU.th 0, rfl, fun _ => ?_⟩
      refine updL_ti f ?_
      rw [hc, (hL n hn).2.2.2.1]
    · exact absurd ⟨by omega, by omega⟩ hm
  · rw [e12] at hx
    rcases hM with ⟨hm, rfl, rfl⟩ | ⟨hm, rfl⟩
    · exact absurd hm hx
    · exact ⟨(hU.th 0).th 1, rfl, fun h => absurd h (by decide)⟩
theorem sim_parentOf {B : Int} {X M : LU} {f : Nat → Int64} (hR : Rel B X M) (hB : B ≤ 5110000) (x : Int32) {k : Int32} {s2 : LU × (Nat → Int64)} {rb : Int32} {M' : LU} (hX : wX_parentOf X f x k s2) (hM : pM_parentOf M x rb M') : Rel (B + 10000) s2.1 M' ∧ M' 0 0 = k ∧ (k = 0 → s2.2 0 = rb.toInt64) := by
  have hU := hR.up (show B ≤ B + 10000 by omega)
  obtain ⟨⟨e4, e12, e16, e17, h2, h7, h15, h1⟩, hS, hL, hZ, hN, hW⟩ := hR
  rcases hX with ⟨rfl, r0, v, ⟨n, rfl, hn, rfl, rfl⟩, rfl⟩ | ⟨rfl, ⟨-, hx⟩, rfl⟩
  · rw [e12] at hn
    have hi : (nI n).toInt = (n : Int) := ti_nI (by omega)
    have hc : (nI n).toNatClampNeg = n := tn_nI (by omega)
    rcases hM with ⟨hm, rfl, rfl⟩ | ⟨hm, rfl⟩
    · refine ⟨hU.th 0, rfl, fun _ => ?_⟩
      refine updL_ti f ?_
      rw [hc, (hL n hn).2.2.2.2.2.1]
    · exact absurd ⟨by omega, by omega⟩ hm
  · rw [e12] at hx
    rcases hM with ⟨hm, rfl, rfl⟩ | ⟨hm, rfl⟩
    · exact absurd hm hx
    · exact ⟨(hU.th 0).th 1, rfl, fun h => absurd h (by decide)⟩
theorem sim_lotOf {B : Int} {X M : LU} {f : Nat → Int64} (hR : Rel B X M) (hB : B ≤ 5110000) (x : Int32) {k : Int32} {s2 : LU × (Nat → Int64)} {rb : Int32} {M' : LU} (hX : wX_lotOf X f x k s2) (hM : pM_lotOf M x rb M') : Rel (B + 10000) s2.1 M' ∧ M' 0 0 = k ∧ (k = 0 → s2.2 0 = rb.toInt64) := by
  have hU := hR.up (show B ≤ B + 10000 by omega)
  obtain ⟨⟨e4, e12, e16, e17, h2, h7, h15, h1⟩, hS, hL, hZ, hN, hW⟩ := hR
  rcases hX with ⟨rfl, r0, v, ⟨n, rfl, hn, rfl, rfl⟩, rfl⟩ | ⟨rfl, ⟨-, hx⟩, rfl⟩
  · rw [e16] at hn
    have hi : (nI n).toInt = (n : Int) := ti_nI (by omega)
    have hc : (nI n).toNatClampNeg = n := tn_nI (by omega)
    rcases hM with ⟨hm, rfl, rfl⟩ | ⟨hm, rfl⟩
    · refine ⟨hU.th 0, rfl, fun _ => ?_⟩
      refine updL_ti f ?_
      rw [hc, ((hW n (by omega)).1 hn).1]
    · exact absurd ⟨by omega, by omega⟩ hm
  · rw [e16] at hx
    rcases hM with ⟨hm, rfl, rfl⟩ | ⟨hm, rfl⟩
    · exact absurd hm hx
    · exact ⟨(hU.th 0).th 1, rfl, fun h => absurd h (by decide)⟩
theorem sim_path {B : Int} {X M : LU} {f : Nat → Int64} (hR : Rel B X M) (hB : B ≤ 5110000) (x : Int32) {k : Int32} {s2 : LU × (Nat → Int64)} {rb : Int32} {M' : LU} (hX : wX_path X f x k s2) (hM : pM_path M x rb M') : Rel (B + 10000) s2.1 M' ∧ M' 0 0 = k ∧ (k = 0 → s2.2 0 = rb.toInt64) := by
  have hU := hR.up (show B ≤ B + 10000 by omega)
  obtain ⟨⟨e4, e12, e16, e17, h2, h7, h15, h1⟩, hS, hL, hZ, hN, hW⟩ := hR
  rcases hX with ⟨rfl, r0, v, ⟨n, rfl, hn, rfl, rfl⟩, rfl⟩ | ⟨rfl, ⟨-, hx⟩, rfl⟩
  · rw [e16] at hn
    have hi : (nI n).toInt = (n : Int) := ti_nI (by omega)
    have hc : (nI n).toNatClampNeg = n := tn_nI (by omega)
    rcases hM with ⟨hm, rfl, rfl⟩ | ⟨hm, rfl⟩
    · refine ⟨hU.th 0, rfl, fun _ => ?_⟩
      refine updL_ti f ?_
      rw [hc, ((hW n (by omega)).1 hn).2.2.1]
    · exact absurd ⟨by omega, by omega⟩ hm
  · rw [e16] at hx
    rcases hM with ⟨hm, rfl, rfl⟩ | ⟨hm, rfl⟩
    · exact absurd hm hx
    · exact ⟨(hU.th 0).th 1, rfl, fun h => absurd h (by decide)⟩
theorem sim_pathAt {B : Int} {X M : LU} {f : Nat → Int64} (hR : Rel B X M) (hB : B ≤ 5110000) (x : Int32) (y : Int32) {k : Int32} {s2 : LU × (Nat → Int64)} {rb : Int32} {M' : LU} (hX : wX_pathAt X f x y k s2) (hM : pM_pathAt M x y rb M') : Rel (B + 10000) s2.1 M' ∧ M' 0 0 = k ∧ (k = 0 → s2.2 0 = rb.toInt64) := by
  have hU := hR.up (show B ≤ B + 10000 by omega)
  obtain ⟨⟨e4, e12, e16, e17, h2, h7, h15, h1⟩, hS, hL, hZ, hN, hW⟩ := hR
  rcases hX with ⟨rfl, r0, v, ⟨n, rfl, hn, hy, rfl, rfl⟩, rfl⟩ | ⟨rfl, ⟨-, hx⟩, rfl⟩
  · rw [e16] at hn
    have hi : (nI n).toInt = (n : Int) := ti_nI (by omega)
    obtain ⟨-, -, e, hb, -, hp⟩ := (hW n (by omega)).1 hn
    rw [e] at hy
    rcases hM with ⟨hm, rfl⟩ | ⟨w, hw, hwn, ⟨hq, rfl⟩ | ⟨hq, rfl, rfl⟩⟩
    · exact absurd ⟨by omega, by omega⟩ hm
    · have hj : (nI w).toInt = (w : Int) := ti_nI (by omega)
      have : w = n := by rw [hw] at hi; omega
      subst this
      exact absurd hy hq
    · have hj : (nI w).toInt = (w : Int) := ti_nI (by omega)
      have : w = n := by rw [hw] at hi; omega
      subst this
      refine ⟨hU.th 0, rfl, fun _ => ?_⟩
      refine updL_ti f ?_
      have e1 : (1 : Int32).toInt = 1 := rfl
      rw [ti_sub (by rw [e1]; omega) (by rw [e1]; omega), e1] at hy
      have := tnc hy.1
      exact hp y.toNatClampNeg (by omega)
  · refine ⟨?_, ?_, fun h => absurd h (by decide)⟩
    · rcases hM with ⟨hm, rfl⟩ | ⟨w, hw, hwn, ⟨hq, rfl⟩ | ⟨hq, rfl, rfl⟩⟩
      · exact hU.th 1
      · exact hU.th 1
      · exact hU.th 0
    · rcases hM with ⟨hm, rfl⟩ | ⟨w, rfl, hwn, ⟨hq, rfl⟩ | ⟨hq, rfl, rfl⟩⟩
      · rfl
      · rfl
      · exfalso
        have hj : (nI w).toInt = (w : Int) := ti_nI (by omega)
        rw [e16] at hx
        rcases hx with hx | ⟨n, hw, hn, hx⟩
        · exact hx ⟨by omega, by omega⟩
        · have hi : (nI n).toInt = (n : Int) := ti_nI (by omega)
          have : w = n := by rw [hw] at hj; omega
          subst this
          rw [((hW w (by omega)).1 hn).2.2.1] at hx
          exact hx hq
/-- the same slack; late is the same -/
theorem sl_eq {B : Int} {x m : LU} (hR : Rel B x m) (hB : B ≤ 5200000) {n : Nat} (hn : (n : Int) < (m 0 7).toInt) : slX x n = (if (m 9 n).toInt = 0 then lfM m n else 2000000) ∧ ((slX x n).toInt < 0 ↔ tlM m n) ∧ ((m 9 n).toInt = 0 → (slX x n).toInt < 2000000) := by
  obtain ⟨⟨e4, e12, e16, e17, h2, h7, h15, h1⟩, hS, hL, hZ, hN, hW⟩ := hR
  obtain ⟨a6, a6b, a9, a10, a10b, a11, a11b, a7, a7', a8, a8'⟩ := hL n hn
  by_cases q : (m 9 n).toInt = 0
  · obtain ⟨b7, b7l, b7h⟩ := a7 (by omega)
    obtain ⟨b8, b8l, b8h⟩ := a8 q
    have hk := tnc b7l
    obtain ⟨-, -, s3, -, -, s3b, -⟩ := hS (m 10 n).toNatClampNeg (by omega)
    have d1 : (m 0 1 - m 11 n).toInt = (m 0 1).toInt - (m 11 n).toInt := ti_sub (by omega) (by omega)
    have d2 : (m 6 (m 10 n).toNatClampNeg - (m 0 1 - m 11 n)).toInt = (m 6 (m 10 n).toNatClampNeg).toInt - (m 0 1 - m 11 n).toInt := ti_sub (by omega) (by omega)
    have hs : slX x n = lfM m n := by
      unfold slX lfM
      rw [a6, b7, e4, if_pos ⟨q, b7l, b7h⟩, s3, e17, b8]
    rw [hs, if_pos q]
    refine ⟨rfl, ?_, fun _ => ?_⟩
    · unfold lfM tlM
      split
      · next z =>
        have : (1000000 : Int32).toInt = 1000000 := rfl
        rw [this]
        omega
      · next z =>
        rw [d2, d1]
        omega
    · unfold lfM
      split
      · decide
      · rw [d2, d1]
        omega
  · have hs : slX x n = 2000000 := by
      unfold slX
      rw [a6, if_neg (fun z => q z.1)]
    rw [hs, if_neg q]
    refine ⟨rfl, ⟨fun z => absurd z (by decide), fun z => absurd z.1 q⟩, fun z => absurd z q⟩
theorem sim_slack {B : Int} {X M : LU} {f : Nat → Int64} (hR : Rel B X M) (hB : B ≤ 5110000) (x : Int32) {k : Int32} {s2 : LU × (Nat → Int64)} {rb : Int32} {M' : LU} (hX : wX_slack X f x k s2) (hM : pM_slack M x rb M') : Rel (B + 10000) s2.1 M' ∧ M' 0 0 = k ∧ (k = 0 → s2.2 0 = rb.toInt64) := by
  have hU := hR.up (show B ≤ B + 10000 by omega)
  have hQ : ∀ n : Nat, (n : Int) < (M 0 7).toInt → _ := fun n hn => sl_eq hR (by omega) hn
  obtain ⟨⟨e4, e12, e16, e17, h2, h7, h15, h1⟩, hS, hL, hZ, hN, hW⟩ := hR
  rcases hX with ⟨rfl, r0, v, ⟨n, rfl, hn, rfl, rfl⟩, rfl⟩ | ⟨rfl, ⟨-, hx⟩, rfl⟩
  · rw [e12] at hn
    have hi : (nI n).toInt = (n : Int) := ti_nI (by omega)
    rcases hM with ⟨hm, rfl⟩ | ⟨w, hw, hwn, rfl, rfl⟩
    · exact absurd ⟨by omega, by omega⟩ hm
    · have hj : (nI w).toInt = (w : Int) := ti_nI (by omega)
      have : w = n := by rw [hw] at hi; omega
      subst this
      refine ⟨hU.th 0, rfl, fun _ => ?_⟩
      exact updL_ti f (hQ w hn).1
  · rw [e12] at hx
    rcases hM with ⟨hm, rfl⟩ | ⟨w, rfl, hwn, rfl, rfl⟩
    · exact ⟨hU.th 1, rfl, fun h => absurd h (by decide)⟩
    · have hj : (nI w).toInt = (w : Int) := ti_nI (by omega)
      exact absurd ⟨by omega, by omega⟩ hx
theorem sim_isLate {B : Int} {X M : LU} {f : Nat → Int64} (hR : Rel B X M) (hB : B ≤ 5110000) (x : Int32) {k : Int32} {s2 : LU × (Nat → Int64)} {rb : Int32} {M' : LU} (hX : wX_isLate X f x k s2) (hM : pM_isLate M x rb M') : Rel (B + 10000) s2.1 M' ∧ M' 0 0 = k ∧ (k = 0 → s2.2 0 = lbI rb) := by
  have hU := hR.up (show B ≤ B + 10000 by omega)
  have hQ : ∀ n : Nat, (n : Int) < (M 0 7).toInt → _ := fun n hn => sl_eq hR (by omega) hn
  obtain ⟨⟨e4, e12, e16, e17, h2, h7, h15, h1⟩, hS, hL, hZ, hN, hW⟩ := hR
  rcases hX with ⟨rfl, r0, v, ⟨n, rfl, hn, rfl, rfl⟩, rfl⟩ | ⟨rfl, ⟨-, hx⟩, rfl⟩
  · rw [e12] at hn
    have hi : (nI n).toInt = (n : Int) := ti_nI (by omega)
    rcases hM with ⟨hm, rfl⟩ | ⟨w, hw, hwn, rfl, rfl⟩
    · exact absurd ⟨by omega, by omega⟩ hm
    · have hj : (nI w).toInt = (w : Int) := ti_nI (by omega)
      have : w = n := by rw [hw] at hi; omega
      subst this
      refine ⟨hU.th 0, rfl, fun _ => ?_⟩
      exact updL_lb f (bP_c (hQ w hn).2.1)
  · rw [e12] at hx
    rcases hM with ⟨hm, rfl⟩ | ⟨w, rfl, hwn, rfl, rfl⟩
    · exact ⟨hU.th 1, rfl, fun h => absurd h (by decide)⟩
    · have hj : (nI w).toInt = (w : Int) := ti_nI (by omega)
      exact absurd ⟨by omega, by omega⟩ hx
