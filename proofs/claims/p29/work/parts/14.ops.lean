/-! THE INVARIANT over the calls that change -/
def Inv (s : Nat) (B : Int) (u : LU) : Prop := JV s B u ∧ JE u
theorem Inv.up {s : Nat} {B B' : Int} {u : LU} (h : Inv s B u) (hB : B ≤ B') : Inv s B' u := ⟨h.1.up hB, h.2⟩
theorem z_ti : (0 : Int32).toInt = 0 := rfl
theorem en_loop {s : Nat} {B : Int} {v : LU} {n w : Nat} (hJ : JV s B v) (hn : (n : Int) < (v 0 12).toInt) (hp : v 11 n = -1) (hw : v 0 16 = nI w) (hz : v 12 n = 0) : ∀ c : Nat, w + c ≤ 60 → JV s B (enX v w n c) ∧ enX v w n c 0 16 = nI (w + c) ∧ enX v w n c 0 12 = v 0 12 ∧ enX v w n c 6 = v 6 ∧ enX v w n c 11 = v 11 ∧ enX v w n c 12 n = nI c ∧ ∀ l, l ≠ n → enX v w n c 12 l = v 12 l
  | 0, _ => ⟨hJ, hw, rfl, rfl, rfl, hz, fun _ _ => rfl⟩
  | c + 1, hc => by
    obtain ⟨h1, h2, h3, h4, h5, h6, h7⟩ := en_loop hJ hn hp hw hz c (by omega)
    have g (j : Nat) (a : j < 100) (b : j ≠ 0) (c1 : j ≠ 12) (d : j ≠ 14) (e : j ≠ 16) := mw_o (enX v w n c) (w + c) n a b c1 d e
    refine ⟨J_mw h1 h2 (by omega) (by rw [h3]; exact hn) (by rw [h5]; exact hp), ?_, ?_, ?_, ?_, ?_, fun l hl => ?_⟩
    · show mwX (enX v w n c) (w + c) n 0 16 = _
      rw [mw_0, upd_s]
      rfl
    · show mwX (enX v w n c) (w + c) n 0 12 = _
      rw [mw_0, upd_n (by decide)]
      exact h3
    · exact (g 6 (by decide) (by decide) (by decide) (by decide) (by decide)).trans h4
    · exact (g 11 (by decide) (by decide) (by decide) (by decide) (by decide)).trans h5
    · show mwX (enX v w n c) (w + c) n 12 n = _
      rw [mw_12, upd_s, h6, nI_1]
    · show mwX (enX v w n c) (w + c) n 12 l = _
      rw [mw_12, upd_n hl]
      exact h7 l hl
theorem I_enter {s : Nat} {B : Int} {u : LU} {n w c : Nat} (hI : Inv s B u) (hs : 1 ≤ s) (h12 : u 0 12 = nI n) (hn : n < 24) (h16 : u 0 16 = nI w) (hc : 1 ≤ c) (hwc : w + c ≤ 60) : Inv s B (enX (mkLX u n 0 (u 0 17) 0 0 (-1)) w n c) ∧ enX (mkLX u n 0 (u 0 17) 0 0 (-1)) w n c 0 12 = nI (n + 1) ∧ enX (mkLX u n 0 (u 0 17) 0 0 (-1)) w n c 0 16 = nI (w + c) := by
  obtain ⟨hJ, hE⟩ := hI
  have en := ti_nI (n := n) (by omega)
  have eL : (u 0 12).toInt = (n : Int) := by rw [h12]; exact en
  have hJv := J_mk (st := 0) (si := u 0 17) (hd := 0) (r9 := 0) (pa := -1) hJ h12 hn (by rw [z_ti]; omega) (Or.inl rfl) (by decide) (by rw [m1_ti]; omega)
  have g12 : mkLX u n 0 (u 0 17) 0 0 (-1) 0 12 = nI (n + 1) := by rw [← nI_1]; rfl
  have g6 : mkLX u n 0 (u 0 17) 0 0 (-1) 6 = upd (u 6) n 0 := rfl
  have g12' : mkLX u n 0 (u 0 17) 0 0 (-1) 12 = upd (u 12) n 0 := rfl
  have hL1 : (mkLX u n 0 (u 0 17) 0 0 (-1) 0 12).toInt = (n : Int) + 1 := by rw [g12, ti_nI (by omega)]; rfl
  obtain ⟨h1, h2, h3, h4, h5, h6, h7⟩ := en_loop (n := n) (w := w) hJv (by omega) (by show upd (u 11) n (-1) n = -1; exact upd_s) h16 (by show upd (u 12) n 0 n = 0; exact upd_s) c hwc
  refine ⟨⟨h1, fun l hl => ?_⟩, h3.trans g12, h2⟩
  rw [h3, hL1] at hl
  rw [h4, g6]
  by_cases e : l = n
  · subst e
    rw [upd_s, h6, ti_nI (by omega), z_ti]
    omega
  · rw [upd_n e, h7 l e, g12', upd_n e]
    exact hE l (by omega)
theorem sp_loop {s : Nat} {B : Int} {v : LU} {n k : Nat} {y : Int32} (hJ : JV s B v) (hn : (n : Int) < (v 0 12).toInt) (hk : (k : Int) < (v 0 12).toInt) (hnk : n ≠ k) (hp : v 11 k = nI n) (hy : 0 ≤ y.toInt) : ∀ i : Nat, (i : Int) ≤ (v 0 16).toInt → JV s B (mvX v n k y i).1 ∧ ((mvX v n k y i).2 : Int) ≤ y.toInt ∧ (∀ w, i ≤ w → (mvX v n k y i).1 14 w = v 14 w) ∧ (∀ j, j < 100 → j ≠ 12 → j ≠ 14 → j ≠ 16 → (mvX v n k y i).1 j = v j) ∧ ctA ((mvX v n k y i).1 14) (nI n) (v 0 16).toInt.toNat + (mvX v n k y i).2 = ctA (v 14) (nI n) (v 0 16).toInt.toNat ∧ ctA ((mvX v n k y i).1 14) (nI k) (v 0 16).toInt.toNat = ctA (v 14) (nI k) (v 0 16).toInt.toNat + (mvX v n k y i).2 ∧ (∀ l, l ≠ n → l ≠ k → (mvX v n k y i).1 12 l = v 12 l) ∧ (((mvX v n k y i).2 : Int) < y.toInt → (mvX v n k y i).2 = ctA (v 14) (nI n) i)
  | 0, _ => ⟨hJ, hy, fun _ _ => rfl, fun _ _ _ _ _ => rfl, rfl, rfl, fun _ _ _ => rfl, fun _ => rfl⟩
  | i + 1, hi => by
    obtain ⟨h1, h2, h3, h4, h5, h6, h7, h8⟩ := sp_loop hJ hn hk hnk hp hy i (by omega)
    simp only [mvX, ctA]
    revert h1 h2 h3 h4 h5 h6 h7 h8
    generalize mvX v n k y i = P
    obtain ⟨U, a⟩ := P
    intro h1 h2 h3 h4 h5 h6 h7 h8
    dsimp only at h1 h2 h3 h4 h5 h6 h7 h8 ⊢
    have hL24 := hJ.1.2.1
    have hW60 := hJ.1.2.2.1
    have en := ti_nI (n := n) (by omega)
    have ek := ti_nI (n := k) (by omega)
    have g0 := h4 0 (by decide) (by decide) (by decide) (by decide)
    have g11 := h4 11 (by decide) (by decide) (by decide) (by decide)
    have g14 := h3 i (Nat.le_refl i)
    by_cases q : (a : Int) < y.toInt ∧ (U 14 i).toInt = n
    · rw [if_pos q]
      dsimp only
      have hUi : U 14 i = nI n := ti_inj (by rw [q.2, en])
      have u14 := mv1_14 U n i k
      have c1 := ctA_upd (U 14) (nI n) (nI k) i (v 0 16).toInt.toNat
      have c2 := ctA_upd (U 14) (nI k) (nI k) i (v 0 16).toInt.toNat
      rw [hUi, en, ek, if_pos ⟨by omega, rfl⟩, if_neg (by omega)] at c1
      rw [hUi, en, ek, if_neg (by omega), if_pos ⟨by omega, rfl⟩] at c2
      refine ⟨J_mv h1 (by rw [g0]; omega) hUi (by rw [g0]; exact hn) (by rw [g0]; exact hk) (by rw [g11]; exact hp), by omega, fun w hw => ?_, fun j j1 j2 j3 j4 => ?_, ?_, ?_, fun l l1 l2 => ?_, fun hlt => ?_⟩
      · rw [u14, upd_n (by omega)]
        exact h3 w (by omega)
      · rw [mv1_lo U n i k j1 j2 j3 j4]
        exact h4 j j1 j2 j3 j4
      · rw [u14]
        omega
      · rw [u14]
        omega
      · rw [mv1_12, upd_n l2, upd_n l1]
        exact h7 l l1 l2
      · rw [if_pos (by rw [← g14, q.2, en])]
        have := h8 q.1
        omega
    · rw [if_neg q]
      refine ⟨h1, h2, fun w hw => h3 w (by omega), h4, h5, h6, h7, fun hlt => ?_⟩
      rw [if_neg (by rw [← g14, en]; exact fun z => q ⟨hlt, z⟩)]
      exact h8 hlt
theorem I_split {s : Nat} {B : Int} {u : LU} {n k : Nat} {y : Int32} (hI : Inv s B u) (hn : (n : Int) < (u 0 12).toInt) (h6 : (u 6 n).toInt = 0) (h12 : u 0 12 = nI k) (hk : k < 24) (hy : 1 ≤ y.toInt ∧ y.toInt ≤ (u 12 n - 1).toInt) : Inv s B (spX u n k y) ∧ spX u n k y 0 12 = nI (k + 1) ∧ spX u n k y 0 16 = u 0 16 ∧ (spX u n k y 12 k).toInt = y.toInt ∧ (spX u n k y 12 n).toInt = (u 12 n - y).toInt ∧ spX u n k y 11 k = nI n ∧ slX (spX u n k y) k = slX (spX u n k y) n := by
  obtain ⟨hJ, hE⟩ := hI
  have hL24 := hJ.1.2.1
  have hW60 := hJ.1.2.2.1
  have en := ti_nI (n := n) (by omega)
  have ek := ti_nI (n := k) (by omega)
  have eL : (u 0 12).toInt = (k : Int) := by rw [h12]; exact ek
  have hnk : n ≠ k := by omega
  obtain ⟨a6, a10, a11, a7, -⟩ := hJ.2.2.2.1 n hn
  have hJv := J_mk (st := u 7 n) (si := u 8 n) (hd := u 9 n) (r9 := u 10 n) (pa := nI n) hJ h12 hk (a7 (by omega)) (hJ.2.2.1 n (by omega)) a10 (by omega)
  have hS : spX u n k y = (mvX (mkLX u k (u 7 n) (u 8 n) (u 9 n) (u 10 n) (nI n)) n k y (u 0 16).toInt.toNat).1 := rfl
  have v16 : mkLX u k (u 7 n) (u 8 n) (u 9 n) (u 10 n) (nI n) 0 16 = u 0 16 := rfl
  have v12 : mkLX u k (u 7 n) (u 8 n) (u 9 n) (u 10 n) (nI n) 0 12 = nI (k + 1) := by rw [← nI_1]; rfl
  have v6 : mkLX u k (u 7 n) (u 8 n) (u 9 n) (u 10 n) (nI n) 6 = upd (u 6) k 0 := rfl
  have v7 : mkLX u k (u 7 n) (u 8 n) (u 9 n) (u 10 n) (nI n) 7 = upd (u 7) k (u 7 n) := rfl
  have v8 : mkLX u k (u 7 n) (u 8 n) (u 9 n) (u 10 n) (nI n) 8 = upd (u 8) k (u 8 n) := rfl
  have v11 : mkLX u k (u 7 n) (u 8 n) (u 9 n) (u 10 n) (nI n) 11 = upd (u 11) k (nI n) := rfl
  have v12' : mkLX u k (u 7 n) (u 8 n) (u 9 n) (u 10 n) (nI n) 12 = upd (u 12) k 0 := rfl
  have v14 : mkLX u k (u 7 n) (u 8 n) (u 9 n) (u 10 n) (nI n) 14 = u 14 := rfl
  rw [hS]
  generalize mkLX u k (u 7 n) (u 8 n) (u 9 n) (u 10 n) (nI n) = v at hJv v16 v12 v6 v7 v8 v11 v12' v14 ⊢
  have vL : (v 0 12).toInt = (k : Int) + 1 := by rw [v12, ti_nI (by omega)]; rfl
  obtain ⟨h1, h2, -, h4, h5, h6', h7, h8⟩ := sp_loop (n := n) (k := k) (y := y) hJv (by omega) (by omega) hnk (by rw [v11, upd_s]) (by omega) (u 0 16).toInt.toNat (by rw [v16]; omega)
  generalize mvX v n k y (u 0 16).toInt.toNat = P at h1 h2 h4 h5 h6' h7 h8 ⊢
  obtain ⟨U, a⟩ := P
  dsimp only at h1 h2 h4 h5 h6' h7 h8 ⊢
  have g0 := h4 0 (by decide) (by decide) (by decide) (by decide)
  have g3 := h4 3 (by decide) (by decide) (by decide) (by decide)
  have g6 := h4 6 (by decide) (by decide) (by decide) (by decide)
  have g7 := h4 7 (by decide) (by decide) (by decide) (by decide)
  have g8 := h4 8 (by decide) (by decide) (by decide) (by decide)
  have g11 := h4 11 (by decide) (by decide) (by decide) (by decide)
  have hle := ctA_le (u 14) (nI n) (u 0 16).toInt.toNat
  have sn : (u 12 n).toInt = (ctA (u 14) (nI n) (u 0 16).toInt.toNat : Nat) := by rw [hJ.2.2.2.2.1 n hn]; exact ti_nI (by omega)
  have s1 : (u 12 n - 1).toInt = (u 12 n).toInt - (1 : Int32).toInt := ti_sub (by rw [p1_ti]; omega) (by rw [p1_ti]; omega)
  rw [p1_ti] at s1
  have ck : ctA (v 14) (nI k) (v 0 16).toInt.toNat = 0 := by
    have h := hJv.2.2.2.2.1 k (by omega)
    have hl := ctA_le (v 14) (nI k) (v 0 16).toInt.toNat
    rw [v12', upd_s] at h
    have h9 := congrArg Int32.toInt h
    rw [v16] at hl h9 ⊢
    rw [ti_nI (by omega), z_ti] at h9
    omega
  rw [v14] at h8
  have ha : (a : Int) = y.toInt := by
    rcases Int.lt_or_le (a : Int) y.toInt with q | q
    · have := h8 q
      omega
    · omega
  rw [v14] at h5
  rw [ck] at h6'
  have b1 := h1.2.2.2.2.1 n (by rw [g0]; omega)
  have b2 := h1.2.2.2.2.1 k (by rw [g0]; omega)
  rw [g0] at b1 b2
  rw [v16] at b1 b2 h5 h6'
  have t1 : (U 12 n).toInt = (u 12 n).toInt - y.toInt := by rw [b1, ti_nI (by omega)]; omega
  have t2 : (U 12 k).toInt = y.toInt := by rw [b2, ti_nI (by omega)]; omega
  refine ⟨⟨h1, fun l hl => ?_⟩, by rw [g0]; exact v12, by rw [g0]; exact v16, t2, ?_, by rw [g11, v11, upd_s], ?_⟩
  · rw [g0] at hl
    rw [g6, v6]
    by_cases e : l = k
    · subst e
      rw [upd_s, z_ti]
      omega
    · rw [upd_n e]
      by_cases e2 : l = n
      · subst e2
        omega
      · rw [h7 l e2 e, v12', upd_n e]
        exact hE l (by omega)
  · rw [t1, ti_sub (by omega) (by omega)]
  · unfold slX
    rw [g6, g7, g8, g0, g3, v6, v7, v8, upd_s, upd_s, upd_s, upd_n hnk, upd_n hnk, upd_n hnk, h6, z_ti]
theorem I_scrap {s : Nat} {B : Int} {u : LU} {w k : Nat} (hI : Inv s B u) (hw : (w : Int) < (u 0 16).toInt) (hk : u 14 w = nI k) (hkl : (k : Int) < (u 0 12).toInt) (h6 : (u 6 k).toInt = 0) : Inv s B (scX u w k) ∧ scX u w k 0 = u 0 := by
  obtain ⟨hJ, hE⟩ := hI
  obtain ⟨hJ1, hsz⟩ := J_sc hJ hw hk hkl
  have hr := ti_rng (u 12 k)
  have s1 : (u 12 k - 1).toInt = (u 12 k).toInt - (1 : Int32).toInt := ti_sub (by rw [p1_ti]; omega) (by rw [p1_ti]; omega)
  rw [p1_ti] at s1
  have f12 : sc1X u w k 12 = upd (u 12) k (u 12 k - 1) := rfl
  have f6 : sc1X u w k 6 = u 6 := rfl
  have f0 : sc1X u w k 0 = u 0 := rfl
  unfold scX
  by_cases q : (u 12 k - 1).toInt = 0
  · rw [if_pos q]
    refine ⟨⟨hJ1.frame (fun j j6 j7 j8 => ?_) (fun l hl => ?_), fun l hl => ?_⟩, rfl⟩
    · unfold lvX
      rw [up_n _ _ _ j7, up_n _ _ _ j6]
    · have hl : (l : Int) < (u 0 12).toInt := hl
      have h := hJ.2.2.2.1 l hl
      show (0 ≤ (upd (u 6) k 3 l).toInt ∧ (upd (u 6) k 3 l).toInt ≤ 3) ∧ (0 ≤ (u 10 l).toInt ∧ (u 10 l).toInt ≤ 2) ∧ (-1 ≤ (u 11 l).toInt ∧ (u 11 l).toInt < l) ∧ ((upd (u 6) k 3 l).toInt ≤ 1 → 0 ≤ (upd (u 7) k (-1) l).toInt ∧ (upd (u 7) k (-1) l).toInt < s) ∧ (2 ≤ (upd (u 6) k 3 l).toInt → (upd (u 7) k (-1) l).toInt = -1)
      by_cases e : l = k
      · subst e
        rw [upd_s, upd_s]
        exact ⟨by decide, h.2.1, h.2.2.1, fun z => absurd z (by decide), fun _ => rfl⟩
      · rw [upd_n e, upd_n e]
        exact h
    · have hl : (l : Int) < (u 0 12).toInt := hl
      show (upd (u 6) k 3 l).toInt = 3 ↔ (upd (u 12) k (u 12 k - 1) l).toInt = 0
      by_cases e : l = k
      · subst e
        rw [upd_s, upd_s]
        exact ⟨fun _ => q, fun _ => rfl⟩
      · rw [upd_n e, upd_n e]
        exact hE l hl
  · rw [if_neg q]
    refine ⟨⟨hJ1, fun l hl => ?_⟩, rfl⟩
    have hl : (l : Int) < (u 0 12).toInt := hl
    rw [f6, f12]
    by_cases e : l = k
    · subst e
      rw [upd_s]
      omega
    · rw [upd_n e]
      exact hE l hl
theorem I_hold {s : Nat} {B : Int} {u : LU} (hI : Inv s B u) (n : Nat) (P : Prop) : Inv s B (up u 9 (upd (u 9) n (bP P))) := ⟨J_hold hI.1 n P, hI.2⟩
theorem I_start {s : Nat} {B : Int} {u : LU} {n : Nat} (hI : Inv s B u) (hs : s ≤ 12) (hB : B ≤ 1000000) (hn : (n : Int) < (u 0 12).toInt) (h6 : (u 6 n).toInt = 0) : Inv s B (saX u n) ∧ saX u n 0 = u 0 ∧ (u 0 17).toInt < (u 0 17 + u 2 (u 7 n).toNatClampNeg).toInt := by
  obtain ⟨hJ, hE⟩ := hI
  have h17 := hJ.1.2.2.2
  have h0 := hJ.2.2.2.1 n hn
  have h7 := h0.2.2.2.1 (by omega)
  have hk := tnc h7.1
  have h2 := hJ.2.1 (u 7 n).toNatClampNeg (by omega)
  refine ⟨⟨hJ.frame (fun j j6 j7 j8 => ?_) (fun l hl => ?_), fun l hl => ?_⟩, rfl, ?_⟩
  · unfold saX
    rw [up_n _ _ _ j8, up_n _ _ _ j6]
  · have hl : (l : Int) < (u 0 12).toInt := hl
    have h := hJ.2.2.2.1 l hl
    show (0 ≤ (upd (u 6) n 1 l).toInt ∧ (upd (u 6) n 1 l).toInt ≤ 3) ∧ (0 ≤ (u 10 l).toInt ∧ (u 10 l).toInt ≤ 2) ∧ (-1 ≤ (u 11 l).toInt ∧ (u 11 l).toInt < l) ∧ ((upd (u 6) n 1 l).toInt ≤ 1 → 0 ≤ (u 7 l).toInt ∧ (u 7 l).toInt < s) ∧ (2 ≤ (upd (u 6) n 1 l).toInt → (u 7 l).toInt = -1)
    by_cases e : l = n
    · subst e
      rw [upd_s]
      exact ⟨by decide, h.2.1, h.2.2.1, fun _ => h7, fun z => absurd z (by decide)⟩
    · rw [upd_n e]
      exact h
  · have hl : (l : Int) < (u 0 12).toInt := hl
    show (upd (u 6) n 1 l).toInt = 3 ↔ (u 12 l).toInt = 0
    by_cases e : l = n
    · subst e
      have := hE l hl
      rw [upd_s, p1_ti]
      omega
    · rw [upd_n e]
      exact hE l hl
  · rw [ti_add (by omega) (by omega)]
    omega
theorem I_ep {s : Nat} {B : Int} {u : LU} {i : Nat} (hI : Inv s B u) (hs : s ≤ 12) (hi : (i : Int) < (u 0 12).toInt) (h6 : (u 6 i).toInt = 1) : Inv s B (epX u i) := by
  obtain ⟨hJ, hE⟩ := hI
  have h0 := hJ.2.2.2.1 i hi
  have h7 := h0.2.2.2.1 (by omega)
  have hz := hE i hi
  have t7 : (u 7 i + 1).toInt = (u 7 i).toInt + (1 : Int32).toInt := ti_add (by rw [p1_ti]; omega) (by rw [p1_ti]; omega)
  rw [p1_ti] at t7
  have e4 : (u 0 4).toInt = (s : Int) := by rw [hJ.1.1]; exact ti_nI (by omega)
  unfold epX
  by_cases q : 0 ≤ (u 7 i + 1).toInt ∧ (u 7 i + 1).toInt < (u 0 4).toInt
  · rw [if_pos q]
    refine ⟨hJ.frame (fun j j6 j7 j8 => ?_) (fun l hl => ?_), fun l hl => ?_⟩
    · rw [up_n _ _ _ j7, up_n _ _ _ j6]
    · have hl : (l : Int) < (u 0 12).toInt := hl
      have h := hJ.2.2.2.1 l hl
      show (0 ≤ (upd (u 6) i 0 l).toInt ∧ (upd (u 6) i 0 l).toInt ≤ 3) ∧ (0 ≤ (u 10 l).toInt ∧ (u 10 l).toInt ≤ 2) ∧ (-1 ≤ (u 11 l).toInt ∧ (u 11 l).toInt < l) ∧ ((upd (u 6) i 0 l).toInt ≤ 1 → 0 ≤ (upd (u 7) i (u 7 i + 1) l).toInt ∧ (upd (u 7) i (u 7 i + 1) l).toInt < s) ∧ (2 ≤ (upd (u 6) i 0 l).toInt → (upd (u 7) i (u 7 i + 1) l).toInt = -1)
      by_cases e : l = i
      · subst e
        rw [upd_s, upd_s]
        exact ⟨by decide, h.2.1, h.2.2.1, fun _ => by omega, fun z => absurd z (by decide)⟩
      · rw [upd_n e, upd_n e]
        exact h
    · have hl : (l : Int) < (u 0 12).toInt := hl
      show (upd (u 6) i 0 l).toInt = 3 ↔ (u 12 l).toInt = 0
      by_cases e : l = i
      · subst e
        rw [upd_s, z_ti]
        omega
      · rw [upd_n e]
        exact hE l hl
  · rw [if_neg q]
    refine ⟨hJ.frame (fun j j6 j7 j8 => ?_) (fun l hl => ?_), fun l hl => ?_⟩
    · unfold lvX
      rw [up_n _ _ _ j7, up_n _ _ _ j6]
    · have hl : (l : Int) < (u 0 12).toInt := hl
      have h := hJ.2.2.2.1 l hl
      show (0 ≤ (upd (u 6) i 2 l).toInt ∧ (upd (u 6) i 2 l).toInt ≤ 3) ∧ (0 ≤ (u 10 l).toInt ∧ (u 10 l).toInt ≤ 2) ∧ (-1 ≤ (u 11 l).toInt ∧ (u 11 l).toInt < l) ∧ ((upd (u 6) i 2 l).toInt ≤ 1 → 0 ≤ (upd (u 7) i (-1) l).toInt ∧ (upd (u 7) i (-1) l).toInt < s) ∧ (2 ≤ (upd (u 6) i 2 l).toInt → (upd (u 7) i (-1) l).toInt = -1)
      by_cases e : l = i
      · subst e
        rw [upd_s, upd_s]
        exact ⟨by decide, h.2.1, h.2.2.1, fun z => absurd z (by decide), fun _ => rfl⟩
      · rw [upd_n e, upd_n e]
        exact h
    · have hl : (l : Int) < (u 0 12).toInt := hl
      show (upd (u 6) i 2 l).toInt = 3 ↔ (u 12 l).toInt = 0
      by_cases e : l = i
      · subst e
        rw [upd_s, show (2 : Int32).toInt = 2 from rfl]
        omega
      · rw [upd_n e]
        exact hE l hl
theorem I_av {s : Nat} {B : Int} {u : LU} (hI : Inv s B u) (hs : s ≤ 12) : ∀ i : Nat, (i : Int) ≤ (u 0 12).toInt → Inv s B (avX u i).1 ∧ (avX u i).1 0 = u 0
  | 0, _ => ⟨hI, rfl⟩
  | i + 1, hi => by
    obtain ⟨h1, h2⟩ := I_av hI hs i (by omega)
    simp only [avX]
    generalize avX u i = P at h1 h2 ⊢
    obtain ⟨U, a⟩ := P
    dsimp only at h1 h2 ⊢
    by_cases q : (U 6 i).toInt = 1 ∧ (U 8 i).toInt ≤ (U 0 17).toInt
    · rw [if_pos q]
      exact ⟨I_ep h1 hs (by rw [h2]; omega) q.1, (epX_0 U i).trans h2⟩
    · rw [if_neg q]
      exact ⟨h1, h2⟩
theorem I_adv {s : Nat} {B : Int} {u : LU} {x : Int32} (hI : Inv s B u) (hs : s ≤ 12) (hB : B ≤ 1000000) (hx : 1 ≤ x.toInt ∧ x.toInt ≤ 40) : Inv s (B + 40) (avX (up u 0 (upd (u 0) 17 (u 0 17 + x))) (u 0 12).toInt.toNat).1 ∧ (avX (up u 0 (upd (u 0) 17 (u 0 17 + x))) (u 0 12).toInt.toNat).1 0 12 = u 0 12 ∧ (avX (up u 0 (upd (u 0) 17 (u 0 17 + x))) (u 0 12).toInt.toNat).1 0 16 = u 0 16 := by
  have h12 := hI.1.1.2.1
  have hI1 : Inv s (B + 40) (up u 0 (upd (u 0) 17 (u 0 17 + x))) := ⟨J_time hI.1 hB hx, hI.2⟩
  obtain ⟨h1, h2⟩ := I_av hI1 hs (u 0 12).toInt.toNat (by show (((u 0 12).toInt.toNat : Nat) : Int) ≤ (u 0 12).toInt; omega)
  exact ⟨h1, by rw [h2]; rfl, by rw [h2]; rfl⟩
/-- the route, ahead of the first lot -/
theorem J_as {k : Nat} {u : LU} {x y z b : Int32} (hJ : JV k 0 u) (h12 : u 0 12 = 0) (h16 : u 0 16 = 0) (hk : k < 12) (hy : 1 ≤ y.toInt ∧ y.toInt ≤ 1000) : JV (k + 1) 0 (asX u x y z b) ∧ asX u x y z b 0 12 = 0 ∧ asX u x y z b 0 16 = 0 := by
  obtain ⟨⟨e4, -, -, h17⟩, hS, h9, -, -, -, hP⟩ := hJ
  have g12 : asX u x y z b 0 12 = 0 := h12
  have g16 : asX u x y z b 0 16 = 0 := h16
  refine ⟨⟨⟨?_, by rw [g12]; decide, by rw [g16]; decide, h17⟩, ?_, h9, ?_, ?_, ?_, hP⟩, g12, g16⟩
  · show upd (u 0) 4 (u 0 4 + 1) 4 = _
    rw [upd_s, e4, nI_1]
  · intro j hj
    show 1 ≤ (upd (u 2) (u 0 4).toNatClampNeg y j).toInt ∧ (upd (u 2) (u 0 4).toNatClampNeg y j).toInt ≤ 1000
    rw [e4, tn_nI (by omega)]
    by_cases e : j = k
    · subst e
      rw [upd_s]
      exact hy
    · rw [upd_n e]
      exact hS j (by omega)
  · intro l hl
    rw [g12, z_ti] at hl
    omega
  · intro l hl
    rw [g12, z_ti] at hl
    omega
  · intro l hl
    rw [g16, z_ti] at hl
    omega
theorem J_init : JV 0 0 (fun _ _ => 0) := by
  refine ⟨⟨rfl, by decide, by decide, by decide⟩, fun k hk => absurd hk (Nat.not_lt_zero k), fun _ _ => Or.inl rfl, fun l hl => ?_, fun l hl => ?_, fun l hl => ?_, fun _ _ => (by decide : 0 ≤ (0 : Int32).toInt ∧ (0 : Int32).toInt ≤ 47)⟩
  · have hl : (l : Int) < 0 := hl
    omega
  · have hl : (l : Int) < 0 := hl
    omega
  · have hl : (l : Int) < 0 := hl
    omega
theorem JE_none {u : LU} (h : u 0 12 = 0) : JE u := fun l hl => by
  rw [h, z_ti] at hl
  omega
