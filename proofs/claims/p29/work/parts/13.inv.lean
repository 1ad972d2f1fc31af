/-! THE INVARIANT of the class's state, as the law uses it: no merge, no rework -/
def LO (s : Nat) (u : LU) (l : Nat) : Prop := (0 ≤ (u 6 l).toInt ∧ (u 6 l).toInt ≤ 3) ∧ (0 ≤ (u 10 l).toInt ∧ (u 10 l).toInt ≤ 2) ∧ (-1 ≤ (u 11 l).toInt ∧ (u 11 l).toInt < l) ∧ ((u 6 l).toInt ≤ 1 → 0 ≤ (u 7 l).toInt ∧ (u 7 l).toInt < s) ∧ (2 ≤ (u 6 l).toInt → (u 7 l).toInt = -1)
/-- wafer w has the path q 0 .. q m: each is the parent of the next, the last one is its lot -/
def PA (u : LU) (w m : Nat) (q : Nat → Nat) : Prop := u 16 w = nI (m + 1) ∧ (∀ j, j ≤ m → u (100 + w) j = nI (q j) ∧ (q j : Int) < (u 0 12).toInt) ∧ u 11 (q 0) = -1 ∧ (∀ j, j < m → u 11 (q (j + 1)) = nI (q j)) ∧ (u 14 w = -1 ∨ u 14 w = nI (q m))
def JC (s : Nat) (B : Int) (u : LU) : Prop := u 0 4 = nI s ∧ (0 ≤ (u 0 12).toInt ∧ (u 0 12).toInt ≤ 24) ∧ (0 ≤ (u 0 16).toInt ∧ (u 0 16).toInt ≤ 60) ∧ (0 ≤ (u 0 17).toInt ∧ (u 0 17).toInt ≤ B)
def JS (s : Nat) (u : LU) : Prop := ∀ k : Nat, k < s → 1 ≤ (u 2 k).toInt ∧ (u 2 k).toInt ≤ 1000
def JH (u : LU) : Prop := ∀ n : Nat, n < 24 → u 9 n = 0 ∨ u 9 n = 1
def JL (s : Nat) (u : LU) : Prop := ∀ l : Nat, (l : Int) < (u 0 12).toInt → LO s u l
def JN (u : LU) : Prop := ∀ l : Nat, (l : Int) < (u 0 12).toInt → u 12 l = nI (ctA (u 14) (nI l) (u 0 16).toInt.toNat)
def JW (u : LU) : Prop := ∀ w : Nat, (w : Int) < (u 0 16).toInt → ∃ m q, m < 24 ∧ PA u w m q
def JP (u : LU) : Prop := ∀ w : Nat, w < 60 → 0 ≤ (u 16 w).toInt ∧ (u 16 w).toInt ≤ 47
def JV (s : Nat) (B : Int) (u : LU) : Prop := JC s B u ∧ JS s u ∧ JH u ∧ JL s u ∧ JN u ∧ JW u ∧ JP u
/-- a lot is ended just if it has no wafers -/
def JE (u : LU) : Prop := ∀ l : Nat, (l : Int) < (u 0 12).toInt → ((u 6 l).toInt = 3 ↔ (u 12 l).toInt = 0)
theorem JV.ix {s : Nat} {B : Int} {u : LU} (h : JV s B u) (hs : s ≤ 12) : IX u := by
  obtain ⟨⟨e4, h12, h16, h17⟩, -, h9, -, -, -, hP⟩ := h
  have es : (u 0 4).toInt = (s : Int) := by rw [e4]; exact ti_nI (by omega)
  exact ⟨by omega, h12, h16, fun n hn => bool01 (h9 n hn), hP⟩
theorem JV.up {s : Nat} {B B' : Int} {u : LU} (h : JV s B u) (hB : B ≤ B') : JV s B' u := by
  obtain ⟨⟨e4, h12, h16, h17⟩, r⟩ := h
  exact ⟨⟨e4, h12, h16, by omega⟩, r⟩
theorem m1_ti : (-1 : Int32).toInt = -1 := rfl
theorem p1_ti : (1 : Int32).toInt = 1 := rfl
theorem nI_m1 {n : Nat} (h : n < 2000000000) : ¬ nI n = -1 := fun e => by
  have := ti_nI h
  rw [e, m1_ti] at this
  omega
/-- a path grows -/
theorem PA.grow {s : Nat} {u : LU} {w m : Nat} {q : Nat → Nat} (hL : JL s u) (h24 : (u 0 12).toInt ≤ 24) (h : PA u w m q) : ∀ j, j ≤ m → j ≤ q j ∧ q j < 24 := by
  obtain ⟨-, p2, -, p4, -⟩ := h
  intro j
  induction j with
  | zero =>
    intro hj
    have := (p2 0 hj).2
    omega
  | succ j ih =>
    intro hj
    have h1 := ih (by omega)
    have h2 := (p2 (j + 1) hj).2
    have h3 := (hL _ h2).2.2.1
    rw [p4 j (by omega), ti_nI (by omega)] at h3
    omega
theorem JV.frame {s : Nat} {B : Int} {u u' : LU} (hJ : JV s B u) (h : ∀ j, j ≠ 6 → j ≠ 7 → j ≠ 8 → u' j = u j) (hl : JL s u') : JV s B u' := by
  obtain ⟨hC, hS, h9, hL, hN, hW, hP⟩ := hJ
  have g (j : Nat) (h1 : j ≠ 6) (h2 : j ≠ 7) (h3 : j ≠ 8) := h j h1 h2 h3
  have g0 := g 0 (by decide) (by decide) (by decide)
  have g2 := g 2 (by decide) (by decide) (by decide)
  have g9 := g 9 (by decide) (by decide) (by decide)
  have g11 := g 11 (by decide) (by decide) (by decide)
  have g12 := g 12 (by decide) (by decide) (by decide)
  have g14 := g 14 (by decide) (by decide) (by decide)
  have g16 := g 16 (by decide) (by decide) (by decide)
  refine ⟨?_, ?_, ?_, hl, ?_, ?_, ?_⟩
  · unfold JC; rw [g0]; exact hC
  · unfold JS; rw [g2]; exact hS
  · unfold JH; rw [g9]; exact h9
  · unfold JN; rw [g0, g12, g14]; exact hN
  · intro w hw
    rw [g0] at hw
    obtain ⟨m, q, hm, p1, p2, p3, p4, p5⟩ := hW w hw
    refine ⟨m, q, hm, ?_⟩
    unfold PA
    rw [g16, g0, g11, g14, g (100 + w) (by omega) (by omega) (by omega)]
    exact ⟨p1, p2, p3, p4, p5⟩
  · unfold JP; rw [g16]; exact hP
/-- the new lot -/
theorem mk_o (u : LU) (k : Nat) (st si hd r9 pa : Int32) {j : Nat} (h0 : j ≠ 0) (h : j < 6 ∨ 12 < j) : mkLX u k st si hd r9 pa j = u j := by
  unfold mkLX
  rw [up_n _ _ _ h0, up_n _ _ _ (by omega), up_n _ _ _ (by omega), up_n _ _ _ (by omega), up_n _ _ _ (by omega), up_n _ _ _ (by omega), up_n _ _ _ (by omega), up_n _ _ _ (by omega)]
theorem J_mk {s : Nat} {B : Int} {u : LU} {k : Nat} {st si hd r9 pa : Int32} (hJ : JV s B u) (hk : u 0 12 = nI k) (hk24 : k < 24) (hst : 0 ≤ st.toInt ∧ st.toInt < s) (hhd : hd = 0 ∨ hd = 1) (hr : 0 ≤ r9.toInt ∧ r9.toInt ≤ 2) (hpa : -1 ≤ pa.toInt ∧ pa.toInt < k) : JV s B (mkLX u k st si hd r9 pa) := by
  obtain ⟨⟨e4, h12, h16, h17⟩, hS, h9, hL, hN, hW, hP⟩ := hJ
  have ek : (u 0 12).toInt = (k : Int) := by rw [hk]; exact ti_nI (by omega)
  have g0 : mkLX u k st si hd r9 pa 0 = upd (u 0) 12 (nI k + 1) := rfl
  have e12 : (mkLX u k st si hd r9 pa 0 12).toInt = (k : Int) + 1 := by
    rw [g0, upd_s, nI_1, ti_nI (by omega)]
    rfl
  have e16 : mkLX u k st si hd r9 pa 0 16 = u 0 16 := rfl
  have g6 : mkLX u k st si hd r9 pa 6 = upd (u 6) k 0 := rfl
  have g7 : mkLX u k st si hd r9 pa 7 = upd (u 7) k st := rfl
  have g9 : mkLX u k st si hd r9 pa 9 = upd (u 9) k hd := rfl
  have g10 : mkLX u k st si hd r9 pa 10 = upd (u 10) k r9 := rfl
  have g11 : mkLX u k st si hd r9 pa 11 = upd (u 11) k pa := rfl
  have g12 : mkLX u k st si hd r9 pa 12 = upd (u 12) k 0 := rfl
  have g14 : mkLX u k st si hd r9 pa 14 = u 14 := rfl
  have g16 : mkLX u k st si hd r9 pa 16 = u 16 := rfl
  have hlot : ∀ w : Nat, (w : Int) < (u 0 16).toInt → (u 14 w).toInt < k := fun w hw => by
    obtain ⟨m, q, hm, p1, p2, p3, p4, p5⟩ := hW w hw
    rcases p5 with p5 | p5
    · rw [p5, m1_ti]; omega
    · have h1 := (p2 m (Nat.le_refl m)).2
      rw [p5, ti_nI (by omega)]
      omega
  refine ⟨⟨e4, by omega, h16, h17⟩, hS, ?_, ?_, ?_, ?_, hP⟩
  · intro n hn
    rw [g9]
    by_cases e : n = k
    · subst e; rw [upd_s]; exact hhd
    · rw [upd_n e]; exact h9 n hn
  · intro l hl
    unfold LO
    rw [g6, g7, g10, g11]
    by_cases e : l = k
    · subst e
      rw [upd_s, upd_s, upd_s, upd_s]
      exact ⟨by decide, hr, hpa, fun _ => hst, fun z => absurd z (by decide)⟩
    · rw [upd_n e, upd_n e, upd_n e, upd_n e]
      exact hL l (by omega)
  · intro l hl
    rw [g12, g14, e16]
    by_cases e : l = k
    · subst e
      rw [upd_s, ctA_z _ (fun w hw => by
        have := hlot w (by omega)
        rw [ti_nI (by omega)]
        omega)]
      rfl
    · rw [upd_n e]
      exact hN l (by omega)
  · intro w hw
    rw [e16] at hw
    obtain ⟨m, q, hm, p1, p2, p3, p4, p5⟩ := hW w hw
    have hq : ∀ j, j ≤ m → q j ≠ k := fun j hj => by
      have := (p2 j hj).2
      omega
    refine ⟨m, q, hm, ?_, ?_, ?_, ?_, ?_⟩
    · exact p1
    · intro j hj
      rw [mk_o _ _ _ _ _ _ _ (by omega) (by omega), e12]
      have := p2 j hj
      exact ⟨this.1, by omega⟩
    · rw [g11, upd_n (hq 0 (by omega))]; exact p3
    · intro j hj
      rw [g11, upd_n (hq (j + 1) (by omega))]; exact p4 j hj
    · exact p5
/-- the new wafer -/
theorem mw_o (u : LU) (w n : Nat) {j : Nat} (h : j < 100) (h0 : j ≠ 0) (h12 : j ≠ 12) (h14 : j ≠ 14) (h16 : j ≠ 16) : mwX u w n j = u j := by
  unfold mwX
  rw [putX_lo _ _ _ h h16]
  unfold put1
  rw [up_n _ _ _ h12, up_n _ _ _ h14, up_n _ _ _ h0, up_n _ _ _ h16]
theorem mw_0 (u : LU) (w n : Nat) : mwX u w n 0 = upd (u 0) 16 (nI (w + 1)) := by
  unfold mwX
  rw [putX_0, ← nI_1]
  rfl
theorem mw_12 (u : LU) (w n : Nat) : mwX u w n 12 = upd (u 12) n (u 12 n + 1) := by
  unfold mwX
  rw [putX_lo _ _ _ (by decide) (by decide)]
  rfl
theorem mw_14 (u : LU) (w n : Nat) : mwX u w n 14 = upd (u 14) w (nI n) := by
  unfold mwX
  rw [putX_lo _ _ _ (by decide) (by decide)]
  rfl
theorem mw_z (u : LU) (w : Nat) : (up (up u 16 (upd (u 16) w 0)) 0 (upd (u 0) 16 (nI w + 1))) 16 w = 0 := by
  show upd (u 16) w 0 w = 0
  exact upd_s
theorem mw_16 (u : LU) {w : Nat} (n : Nat) (hw : w < 60) : mwX u w n 16 = upd (upd (u 16) w 0) w (nI 1) := by
  unfold mwX
  rw [putX_16 _ _ _ hw, mw_z, if_pos (by decide)]
  rfl
theorem mw_row (u : LU) (w n q : Nat) : mwX u w n (100 + q) = if q = w then upd (u (100 + w)) 0 (nI n) else u (100 + q) := by
  unfold mwX
  rw [putX_row (by rw [mw_z]; decide), mw_z]
  by_cases e : q = w
  · rw [if_pos e, if_pos e, up_n _ _ _ (by omega), up_n _ _ _ (by omega)]
    rfl
  · rw [if_neg e, if_neg e, up_n _ _ _ (by omega), up_n _ _ _ (by omega)]
theorem J_mw {s : Nat} {B : Int} {u : LU} {w n : Nat} (hJ : JV s B u) (hw : u 0 16 = nI w) (hw60 : w < 60) (hn : (n : Int) < (u 0 12).toInt) (hp : u 11 n = -1) : JV s B (mwX u w n) := by
  obtain ⟨⟨e4, h12, h16, h17⟩, hS, h9, hL, hN, hW, hP⟩ := hJ
  have ew : (u 0 16).toInt = (w : Int) := by rw [hw]; exact ti_nI (by omega)
  have g (j : Nat) (a : j < 100) (b : j ≠ 0) (c : j ≠ 12) (d : j ≠ 14) (e : j ≠ 16) := mw_o u w n a b c d e
  have g0 := mw_0 u w n
  have e12 : mwX u w n 0 12 = u 0 12 := by rw [g0]; rfl
  have e16 : (mwX u w n 0 16).toInt = (w : Int) + 1 := by rw [g0, upd_s, ti_nI (by omega)]; rfl
  have g11 := g 11 (by decide) (by decide) (by decide) (by decide) (by decide)
  refine ⟨⟨by rw [g0]; exact e4, by rw [e12]; exact h12, by omega, by rw [g0]; exact h17⟩, ?_, ?_, ?_, ?_, ?_, ?_⟩
  · unfold JS
    rw [g 2 (by decide) (by decide) (by decide) (by decide) (by decide)]
    exact hS
  · unfold JH
    rw [g 9 (by decide) (by decide) (by decide) (by decide) (by decide)]
    exact h9
  · unfold JL LO
    rw [e12, g11, g 6 (by decide) (by decide) (by decide) (by decide) (by decide), g 7 (by decide) (by decide) (by decide) (by decide) (by decide), g 10 (by decide) (by decide) (by decide) (by decide) (by decide)]
    exact hL
  · intro l hl
    rw [e12] at hl
    have el := ti_nI (n := l) (by omega)
    have en := ti_nI (n := n) (by omega)
    rw [mw_12, mw_14, show (mwX u w n 0 16).toInt.toNat = w + 1 by omega]
    simp only [ctA]
    rw [upd_s, ctA_g (g := u 14) w (fun z hz => upd_n (by omega))]
    have h := hN l hl
    rw [show (u 0 16).toInt.toNat = w by omega] at h
    by_cases e : l = n
    · subst e
      rw [upd_s, if_pos rfl, h, nI_1]
    · rw [upd_n e, if_neg (by omega)]
      exact h
  · intro z hz
    rw [e16] at hz
    by_cases e : z = w
    · subst e
      refine ⟨0, fun _ => n, by decide, ?_, ?_, ?_, ?_, ?_⟩
      · rw [mw_16 _ _ hw60, upd_s]
      · intro j hj
        have : j = 0 := by omega
        subst this
        rw [mw_row, if_pos rfl, upd_s, e12]
        exact ⟨rfl, hn⟩
      · rw [g11]; exact hp
      · exact fun j hj => absurd hj (Nat.not_lt_zero j)
      · rw [mw_14, upd_s]; exact Or.inr rfl
    · obtain ⟨m, q, hm, p1, p2, p3, p4, p5⟩ := hW z (by omega)
      refine ⟨m, q, hm, ?_⟩
      unfold PA
      rw [mw_16 _ _ hw60, mw_14, mw_row, if_neg e, upd_n e, upd_n e, upd_n e, g11, e12]
      exact ⟨p1, p2, p3, p4, p5⟩
  · intro z hz
    rw [mw_16 _ _ hw60]
    by_cases e : z = w
    · subst e; rw [upd_s]; decide
    · rw [upd_n e, upd_n e]; exact hP z hz
/-- a wafer goes from f to its child t -/
theorem J_mv {s : Nat} {B : Int} {u : LU} {f t i : Nat} (hJ : JV s B u) (hi : (i : Int) < (u 0 16).toInt) (hf : u 14 i = nI f) (hfl : (f : Int) < (u 0 12).toInt) (htl : (t : Int) < (u 0 12).toInt) (hp : u 11 t = nI f) : JV s B (mv1 u f i t) := by
  obtain ⟨⟨e4, h12, h16, h17⟩, hS, h9, hL, hN, hW, hP⟩ := hJ
  have ef := ti_nI (n := f) (by omega)
  have et := ti_nI (n := t) (by omega)
  have hft : f < t := by
    have := (hL t htl).2.2.1
    rw [hp] at this
    omega
  obtain ⟨m0, q0, hm0, hPA⟩ := hW i hi
  have hgr := hPA.grow hL h12.2
  obtain ⟨p1, p2, p3, p4, p5⟩ := hPA
  have p5 : u 14 i = nI (q0 m0) := p5.resolve_left (fun z => nI_m1 (n := f) (by omega) (hf.symm.trans z))
  have eq0 : q0 m0 = f := nI_inj2 (hf.symm.trans p5) (by omega) (by have := hgr m0 (Nat.le_refl _); omega)
  have hm1 := (hgr m0 (Nat.le_refl _)).1
  have t16 : (u 16 i).toInt = (m0 : Int) + 1 := by rw [p1, ti_nI (by omega)]; rfl
  have h47 : (u 16 i).toInt < 47 := by omega
  have g (j : Nat) (a : j < 100) (b : j ≠ 12) (c : j ≠ 14) (d : j ≠ 16) := mv1_lo u f i t a b c d
  have g0 := g 0 (by decide) (by decide) (by decide) (by decide)
  have g11 := g 11 (by decide) (by decide) (by decide) (by decide)
  have g14 := mv1_14 u f i t
  have g16 := mv1_16 u f t (i := i) (by omega) h47
  refine ⟨by unfold JC; rw [g0]; exact ⟨e4, h12, h16, h17⟩, ?_, ?_, ?_, ?_, ?_, ?_⟩
  · unfold JS
    rw [g 2 (by decide) (by decide) (by decide) (by decide)]
    exact hS
  · unfold JH
    rw [g 9 (by decide) (by decide) (by decide) (by decide)]
    exact h9
  · unfold JL LO
    rw [g0, g11, g 6 (by decide) (by decide) (by decide) (by decide), g 7 (by decide) (by decide) (by decide) (by decide), g 10 (by decide) (by decide) (by decide) (by decide)]
    exact hL
  · intro l hl
    rw [g0] at hl
    have el := ti_nI (n := l) (by omega)
    rw [mv1_12, g14, g0]
    have h := ctA_upd (u 14) (nI l) (nI t) i (u 0 16).toInt.toNat
    rw [hf, et, ef, el] at h
    by_cases e : l = t
    · subst e
      rw [if_neg (by omega), if_pos ⟨by omega, rfl⟩] at h
      rw [upd_s, upd_n (by omega), hN l hl, nI_1]
      exact congrArg nI (by omega)
    · rw [upd_n e]
      by_cases e2 : l = f
      · subst e2
        rw [if_pos ⟨by omega, rfl⟩, if_neg (by omega)] at h
        rw [upd_s, hN l hl, show ctA (u 14) (nI l) (u 0 16).toInt.toNat = ctA (upd (u 14) i (nI t)) (nI l) (u 0 16).toInt.toNat + 1 by omega]
        exact nI_pred _
      · rw [if_neg (by omega), if_neg (by omega)] at h
        rw [upd_n e2, hN l hl]
        exact congrArg nI (by omega)
  · intro z hz
    rw [g0] at hz
    by_cases e : z = i
    · subst e
      obtain ⟨q1, hq1, hq2⟩ : ∃ q1 : Nat → Nat, (∀ j, j ≤ m0 → q1 j = q0 j) ∧ q1 (m0 + 1) = t := ⟨fun j => if j ≤ m0 then q0 j else t, fun j h => if_pos h, if_neg (by omega)⟩
      refine ⟨m0 + 1, q1, by omega, ?_, ?_, ?_, ?_, ?_⟩
      · rw [g16, upd_s, p1, nI_1]
      · intro j hj
        rw [mv1_row u f t h47, if_pos rfl, p1, tn_nI (by omega), g0]
        by_cases ej : j ≤ m0
        · rw [hq1 j ej, upd_n (by omega)]
          exact p2 j ej
        · have : j = m0 + 1 := by omega
          subst this
          rw [hq2, upd_s]
          exact ⟨rfl, htl⟩
      · rw [hq1 0 (by omega), g11]; exact p3
      · intro j hj
        rw [g11, hq1 j (by omega)]
        by_cases ej : j + 1 ≤ m0
        · rw [hq1 _ ej]
          exact p4 j (by omega)
        · have : j = m0 := by omega
          subst this
          rw [hq2, hp, eq0]
      · rw [g14, upd_s, hq2]
        exact Or.inr rfl
    · obtain ⟨m, q, hm, r1, r2, r3, r4, r5⟩ := hW z hz
      refine ⟨m, q, hm, ?_⟩
      unfold PA
      rw [g16, g14, mv1_row u f t h47, if_neg e, upd_n e, upd_n e, g11, g0]
      exact ⟨r1, r2, r3, r4, r5⟩
  · intro z hz
    rw [g16]
    by_cases e : z = i
    · subst e
      rw [upd_s, p1, nI_1, ti_nI (by omega)]
      omega
    · rw [upd_n e]; exact hP z hz
theorem J_hold {s : Nat} {B : Int} {u : LU} (hJ : JV s B u) (n : Nat) (P : Prop) : JV s B (up u 9 (upd (u 9) n (bP P))) := by
  obtain ⟨hC, hS, h9, hL, hN, hW, hP⟩ := hJ
  refine ⟨hC, hS, ?_, hL, hN, ?_, hP⟩
  · intro l hl
    show upd (u 9) n (bP P) l = 0 ∨ upd (u 9) n (bP P) l = 1
    by_cases e : l = n
    · subst e; rw [upd_s]; exact bP_or P
    · rw [upd_n e]; exact h9 l hl
  · intro w hw
    obtain ⟨m, q, hm, p1, p2, p3, p4, p5⟩ := hW w hw
    refine ⟨m, q, hm, p1, ?_, p3, p4, p5⟩
    rw [up_n _ _ _ (by omega)]
    exact p2
theorem J_sc {s : Nat} {B : Int} {u : LU} {w k : Nat} (hJ : JV s B u) (hw : (w : Int) < (u 0 16).toInt) (hk : u 14 w = nI k) (hkl : (k : Int) < (u 0 12).toInt) : JV s B (sc1X u w k) ∧ 1 ≤ (u 12 k).toInt := by
  obtain ⟨⟨e4, h12, h16, h17⟩, hS, h9, hL, hN, hW, hP⟩ := hJ
  have ek := ti_nI (n := k) (by omega)
  have hc (l : Nat) := ctA_upd (u 14) (nI l) (-1) w (u 0 16).toInt.toNat
  have hkc := hc k
  rw [hk, if_pos ⟨by omega, rfl⟩, m1_ti, if_neg (by omega), Nat.add_zero] at hkc
  have hle := ctA_le (u 14) (nI k) (u 0 16).toInt.toNat
  refine ⟨⟨⟨e4, h12, h16, h17⟩, hS, h9, hL, ?_, ?_, hP⟩, ?_⟩
  · intro l hl
    have hl : (l : Int) < (u 0 12).toInt := hl
    have el := ti_nI (n := l) (by omega)
    show upd (u 12) k (u 12 k - 1) l = nI (ctA (upd (u 14) w (-1)) (nI l) (u 0 16).toInt.toNat)
    by_cases e : l = k
    · subst e
      rw [upd_s, hN l hl, show ctA (u 14) (nI l) (u 0 16).toInt.toNat = ctA (upd (u 14) w (-1)) (nI l) (u 0 16).toInt.toNat + 1 from hkc.symm]
      exact nI_pred _
    · have h := hc l
      rw [hk, ek, el, if_neg (by omega), m1_ti, if_neg (by omega)] at h
      rw [upd_n e, hN l hl]
      exact congrArg nI (by omega)
  · intro z hz
    obtain ⟨m, q, hm, p1, p2, p3, p4, p5⟩ := hW z hz
    refine ⟨m, q, hm, p1, ?_, p3, p4, ?_⟩
    · unfold sc1X
      rw [up_n _ _ _ (by omega), up_n _ _ _ (by omega)]
      exact p2
    · show upd (u 14) w (-1) z = -1 ∨ upd (u 14) w (-1) z = nI (q m)
      by_cases e : z = w
      · subst e; rw [upd_s]; exact Or.inl rfl
      · rw [upd_n e]; exact p5
  · rw [hN k hkl, ti_nI (by omega)]
    omega
theorem J_time {s : Nat} {B : Int} {u : LU} {x : Int32} (hJ : JV s B u) (hB : B ≤ 1000000) (hx : 1 ≤ x.toInt ∧ x.toInt ≤ 40) : JV s (B + 40) (up u 0 (upd (u 0) 17 (u 0 17 + x))) := by
  obtain ⟨⟨e4, h12, h16, h17⟩, hS, h9, hL, hN, hW, hP⟩ := hJ
  refine ⟨⟨e4, h12, h16, ?_⟩, hS, h9, hL, hN, ?_, hP⟩
  · show 0 ≤ (upd (u 0) 17 (u 0 17 + x) 17).toInt ∧ (upd (u 0) 17 (u 0 17 + x) 17).toInt ≤ B + 40
    rw [upd_s, ti_add (by omega) (by omega)]
    omega
  · intro w hw
    obtain ⟨m, q, hm, p1, p2, p3, p4, p5⟩ := hW w hw
    refine ⟨m, q, hm, p1, ?_, p3, p4, p5⟩
    rw [up_n _ _ _ (by omega)]
    exact p2
