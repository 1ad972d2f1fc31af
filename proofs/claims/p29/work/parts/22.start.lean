/-! THE LAW, from its entry -/
theorem join_end {D : va_G} {A0 : Nat → Prop} {a w1 : va_W} {x : Nat × va_E} {H H1 : Heap} (hP : va_P D vwCl (a ++ [x]) H) (hD : va_D A0 (a ++ [x])) (hk : ∀ q : Nat, q < H.size → ¬ va_A [x] H.size q → H1[q]? = H[q]?) (hF : ∀ q, va_A [x] H.size q → A0 q) (hP1 : va_P D vwCl w1 H1) (hD1 : va_D (va_A [x] H.size) w1) : va_P D vwCl (a ++ w1) H1 ∧ va_D A0 (a ++ w1) := by
  have hg : ∀ (k : Nat) (q : Nat × va_E), a[k]? = some q → (a ++ [x])[k]? = some q := fun k q h => by rw [List.getElem?_append_left (List.getElem?_eq_some_iff.mp h).1]; exact h
  have hx : (a ++ [x])[a.length]? = some x := by rw [List.getElem?_append_right (Nat.le_refl _), Nat.sub_self]; rfl
  have hn : ∀ (k : Nat) (q : Nat × va_E), a[k]? = some q → ¬ va_A [x] H.size q.1 := fun k q h z => by
    have hl := (List.getElem?_eq_some_iff.mp h).1
    rcases z with ⟨j, e, z⟩ | z
    · have hj := (List.getElem?_eq_some_iff.mp z).1
      have hj0 : j = 0 := by simpa using hj
      subst hj0
      have e2 : x = (q.1, e) := by simpa using z
      have := hD.1 _ _ q x (hg k q h) hx (by rw [e2])
      omega
    · have := (hP k q (hg k q h)).lt
      omega
  refine ⟨va_P.app (fun k q h => (hP k q (hg k q h)).kept (hk q.1 ((hP k q (hg k q h)).lt) (hn k q h))) hP1, ?_, ?_⟩
  · intro i j p q hi hj hpq
    rcases Nat.lt_or_ge i a.length with li | li <;> rcases Nat.lt_or_ge j a.length with lj | lj
    · rw [List.getElem?_append_left li] at hi
      rw [List.getElem?_append_left lj] at hj
      exact hD.1 _ _ p q (hg i p hi) (hg j q hj) hpq
    · rw [List.getElem?_append_left li] at hi
      rw [List.getElem?_append_right lj] at hj
      exact absurd (by rw [hpq]; exact hD1.2 _ q hj) (hn i p hi)
    · rw [List.getElem?_append_right li] at hi
      rw [List.getElem?_append_left lj] at hj
      exact absurd (by rw [← hpq]; exact hD1.2 _ p hi) (hn j q hj)
    · rw [List.getElem?_append_right li] at hi
      rw [List.getElem?_append_right lj] at hj
      have := hD1.1 _ _ p q hi hj hpq
      omega
  · intro k q h
    rcases Nat.lt_or_ge k a.length with l | l
    · rw [List.getElem?_append_left l] at h
      exact hD.2 _ q (hg k q h)
    · rw [List.getElem?_append_right l] at h
      exact hF _ (hD1.2 _ q h)
set_option maxHeartbeats 2000000 in
set_option maxRecDepth 100000 in
theorem whole_start {p : Program} {e : Env} {s : State} {m : MethodId} {below : List Frame} {meth : Method} {c : Code} (l : Launch) (hflags : l.flags = flags0) {b L : Nat} {xs : Nat → Int32} (hL : L ≤ 260) (C0 : lw_At p s m meth c b L xs) : W p l e room_1 s m #[Value.ref b] below meth c s.heap [] 0 0 (lw_Z below #[Value.ref b] s) (entryFrame m ([Value.ref b] : List Value).toArray 12) := by
  obtain ⟨hx, hb, hr, hml, hown, hts, hX, hbl, hlocks, hgv⟩ := id C0
  have htsL : ∀ w ∈ wsL_law, w.before #[Value.ref b] s = true := fun w h => hts w (wsL_law_in w h)
  have hA : ∀ q : Nat, s.heap.size ≤ q → (fun q : Nat => s.heap.size ≤ q) q := fun _ h => h
  have hAO : va_AOA .int s := va_AOA.of (hts (.arrayOver (.array .int)) (by decide +kernel))
  obtain ⟨c0, iS0, hKn0⟩ := u_known (C := RX0) (T := TX0) (N := 18) (n := 18) hts inX0 (hts (.instantiable RX0 18) (by decide +kernel))
  obtain ⟨D, hKc⟩ : ∃ D : va_G, ∀ (k : Nat) (q : vw_C), vwCl[k]? = some q → u_Kn s q.1 q.2.1 q.2.2 (D.1 k) (D.2 k) := by
    refine ⟨(fun _ => c0, fun _ => iS0), ?_⟩
    intro k q hq
    match k, hq with
    | 0, hq => cases hq; exact hKn0
    | k + 1, hq => simp [vwCl] at hq
  have hS : va_S (fun q : Nat => s.heap.size ≤ q) s.heap s.heap [] := va_S.rf
  have hK : va_K D vwCl [] s := ⟨hKc, fun k q h => by simp at h⟩
  have hP : va_P D vwCl [] s.heap := fun k q h => by simp at h
  have hD : va_D (fun q : Nat => s.heap.size ≤ q) [] := ⟨fun i j p q h => by simp at h, fun k q h => by simp at h⟩
  have hl := lv_entry ([.ref b]) (n := 12) (Nat.le_of_ble_eq_true rfl)
  rw [lg_entry_eq]
  generalize (lg_sl ([.ref b]) ++ List.replicate (12 - (lg_sl ([.ref b])).length) Slot.unset).toArray = ls at hl ⊢
  have hl : lv_has ls 12 [(0, .ref b)] := hl
  refine va_new (ci := 0) (fs := [.null, .null, .null, .null, .int 0, .null, .null, .null, .null, .null, .null, .null, .int 0, .null, .null, .null, .int 0, .int 0]) (C := RX0) (T := TX0) (N := 18) hx hb hts inX0 tyX0 tyX0_ok hown (hts (.classLink RL 9 RX0) (by decide +kernel)) (hts (.instantiable RX0 18) (by decide +kernel)) (hts (.initialized RX0) (by decide +kernel)) hK hP hD hS hA rfl (fun j hj => by rcases (show j = 0 ∨ j = 1 ∨ j = 2 ∨ j = 3 ∨ j = 4 ∨ j = 5 ∨ j = 6 ∨ j = 7 ∨ j = 8 ∨ j = 9 ∨ j = 10 ∨ j = 11 ∨ j = 12 ∨ j = 13 ∨ j = 14 ∨ j = 15 ∨ j = 16 ∨ j = 17 by omega) with rfl | rfl | rfl | rfl | rfl | rfl | rfl | rfl | rfl | rfl | rfl | rfl | rfl | rfl | rfl | rfl | rfl | rfl <;> rfl) (Nat.le_of_ble_eq_true rfl) (Nat.le_of_ble_eq_true rfl) dL_law_0 (fun q0 H hP hD hS => ?_)
  have hP : va_P D vwCl [(q0, .inr (0, [.null, .null, .null, .null, .int 0, .null, .null, .null, .null, .null, .null, .null, .int 0, .null, .null, .null, .int 0, .int 0]))] H := hP
  have hD : va_D (fun q : Nat => s.heap.size ≤ q) [(q0, .inr (0, [.null, .null, .null, .null, .int 0, .null, .null, .null, .null, .null, .null, .null, .int 0, .null, .null, .null, .int 0, .int 0]))] := hD
  refine lv_dup hx hb dL_law_3 rfl ?_
  have hFc : ∀ q, va_A [(q0, .inr (0, [.null, .null, .null, .null, .int 0, .null, .null, .null, .null, .null, .null, .null, .int 0, .null, .null, .null, .int 0, .int 0]))] H.size q → (fun q : Nat => s.heap.size ≤ q) q := va_free (wc := [(q0, .inr (0, [.null, .null, .null, .null, .int 0, .null, .null, .null, .null, .null, .null, .null, .int 0, .null, .null, .null, .int 0, .int 0]))]) hD hS hA [0] rfl
  refine va_callv (va_runI (As := []) (rest := [.ref q0]) ⟨hx, hb, hml, hown, htsL⟩ (c_X0_init l D q0 H.size) (cwI 0 htsL gL_law_X0_init rfl rfl rfl (hts (.initialized RX0) (by decide +kernel)) (hts (.methodLink RL 60 yX0_init) (by decide +kernel)) (hts (.instanceMethod yX0_init) (by decide +kernel)) rfl (by decide +kernel) ⟨Nat.le_of_ble_eq_true rfl, Nat.le_of_ble_eq_true rfl⟩) ⟨fun a U g mk q => by obtain ⟨z0, z1, qP, qK, qD, qA⟩ := q; exact ⟨z0, z1, qP, va_K.moved (u := U) (U := U.calling g mk a) (Vm.Alike.refl U.vm) qK, qD, va_AOA.moved (u := U) (U := U.calling g mk a) (Vm.Alike.refl U.vm) qA⟩, fun U hU hW => ⟨rfl, by rw [hU], by rw [hU]; exact hP, va_K.moved hW.alike hK, hD.weaken (fun _ _ _ _ => trivial), va_AOA.moved hW.alike hAO⟩⟩ rfl rfl hl.1 rfl (lv_room (Nat.le_of_ble_eq_true rfl)) dL_law_4 ⟨Nat.le_of_ble_eq_true rfl, Nat.le_of_ble_eq_true rfl⟩) hS (fun q _ h => hFc q h) hFc (fun u t H1 locs ht hvm hw hB hz1 hk1 hS => ?_)
  obtain ⟨ax, cI, cZ, cQ, rfl, hP1, hK1, hD1⟩ := hB
  rw [ht] at hP1
  have hK1 := va_K.moved hvm.symm hK1
  obtain ⟨hP, hD⟩ := join_end (a := []) (x := (ax 0, .inr (0, [.null, .null, .null, .null, .int 0, .null, .null, .null, .null, .null, .null, .null, .int 0, .null, .null, .null, .int 0, .int 0]))) hP hD hk1 hFc hP1 hD1
  have hP : va_P D vwCl (wX cI cZ cQ ax (fun _ _ => 0)) H1 := hP
  have hD : va_D (fun q : Nat => s.heap.size ≤ q) (wX cI cZ cQ ax (fun _ _ => 0)) := hD
  refine lv_astore_n (lv' := [(1, .ref (ax 0)), (0, .ref b)]) hx hb dL_law_7 rfl hl (by decide) rfl (fun ls hl => ?_)
  have C : CX p s m #[.ref b] meth c D (tyX cI cZ cQ) (fun q : Nat => s.heap.size ≤ q) RL cL_law wsL_law 12 (wX cI cZ cQ ax) := ⟨hx, hb, hml, hown, htsL, hK1, hA, fun q => va_D_fst (wX_ok cI cZ cQ ax _ q) hD, hlocks⟩
  refine W.widen (k := 400) (n := 8000) (by decide) (by decide) ?_
  exact law_begin C hr hX hbl (by omega) (by decide) (by decide) H1 locs ls hP hS hl
