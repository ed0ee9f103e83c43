theorem q_clear {S : gS} (h : Inv S) : A0 mX8_clear mX9_clear S := by
  obtain ⟨n, hA, hH, hX⟩ := h
  have hn := hA.1.1.1
  have h24 := hA.1.1.2.1
  have hct := ct_X8_clear S n hA.1.1
  have e : f_X8_clear S n = (nI n, f_X8_beginAnew (wI S 1 0 0) 0) := by unfold f_X8_clear; rw [hn]
  rw [e] at hct
  have cf : ∀ a c, a ≠ 10 → a ≠ 11 → ¬ (a = 1 ∧ (c = 0 ∨ c = 1)) → ¬ (a = 0 ∧ c = 12) → rI (f_X8_beginAnew (wI S 1 0 0) 0) a c = rI S a c := fun a c z1 z2 z3 z4 => (ba_fr _ 0 z1 z2 (by omega) z4).trans (rI_wIc (by omega) _ _)
  have c1 : rI (f_X8_beginAnew (wI S 1 0 0) 0) 1 0 = 0 := (ba_fr _ 0 (by decide) (by decide) (by decide) (by decide)).trans (rI_same _ _ _ _)
  have hR := ct_X9_clear (f_X8_beginAnew (wI S 1 0 0) 0) n (by rw [cf 115 10 (by decide) (by decide) (by decide) (by decide)]; exact hA.1.2.1) h24
  refine ⟨_, _, _, hct, hR, ?_⟩
  have e0 : ∀ a c, a < 115 → rI (wI (wI (f_X8_beginAnew (wI S 1 0 0) 0) 115 0 0) 115 10 0) a c = rI (f_X8_beginAnew (wI S 1 0 0) 0) a c := fun a c z => by rw [rI_wIk (by omega), rI_wIk (by omega)]
  have f : ∀ a c, a ≠ 10 → a ≠ 11 → ¬ (a = 1 ∧ (c = 0 ∨ c = 1)) → ¬ (a = 0 ∧ c = 12) → ¬ (a = 115 ∧ (c = 0 ∨ c = 10)) → rI (wI (wI (f_X8_beginAnew (wI S 1 0 0) 0) 115 0 0) 115 10 0) a c = rI S a c := fun a c z1 z2 z3 z4 z5 => by rw [rI_wIc (by omega), rI_wIc (by omega), cf a c z1 z2 z3 z4]
  have f1 : rI (wI (wI (f_X8_beginAnew (wI S 1 0 0) 0) 115 0 0) 115 10 0) 1 0 = 0 := (e0 1 0 (by decide)).trans c1
  have f10 : rI (wI (wI (f_X8_beginAnew (wI S 1 0 0) 0) 115 0 0) 115 10 0) 115 10 = 0 := rI_same _ _ _ _
  revert e0 f f1 f10
  generalize wI (wI (f_X8_beginAnew (wI S 1 0 0) 0) 115 0 0) 115 10 0 = R0
  intro e0 f f1 f10
  obtain ⟨h1, h2, h3, h4, h5, h6, _, _⟩ := hA
  exact anew2 (C := wI S 1 0 0) (n := 0) ⟨okC_zero f1, f10, fun j hj => absurd hj (Nat.not_lt_zero j)⟩ (fun c => by rw [f 7 c (by omega) (by omega) (by omega) (by omega) (by omega)]; exact h2 c) (by rw [f 40 3 (by omega) (by omega) (by omega) (by omega) (by omega)]; exact h3) (fun c => by rw [f 43 c (by omega) (by omega) (by omega) (by omega) (by omega)]; exact h4 c) (fun j hj => absurd hj (Nat.not_lt_zero j)) (fun j hj => absurd hj (Nat.not_lt_zero j)) (fun j hj => absurd hj (Nat.not_lt_zero j)) (fun j hj => absurd hj (Nat.not_lt_zero j)) (hX.of (fun a c z => f a c (by omega) (by omega) (by omega) (by omega) (by omega))) e0
theorem q_setNext {S : gS} (h : Inv S) (r t : Int32) : A1 mL_setNext [.ref 0, .int r, .int t, .ref 145] mX9_setNext [.ref 115, .int r, .int t] S Int32.toInt64 := by
  obtain ⟨n, hA, hH, hX⟩ := h
  have hn := hA.1.1.1
  have h24 := hA.1.1.2.1
  have hct := ct_X8_setNext S r t n hA.1.1
  by_cases hs : sgn (nI n) r ∧ sgn (nI n) t
  · obtain ⟨hs, ht⟩ := hs
    obtain ⟨i, i1, i2, i3⟩ := nI_ofInt hs h24
    have hh1 : ¬ f_X0_has S r = 0 := fun z => (has_s hn).mp z hs
    have hh2 : ¬ f_X0_has S t = 0 := fun z => (has_s hn).mp z ht
    have k6 := (hA.1.2.2 i i1).1.1
    by_cases hk : rI S 2 i = 2
    · have e : f_X8_setNext S r t n = (0, rI S 6 i, f_X8_beginAnew (wI S 6 i t) n) := by unfold f_X8_setNext; rw [if_neg hh1, if_neg hh2, i3, if_pos hk]
      rw [e] at hct
      have hL := ct_L_setNext S _ r t 0 _ hct (Or.inl rfl)
      rw [if_pos rfl, if_pos rfl] at hL
      have cf : ∀ a c, a ≠ 10 → a ≠ 11 → ¬ (a = 1 ∧ c = 1) → ¬ (a = 0 ∧ c = 12) → ¬ (a = 6 ∧ c = i) → rI (f_X8_beginAnew (wI S 6 i t) n) a c = rI S a c := fun a c z1 z2 z3 z4 z5 => (ba_fr _ n z1 z2 z3 z4).trans (rI_wIc z5 _ _)
      have c6 : rI (f_X8_beginAnew (wI S 6 i t) n) 6 i = t := (ba_fr _ n (by decide) (by decide) (by omega) (by omega)).trans (rI_same _ _ _ _)
      have hR := ct_X9_setNext (wL (f_X8_beginAnew (wI S 6 i t) n) 145 0 (rI S 6 i).toInt64) r t n (by rw [rI_wL, cf 115 10 (by decide) (by decide) (by decide) (by decide) (by omega)]; exact hA.1.2.1) h24
      have hK : snK (wL (f_X8_beginAnew (wI S 6 i t) n) 145 0 (rI S 6 i).toInt64) n r t = 0 := by
        unfold snK
        rw [if_neg (fun z => z ⟨hs, ht⟩), i3, rI_wL, cf 116 i (by decide) (by decide) (by omega) (by omega) (by omega), if_pos (k6.trans hk)]
      rw [if_pos hK, if_pos hK, i3, rI_wL, cf 120 i (by decide) (by decide) (by omega) (by omega) (by omega), (hA.1.2.2 i i1).1.2.2.2.2.1 hk] at hR
      refine ⟨0, _, _, _, hL, hR, ?_, fun _ => ?_, ?_⟩
      · rw [rs_fr _ _ (by decide) (by decide) (by decide) (by decide), rI_wIk (by decide), rI_same]
      · show rL (wI (wI (wL (f_X8_beginAnew (wI S 6 i t) n) 145 0 (rI S 6 i).toInt64) 115 0 0) 120 i t) 145 0 = _
        rw [rL_wI, rL_wI, rL_wL, if_pos ⟨rfl, rfl⟩]
      · have e0 : ∀ a c, a < 115 → rI (wI (wI (wL (f_X8_beginAnew (wI S 6 i t) n) 145 0 (rI S 6 i).toInt64) 115 0 0) 120 i t) a c = rI (f_X8_beginAnew (wI S 6 i t) n) a c := fun a c z => by rw [rI_wIk (by omega), rI_wIk (by omega), rI_wL]
        have f : ∀ a c, a ≠ 10 → a ≠ 11 → ¬ (a = 1 ∧ c = 1) → ¬ (a = 0 ∧ c = 12) → ¬ (a = 6 ∧ c = i) → ¬ (a = 115 ∧ c = 0) → ¬ (a = 120 ∧ c = i) → rI (wI (wI (wL (f_X8_beginAnew (wI S 6 i t) n) 145 0 (rI S 6 i).toInt64) 115 0 0) 120 i t) a c = rI S a c := fun a c z1 z2 z3 z4 z5 z6 z7 => by rw [rI_wIc z7, rI_wIc z6, rI_wL, cf a c z1 z2 z3 z4 z5]
        have f6 : rI (wI (wI (wL (f_X8_beginAnew (wI S 6 i t) n) 145 0 (rI S 6 i).toInt64) 115 0 0) 120 i t) 6 i = t := (e0 6 i (by decide)).trans c6
        have f20 : rI (wI (wI (wL (f_X8_beginAnew (wI S 6 i t) n) 145 0 (rI S 6 i).toInt64) 115 0 0) 120 i t) 120 i = t := rI_same _ _ _ _
        have ok : okC (wI S 6 i t) n := by have := okC_next (r := r) hA.1.1 (by rw [i2]; exact nI_i (by omega) (by omega)) ht; rw [i3] at this; exact this
        have ok2 : okC (wI (wI (wL (f_X8_beginAnew (wI S 6 i t) n) 145 0 (rI S 6 i).toInt64) 115 0 0) 120 i t) n := ok.of (fun a c z => (e0 a c (by omega)).trans (ba_fr _ n (by omega) (by omega) (by omega) (by omega)))
        revert e0 f f6 f20 ok2
        generalize wI (wI (wL (f_X8_beginAnew (wI S 6 i t) n) 145 0 (rI S 6 i).toInt64) 115 0 0) 120 i t = R0
        intro e0 f f6 f20 ok2
        obtain ⟨h1, h2, h3, h4, h5, h6, _, _⟩ := hA
        refine anew2 (C := wI S 6 i t) ⟨ok2, (f 115 10 (by omega) (by omega) (by omega) (by omega) (by omega) (by omega) (by omega)).trans h1.2.1, fun j hj => ?_⟩ (fun c => by rw [f 7 c (by omega) (by omega) (by omega) (by omega) (by omega) (by omega) (by omega)]; exact h2 c) (by rw [f 40 3 (by omega) (by omega) (by omega) (by omega) (by omega) (by omega) (by omega)]; exact h3) (fun c => by rw [f 43 c (by omega) (by omega) (by omega) (by omega) (by omega) (by omega) (by omega)]; exact h4 c) (fun j hj => by rw [f 8 j (by omega) (by omega) (by omega) (by omega) (by omega) (by omega) (by omega)]; exact h5 j hj) (fun j hj => by rw [f 8 j (by omega) (by omega) (by omega) (by omega) (by omega) (by omega) (by omega), f 122 j (by omega) (by omega) (by omega) (by omega) (by omega) (by omega) (by omega)]; exact h6 j hj) (fun j hj => ?_) (fun j hj => by rw [f 2 j (by omega) (by omega) (by omega) (by omega) (by omega) (by omega) (by omega), f 9 j (by omega) (by omega) (by omega) (by omega) (by omega) (by omega) (by omega), f 123 j (by omega) (by omega) (by omega) (by omega) (by omega) (by omega) (by omega)]; exact hH.2.2.1 j hj) (hX.of (fun a c z => f a c (by omega) (by omega) (by omega) (by omega) (by omega) (by omega) (by omega))) e0
        · obtain ⟨⟨s1, s2, s3, s4, s5, s6⟩, hb⟩ := h1.2.2 j hj
          unfold CS cB
          rw [f 2 j (by omega) (by omega) (by omega) (by omega) (by omega) (by omega) (by omega), f 3 j (by omega) (by omega) (by omega) (by omega) (by omega) (by omega) (by omega), f 4 j (by omega) (by omega) (by omega) (by omega) (by omega) (by omega) (by omega), f 5 j (by omega) (by omega) (by omega) (by omega) (by omega) (by omega) (by omega), f 7 j (by omega) (by omega) (by omega) (by omega) (by omega) (by omega) (by omega), f 116 j (by omega) (by omega) (by omega) (by omega) (by omega) (by omega) (by omega), f 117 j (by omega) (by omega) (by omega) (by omega) (by omega) (by omega) (by omega), f 118 j (by omega) (by omega) (by omega) (by omega) (by omega) (by omega) (by omega), f 119 j (by omega) (by omega) (by omega) (by omega) (by omega) (by omega) (by omega), f 121 j (by omega) (by omega) (by omega) (by omega) (by omega) (by omega) (by omega)]
          refine ⟨⟨s1, s2, s3, s4, ?_, s6⟩, hb⟩
          by_cases ej : j = i
          · subst ej; rw [f6, f20]; exact fun _ => rfl
          · rw [f 6 j (by omega) (by omega) (by omega) (by omega) (by omega) (by omega) (by omega), f 120 j (by omega) (by omega) (by omega) (by omega) (by omega) (by omega) (by omega)]; exact s5
        · by_cases ej : j = i
          · subst ej; rw [f 2 j (by omega) (by omega) (by omega) (by omega) (by omega) (by omega) (by omega)]; exact fun z => absurd hk z
          · rw [f 2 j (by omega) (by omega) (by omega) (by omega) (by omega) (by omega) (by omega), f 120 j (by omega) (by omega) (by omega) (by omega) (by omega) (by omega) (by omega)]; exact hH.2.1 j hj
    · have e : f_X8_setNext S r t n = (5, 0, S) := by unfold f_X8_setNext; rw [if_neg hh1, if_neg hh2, i3, if_neg hk]
      rw [e] at hct
      have hL := ct_L_setNext S S r t 5 _ hct (Or.inr (Or.inr rfl))
      rw [if_neg (by decide), if_neg (by decide), if_neg (by decide)] at hL
      have hR := ct_X9_setNext S r t n hA.1.2.1 h24
      have hK : snK S n r t = 2 := by unfold snK; rw [if_neg (fun z => z ⟨hs, ht⟩), i3, if_neg (fun z => hk (k6.symm.trans z))]
      rw [hK, if_neg (by decide), if_neg (by decide)] at hR
      exact ⟨2, _, _, _, hL, hR, rI_same _ _ _ _, fun z => absurd z (by decide), Inv.refuse hA hH hX 2⟩
  · have e : f_X8_setNext S r t n = (2, 0, S) := by
      unfold f_X8_setNext
      by_cases z : sgn (nI n) r
      · rw [if_neg (fun y => (has_s hn).mp y z), if_pos ((has_s hn).mpr (fun y => hs ⟨z, y⟩))]
      · rw [if_pos ((has_s hn).mpr z)]
    rw [e] at hct
    have hL := ct_L_setNext S S r t 2 _ hct (Or.inr (Or.inl rfl))
    rw [if_neg (by decide), if_pos rfl, if_neg (by decide)] at hL
    have hR := ct_X9_setNext S r t n hA.1.2.1 h24
    have hK : snK S n r t = 1 := by unfold snK; rw [if_pos hs]
    rw [hK, if_neg (by decide), if_neg (by decide)] at hR
    exact ⟨1, _, _, _, hL, hR, rI_same _ _ _ _, fun z => absurd z (by decide), Inv.refuse hA hH hX 1⟩

