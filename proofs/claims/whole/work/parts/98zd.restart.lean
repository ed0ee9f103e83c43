theorem i4_of {S T : gS} {n : Nat} (h7 : rI S 0 12 ≠ 0 → (∀ X, AR S X n → AN S X n) ∧ ∀ R, CI S R n → AN S R n → PH S R n → UN S R n) (e : ∀ a c, ¬ (a = 1 ∧ c = 1) → (1 ≤ a ∧ a ≤ 8) ∨ (a = 0 ∧ c = 12) ∨ (36 ≤ a ∧ a ≤ 50) → rI T a c = rI S a c) : rI T 0 12 ≠ 0 → (∀ X, AR T X n → AN T X n) ∧ ∀ R, CI T R n → AN T R n → PH T R n → UN T R n := by
  have back : ∀ a c, a < 8 → ¬ (a = 1 ∧ c = 1) → a ≠ 0 → rI S a c = rI T a c := fun a c z1 z2 z3 => (e a c z2 (by omega)).symm
  rw [e 0 12 (by omega) (by omega)]
  intro z
  obtain ⟨w1, w2⟩ := h7 z
  refine ⟨fun X hX => (w1 X (hX.of back)).ofc (fun a c q => e a c (by omega) (by omega)), fun R r1 r2 r3 => ?_⟩
  exact (w2 R (r1.of back (fun a c _ => rfl)) (r2.ofc (fun a c q => (e a c (by omega) (by omega)).symm)) (fun i hi => (r3 i hi).trans (e 8 i (by omega) (by omega)))).ofc (fun a c q => e a c (by omega) (by omega))
theorem q_restart {S : gS} (h : Inv S) : A0 mX8_restart mX9_restart S := by
  obtain ⟨n, hA, hH, hX⟩ := h
  have hn := hA.1.1.1
  have h24 := hA.1.1.2.1
  have hct := ct_X8_restart S n hA.1.1
  have e : f_X8_restart S n = (rI S 1 1, f_X0_rewind S n) := rfl
  rw [e] at hct
  have cf : ∀ a c, a ≠ 10 → a ≠ 11 → ¬ (a = 1 ∧ c = 1) → rI (f_X0_rewind S n) a c = rI S a c := fun a c z1 z2 z3 => by unfold f_X0_rewind; rw [fr_lp_rewind z1 z2, rI_wIc z3]
  have c1 : rI (f_X0_rewind S n) 1 1 = 0 := by unfold f_X0_rewind; rw [fr_lp_rewind (by decide) (by decide), rI_same]
  have c10 : ∀ i, i < n → rI (f_X0_rewind S n) 10 i = rI S 3 i ∧ rI (f_X0_rewind S n) 11 i = rI S 3 i := fun i hi => by
    unfold f_X0_rewind
    rw [(rew_rd _ n i).1, (rew_rd _ n i).2, if_pos hi, if_pos hi, rI_wIk (by decide)]
    exact ⟨rfl, rfl⟩
  have hR := ct_X9_restart (f_X0_rewind S n) n (by rw [cf 115 10 (by decide) (by decide) (by decide)]; exact hA.1.2.1) h24
  rw [cf 115 11 (by decide) (by decide) (by decide), ← hH.1] at hR
  refine ⟨_, _, _, hct, hR, ?_⟩
  have f0 : ∀ a c, a ≠ 10 → a ≠ 11 → ¬ (a = 1 ∧ c = 1) → ¬ (a = 115 ∧ c = 0) → rI (wI (f_X0_rewind S n) 115 0 0) a c = rI S a c := fun a c z1 z2 z3 z4 => (rI_wIc z4 _ _).trans (cf a c z1 z2 z3)
  have d1 : rI (wI (f_X0_rewind S n) 115 0 0) 1 1 = 0 := (rI_wIk (by decide) _ _ _).trans c1
  have d10 : ∀ i, i < n → rI (wI (f_X0_rewind S n) 115 0 0) 10 i = rI S 3 i ∧ rI (wI (f_X0_rewind S n) 115 0 0) 11 i = rI S 3 i := fun i hi => by rw [rI_wIk (by decide), rI_wIk (by decide)]; exact c10 i hi
  revert f0 d1 d10
  generalize wI (f_X0_rewind S n) 115 0 0 = M
  intro f0 d1 d10
  have f1 : ∀ a c, a ≠ 123 → a ≠ 124 → ¬ (a = 115 ∧ c = 11) → ¬ (a = 115 ∧ c = 15) → rI (rsF M n) a c = rI M a c := fun a c z1 z2 z3 z4 => rs_fr M n z1 z2 z3 z4
  have q := fun c => rs_rd M n c
  revert f1 q
  generalize rsF M n = R
  intro f1 q
  have f : ∀ a c, a ≠ 10 → a ≠ 11 → ¬ (a = 1 ∧ c = 1) → a ≠ 123 → a ≠ 124 → ¬ (a = 115 ∧ (c = 0 ∨ c = 11 ∨ c = 15)) → rI R a c = rI S a c := fun a c z1 z2 z3 z4 z5 z6 => (f1 a c z4 z5 (by omega) (by omega)).trans (f0 a c z1 z2 z3 (by omega))
  obtain ⟨h1, h2, h3, h4, h5, h6, h7, _⟩ := hA
  refine anew (n := n) (h1.of (fun a c z1 z2 z3 => f a c (by omega) (by omega) (by omega) (by omega) (by omega) (by omega)) (fun a c z => f a c (by omega) (by omega) (by omega) (by omega) (by omega) (by omega))) (fun c => by rw [f 7 c (by omega) (by omega) (by omega) (by omega) (by omega) (by omega)]; exact h2 c) (by rw [f 40 3 (by omega) (by omega) (by omega) (by omega) (by omega) (by omega)]; exact h3) (fun c => by rw [f 43 c (by omega) (by omega) (by omega) (by omega) (by omega) (by omega)]; exact h4 c) (fun i hi => by rw [f 8 i (by omega) (by omega) (by omega) (by omega) (by omega) (by omega)]; exact h5 i hi) (fun i hi => by rw [f 8 i (by omega) (by omega) (by omega) (by omega) (by omega) (by omega), f 122 i (by omega) (by omega) (by omega) (by omega) (by omega) (by omega)]; exact h6 i hi) (i4_of h7 (fun a c z1 z2 => f a c (by omega) (by omega) (by omega) (by omega) (by omega) (by omega))) (q 0).2.2.2 ?_ (fun i hi => by rw [f 2 i (by omega) (by omega) (by omega) (by omega) (by omega) (by omega), f 120 i (by omega) (by omega) (by omega) (by omega) (by omega) (by omega)]; exact hH.2.1 i hi) (fun i hi => ?_) (fun i hi => ?_) (hX.of (fun a c z => f a c (by omega) (by omega) (by omega) (by omega) (by omega) (by omega)))
  · rw [f1 1 1 (by decide) (by decide) (by decide) (by decide), d1]; exact (q 0).2.2.1.symm
  · rw [f 2 i (by omega) (by omega) (by omega) (by omega) (by omega) (by omega), f 9 i (by omega) (by omega) (by omega) (by omega) (by omega) (by omega), (q i).1, f0 116 i (by decide) (by decide) (by omega) (by omega), f0 123 i (by decide) (by decide) (by omega) (by omega)]
    intro z
    rw [if_neg (fun y => absurd ((h1.2.2 i hi).1.1.symm.trans y.2) (by rw [z]; decide))]
    exact hH.2.2.1 i hi z
  · rw [f 2 i (by omega) (by omega) (by omega) (by omega) (by omega) (by omega), f 3 i (by omega) (by omega) (by omega) (by omega) (by omega) (by omega), f 117 i (by omega) (by omega) (by omega) (by omega) (by omega) (by omega), (q i).1, (q i).2.1, f0 116 i (by decide) (by decide) (by omega) (by omega), f0 117 i (by decide) (by decide) (by omega) (by omega), f1 10 i (by decide) (by decide) (by omega) (by omega), f1 11 i (by decide) (by decide) (by omega) (by omega)]
    intro z
    have k6 : rI S 116 i = 2 := (h1.2.2 i hi).1.1.trans z
    rw [if_pos ⟨hi, k6⟩, if_pos ⟨hi, k6⟩]
    exact ⟨(d10 i hi).1, (d10 i hi).2, rfl, rfl⟩

