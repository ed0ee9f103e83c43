theorem ba_fr {a c : Nat} (S : gS) (n : Nat) (h1 : a ≠ 10) (h2 : a ≠ 11) (h3 : ¬ (a = 1 ∧ c = 1)) (h4 : ¬ (a = 0 ∧ c = 12)) : rI (f_X8_beginAnew S n) a c = rI S a c := by
  unfold f_X8_beginAnew f_X0_rewind
  rw [rI_wIc h4, fr_lp_rewind h1 h2, rI_wIc h3]
theorem ba_rd (S : gS) (n i : Nat) (hi : i < n) : rI (f_X8_beginAnew S n) 10 i = rI S 3 i ∧ rI (f_X8_beginAnew S n) 11 i = rI S 3 i ∧ rI (f_X8_beginAnew S n) 1 1 = 0 ∧ rI (f_X8_beginAnew S n) 0 12 = 0 := by
  unfold f_X8_beginAnew f_X0_rewind
  rw [rI_wIk (by decide), rI_wIk (by decide), rI_wIk (show 1 ≠ 0 by decide), rI_same, (rew_rd _ n i).1, (rew_rd _ n i).2, if_pos hi, if_pos hi, rI_wIk (by decide), fr_lp_rewind (by decide) (by decide), rI_same]
  exact ⟨rfl, rfl, rfl, rfl⟩
theorem ba_0 (S : gS) (n : Nat) : rI (f_X8_beginAnew S n) 1 1 = 0 ∧ rI (f_X8_beginAnew S n) 0 12 = 0 := by
  unfold f_X8_beginAnew f_X0_rewind
  rw [rI_wIk (show 1 ≠ 0 by decide), rI_same, fr_lp_rewind (by decide) (by decide), rI_same]
  exact ⟨rfl, rfl⟩
theorem rs_fr {a c : Nat} (S : gS) (n : Nat) (h1 : a ≠ 123) (h2 : a ≠ 124) (h3 : ¬ (a = 115 ∧ c = 11)) (h4 : ¬ (a = 115 ∧ c = 15)) : rI (rsF S n) a c = rI S a c := by
  unfold rsF
  rw [rI_wR, if_neg h2, rI_wR, if_neg h1, rI_wIc h3, rI_wIc h4]
theorem rs_rd (S : gS) (n c : Nat) : rI (rsF S n) 123 c = (if c < n ∧ rI S 116 c = 2 then rI S 117 c else rI S 123 c) ∧ rI (rsF S n) 124 c = (if c < n ∧ rI S 116 c = 2 then rI S 117 c else rI S 124 c) ∧ rI (rsF S n) 115 11 = 0 ∧ rI (rsF S n) 115 15 = 0 := by
  unfold rsF
  refine ⟨?_, ?_, ?_, ?_⟩
  · rw [rI_wR, if_neg (by decide), rI_wR, if_pos rfl]
  · rw [rI_wR, if_pos rfl]
  · rw [rI_wR, if_neg (by decide), rI_wR, if_neg (by decide), rI_same]
  · rw [rI_wR, if_neg (by decide), rI_wR, if_neg (by decide), rI_wIc (by decide), rI_same]
/-- class: C0, then anew; reference: R0 (reads the class's state), then restarts -/
theorem anew2 {C R0 : gS} {n : Nat} (hC : CI R0 R0 n) (h7 : ∀ c, rI R0 7 c = 0 ∨ rI R0 7 c = 1) (h40 : rI R0 40 3 = 0 ∨ rI R0 40 3 = 1) (h43 : ∀ c, rI R0 43 c = 0 ∨ rI R0 43 c = 1) (h8 : ∀ i, i < n → ∃ k, k < 4 ∧ rI R0 8 i = nI k) (hP : PH R0 R0 n) (nx : ∀ i, i < n → rI R0 2 i ≠ 2 → rI R0 120 i = -1) (k0 : ∀ i, i < n → rI R0 2 i = 0 → rI R0 9 i = rI R0 123 i) (hX : IX R0) (e : ∀ a c, a < 115 → rI R0 a c = rI (f_X8_beginAnew C n) a c) : Inv (rsF R0 n) := by
  obtain ⟨b1, b2⟩ := ba_0 C n
  have f : ∀ a c, a ≠ 123 → a ≠ 124 → ¬ (a = 115 ∧ c = 11) → ¬ (a = 115 ∧ c = 15) → rI (rsF R0 n) a c = rI R0 a c := fun a c z1 z2 z3 z4 => rs_fr R0 n z1 z2 z3 z4
  have q := fun c => rs_rd R0 n c
  revert f q
  generalize rsF R0 n = R
  intro f q
  have e12 : rI R 0 12 = 0 := by rw [f 0 12 (by omega) (by omega) (by omega) (by omega), e 0 12 (by decide)]; exact b2
  refine anew (n := n) (hC.of (fun a c z1 z2 z3 => f a c (by omega) (by omega) (by omega) (by omega)) (fun a c z => f a c (by omega) (by omega) (by omega) (by omega))) (fun c => by rw [f 7 c (by omega) (by omega) (by omega) (by omega)]; exact h7 c) (by rw [f 40 3 (by omega) (by omega) (by omega) (by omega)]; exact h40) (fun c => by rw [f 43 c (by omega) (by omega) (by omega) (by omega)]; exact h43 c) (fun i hi => by rw [f 8 i (by omega) (by omega) (by omega) (by omega)]; exact h8 i hi) (fun i hi => by rw [f 8 i (by omega) (by omega) (by omega) (by omega), f 122 i (by omega) (by omega) (by omega) (by omega)]; exact hP i hi) (fun z => absurd e12 z) (q 0).2.2.2 ?_ (fun i hi => by rw [f 2 i (by omega) (by omega) (by omega) (by omega), f 120 i (by omega) (by omega) (by omega) (by omega)]; exact nx i hi) (fun i hi => ?_) (fun i hi => ?_) (hX.of (fun a c z => f a c (by omega) (by omega) (by omega) (by omega)))
  · rw [f 1 1 (by omega) (by omega) (by omega) (by omega), e 1 1 (by decide), b1]; exact (q 0).2.2.1.symm
  · rw [f 2 i (by omega) (by omega) (by omega) (by omega), f 9 i (by omega) (by omega) (by omega) (by omega), (q i).1]
    intro z
    rw [if_neg (fun y => absurd ((hC.2.2 i hi).1.1.symm.trans y.2) (by rw [z]; decide))]
    exact k0 i hi z
  · rw [f 2 i (by omega) (by omega) (by omega) (by omega), f 3 i (by omega) (by omega) (by omega) (by omega), f 10 i (by omega) (by omega) (by omega) (by omega), f 11 i (by omega) (by omega) (by omega) (by omega), f 117 i (by omega) (by omega) (by omega) (by omega), (q i).1, (q i).2.1]
    intro z
    obtain ⟨d1, d2, _, _⟩ := ba_rd C n i hi
    have k6 : rI R0 116 i = 2 := (hC.2.2 i hi).1.1.trans z
    rw [if_pos ⟨hi, k6⟩, if_pos ⟨hi, k6⟩, e 10 i (by decide), e 11 i (by decide), e 3 i (by decide), d1, d2, ba_fr _ _ (by decide) (by decide) (by omega) (by omega)]
    exact ⟨rfl, rfl, rfl, rfl⟩

theorem q_setOutput {S : gS} (h : Inv S) (r p : Int32) (hp : p = 0 ∨ p = 1) : A1 mL_setOutput [.ref 0, .int r, .int p, .ref 145] mX9_setOutput [.ref 115, .int r, .int p] S (fun b => if b = 0 then 0 else 1) := by
  obtain ⟨n, hA, hH, hX⟩ := h
  have hn := hA.1.1.1
  have h24 := hA.1.1.2.1
  have hct := ct_X8_setOutput S r p n hA.1.1 hA.2.1
  by_cases hs : sgn (nI n) r
  · obtain ⟨i, i1, i2, i3⟩ := nI_ofInt hs h24
    have hnar : vp_nar .boolean p = p := by rcases hp with q | q <;> subst q <;> rfl
    have hpp : (if p = 0 then (0 : Int32) else 1) = p := by rcases hp with q | q <;> subst q <;> rfl
    have e : f_X8_setOutput S r p n = (0, rI S 7 i, f_X8_beginAnew (wI S 7 i p) n) := by unfold f_X8_setOutput; rw [if_neg (fun z => (has_s hn).mp z hs), i3, hnar]
    rw [e] at hct
    have hL := ct_L_setOutput S _ r p 0 _ hct (Or.inl rfl)
    rw [if_pos rfl, if_pos rfl] at hL
    have cf : ∀ a c, a ≠ 10 → a ≠ 11 → ¬ (a = 1 ∧ c = 1) → ¬ (a = 0 ∧ c = 12) → ¬ (a = 7 ∧ c = i) → rI (f_X8_beginAnew (wI S 7 i p) n) a c = rI S a c := fun a c z1 z2 z3 z4 z5 => (ba_fr _ n z1 z2 z3 z4).trans (rI_wIc z5 _ _)
    have c7 : rI (f_X8_beginAnew (wI S 7 i p) n) 7 i = p := (ba_fr _ n (by decide) (by decide) (by omega) (by omega)).trans (rI_same _ _ _ _)
    have hR := ct_X9_setOutput (wL (f_X8_beginAnew (wI S 7 i p) n) 145 0 (if rI S 7 i = 0 then 0 else 1)) r p n (by rw [rI_wL, cf 115 10 (by decide) (by decide) (by decide) (by decide) (by omega)]; exact hA.1.2.1) h24
    rw [if_pos hs, if_pos hs, i3, hpp, rI_wL, cf 121 i (by decide) (by decide) (by omega) (by omega) (by omega), (hA.1.2.2 i i1).1.2.2.2.2.2] at hR
    refine ⟨0, _, _, _, hL, hR, ?_, fun _ => ?_, ?_⟩
    · rw [rs_fr _ _ (by decide) (by decide) (by decide) (by decide), rI_wIk (by decide), rI_same]
    · show rL (wI (wI (wL (f_X8_beginAnew (wI S 7 i p) n) 145 0 (if rI S 7 i = 0 then 0 else 1)) 115 0 0) 121 i p) 145 0 = _
      rw [rL_wI, rL_wI, rL_wL, if_pos ⟨rfl, rfl⟩]
      rcases hA.2.1 i with q | q
      · rw [q]; rfl
      · rw [q]; rfl
    · have e0 : ∀ a c, a < 115 → rI (wI (wI (wL (f_X8_beginAnew (wI S 7 i p) n) 145 0 (if rI S 7 i = 0 then 0 else 1)) 115 0 0) 121 i p) a c = rI (f_X8_beginAnew (wI S 7 i p) n) a c := fun a c z => by rw [rI_wIk (by omega), rI_wIk (by omega), rI_wL]
      have f : ∀ a c, a ≠ 10 → a ≠ 11 → ¬ (a = 1 ∧ c = 1) → ¬ (a = 0 ∧ c = 12) → ¬ (a = 7 ∧ c = i) → ¬ (a = 115 ∧ c = 0) → ¬ (a = 121 ∧ c = i) → rI (wI (wI (wL (f_X8_beginAnew (wI S 7 i p) n) 145 0 (if rI S 7 i = 0 then 0 else 1)) 115 0 0) 121 i p) a c = rI S a c := fun a c z1 z2 z3 z4 z5 z6 z7 => by rw [rI_wIc z7, rI_wIc z6, rI_wL, cf a c z1 z2 z3 z4 z5]
      have f7 : rI (wI (wI (wL (f_X8_beginAnew (wI S 7 i p) n) 145 0 (if rI S 7 i = 0 then 0 else 1)) 115 0 0) 121 i p) 7 i = p := (e0 7 i (by decide)).trans c7
      have f21 : rI (wI (wI (wL (f_X8_beginAnew (wI S 7 i p) n) 145 0 (if rI S 7 i = 0 then 0 else 1)) 115 0 0) 121 i p) 121 i = p := rI_same _ _ _ _
      revert e0 f f7 f21
      generalize wI (wI (wL (f_X8_beginAnew (wI S 7 i p) n) 145 0 (if rI S 7 i = 0 then 0 else 1)) 115 0 0) 121 i p = R0
      intro e0 f f7 f21
      obtain ⟨h1, h2, h3, h4, h5, h6, _, _⟩ := hA
      refine anew2 (C := wI S 7 i p) ⟨h1.1.of (fun a c z => f a c (by omega) (by omega) (by omega) (by omega) (by omega) (by omega) (by omega)), (f 115 10 (by omega) (by omega) (by omega) (by omega) (by omega) (by omega) (by omega)).trans h1.2.1, fun j hj => ?_⟩ (fun c => ?_) (by rw [f 40 3 (by omega) (by omega) (by omega) (by omega) (by omega) (by omega) (by omega)]; exact h3) (fun c => by rw [f 43 c (by omega) (by omega) (by omega) (by omega) (by omega) (by omega) (by omega)]; exact h4 c) (fun j hj => by rw [f 8 j (by omega) (by omega) (by omega) (by omega) (by omega) (by omega) (by omega)]; exact h5 j hj) (fun j hj => by rw [f 8 j (by omega) (by omega) (by omega) (by omega) (by omega) (by omega) (by omega), f 122 j (by omega) (by omega) (by omega) (by omega) (by omega) (by omega) (by omega)]; exact h6 j hj) (fun j hj => by rw [f 2 j (by omega) (by omega) (by omega) (by omega) (by omega) (by omega) (by omega), f 120 j (by omega) (by omega) (by omega) (by omega) (by omega) (by omega) (by omega)]; exact hH.2.1 j hj) (fun j hj => by rw [f 2 j (by omega) (by omega) (by omega) (by omega) (by omega) (by omega) (by omega), f 9 j (by omega) (by omega) (by omega) (by omega) (by omega) (by omega) (by omega), f 123 j (by omega) (by omega) (by omega) (by omega) (by omega) (by omega) (by omega)]; exact hH.2.2.1 j hj) (hX.of (fun a c z => f a c (by omega) (by omega) (by omega) (by omega) (by omega) (by omega) (by omega))) e0
      · obtain ⟨⟨s1, s2, s3, s4, s5, s6⟩, hb⟩ := h1.2.2 j hj
        unfold CS cB
        rw [f 2 j (by omega) (by omega) (by omega) (by omega) (by omega) (by omega) (by omega), f 3 j (by omega) (by omega) (by omega) (by omega) (by omega) (by omega) (by omega), f 4 j (by omega) (by omega) (by omega) (by omega) (by omega) (by omega) (by omega), f 5 j (by omega) (by omega) (by omega) (by omega) (by omega) (by omega) (by omega), f 6 j (by omega) (by omega) (by omega) (by omega) (by omega) (by omega) (by omega), f 116 j (by omega) (by omega) (by omega) (by omega) (by omega) (by omega) (by omega), f 117 j (by omega) (by omega) (by omega) (by omega) (by omega) (by omega) (by omega), f 118 j (by omega) (by omega) (by omega) (by omega) (by omega) (by omega) (by omega), f 119 j (by omega) (by omega) (by omega) (by omega) (by omega) (by omega) (by omega), f 120 j (by omega) (by omega) (by omega) (by omega) (by omega) (by omega) (by omega)]
        refine ⟨⟨s1, s2, s3, s4, s5, ?_⟩, hb⟩
        by_cases ej : j = i
        · subst ej; rw [f7, f21]
        · rw [f 7 j (by omega) (by omega) (by omega) (by omega) (by omega) (by omega) (by omega), f 121 j (by omega) (by omega) (by omega) (by omega) (by omega) (by omega) (by omega)]; exact s6
      · by_cases ec : c = i
        · subst ec; rw [f7]; exact hp
        · rw [f 7 c (by omega) (by omega) (by omega) (by omega) (by omega) (by omega) (by omega)]; exact h2 c
  · have e : f_X8_setOutput S r p n = (2, 0, S) := by unfold f_X8_setOutput; rw [if_pos ((has_s hn).mpr hs)]
    rw [e] at hct
    have hL := ct_L_setOutput S S r p 2 _ hct (Or.inr rfl)
    rw [if_neg (by decide), if_neg (by decide)] at hL
    have hR := ct_X9_setOutput S r p n hA.1.2.1 h24
    rw [if_neg hs, if_neg hs] at hR
    exact ⟨1, _, _, _, hL, hR, rI_same _ _ _ _, fun z => absurd z (by decide), Inv.refuse hA hH hX 1⟩

