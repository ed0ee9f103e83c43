theorem dr_rd (S : gS) (m : Nat) (h1 : rI S 1 0 = nI m) : ∀ k i, rI (itr bd_dropLast k S) 6 i = if i < k ∧ rI S 6 i = nI m then nI i else rI S 6 i := by
  intro k
  induction k with
  | zero => intro i; rw [if_neg (fun z => absurd z.1 (Nat.not_lt_zero i))]; rfl
  | succ k ih =>
    intro i
    have hi := ih i
    have hk := ih k
    have f1 : rI (itr bd_dropLast k S) 1 0 = nI m := (fr_lp_dropLast (by decide) _ _).trans h1
    rw [show itr bd_dropLast (k + 1) S = bd_dropLast k (itr bd_dropLast k S) from rfl]
    revert hi hk f1
    generalize itr bd_dropLast k S = p
    intro hi hk f1
    rw [if_neg (fun z => absurd z.1 (Nat.lt_irrefl k))] at hk
    unfold bd_dropLast
    rw [f1, hk]
    by_cases c2 : rI S 6 k = nI m
    · rw [if_pos c2]
      by_cases e : i = k
      · subst e; rw [rI_same, if_pos ⟨Nat.lt_succ_self i, c2⟩]
      · rw [rI_wIc (fun z => e z.2), hi]
        have hl : i < k + 1 ↔ i < k := by omega
        simp only [hl]
    · rw [if_neg c2, hi]
      by_cases e : i = k
      · subst e; rw [if_neg (fun z => c2 z.2), if_neg (fun z => c2 z.2)]
      · have hl : i < k + 1 ↔ i < k := by omega
        simp only [hl]
theorem q_removeLast {S : gS} (h : Inv S) : A1 mL_removeLast [.ref 0, .ref 145] mX9_removeLast [.ref 115] S Int32.toInt64 := by
  obtain ⟨n, hA, hH, hX⟩ := h
  have hn := hA.1.1.1
  have h24 := hA.1.1.2.1
  cases n with
  | zero =>
    have hct := ct_X8_removeLast S 0 (Or.inr hA.1.1)
    have e : f_X8_removeLast S 0 = (4, 0, S) := by unfold f_X8_removeLast; rw [if_pos (show rI S 1 0 = 0 from hn)]
    rw [e] at hct
    have hL := ct_L_removeLast S S 4 _ hct (Or.inr rfl)
    rw [if_neg (by decide), if_neg (by decide)] at hL
    have hR := ct_X9_removeLast S 0 hA.1.2.1 h24
    rw [if_pos rfl, if_pos rfl] at hR
    exact ⟨1, _, _, _, hL, hR, rI_same _ _ _ _, fun z => absurd z (by decide), Inv.refuse hA hH hX 1⟩
  | succ n =>
    have hct := ct_X8_removeLast S n (Or.inl hA.1.1)
    have ok := okC_drop hA.1.1
    have hm1 : rI S 1 0 - 1 = nI n := by rw [hn, ← nI_1]; exact Int32.add_sub_cancel _ _
    have D1 : ∀ a c, a ≠ 6 → ¬ (a = 1 ∧ c = 0) → rI (f_X0_dropLast S n).2 a c = rI S a c := fun a c z1 z2 => by unfold f_X0_dropLast; exact (fr_lp_dropLast z1 _ _).trans (rI_wIc z2 _ _)
    have D6 : ∀ i, i < n → rI (f_X0_dropLast S n).2 6 i = if rI S 6 i = nI n then nI i else rI S 6 i := fun i hi => by
      unfold f_X0_dropLast
      show rI (itr bd_dropLast n (wI S 1 0 (rI S 1 0 - 1))) 6 i = _
      rw [dr_rd _ n ((rI_same _ _ _ _).trans hm1) n i, rI_wIk (by decide)]
      by_cases z : rI S 6 i = nI n
      · rw [if_pos ⟨hi, z⟩, if_pos z]
      · rw [if_neg (fun y => z y.2), if_neg z]
    have r1 : (f_X0_dropLast S n).1 = rI S 2 n := by
      unfold f_X0_dropLast
      show rI (itr bd_dropLast n (wI S 1 0 (rI S 1 0 - 1))) 2 (rI (itr bd_dropLast n (wI S 1 0 (rI S 1 0 - 1))) 1 0).toNatClampNeg = _
      rw [fr_lp_dropLast (by decide), fr_lp_dropLast (by decide), rI_same, hm1, nI_c (by omega), rI_wIk (by decide)]
    have h0 : ¬ rI S 1 0 = 0 := fun z => by rw [hn] at z; have := nI_inj2 (by omega) (by omega) (z.trans (show (0 : Int32) = nI 0 from rfl)); omega
    have e : f_X8_removeLast S n = (0, rI S 2 n, f_X8_beginAnew (f_X0_dropLast S n).2 n) := by unfold f_X8_removeLast; rw [if_neg h0, r1]
    rw [e] at hct
    clear e r1
    revert ok D1 D6 hct
    generalize (f_X0_dropLast S n).2 = D
    intro hct ok D1 D6
    have hL := ct_L_removeLast S _ 0 _ hct (Or.inl rfl)
    rw [if_pos rfl, if_pos rfl] at hL
    have cf : ∀ a c, a ≠ 10 → a ≠ 11 → ¬ (a = 1 ∧ (c = 0 ∨ c = 1)) → ¬ (a = 0 ∧ c = 12) → a ≠ 6 → rI (f_X8_beginAnew D n) a c = rI S a c := fun a c z1 z2 z3 z4 z5 => (ba_fr _ n z1 z2 (by omega) z4).trans (D1 a c z5 (by omega))
    have hR := ct_X9_removeLast (wL (f_X8_beginAnew D n) 145 0 (rI S 2 n).toInt64) (n + 1) (by rw [rI_wL, cf 115 10 (by decide) (by decide) (by decide) (by decide) (by decide)]; exact hA.1.2.1) h24
    rw [if_neg (by omega), if_neg (by omega), Nat.add_sub_cancel, rI_wL, cf 116 n (by decide) (by decide) (by omega) (by omega) (by decide), (hA.1.2.2 n (by omega)).1.1] at hR
    have e0 : ∀ a c, a < 115 → rI (rlF (wL (f_X8_beginAnew D n) 145 0 (rI S 2 n).toInt64) n n) a c = rI (f_X8_beginAnew D n) a c := fun a c z => by unfold rlF; rw [rI_wR, if_neg (by omega), rI_wIk (by omega), rI_wIk (by omega), rI_wL]
    have f : ∀ a c, a ≠ 10 → a ≠ 11 → ¬ (a = 1 ∧ (c = 0 ∨ c = 1)) → ¬ (a = 0 ∧ c = 12) → a ≠ 6 → ¬ (a = 115 ∧ (c = 0 ∨ c = 10)) → a ≠ 120 → rI (rlF (wL (f_X8_beginAnew D n) 145 0 (rI S 2 n).toInt64) n n) a c = rI S a c := fun a c z1 z2 z3 z4 z5 z6 z7 => by unfold rlF; rw [rI_wR, if_neg z7, rI_wIc (by omega), rI_wIc (by omega), rI_wL, cf a c z1 z2 z3 z4 z5]
    have f0 : rI (rlF (wL (f_X8_beginAnew D n) 145 0 (rI S 2 n).toInt64) n n) 115 0 = 0 := by unfold rlF; rw [rI_wR, if_neg (by decide), rI_wIc (by decide), rI_same]
    have f10 : rI (rlF (wL (f_X8_beginAnew D n) 145 0 (rI S 2 n).toInt64) n n) 115 10 = nI n := by unfold rlF; rw [rI_wR, if_neg (by decide), rI_same]
    have f120 : ∀ i, i < n → rI (rlF (wL (f_X8_beginAnew D n) 145 0 (rI S 2 n).toInt64) n n) 120 i = if rI S 120 i = nI n then nI i else rI S 120 i := fun i hi => by
      unfold rlF
      rw [rI_wR, if_pos rfl, rI_wL, cf 120 i (by decide) (by decide) (by omega) (by omega) (by decide)]
      by_cases z : rI S 120 i = nI n
      · rw [if_pos ⟨hi, z⟩, if_pos z]
      · rw [if_neg (fun y => z y.2), if_neg z]
    have f6 : ∀ i, i < n → rI (rlF (wL (f_X8_beginAnew D n) 145 0 (rI S 2 n).toInt64) n n) 6 i = if rI S 6 i = nI n then nI i else rI S 6 i := fun i hi => by rw [e0 6 i (by decide), ba_fr _ _ (by decide) (by decide) (by omega) (by omega), D6 i hi]
    have fl : rL (rlF (wL (f_X8_beginAnew D n) 145 0 (rI S 2 n).toInt64) n n) 145 0 = (rI S 2 n).toInt64 := by unfold rlF; rw [rL_wR, rL_wI, rL_wI, rL_wL, if_pos ⟨rfl, rfl⟩]
    have ok2 : okC (rlF (wL (f_X8_beginAnew D n) 145 0 (rI S 2 n).toInt64) n n) n := ok.of (fun a c z => (e0 a c (by omega)).trans (ba_fr _ n (by omega) (by omega) (by omega) (by omega)))
    refine ⟨0, _, _, _, hL, hR, ?_, fun _ => ?_, ?_⟩
    · rw [rs_fr _ _ (by decide) (by decide) (by decide) (by decide)]; exact f0
    · show rL (rlF (wL (f_X8_beginAnew D n) 145 0 (rI S 2 n).toInt64) n n) 145 0 = _
      exact fl
    · clear hR hL hct
      revert e0 f f0 f10 f120 f6 fl ok2
      generalize rlF (wL (f_X8_beginAnew D n) 145 0 (rI S 2 n).toInt64) n n = R0
      intro e0 f f0 f10 f120 f6 fl ok2
      obtain ⟨h1, h2, h3, h4, h5, h6, _, _⟩ := hA
      refine anew2 (C := D) ⟨ok2, f10, fun j hj => ?_⟩ (fun c => by rw [f 7 c (by omega) (by omega) (by omega) (by omega) (by omega) (by omega) (by omega)]; exact h2 c) (by rw [f 40 3 (by omega) (by omega) (by omega) (by omega) (by omega) (by omega) (by omega)]; exact h3) (fun c => by rw [f 43 c (by omega) (by omega) (by omega) (by omega) (by omega) (by omega) (by omega)]; exact h4 c) (fun j hj => by rw [f 8 j (by omega) (by omega) (by omega) (by omega) (by omega) (by omega) (by omega)]; exact h5 j (by omega)) (fun j hj => by rw [f 8 j (by omega) (by omega) (by omega) (by omega) (by omega) (by omega) (by omega), f 122 j (by omega) (by omega) (by omega) (by omega) (by omega) (by omega) (by omega)]; exact h6 j (by omega)) (fun j hj => ?_) (fun j hj => by rw [f 2 j (by omega) (by omega) (by omega) (by omega) (by omega) (by omega) (by omega), f 9 j (by omega) (by omega) (by omega) (by omega) (by omega) (by omega) (by omega), f 123 j (by omega) (by omega) (by omega) (by omega) (by omega) (by omega) (by omega)]; exact hH.2.2.1 j (by omega)) (hX.of (fun a c z => f a c (by omega) (by omega) (by omega) (by omega) (by omega) (by omega) (by omega))) e0
      · obtain ⟨⟨s1, s2, s3, s4, s5, s6⟩, hb⟩ := h1.2.2 j (by omega)
        unfold CS cB
        rw [f 2 j (by omega) (by omega) (by omega) (by omega) (by omega) (by omega) (by omega), f 3 j (by omega) (by omega) (by omega) (by omega) (by omega) (by omega) (by omega), f 4 j (by omega) (by omega) (by omega) (by omega) (by omega) (by omega) (by omega), f 5 j (by omega) (by omega) (by omega) (by omega) (by omega) (by omega) (by omega), f 7 j (by omega) (by omega) (by omega) (by omega) (by omega) (by omega) (by omega), f 116 j (by omega) (by omega) (by omega) (by omega) (by omega) (by omega) (by omega), f 117 j (by omega) (by omega) (by omega) (by omega) (by omega) (by omega) (by omega), f 118 j (by omega) (by omega) (by omega) (by omega) (by omega) (by omega) (by omega), f 119 j (by omega) (by omega) (by omega) (by omega) (by omega) (by omega) (by omega), f 121 j (by omega) (by omega) (by omega) (by omega) (by omega) (by omega) (by omega)]
        refine ⟨⟨s1, s2, s3, s4, fun z => ?_, s6⟩, hb⟩
        rw [f6 j hj, f120 j hj, s5 z]
      · rw [f 2 j (by omega) (by omega) (by omega) (by omega) (by omega) (by omega) (by omega), f120 j hj]
        intro z
        rw [hH.2.1 j (by omega) z]
        have hne : ¬ (-1 : Int32) = nI n := fun y => by
          have := congrArg Int32.toInt y
          rw [nI_toInt (by omega)] at this
          have e1 : (-1 : Int32).toInt = -1 := rfl
          omega
        rw [if_neg hne]

