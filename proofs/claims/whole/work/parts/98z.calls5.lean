theorem q_setInput {S : gS} (h : Inv S) (r v : Int32) : A1 mL_setInput [.ref 0, .int r, .int v, .ref 145] mX9_setInput [.ref 115, .int r, .int v] S Int32.toInt64 := by
  obtain ⟨n, hA, hH, hX⟩ := h
  have hn := hA.1.1.1
  have h24 := hA.1.1.2.1
  have hct := ct_X8_setInput S r v n hA.1.1
  by_cases hs : sgn (nI n) r
  · obtain ⟨i, i1, i2, i3⟩ := nI_ofInt hs h24
    have hhas : ¬ f_X0_has S r = 0 := fun z => (has_s hn).mp z hs
    obtain ⟨s1, s2, s3, s4, s5, s6⟩ := (hA.1.2.2 i i1).1
    by_cases hk : rI S 2 i = 0
    · by_cases hb : ¬ v < rI S 3 i ∧ v ≤ rI S 4 i
      · have hb2 : (rI S 117 i).toInt64 ≤ v.toInt64 ∧ v.toInt64 ≤ (rI S 118 i).toInt64 := by
          rw [s2, s3, w_le, w_le]
          exact ⟨by have := hb.1; rw [il] at this; rw [ile]; omega, hb.2⟩
        have e : f_X8_setInput S r v = (0, rI S 9 i, wI S 9 i v) := by unfold f_X8_setInput; rw [if_neg hhas, i3, if_pos hk, if_neg hb.1, if_pos hb.2]
        rw [e] at hct
        have hL := ct_L_setInput S _ r v 0 _ hct (Or.inl rfl)
        rw [if_pos rfl, if_pos rfl] at hL
        have hR := ct_X9_setInput (wL (wI S 9 i v) 145 0 (rI S 9 i).toInt64) r v n (by rw [rI_wL, rI_wIk (by decide)]; exact hA.1.2.1) h24
        have hK : siK (wL (wI S 9 i v) 145 0 (rI S 9 i).toInt64) n r v = 0 := by
          unfold siK
          rw [i3, rI_wL, rI_wL, rI_wL, rI_wIk (by decide), rI_wIk (by decide), rI_wIk (by decide), if_neg (fun z => z hs), if_neg (fun z => z (s1.trans hk)), if_neg (fun z => z hb2)]
        rw [if_pos hK, if_pos hK, i3] at hR
        refine ⟨0, _, _, _, hL, hR, ?_, fun _ => ?_, ?_⟩
        · rw [rI_wIk (by decide), rI_same]
        · rw [rL_wI, rL_wI, rL_wL, if_pos ⟨rfl, rfl⟩, rI_wL, rI_wIk (by decide), hH.2.2.1 i i1 hk]
        · have f : ∀ a c, ¬ (a = 9 ∧ c = i) → ¬ (a = 115 ∧ c = 0) → ¬ (a = 123 ∧ c = i) → rI (wI (wI (wL (wI S 9 i v) 145 0 (rI S 9 i).toInt64) 115 0 0) 123 i v) a c = rI S a c := fun a c z1 z2 z3 => by rw [rI_wIc z3, rI_wIc z2, rI_wL, rI_wIc z1]
          have g : ∀ a c, a ≠ 145 → rL (wI (wI (wL (wI S 9 i v) 145 0 (rI S 9 i).toInt64) 115 0 0) 123 i v) a c = rL S a c := fun a c z => by rw [rL_wI, rL_wI, rL_wL, if_neg (fun q => z q.1), rL_wI]
          have e9 : rI (wI (wI (wL (wI S 9 i v) 145 0 (rI S 9 i).toInt64) 115 0 0) 123 i v) 9 i = v := by rw [rI_wIk (by decide), rI_wIk (by decide), rI_wL, rI_same]
          have e23 : rI (wI (wI (wL (wI S 9 i v) 145 0 (rI S 9 i).toInt64) 115 0 0) 123 i v) 123 i = v := rI_same _ _ _ _
          revert f g e9 e23
          generalize wI (wI (wL (wI S 9 i v) 145 0 (rI S 9 i).toInt64) 115 0 0) 123 i v = R
          intro f g e9 e23
          refine ⟨n, hA.of (fun a c z1 z2 => f a c (by omega) (by omega) (by omega)) (fun a c z => g a c (by omega)), ?_, hX.of (fun a c z => f a c (by omega) (by omega) (by omega))⟩
          obtain ⟨h1, h2, h3, h4, h5⟩ := hH
          refine ⟨?_, fun j hj => ?_, fun j hj => ?_, fun j hj => ?_, fun X hXX j hj => ?_⟩
          · rw [f 1 1 (by omega) (by omega) (by omega), f 115 11 (by omega) (by omega) (by omega)]; exact h1
          · rw [f 2 j (by omega) (by omega) (by omega), f 120 j (by omega) (by omega) (by omega)]; exact h2 j hj
          · by_cases ej : j = i
            · subst ej; rw [e9, e23]; exact fun _ => rfl
            · rw [f 2 j (by omega) (by omega) (by omega), f 9 j (by omega) (by omega) (by omega), f 123 j (by omega) (by omega) (by omega)]; exact h3 j hj
          · by_cases ej : j = i
            · subst ej; rw [f 2 j (by omega) (by omega) (by omega), hk]; exact fun z => absurd z (by decide)
            · rw [f 2 j (by omega) (by omega) (by omega), f 10 j (by omega) (by omega) (by omega), f 123 j (by omega) (by omega) (by omega)]; exact h4 j hj
          · rw [f 2 j (by omega) (by omega) (by omega), f 11 j (by omega) (by omega) (by omega), f 124 j (by omega) (by omega) (by omega)]
            exact h5 X (hXX.of (fun a c z1 z2 z3 => (f a c (by omega) (by omega) (by omega)).symm)) j hj
      · have hb2 : ¬ ((rI S 117 i).toInt64 ≤ v.toInt64 ∧ v.toInt64 ≤ (rI S 118 i).toInt64) := by
          rw [s2, s3, w_le, w_le]
          exact fun z => hb ⟨by have := z.1; rw [ile] at this; rw [il]; omega, z.2⟩
        have e : f_X8_setInput S r v = (1, 0, S) := by
          unfold f_X8_setInput
          rw [if_neg hhas, i3, if_pos hk]
          by_cases z : v < rI S 3 i
          · rw [if_pos z]
          · rw [if_neg z, if_neg (fun y => hb ⟨z, y⟩)]
        rw [e] at hct
        have hL := ct_L_setInput S S r v 1 _ hct (Or.inr (Or.inr (Or.inr rfl)))
        rw [if_neg (by decide), if_neg (by decide), if_neg (by decide), if_neg (by decide)] at hL
        have hR := ct_X9_setInput S r v n hA.1.2.1 h24
        have hK : siK S n r v = 3 := by unfold siK; rw [i3, if_neg (fun z => z hs), if_neg (fun z => z (s1.trans hk)), if_pos hb2]
        rw [hK, if_neg (by decide), if_neg (by decide)] at hR
        exact ⟨3, _, _, _, hL, hR, rI_same _ _ _ _, fun z => absurd z (by decide), Inv.refuse hA hH hX 3⟩
    · have e : f_X8_setInput S r v = (5, 0, S) := by unfold f_X8_setInput; rw [if_neg hhas, i3, if_neg hk]
      rw [e] at hct
      have hL := ct_L_setInput S S r v 5 _ hct (Or.inr (Or.inr (Or.inl rfl)))
      rw [if_neg (by decide), if_neg (by decide), if_pos rfl, if_neg (by decide)] at hL
      have hR := ct_X9_setInput S r v n hA.1.2.1 h24
      have hK : siK S n r v = 2 := by unfold siK; rw [i3, if_neg (fun z => z hs), if_pos (fun z => hk (s1.symm.trans z))]
      rw [hK, if_neg (by decide), if_neg (by decide)] at hR
      exact ⟨2, _, _, _, hL, hR, rI_same _ _ _ _, fun z => absurd z (by decide), Inv.refuse hA hH hX 2⟩
  · have e : f_X8_setInput S r v = (2, 0, S) := by unfold f_X8_setInput; rw [if_pos ((has_s hn).mpr hs)]
    rw [e] at hct
    have hL := ct_L_setInput S S r v 2 _ hct (Or.inr (Or.inl rfl))
    rw [if_neg (by decide), if_pos rfl, if_neg (by decide)] at hL
    have hR := ct_X9_setInput S r v n hA.1.2.1 h24
    have hK : siK S n r v = 1 := by unfold siK; rw [if_pos hs]
    rw [hK, if_neg (by decide), if_neg (by decide)] at hR
    exact ⟨1, _, _, _, hL, hR, rI_same _ _ _ _, fun z => absurd z (by decide), Inv.refuse hA hH hX 1⟩
theorem q_feed {S : gS} (h : Inv S) (c : Int32) (hc : vp_nar .char c = c) : A1 mL_feed [.ref 0, .int c, .ref 145] mX9_feed [.ref 115, .int c] S Int32.toInt64 := by
  obtain ⟨n, hA, hH, hX⟩ := h
  obtain ⟨⟨L, l1, l2, l3, l4⟩, hF, hS1, hS2⟩ := hX
  have hX : IX S := ⟨⟨L, l1, l2, l3, l4⟩, hF, hS1, hS2⟩
  have e80 : (80 : Int32) = nI 80 := rfl
  have hct := ct_X8_feed S c (fun z => by rw [l2] at z ⊢; rw [e80, nI_lt2 (by omega) (by omega)] at z; exact nI_i z (by omega))
  by_cases hL8 : L = 80
  · have e : f_X8_feed S c = (3, 0, S) := by unfold f_X8_feed; rw [l2, hL8, if_neg (by decide)]
    rw [e] at hct
    have hL := ct_L_feed S S c 3 _ hct (Or.inr rfl)
    rw [if_neg (by decide), if_neg (by decide)] at hL
    have hR := ct_X9_feed S c (fun z => absurd (by rw [l3, hL8]; rfl) z)
    have eR : f_X9_feed S c = (0, wI S 115 0 1) := by unfold f_X9_feed; rw [if_pos (by rw [l3, hL8]; rfl)]; rfl
    rw [eR] at hR
    exact ⟨1, _, _, _, hL, hR, rI_same _ _ _ _, fun z => absurd z (by decide), Inv.refuse hA hH hX 1⟩
  · have e : f_X8_feed S c = (0, nI (L + 1), wI (wI S 56 L c) 55 0 (nI (L + 1))) := by
      unfold f_X8_feed f_X5_append
      rw [l2, if_pos (by rw [e80, nI_lt2 (by omega) (by omega)]; omega), nI_c (by omega), hc, nI_p1]
    rw [e] at hct
    have hL := ct_L_feed S _ c 0 _ hct (Or.inl rfl)
    rw [if_pos rfl, if_pos rfl] at hL
    have n80 : ¬ nI L = 80 := fun z => hL8 (nI_inj2 (by omega) (by omega) (z.trans e80))
    have q34 : rI (wL (wI (wI S 56 L c) 55 0 (nI (L + 1))) 145 0 (nI (L + 1)).toInt64) 115 34 = nI L := by rw [rI_wL, rI_wIk (by decide), rI_wIk (by decide)]; exact l3
    have hR := ct_X9_feed (wL (wI (wI S 56 L c) 55 0 (nI (L + 1))) 145 0 (nI (L + 1)).toInt64) c (fun z => by rw [q34]; exact nI_i (by omega) (by omega))
    have eR : f_X9_feed (wL (wI (wI S 56 L c) 55 0 (nI (L + 1))) 145 0 (nI (L + 1)).toInt64) c = (nI (L + 1), wI (wI (wI (wL (wI (wI S 56 L c) 55 0 (nI (L + 1))) 145 0 (nI (L + 1)).toInt64) 115 0 0) 137 L c) 115 34 (nI (L + 1))) := by unfold f_X9_feed; rw [q34, if_neg n80, nI_c (by omega), nI_p1]
    rw [eR] at hR
    refine ⟨0, _, _, _, hL, hR, ?_, fun _ => ?_, ?_⟩
    · show rI (wI _ 115 34 _) 115 0 = 0
      rw [rI_wIc (by decide), rI_wIk (by decide), rI_same]
    · show rL (wI _ 115 34 _) 145 0 = _
      rw [rL_wI, rL_wI, rL_wI, rL_wL, if_pos ⟨rfl, rfl⟩]
    · show Inv (wI (wI (wI (wL (wI (wI S 56 L c) 55 0 (nI (L + 1))) 145 0 (nI (L + 1)).toInt64) 115 0 0) 137 L c) 115 34 (nI (L + 1)))
      have f : ∀ a x, ¬ (a = 56 ∧ x = L) → ¬ (a = 55 ∧ x = 0) → ¬ (a = 115 ∧ (x = 0 ∨ x = 34)) → ¬ (a = 137 ∧ x = L) → rI (wI (wI (wI (wL (wI (wI S 56 L c) 55 0 (nI (L + 1))) 145 0 (nI (L + 1)).toInt64) 115 0 0) 137 L c) 115 34 (nI (L + 1))) a x = rI S a x := fun a x z1 z2 z3 z4 => by rw [rI_wIc (by omega), rI_wIc z4, rI_wIc (by omega), rI_wL, rI_wIc z2, rI_wIc z1]
      have g : ∀ a x, a ≠ 145 → rL (wI (wI (wI (wL (wI (wI S 56 L c) 55 0 (nI (L + 1))) 145 0 (nI (L + 1)).toInt64) 115 0 0) 137 L c) 115 34 (nI (L + 1))) a x = rL S a x := fun a x z => by rw [rL_wI, rL_wI, rL_wI, rL_wL, if_neg (fun q => z q.1), rL_wI, rL_wI]
      have e1 : rI (wI (wI (wI (wL (wI (wI S 56 L c) 55 0 (nI (L + 1))) 145 0 (nI (L + 1)).toInt64) 115 0 0) 137 L c) 115 34 (nI (L + 1))) 56 L = c := by rw [rI_wIk (by decide), rI_wIk (by decide), rI_wIk (by decide), rI_wL, rI_wIk (by decide), rI_same]
      have e2 : rI (wI (wI (wI (wL (wI (wI S 56 L c) 55 0 (nI (L + 1))) 145 0 (nI (L + 1)).toInt64) 115 0 0) 137 L c) 115 34 (nI (L + 1))) 137 L = c := by rw [rI_wIk (by decide), rI_same]
      have e3 : rI (wI (wI (wI (wL (wI (wI S 56 L c) 55 0 (nI (L + 1))) 145 0 (nI (L + 1)).toInt64) 115 0 0) 137 L c) 115 34 (nI (L + 1))) 55 0 = nI (L + 1) := by rw [rI_wIk (by decide), rI_wIk (by decide), rI_wIk (by decide), rI_wL, rI_same]
      have e4 : rI (wI (wI (wI (wL (wI (wI S 56 L c) 55 0 (nI (L + 1))) 145 0 (nI (L + 1)).toInt64) 115 0 0) 137 L c) 115 34 (nI (L + 1))) 115 34 = nI (L + 1) := rI_same _ _ _ _
      revert f g e1 e2 e3 e4
      generalize wI (wI (wI (wL (wI (wI S 56 L c) 55 0 (nI (L + 1))) 145 0 (nI (L + 1)).toInt64) 115 0 0) 137 L c) 115 34 (nI (L + 1)) = R
      intro f g e1 e2 e3 e4
      refine ⟨n, hA.of (fun a x z1 z2 => f a x (by omega) (by omega) (by omega) (by omega)) (fun a x z => g a x (by omega)), hH.of (fun a x z => f a x (by omega) (by omega) (by omega) (by omega)), ⟨L + 1, by omega, e3, e4, fun j hj => ?_⟩, ?_, ?_, ?_⟩
      · by_cases ej : j = L
        · subst ej; rw [e1, e2]
        · rw [f 56 j (by omega) (by omega) (by omega) (by omega), f 137 j (by omega) (by omega) (by omega) (by omega)]; exact l4 j (by omega)
      · obtain ⟨v, v1, v2, v3, v4⟩ := hF
        exact ⟨v, v1, (f 112 0 (by omega) (by omega) (by omega) (by omega)).trans v2, fun l hl => by rw [f 142 l (by omega) (by omega) (by omega) (by omega)]; exact v3 l hl, fun l hl => by rw [f 113 l (by omega) (by omega) (by omega) (by omega), f 142 l (by omega) (by omega) (by omega) (by omega), f 114 l (by omega) (by omega) (by omega) (by omega), f 143 l (by omega) (by omega) (by omega) (by omega)]; exact v4 l hl⟩
      · rw [f 0 11 (by omega) (by omega) (by omega) (by omega), f 115 42 (by omega) (by omega) (by omega) (by omega)]; exact hS1
      · rw [f 115 42 (by omega) (by omega) (by omega) (by omega)]
        intro z
        obtain ⟨Q, m, q1, q2, q3, q4, q5⟩ := hS2 z
        exact ⟨Q, m, q1, fun a x z1 z2 => (f (11 + a) x (by omega) (by omega) (by omega) (by omega)).trans (q2 a x z1 z2), fun k j z1 z2 => (f 144 _ (by omega) (by omega) (by omega) (by omega)).trans (q3 k j z1 z2), (f 144 216 (by omega) (by omega) (by omega) (by omega)).trans q4, (f 144 217 (by omega) (by omega) (by omega) (by omega)).trans q5⟩

