theorem CI.ofb {Sc Sr Tc Tr : gS} {n : Nat} (h : CI Sc Sr n) (e1 : ∀ a c, c < 24 → (a = 1 ∧ c = 0) ∨ (2 ≤ a ∧ a ≤ 7) → rI Tc a c = rI Sc a c) (e2 : ∀ a c, c < 24 → (a = 115 ∧ c = 10) ∨ (116 ≤ a ∧ a ≤ 121) → rI Tr a c = rI Sr a c) : CI Tc Tr n := by
  obtain ⟨⟨o1, o2, o3⟩, h2, h3⟩ := h
  refine ⟨⟨(e1 1 0 (by omega) (by omega)).trans o1, o2, fun i hi => ?_⟩, (e2 115 10 (by omega) (by omega)).trans h2, fun i hi => ?_⟩
  · have := o3 i hi
    unfold okI at this ⊢
    rw [e1 2 i (by omega) (by omega), e1 3 i (by omega) (by omega), e1 4 i (by omega) (by omega), e1 5 i (by omega) (by omega), e1 6 i (by omega) (by omega)]
    exact this
  · have := h3 i hi
    unfold CS cB at this ⊢
    rw [e1 2 i (by omega) (by omega), e1 3 i (by omega) (by omega), e1 4 i (by omega) (by omega), e1 5 i (by omega) (by omega), e1 6 i (by omega) (by omega), e1 7 i (by omega) (by omega), e2 116 i (by omega) (by omega), e2 117 i (by omega) (by omega), e2 118 i (by omega) (by omega), e2 119 i (by omega) (by omega), e2 120 i (by omega) (by omega), e2 121 i (by omega) (by omega)]
    exact this
theorem AR.ofb {S T X : gS} {n : Nat} (h : AR S X n) (e : ∀ a c, c < 24 → (a = 1 ∧ c = 0) ∨ (2 ≤ a ∧ a ≤ 7) → rI T a c = rI S a c) : AR T X n := by
  obtain ⟨Sr, K, G, h1, h2, h3, h4⟩ := h
  exact ⟨Sr, K, G, h1.ofb e (fun a c _ _ => rfl), h2, h3, h4⟩
theorem IC.ofb {S T : gS} {n : Nat} (h : IC S n) (e : ∀ a c, c < 24 → (a = 1 ∧ c < 2) ∨ (2 ≤ a ∧ a ≤ 11) ∨ (a = 115 ∧ (c = 10 ∨ c = 11)) ∨ (116 ≤ a ∧ a ≤ 124) → rI T a c = rI S a c) (g : ∀ c, ¬ c < 24 → rI T 7 c = 0 ∨ rI T 7 c = 1) : IC T n := by
  obtain ⟨h1, h2, h3, h4, h5, h6, h7, h8, h9⟩ := h
  have h24 := h1.1.2.1
  refine ⟨h1.ofb (fun a c z1 z2 => e a c z1 (by omega)) (fun a c z1 z2 => e a c z1 (by omega)), fun c => ?_, fun i hi => ?_, fun i hi => ?_, ?_, fun i hi => ?_, fun i hi => ?_, fun i hi => ?_, fun X hX i hi => ?_⟩
  · by_cases z : c < 24
    · rw [e 7 c z (by omega)]; exact h2 c
    · exact g c z
  · rw [e 8 i (by omega) (by omega)]; exact h3 i hi
  · rw [e 8 i (by omega) (by omega), e 122 i (by omega) (by omega)]; exact h4 i hi
  · rw [e 1 1 (by omega) (by omega), e 115 11 (by omega) (by omega)]; exact h5
  · rw [e 2 i (by omega) (by omega), e 120 i (by omega) (by omega)]; exact h6 i hi
  · rw [e 2 i (by omega) (by omega), e 9 i (by omega) (by omega), e 123 i (by omega) (by omega)]; exact h7 i hi
  · rw [e 2 i (by omega) (by omega), e 10 i (by omega) (by omega), e 123 i (by omega) (by omega)]; exact h8 i hi
  · rw [e 2 i (by omega) (by omega), e 11 i (by omega) (by omega), e 124 i (by omega) (by omega)]
    exact h9 X (hX.ofb (fun a c z1 z2 => (e a c z1 (by omega)).symm)) i hi
/-- as IA.of, where the reference may forget what it found -/
theorem IA.of2 {S T : gS} {n : Nat} (h : IA S n) (e : ∀ a c, ¬ (a = 1 ∧ c = 1) → (1 ≤ a ∧ a ≤ 8) ∨ (a = 0 ∧ c = 12) ∨ (36 ≤ a ∧ a ≤ 50) ∨ (a = 115 ∧ (c = 10 ∨ c = 14)) ∨ (116 ≤ a ∧ a ≤ 122) ∨ (a = 127 ∨ a = 128) → rI T a c = rI S a c) (f : rI T 115 15 ≠ 0 → rI S 115 15 ≠ 0) (l : ∀ a c, a = 125 ∨ a = 126 → rL T a c = rL S a c) : IA T n := by
  obtain ⟨h1, h2, h3, h4, h5, h6, h7, h8⟩ := h
  have back : ∀ a c, a < 8 → ¬ (a = 1 ∧ c = 1) → a ≠ 0 → rI S a c = rI T a c := fun a c z1 z2 z3 => (e a c z2 (by omega)).symm
  refine ⟨h1.of (fun a c z1 z2 z3 => e a c z2 (by omega)) (fun a c z => e a c (by omega) (by omega)), fun c => by rw [e 7 c (by omega) (by omega)]; exact h2 c, by rw [e 40 3 (by omega) (by omega)]; exact h3, fun c => by rw [e 43 c (by omega) (by omega)]; exact h4 c, fun i hi => by rw [e 8 i (by omega) (by omega)]; exact h5 i hi, fun i hi => by rw [e 8 i (by omega) (by omega), e 122 i (by omega) (by omega)]; exact h6 i hi, i4_of h7 (fun a c z1 z2 => e a c z1 (by omega)), ?_⟩
  intro z X hX
  exact (h8 (f z) X (hX.of back)).of (fun i => l 125 i (by omega)) (fun i => l 126 i (by omega)) (fun i => e 127 i (by omega) (by omega)) (fun i => e 128 i (by omega) (by omega)) (e 115 14 (by omega) (by omega))
theorem q_saveSnapshot {S : gS} (h : Inv S) : A0 mX8_saveSnapshot mX9_saveSnapshot S := by
  obtain ⟨n, hA, hH, hX⟩ := h
  have hn := hA.1.1.1
  have hct := ct_X8_saveSnapshot S
  obtain ⟨c1, ⟨c2, c3⟩, c4, c5⟩ := cp_12_1 S (fun c _ => hA.2.1 c)
  have cl : ∀ a c, rL (f_copy12_1 S) a c = rL S a c := fun a c => fl_f_copy12_1 S a c
  have e : f_X8_saveSnapshot S = (rI (f_copy12_1 S) 1 0, wI (f_copy12_1 S) 0 11 1) := rfl
  rw [e, c4 1 0 (by decide), hn] at hct
  clear e
  revert c1 c2 c3 c4 c5 cl hct
  generalize f_copy12_1 S = C
  intro hct c1 c2 c3 c4 c5 cl
  have hR := ct_X9_saveSnapshot (wI C 0 11 1)
  have e : f_X9_saveSnapshot (wI C 0 11 1) = (rI (f_pass01 (wI (wI (wI C 0 11 1) 115 0 0) 115 42 1)) 115 10, f_pass01 (wI (wI (wI C 0 11 1) 115 0 0) 115 42 1)) := rfl
  rw [e] at hR
  clear e
  obtain ⟨k1, k2, k3, k4, k5⟩ := d_pass01 (wI (wI (wI C 0 11 1) 115 0 0) 115 42 1)
  have kl : ∀ a c, rL (f_pass01 (wI (wI (wI C 0 11 1) 115 0 0) 115 42 1)) a c = rL S a c := fun a c => by rw [fl_f_pass01, rL_wI, rL_wI, rL_wI, cl]
  have u : ∀ a c, ¬ (a = 0 ∧ c = 11) → ¬ (a = 115 ∧ (c = 0 ∨ c = 42)) → rI (wI (wI (wI C 0 11 1) 115 0 0) 115 42 1) a c = rI C a c := fun a c z1 z2 => by rw [rI_wIc (by omega), rI_wIc (by omega), rI_wIc (by omega)]
  have u11 : rI (wI (wI (wI C 0 11 1) 115 0 0) 115 42 1) 0 11 = 1 := by rw [rI_wIk (by decide), rI_wIk (by decide), rI_same]
  have u42 : rI (wI (wI (wI C 0 11 1) 115 0 0) 115 42 1) 115 42 = 1 := rI_same _ _ _ _
  revert hR k1 k2 k3 k4 k5 kl u u11 u42
  generalize f_pass01 (wI (wI (wI C 0 11 1) 115 0 0) 115 42 1) = T
  generalize wI (wI (wI C 0 11 1) 115 0 0) 115 42 1 = U
  intro hR k1 k2 k3 k4 k5 kl u u11 u42
  have f : ∀ a c, ¬ (a = 0 ∧ c = 11) → ¬ (a = 115 ∧ (c = 0 ∨ c = 42 ∨ c = 43 ∨ c = 44 ∨ c = 15)) → ¬ (12 ≤ a ∧ a ≤ 22) → ¬ (a = 144 ∧ c < 218) → rI T a c = rI S a c := fun a c z1 z2 z3 z4 => (k4 a c (by omega) (by omega)).trans ((u a c (by omega) (by omega)).trans (c4 a c (by omega)))
  have e10 : rI T 115 10 = nI n := (f 115 10 (by omega) (by omega) (by omega) (by omega)).trans hA.1.2.1
  rw [e10] at hR
  refine ⟨_, _, _, hct, hR, n, hA.of2 (fun a c z1 z2 => f a c (by omega) (by omega) (by omega) (by omega)) (fun z => ?_) (fun a c z => kl a c), hH.of (fun a c z => f a c (by omega) (by omega) (by omega) (by omega)), ?_⟩
  · have := k5 z
    rw [u 115 15 (by decide) (by decide), c4 115 15 (by decide)] at this
    exact this
  · obtain ⟨⟨L, l1, l2, l3, l4⟩, ⟨v, v1, v2, v3, v4⟩, h3, h4⟩ := hX
    have w11 : rI T 0 11 = 1 := (k4 0 11 (by omega) (by omega)).trans u11
    have w42 : rI T 115 42 = 1 := (k4 115 42 (by omega) (by omega)).trans u42
    refine ⟨⟨L, l1, (f 55 0 (by omega) (by omega) (by omega) (by omega)).trans l2, (f 115 34 (by omega) (by omega) (by omega) (by omega)).trans l3, fun j hj => by rw [f 56 j (by omega) (by omega) (by omega) (by omega), f 137 j (by omega) (by omega) (by omega) (by omega)]; exact l4 j hj⟩, ⟨v, v1, (f 112 0 (by omega) (by omega) (by omega) (by omega)).trans v2, fun l hl => by rw [f 142 l (by omega) (by omega) (by omega) (by omega)]; exact v3 l hl, fun l hl => by rw [f 113 l (by omega) (by omega) (by omega) (by omega), f 142 l (by omega) (by omega) (by omega) (by omega), f 114 l (by omega) (by omega) (by omega) (by omega), f 143 l (by omega) (by omega) (by omega) (by omega)]; exact v4 l hl⟩, by rw [w11, w42], fun _ => ?_⟩
    refine ⟨wR S 1 (fun c => if c < 2 then rI S 1 c else rI T 12 c), n, ?_, ?_, ?_, ?_, ?_⟩
    · refine IC.ofb (S := S) ⟨hA.1, hA.2.1, hA.2.2.2.2.1, hA.2.2.2.2.2.1, hH⟩ (fun a c z1 z2 => ?_) (fun c _ => by rw [rI_wR, if_neg (by decide)]; exact hA.2.1 c)
      rw [rI_wR]
      by_cases q : a = 1
      · rw [if_pos q, if_pos (by omega), q]
      · rw [if_neg q]
    · intro a c z1 z2
      rw [rI_wR]
      by_cases q : a = 1
      · subst q
        rw [if_pos rfl]
        by_cases q2 : c < 2
        · rw [if_pos q2, k4 (11 + 1) c (by omega) (by omega), u (11 + 1) c (by omega) (by omega)]
          have : c = 0 ∨ c = 1 := by omega
          rcases this with y | y <;> subst y
          · exact c2
          · exact c3
        · rw [if_neg q2]
      · rw [if_neg q, k4 (11 + a) c (by omega) (by omega), u (11 + a) c (by omega) (by omega), show 11 + a = 12 + (a - 1) by omega, c1 (a - 1) c (by omega) (by omega) z2, show 1 + (a - 1) = a by omega]
    · intro k j hk hj
      rw [rI_wR, if_neg (by omega)]
      have := k1 k j hk hj
      rw [Nat.zero_add, u (116 + k) j (by omega) (by omega), c4 (116 + k) j (by omega)] at this
      exact this
    · rw [rI_wR, if_neg (by omega)]
      rw [Nat.zero_add, u 115 10 (by omega) (by omega), c4 115 10 (by omega)] at k2
      exact k2
    · rw [rI_wR, if_neg (by omega)]
      rw [Nat.zero_add, u 115 11 (by omega) (by omega), c4 115 11 (by omega)] at k3
      exact k3
theorem q_restoreSnapshot {S : gS} (h : Inv S) : A1 mL_restoreSnapshot [.ref 0, .ref 145] mX9_restoreSnapshot [.ref 115] S Int32.toInt64 := by
  obtain ⟨n, hA, hH, hX⟩ := h
  have hct := ct_X8_restoreSnapshot S
  by_cases hs : rI S 115 42 = 0
  · have e : f_X8_restoreSnapshot S = (3, 0, S) := by unfold f_X8_restoreSnapshot; rw [if_pos (hX.2.2.1.mpr hs)]
    rw [e] at hct
    have hL := ct_L_restoreSnapshot S S 3 _ hct (Or.inr rfl)
    rw [if_neg (by decide), if_neg (by decide)] at hL
    have hR := ct_X9_restoreSnapshot S
    have e2 : f_X9_restoreSnapshot S = (0, wI S 115 0 1) := by unfold f_X9_restoreSnapshot; rw [if_pos hs]; rfl
    rw [e2] at hR
    exact ⟨1, _, _, _, hL, hR, rI_same _ _ _ _, fun z => absurd z (by decide), Inv.refuse hA hH hX 1⟩
  · have e : f_X8_restoreSnapshot S = (0, (rI (f_copy1_12 S) 1 0), (wI (f_copy1_12 S) 0 12 0)) := by unfold f_X8_restoreSnapshot; rw [if_neg (fun z => hs (hX.2.2.1.mp z))]
    rw [e] at hct
    clear e
    obtain ⟨Q, m, qC, q1, q2, q3, q4⟩ := hX.2.2.2 hs
    obtain ⟨c1, ⟨c2, c3⟩, c4, c5⟩ := cp_1_12 S (fun c hc => by rw [show 18 = 11 + 7 from rfl, q1 7 c (by omega) hc]; exact qC.2.1 c)
    have cl : ∀ a c, rL (f_copy1_12 S) a c = rL S a c := fun a c => fl_f_copy1_12 S a c
    have hm : rI Q 1 0 = nI m := qC.1.1.1
    have hv : rI (f_copy1_12 S) 1 0 = nI m := by rw [c2, show 12 = 11 + 1 from rfl, q1 1 0 (by omega) (by omega), hm]
    rw [hv] at hct
    clear hv
    revert c1 c2 c3 c4 c5 cl hct
    generalize f_copy1_12 S = C
    intro hct c1 c2 c3 c4 c5 cl
    have hL := ct_L_restoreSnapshot S _ 0 _ hct (Or.inl rfl)
    rw [if_pos rfl, if_pos rfl] at hL
    have hR := ct_X9_restoreSnapshot (wL (wI C 0 12 0) 145 0 (nI m).toInt64)
    have g42 : ¬ rI (wL (wI C 0 12 0) 145 0 (nI m).toInt64) 115 42 = 0 := by rw [rI_wL, rI_wIk (by decide), c4 115 42 (by decide)]; exact hs
    have e2 : f_X9_restoreSnapshot (wL (wI C 0 12 0) 145 0 (nI m).toInt64) = (rI (f_pass00 (wI (wL (wI C 0 12 0) 145 0 (nI m).toInt64) 115 0 0)) 115 10, f_pass00 (wI (wL (wI C 0 12 0) 145 0 (nI m).toInt64) 115 0 0)) := by unfold f_X9_restoreSnapshot; rw [if_neg g42]
    rw [e2] at hR
    clear e2 g42
    obtain ⟨k1, k2, k3, k4, k5⟩ := d_pass00 (wI (wL (wI C 0 12 0) 145 0 (nI m).toInt64) 115 0 0)
    have kl : rL (f_pass00 (wI (wL (wI C 0 12 0) 145 0 (nI m).toInt64) 115 0 0)) 145 0 = (nI m).toInt64 := by rw [fl_f_pass00, rL_wI, rL_wL, if_pos ⟨rfl, rfl⟩]
    have u : ∀ a c, ¬ (a = 0 ∧ c = 12) → ¬ (a = 115 ∧ c = 0) → rI (wI (wL (wI C 0 12 0) 145 0 (nI m).toInt64) 115 0 0) a c = rI C a c := fun a c z1 z2 => by rw [rI_wIc z2, rI_wL, rI_wIc z1]
    have u12 : rI (wI (wL (wI C 0 12 0) 145 0 (nI m).toInt64) 115 0 0) 0 12 = 0 := by rw [rI_wIk (by decide), rI_wL, rI_same]
    have u0 : rI (wI (wL (wI C 0 12 0) 145 0 (nI m).toInt64) 115 0 0) 115 0 = 0 := rI_same _ _ _ _
    clear hL
    have hL := ct_L_restoreSnapshot S _ 0 _ hct (Or.inl rfl)
    rw [if_pos rfl, if_pos rfl] at hL
    revert hR k1 k2 k3 k4 k5 kl u u12 u0
    generalize f_pass00 (wI (wL (wI C 0 12 0) 145 0 (nI m).toInt64) 115 0 0) = T
    generalize wI (wL (wI C 0 12 0) 145 0 (nI m).toInt64) 115 0 0 = U
    intro hR k1 k2 k3 k4 k5 kl u u12 u0
    have kk : ∀ c, c < 218 → rI U 144 c = rI S 144 c := fun c _ => (u 144 c (by omega) (by omega)).trans (c4 144 c (by omega))
    have e10 : rI T 115 10 = nI m := by rw [k2, kk _ (by omega)]; exact q3.trans qC.1.2.1
    have f : ∀ a c, ¬ (a = 0 ∧ c = 12) → ¬ (1 ≤ a ∧ a ≤ 11) → ¬ (a = 115 ∧ (c = 0 ∨ c = 10 ∨ c = 11 ∨ c = 15 ∨ c = 43 ∨ c = 44)) → ¬ (116 ≤ a ∧ a ≤ 124) → rI T a c = rI S a c := fun a c z1 z2 z3 z4 => (k5 a c (by omega) (by omega)).trans ((u a c (by omega) (by omega)).trans (c4 a c (by omega)))
    have tC : IC T m := by
      refine qC.ofb (fun a c z1 z2 => ?_) (fun c z => ?_)
      · by_cases y1 : a = 1 ∧ c < 2
        · obtain ⟨y1, y2⟩ := y1
          subst y1
          rw [k5 1 c (by omega) (by omega), u 1 c (by omega) (by omega), ← q1 1 c (by omega) z1]
          have : c = 0 ∨ c = 1 := by omega
          rcases this with y | y <;> subst y
          · exact c2
          · exact c3
        · by_cases y2 : 2 ≤ a ∧ a ≤ 11
          · rw [k5 a c (by omega) (by omega), u a c (by omega) (by omega), ← q1 a c (by omega) z1, show a = 1 + (a - 1) by omega, c1 (a - 1) c (by omega) (by omega) z1, show 11 + (1 + (a - 1)) = 12 + (a - 1) by omega]
          · by_cases y3 : 116 ≤ a
            · have := k1 (a - 116) c (by omega) z1
              rw [show 116 + (a - 116) = a by omega] at this
              rw [this, Nat.zero_add, kk _ (by omega), q2 (a - 116) c (by omega) z1, show 116 + (a - 116) = a by omega]
            · have ya : a = 115 := by omega
              subst ya
              have : c = 10 ∨ c = 11 := by omega
              rcases this with y | y <;> subst y
              · rw [k2, kk _ (by omega)]; exact q3
              · rw [k3, kk _ (by omega)]; exact q4
      · rw [k5 7 c (by omega) (by omega), u 7 c (by omega) (by omega), c5 c z]; exact hA.2.1 c
    rw [e10] at hR
    have t12 : rI T 0 12 = 0 := (k5 0 12 (by omega) (by omega)).trans u12
    refine ⟨0, _, _, _, hL, hR, (k5 115 0 (by omega) (by omega)).trans u0, fun _ => kl, m, ⟨tC.1, tC.2.1, by rw [f 40 3 (by omega) (by omega) (by omega) (by omega)]; exact hA.2.2.1, fun c => by rw [f 43 c (by omega) (by omega) (by omega) (by omega)]; exact hA.2.2.2.1 c, tC.2.2.1, tC.2.2.2.1, fun z => absurd t12 z, fun z => absurd k4 z⟩, tC.2.2.2.2, hX.of (fun a c z => f a c (by omega) (by omega) (by omega) (by omega))⟩

