theorem IH.of2 {S T : gS} {n : Nat} (h : IH S n) (e : ∀ a c, (1 ≤ a ∧ a ≤ 7) ∨ (9 ≤ a ∧ a ≤ 11) ∨ (a = 115 ∧ c = 11) ∨ a = 120 ∨ a = 123 ∨ a = 124 → rI T a c = rI S a c) : IH T n := by
  obtain ⟨h1, h2, h3, h4, h5⟩ := h
  refine ⟨?_, fun i hi => ?_, fun i hi => ?_, fun i hi => ?_, fun X hX i hi => ?_⟩
  · rw [e 1 1 (by omega), e 115 11 (by omega)]; exact h1
  · rw [e 2 i (by omega), e 120 i (by omega)]; exact h2 i hi
  · rw [e 2 i (by omega), e 9 i (by omega), e 123 i (by omega)]; exact h3 i hi
  · rw [e 2 i (by omega), e 10 i (by omega), e 123 i (by omega)]; exact h4 i hi
  · rw [e 2 i (by omega), e 11 i (by omega), e 124 i (by omega)]
    exact h5 X (hX.of (fun a c z1 z2 z3 => (e a c (by omega)).symm)) i hi
/-- out and thrown are not seen -/
theorem Inv.out {S : gS} {n : Nat} (hA : IA S n) (hH : IH S n) (hX : IX S) (v : Int64) (k : Int32) : Inv (wI (wL S 145 0 v) 115 0 k) := ⟨n, hA.of (fun a c z1 z2 => (rI_wIc (by omega) _ _).trans (rI_wL _ _ _ _ _ _)) (fun a c z => (rL_wI _ _ _ _ _ _).trans ((rL_wL _ _ _ _ _ _).trans (if_neg (by omega)))), hH.of (fun a c z => (rI_wIc (by omega) _ _).trans (rI_wL _ _ _ _ _ _)), hX.of (fun a c z => (rI_wIc (by omega) _ _).trans (rI_wL _ _ _ _ _ _))⟩
theorem q_count {S : gS} (h : Inv S) : A0 mX8_count mX9_count S := by
  obtain ⟨n, hA, hH, hX⟩ := h
  have hR := ct_X9_count S
  rw [hA.1.2.1, ← hA.1.1.1] at hR
  exact ⟨_, _, _, ct_X8_count S, hR, Inv.refuse hA hH hX 0⟩
theorem b06_c {w : Int32} : b06 w ↔ (w = 0 ∨ w = 1 ∨ w = 2 ∨ w = 3 ∨ w = 4 ∨ w = 5 ∨ w = 6) := by
  unfold b06
  rw [show (0 : Int64) = (0 : Int32).toInt64 from rfl, w_le, ile, show (6 : Int64) = (6 : Int32).toInt64 from rfl, w_le, ile]
  simp only [ieq]
  simp
  omega
theorem q_signal {S : gS} (h : Inv S) (r w : Int32) : A1 mL_signal [.ref 0, .int r, .int w, .ref 145] mX9_signal [.ref 115, .int r, .int w] S Int32.toInt64 := by
  obtain ⟨n, hA, hH, hX⟩ := h
  have hn := hA.1.1.1
  have h24 := hA.1.1.2.1
  have hct := ct_X8_signal S r w n hA.1.1
  by_cases hs : sgn (nI n) r
  · obtain ⟨i, i1, i2, i3⟩ := nI_ofInt hs h24
    have hhas : ¬ f_X0_has S r = 0 := fun z => (has_s hn).mp z hs
    by_cases hb : b06 w
    · obtain ⟨s1, s2, s3, s4, s5, s6⟩ := (hA.1.2.2 i i1).1
      have key : f_X8_signal S r w = (0, rI S (116 + w.toNatClampNeg) i, S) := by
        unfold f_X8_signal
        rw [if_neg hhas, i3]
        rcases b06_c.mp hb with q | q | q | q | q | q | q
        · subst q; rw [if_pos rfl, ← s1]; rfl
        · subst q; rw [if_neg (by decide), if_pos rfl, ← s2]; rfl
        · subst q; rw [if_neg (by decide), if_neg (by decide), if_pos rfl, ← s3]; rfl
        · subst q; rw [if_neg (by decide), if_neg (by decide), if_neg (by decide), if_pos rfl, ← s4]; rfl
        · subst q
          rw [if_neg (by decide), if_neg (by decide), if_neg (by decide), if_neg (by decide), if_pos rfl]
          by_cases c2 : rI S 2 i = 2
          · rw [if_pos c2, ← s5 c2]; rfl
          · rw [if_neg c2, ← hH.2.1 i i1 c2]; rfl
        · subst q
          rw [if_neg (by decide), if_neg (by decide), if_neg (by decide), if_neg (by decide), if_neg (by decide), if_pos rfl]
          rcases hA.2.1 i with y | y
          · rw [if_pos y, ← y, ← s6]; rfl
          · rw [y, if_neg (by decide), ← y, ← s6]; rfl
        · subst q; rw [if_neg (by decide), if_neg (by decide), if_neg (by decide), if_neg (by decide), if_neg (by decide), if_neg (by decide), if_pos rfl, ← hA.2.2.2.2.2.1 i i1]; rfl
      rw [key] at hct
      have hL := ct_L_signal S S r w 0 _ hct (Or.inl rfl)
      rw [if_pos rfl, if_pos rfl] at hL
      have hR := ct_X9_signal (wL S 145 0 (rI S (116 + w.toNatClampNeg) i).toInt64) r w n hA.1.2.1 h24
      rw [if_pos ⟨hs, hb⟩, if_neg (fun z => z hs), if_neg (fun z => z hb)] at hR
      refine ⟨0, _, _, _, hL, hR, rI_same _ _ _ _, fun _ => ?_, Inv.out hA hH hX _ 0⟩
      rw [rL_wI, rL_wL, if_pos ⟨rfl, rfl⟩, rI_wL, i3]
    · have e : f_X8_signal S r w = (1, 0, S) := by
        unfold f_X8_signal
        have hq := fun z => hb (b06_c.mpr z)
        rw [if_neg hhas, if_neg (fun z => hq (Or.inl z)), if_neg (fun z => hq (Or.inr (Or.inl z))), if_neg (fun z => hq (Or.inr (Or.inr (Or.inl z)))), if_neg (fun z => hq (Or.inr (Or.inr (Or.inr (Or.inl z))))), if_neg (fun z => hq (Or.inr (Or.inr (Or.inr (Or.inr (Or.inl z)))))), if_neg (fun z => hq (Or.inr (Or.inr (Or.inr (Or.inr (Or.inr (Or.inl z))))))), if_neg (fun z => hq (Or.inr (Or.inr (Or.inr (Or.inr (Or.inr (Or.inr z)))))))]
      rw [e] at hct
      have hL := ct_L_signal S S r w 1 _ hct (Or.inr (Or.inr rfl))
      rw [if_neg (by decide), if_neg (by decide), if_neg (by decide)] at hL
      have hR := ct_X9_signal S r w n hA.1.2.1 h24
      rw [if_neg (fun z => hb z.2), if_neg (fun z => z hs), if_pos hb] at hR
      exact ⟨2, _, _, _, hL, hR, rI_same _ _ _ _, fun z => absurd z (by decide), Inv.refuse hA hH hX 2⟩
  · have e : f_X8_signal S r w = (2, 0, S) := by unfold f_X8_signal; rw [if_pos ((has_s hn).mpr hs)]
    rw [e] at hct
    have hL := ct_L_signal S S r w 2 _ hct (Or.inr (Or.inl rfl))
    rw [if_neg (by decide), if_pos rfl, if_neg (by decide)] at hL
    have hR := ct_X9_signal S r w n hA.1.2.1 h24
    rw [if_neg (fun z => hs z.1), if_pos hs] at hR
    exact ⟨1, _, _, _, hL, hR, rI_same _ _ _ _, fun z => absurd z (by decide), Inv.refuse hA hH hX 1⟩
abbrev b03 (p : Int32) : Prop := (0 : Int64) ≤ p.toInt64 ∧ p.toInt64 ≤ 3
theorem b03_c {p : Int32} : b03 p ↔ (¬ p < 0 ∧ p ≤ 3) := by
  unfold b03
  rw [show (0 : Int64) = (0 : Int32).toInt64 from rfl, w_le, ile, show (3 : Int64) = (3 : Int32).toInt64 from rfl, w_le, ile, il]
  constructor
  · rintro ⟨a, b⟩; exact ⟨by omega, b⟩
  · rintro ⟨a, b⟩; exact ⟨by omega, b⟩
theorem b03_n {p : Int32} (h : ¬ p < 0 ∧ p ≤ 3) : ∃ k, k < 4 ∧ p = nI k := by
  have hh : p = 0 ∨ p = 1 ∨ p = 2 ∨ p = 3 := by
    simp only [ieq, il, ile] at *
    simp at *
    omega
  rcases hh with q | q | q | q
  · exact ⟨0, by decide, q⟩
  · exact ⟨1, by decide, q⟩
  · exact ⟨2, by decide, q⟩
  · exact ⟨3, by decide, q⟩
theorem q_setPhase {S : gS} (h : Inv S) (r p : Int32) : A1 mL_setPhase [.ref 0, .int r, .int p, .ref 145] mX9_setPhase [.ref 115, .int r, .int p] S Int32.toInt64 := by
  obtain ⟨n, hA, hH, hX⟩ := h
  have hn := hA.1.1.1
  have h24 := hA.1.1.2.1
  have hct := ct_X8_setPhase S r p n hA.1.1
  by_cases hs : sgn (nI n) r
  · obtain ⟨i, i1, i2, i3⟩ := nI_ofInt hs h24
    have hhas : ¬ f_X0_has S r = 0 := fun z => (has_s hn).mp z hs
    by_cases hb : b03 p
    · obtain ⟨p1, p2⟩ := b03_c.mp hb
      have e : f_X8_setPhase S r p = (0, rI S 8 i, wI (wI S 8 i p) 0 12 0) := by unfold f_X8_setPhase; rw [if_neg hhas, if_neg p1, if_pos p2, i3]
      rw [e] at hct
      have hL := ct_L_setPhase S _ r p 0 _ hct (Or.inl rfl)
      rw [if_pos rfl, if_pos rfl] at hL
      have hR := ct_X9_setPhase (wL (wI (wI S 8 i p) 0 12 0) 145 0 (rI S 8 i).toInt64) r p n (by rw [rI_wL, rI_wIk (by decide), rI_wIk (by decide)]; exact hA.1.2.1) h24
      rw [if_pos ⟨hs, hb⟩, if_neg (fun z => z hs), if_neg (fun z => z hb), i3] at hR
      refine ⟨0, _, _, _, hL, hR, ?_, fun _ => ?_, ?_⟩
      · rw [rI_wIk (by decide), rI_same]
      · rw [rL_wI, rL_wI, rL_wL, if_pos ⟨rfl, rfl⟩, rI_wL, rI_wIk (by decide), rI_wIk (by decide), hA.2.2.2.2.2.1 i i1]
      · have f : ∀ a c, ¬ (a = 8 ∧ c = i) → ¬ (a = 0 ∧ c = 12) → ¬ (a = 115 ∧ c = 0) → ¬ (a = 122 ∧ c = i) → rI (wI (wI (wL (wI (wI S 8 i p) 0 12 0) 145 0 (rI S 8 i).toInt64) 115 0 0) 122 i p) a c = rI S a c := fun a c z1 z2 z3 z4 => by rw [rI_wIc z4, rI_wIc z3, rI_wL, rI_wIc z2, rI_wIc z1]
        have g : ∀ a c, a ≠ 145 → rL (wI (wI (wL (wI (wI S 8 i p) 0 12 0) 145 0 (rI S 8 i).toInt64) 115 0 0) 122 i p) a c = rL S a c := fun a c z => by rw [rL_wI, rL_wI, rL_wL, if_neg (fun q => z q.1), rL_wI, rL_wI]
        have e8 : rI (wI (wI (wL (wI (wI S 8 i p) 0 12 0) 145 0 (rI S 8 i).toInt64) 115 0 0) 122 i p) 8 i = p := by rw [rI_wIk (by decide), rI_wIk (by decide), rI_wL, rI_wIk (by decide), rI_same]
        have e12 : rI (wI (wI (wL (wI (wI S 8 i p) 0 12 0) 145 0 (rI S 8 i).toInt64) 115 0 0) 122 i p) 0 12 = 0 := by rw [rI_wIk (by decide), rI_wIk (by decide), rI_wL, rI_same]
        have e22 : rI (wI (wI (wL (wI (wI S 8 i p) 0 12 0) 145 0 (rI S 8 i).toInt64) 115 0 0) 122 i p) 122 i = p := rI_same _ _ _ _
        revert f g e8 e12 e22
        generalize wI (wI (wL (wI (wI S 8 i p) 0 12 0) 145 0 (rI S 8 i).toInt64) 115 0 0) 122 i p = R
        intro f g e8 e12 e22
        obtain ⟨h1, h2, h3, h4, h5, h6, h7, h8⟩ := hA
        refine ⟨n, ⟨h1.of (fun a c z1 z2 z3 => f a c (by omega) (by omega) (by omega) (by omega)) (fun a c z => f a c (by omega) (by omega) (by omega) (by omega)), fun c => by rw [f 7 c (by omega) (by omega) (by omega) (by omega)]; exact h2 c, by rw [f 40 3 (by omega) (by omega) (by omega) (by omega)]; exact h3, fun c => by rw [f 43 c (by omega) (by omega) (by omega) (by omega)]; exact h4 c, fun j hj => ?_, fun j hj => ?_, fun z => absurd e12 z, ?_⟩, hH.of2 (fun a c z => f a c (by omega) (by omega) (by omega) (by omega)), hX.of (fun a c z => f a c (by omega) (by omega) (by omega) (by omega))⟩
        · by_cases ej : j = i
          · subst ej; rw [e8]; exact b03_n ⟨p1, p2⟩
          · rw [f 8 j (by omega) (by omega) (by omega) (by omega)]; exact h5 j hj
        · by_cases ej : j = i
          · subst ej; rw [e8, e22]
          · rw [f 8 j (by omega) (by omega) (by omega) (by omega), f 122 j (by omega) (by omega) (by omega) (by omega)]; exact h6 j hj
        · rw [f 115 15 (by omega) (by omega) (by omega) (by omega)]
          intro z X hXX
          exact (h8 z X (hXX.of (fun a c z1 z2 z3 => (f a c (by omega) (by omega) (by omega) (by omega)).symm))).of (fun i => g 125 i (by decide)) (fun i => g 126 i (by decide)) (fun i => f 127 i (by omega) (by omega) (by omega) (by omega)) (fun i => f 128 i (by omega) (by omega) (by omega) (by omega)) (f 115 14 (by omega) (by omega) (by omega) (by omega))
    · have e : f_X8_setPhase S r p = (1, 0, S) := by
        unfold f_X8_setPhase
        rw [if_neg hhas]
        by_cases z : p < 0
        · rw [if_pos z]
        · rw [if_neg z, if_neg (fun y => hb (b03_c.mpr ⟨z, y⟩))]
      rw [e] at hct
      have hL := ct_L_setPhase S S r p 1 _ hct (Or.inr (Or.inr rfl))
      rw [if_neg (by decide), if_neg (by decide), if_neg (by decide)] at hL
      have hR := ct_X9_setPhase S r p n hA.1.2.1 h24
      rw [if_neg (fun z => hb z.2), if_neg (fun z => z hs), if_pos hb] at hR
      exact ⟨2, _, _, _, hL, hR, rI_same _ _ _ _, fun z => absurd z (by decide), Inv.refuse hA hH hX 2⟩
  · have e : f_X8_setPhase S r p = (2, 0, S) := by unfold f_X8_setPhase; rw [if_pos ((has_s hn).mpr hs)]
    rw [e] at hct
    have hL := ct_L_setPhase S S r p 2 _ hct (Or.inr (Or.inl rfl))
    rw [if_neg (by decide), if_pos rfl, if_neg (by decide)] at hL
    have hR := ct_X9_setPhase S r p n hA.1.2.1 h24
    rw [if_neg (fun z => hs z.1), if_pos hs] at hR
    exact ⟨1, _, _, _, hL, hR, rI_same _ _ _ _, fun z => absurd z (by decide), Inv.refuse hA hH hX 1⟩

