/-- what is held, cycles -/
def IH (S : gS) (n : Nat) : Prop := rI S 1 1 = rI S 115 11 ∧ (∀ i, i < n → rI S 2 i ≠ 2 → rI S 120 i = -1) ∧ (∀ i, i < n → rI S 2 i = 0 → rI S 9 i = rI S 123 i) ∧ (∀ i, i < n → rI S 2 i = 2 → rI S 10 i = rI S 123 i) ∧ ∀ X, AR S X n → ∀ i, i < n → rI S 2 i = 2 → naF X i (rI S 11 i) = naF X i (rI S 124 i)
theorem IH.of {S T : gS} {n : Nat} (h : IH S n) (e : ∀ a c, (1 ≤ a ∧ a ≤ 11) ∨ (a = 115 ∧ c = 11) ∨ (116 ≤ a ∧ a ≤ 124) → rI T a c = rI S a c) : IH T n := by
  obtain ⟨h1, h2, h3, h4, h5⟩ := h
  refine ⟨?_, fun i hi => ?_, fun i hi => ?_, fun i hi => ?_, fun X hX i hi => ?_⟩
  · rw [e 1 1 (by omega), e 115 11 (by omega)]; exact h1
  · rw [e 2 i (by omega), e 120 i (by omega)]; exact h2 i hi
  · rw [e 2 i (by omega), e 9 i (by omega), e 123 i (by omega)]; exact h3 i hi
  · rw [e 2 i (by omega), e 10 i (by omega), e 123 i (by omega)]; exact h4 i hi
  · rw [e 2 i (by omega), e 11 i (by omega), e 124 i (by omega)]
    exact h5 X (hX.of (fun a c z1 z2 z3 => (e a c (by omega)).symm)) i hi
/-- circuits that could be kept: sound without what was found -/
def IC (S : gS) (n : Nat) : Prop := CI S S n ∧ (∀ c, rI S 7 c = 0 ∨ rI S 7 c = 1) ∧ (∀ i, i < n → ∃ k, k < 4 ∧ rI S 8 i = nI k) ∧ PH S S n ∧ IH S n
/-- text, faults, snapshot -/
def IX (S : gS) : Prop := (∃ L, L ≤ 80 ∧ rI S 55 0 = nI L ∧ rI S 115 34 = nI L ∧ ∀ j, j < L → rI S 56 j = rI S 137 j) ∧ (∃ v : Nat, v ≤ 3 ∧ rI S 112 0 = nI v ∧ (∀ l, l < 3 → (rI S 142 l = 0 ↔ ¬ l < v)) ∧ ∀ l, l < v → rI S 113 l = rI S 142 l ∧ rI S 114 l = rI S 143 l) ∧ (rI S 0 11 = 0 ↔ rI S 115 42 = 0) ∧ (rI S 115 42 ≠ 0 → ∃ Q n, IC Q n ∧ (∀ a c, 1 ≤ a ∧ a ≤ 11 → c < 24 → rI S (11 + a) c = rI Q a c) ∧ (∀ k j, k < 9 → j < 24 → rI S 144 (24 * k + j) = rI Q (116 + k) j) ∧ rI S 144 216 = rI Q 115 10 ∧ rI S 144 217 = rI Q 115 11)
theorem IX.of {S T : gS} (h : IX S) (e : ∀ a c, (a = 0 ∧ c = 11) ∨ (12 ≤ a ∧ a ≤ 22) ∨ (a = 55 ∧ c = 0) ∨ a = 56 ∨ (112 ≤ a ∧ a ≤ 114) ∨ (a = 115 ∧ (c = 34 ∨ c = 42)) ∨ a = 137 ∨ (142 ≤ a ∧ a ≤ 144) → rI T a c = rI S a c) : IX T := by
  obtain ⟨⟨L, l1, l2, l3, l4⟩, ⟨v, v1, v2, v3, v4⟩, h3, h4⟩ := h
  refine ⟨⟨L, l1, (e 55 0 (by omega)).trans l2, (e 115 34 (by omega)).trans l3, fun j hj => by rw [e 56 j (by omega), e 137 j (by omega)]; exact l4 j hj⟩, ⟨v, v1, (e 112 0 (by omega)).trans v2, fun l hl => by rw [e 142 l (by omega)]; exact v3 l hl, fun l hl => by rw [e 113 l (by omega), e 142 l (by omega), e 114 l (by omega), e 143 l (by omega)]; exact v4 l hl⟩, by rw [e 0 11 (by omega), e 115 42 (by omega)]; exact h3, ?_⟩
  rw [e 115 42 (by omega)]
  intro z
  obtain ⟨Q, n, q1, q2, q3, q4, q5⟩ := h4 z
  exact ⟨Q, n, q1, fun a c z1 z2 => (e (11 + a) c (by omega)).trans (q2 a c z1 z2), fun k j z1 z2 => (e 144 _ (by omega)).trans (q3 k j z1 z2), (e 144 216 (by omega)).trans q4, (e 144 217 (by omega)).trans q5⟩
/-- THE INVARIANT between two calls -/
def Inv (S : gS) : Prop := ∃ n, IA S n ∧ IH S n ∧ IX S
/-- a call by a wrapper of the law, and the reference's -/
def A1 (mL : go_M) (aL : List Value) (mX : go_M) (aX : List Value) (S : gS) (W : Int32 → Int64) : Prop := ∃ k T1 b T2, gF mL aL S (some (.int k)) T1 ∧ gF mX aX T1 (some (.int b)) T2 ∧ rI T2 115 0 = k ∧ (k = 0 → rL T2 145 0 = W b) ∧ Inv T2
/-- a call without exceptions -/
def A0 (mC mX : go_M) (S : gS) : Prop := ∃ b T1 T2, gF mC [.ref 0] S (some (.int b)) T1 ∧ gF mX [.ref 115] T1 (some (.int b)) T2 ∧ Inv T2
theorem has_s {S : gS} {n : Nat} {r : Int32} (h : rI S 1 0 = nI n) : f_X0_has S r = 0 ↔ ¬ sgn (nI n) r := by
  unfold f_X0_has
  rw [h]
  by_cases h1 : r < 0
  · rw [if_pos h1]
    exact ⟨fun _ z => absurd h1 (by have := z.1; rw [ile] at this; rw [il]; omega), fun _ => rfl⟩
  · rw [if_neg h1]
    by_cases h2 : nI n ≤ r
    · rw [if_pos h2]
      exact ⟨fun _ z => absurd z.2 (by rw [ile] at h2; rw [il]; omega), fun _ => rfl⟩
    · rw [if_neg h2]
      refine ⟨fun z => absurd z (by decide), fun z => absurd ⟨?_, ?_⟩ z⟩
      · rw [il] at h1; rw [ile]; omega
      · rw [ile] at h2; rw [il]; omega
/-- behind a call of the class that leaves the circuit alone, the reference analyses -/
theorem behind {T : gS} {n : Nat} (tA : IA T n) (tH : IH T n) (tX : IX T) (ta : rI T 0 12 ≠ 0) (v : Int64) : ∃ V, gF mX9_refreshes [.ref 115] (wI (wL T 145 0 v) 115 0 0) none V ∧ IA V n ∧ IH V n ∧ IX V ∧ AN V V n ∧ UN V V n ∧ rI V 115 15 ≠ 0 ∧ rI V 115 0 = 0 ∧ rL V 145 0 = v ∧ (∀ a c, a < 115 → rI V a c = rI T a c) ∧ (∀ a c, 116 ≤ a → a ≤ 124 → rI V a c = rI T a c) ∧ (∀ c, c ≠ 0 → c ≠ 14 → c ≠ 15 → rI V 115 c = rI T 115 c) := by
  have e : ∀ a c, ¬ (a = 115 ∧ c = 0) → rI (wI (wL T 145 0 v) 115 0 0) a c = rI T a c := fun a c z => (rI_wIc z _ _).trans (rI_wL _ _ _ _ _ _)
  have l : ∀ a c, a ≠ 145 → rL (wI (wL T 145 0 v) 115 0 0) a c = rL T a c := fun a c z => (rL_wI _ _ _ _ _ _).trans ((rL_wL _ _ _ _ _ _).trans (if_neg (fun q => z q.1)))
  have l2 : rL (wI (wL T 145 0 v) 115 0 0) 145 0 = v := (rL_wI _ _ _ _ _ _).trans ((rL_wL _ _ _ _ _ _).trans (if_pos ⟨rfl, rfl⟩))
  have e0 : rI (wI (wL T 145 0 v) 115 0 0) 115 0 = 0 := rI_same _ _ _ _
  revert e l l2 e0
  generalize wI (wL T 145 0 v) 115 0 0 = U
  intro e l l2 e0
  have uA : IA U n := tA.of (fun a c z1 z2 => e a c (by omega)) (fun a c z => l a c (by omega))
  obtain ⟨V, v1, v2, v3, v4, v5⟩ := anR uA
  have va : rI V 0 12 ≠ 0 := by rw [v4 0 12 (by decide) (by decide) (by decide), e 0 12 (by decide)]; exact ta
  refine ⟨V, v1, v2, tH.of (fun a c z => (v4 a c (by omega) (by omega) (by omega)).trans (e a c (by omega))), tX.of (fun a c z => (v4 a c (by omega) (by omega) (by omega)).trans (e a c (by omega))), v2.alike va v3, v2.units va v3, v3, ?_, ?_, fun a c z => (v4 a c (by omega) (by omega) (by omega)).trans (e a c (by omega)), fun a c z1 z2 => (v4 a c (by omega) (by omega) (by omega)).trans (e a c (by omega)), fun c z1 z2 z3 => (v4 115 c (by decide) (by decide) (by omega)).trans (e 115 c (by omega))⟩
  · rw [v4 115 0 (by decide) (by decide) (by decide)]; exact e0
  · rw [v5 145 0 (by decide) (by decide) (by decide)]; exact l2
/-- the class analyses, and the invariant stands -/
theorem front {S : gS} (h : Inv S) : ∃ n T, rI S 1 0 = nI n ∧ n ≤ 24 ∧ okC S n ∧ IA S n ∧ IH S n ∧ IX S ∧ gF mX8_analyse [.ref 0] S none T ∧ IA T n ∧ IH T n ∧ IX T ∧ rI T 0 12 ≠ 0 ∧ (∀ a c, 115 ≤ a → rI T a c = rI S a c) := by
  obtain ⟨n, hA, hH, hX⟩ := h
  obtain ⟨T, t1, t2, t3, t4, t5⟩ := anC hA
  exact ⟨n, T, hA.1.1.1, hA.1.1.2.1, hA.1.1, hA, hH, hX, t1, t2, hH.of (fun a c z => t4 a c (by omega) (by omega)), hX.of (fun a c z => t4 a c (by omega) (by omega)), t3, fun a c z => t4 a c (by omega) (by omega)⟩
/-- a refusal leaves the invariant -/
theorem Inv.refuse {S : gS} {n : Nat} (hA : IA S n) (hH : IH S n) (hX : IX S) (k : Int32) : Inv (wI S 115 0 k) := ⟨n, hA.of (fun a c z1 z2 => rI_wIc (by omega) _ _) (fun a c z => rfl), hH.of (fun a c z => rI_wIc (by omega) _ _), hX.of (fun a c z => rI_wIc (by omega) _ _)⟩

theorem refR_range {S : gS} {n : Nat} (hA : IA S n) {r0 : Int32} (hs : ¬ sgn (nI n) r0) (g : Int32) : gF mX9_range [.ref 115, .int r0, .int g] S (some (.int 0)) (wI S 115 0 1) := by
  have uA : IA (wI S 115 0 0) n := hA.of (fun a c z1 z2 => rI_wIc (by omega) _ _) (fun a c z => rfl)
  obtain ⟨V, v1, vA, _⟩ := anR uA
  have hR := ct_X9_range S r0 g n hA.1.2.1 hA.1.1.2.1 V v1
  rw [if_neg hs, if_neg hs] at hR
  exact hR

theorem q_range {S : gS} (h : Inv S) (r g : Int32) : A1 mL_range [.ref 0, .int r, .int g, .ref 145] mX9_range [.ref 115, .int r, .int g] S Int32.toInt64 := by
  obtain ⟨n, T, hn, h24, ho, hA, hH, hX, t1, tA, tH, tX, ta, tF⟩ := front h
  have hct := ct_X8_range S r g T n ho t1
  by_cases hs : sgn (nI n) r
  · have e : f_X8_range S r g T = (0, (if g = 0 then rI T 37 r.toNatClampNeg else rI T 38 r.toNatClampNeg), T) := by unfold f_X8_range; rw [if_neg (fun z => (has_s hn).mp z hs)]; split <;> rfl
    rw [e] at hct
    have hL := ct_L_range S T r g 0 _ hct (Or.inl rfl)
    rw [if_pos rfl, if_pos rfl] at hL
    obtain ⟨V, v1, vA, vH, vX, vN, vU, vf, v0, vo, vc, vr, vz⟩ := behind tA tH tX ta _
    have hR := ct_X9_range (wL T 145 0 _) r g n (tA.1.2.1) h24 V v1
    rw [if_pos hs, if_pos hs] at hR
    obtain ⟨i, i1, i2, i3⟩ := nI_ofInt hs h24
    refine ⟨0, _, _, _, hL, hR, v0, fun _ => ?_, ⟨n, vA, vH, vX⟩⟩
    rw [vo, i3]
    obtain ⟨a1, a2, a3, a4, a5, a6⟩ := vN.1 i i1
    by_cases hg : g = 0
    · rw [if_pos hg, if_pos hg, ← a1.1, vc 37 i (by decide), Int32.toInt32_toInt64]
    · rw [if_neg hg, if_neg hg, ← a1.2.1, vc 38 i (by decide), Int32.toInt32_toInt64]
  · have e : f_X8_range S r g T = (2, 0, S) := by unfold f_X8_range; rw [if_pos ((has_s hn).mpr hs)]
    rw [e] at hct
    have hL := ct_L_range S S r g 2 _ hct (Or.inr rfl)
    rw [if_neg (by decide), if_neg (by decide)] at hL
    obtain ⟨V, v1, vA, vH, vX, vN, vU, vf, v0, vo, vc, vr, vz⟩ := behind tA tH tX ta 0
    have hR : gF mX9_range [.ref 115, .int r, .int g] S (some (.int 0)) (wI S 115 0 1) := refR_range hA hs g
    exact ⟨1, _, _, _, hL, hR, rI_same _ _ _ _, fun z => absurd z (by decide), Inv.refuse hA hH hX 1⟩

theorem refR_demanded {S : gS} {n : Nat} (hA : IA S n) {r0 : Int32} (hs : ¬ sgn (nI n) r0) (u9 : Int32) : gF mX9_demanded [.ref 115, .int r0] S (some (.int 0)) (wI S 115 0 1) := by
  have uA : IA (wI S 115 0 0) n := hA.of (fun a c z1 z2 => rI_wIc (by omega) _ _) (fun a c z => rfl)
  obtain ⟨V, v1, vA, _⟩ := anR uA
  have hR := ct_X9_demanded S r0 n hA.1.2.1 hA.1.1.2.1 V v1
  rw [if_neg hs, if_neg hs] at hR
  exact hR

theorem q_demanded {S : gS} (h : Inv S) (r : Int32) : A1 mL_demanded [.ref 0, .int r, .ref 145] mX9_demanded [.ref 115, .int r] S Int32.toInt64 := by
  obtain ⟨n, T, hn, h24, ho, hA, hH, hX, t1, tA, tH, tX, ta, tF⟩ := front h
  have hct := ct_X8_demanded S r T n ho t1
  by_cases hs : sgn (nI n) r
  · have e : f_X8_demanded S r T = (0, rI T 41 r.toNatClampNeg, T) := by unfold f_X8_demanded; rw [if_neg (fun z => (has_s hn).mp z hs)]
    rw [e] at hct
    have hL := ct_L_demanded S T r 0 _ hct (Or.inl rfl)
    rw [if_pos rfl, if_pos rfl] at hL
    obtain ⟨V, v1, vA, vH, vX, vN, vU, vf, v0, vo, vc, vr, vz⟩ := behind tA tH tX ta _
    have hR := ct_X9_demanded (wL T 145 0 _) r n (tA.1.2.1) h24 V v1
    rw [if_pos hs, if_pos hs] at hR
    obtain ⟨i, i1, i2, i3⟩ := nI_ofInt hs h24
    refine ⟨0, _, _, _, hL, hR, v0, fun _ => ?_, ⟨n, vA, vH, vX⟩⟩
    rw [vo, i3]
    obtain ⟨a1, a2, a3, a4, a5, a6⟩ := vN.1 i i1
    rw [← a3, vc 41 i (by decide)]
  · have e : f_X8_demanded S r T = (2, 0, S) := by unfold f_X8_demanded; rw [if_pos ((has_s hn).mpr hs)]
    rw [e] at hct
    have hL := ct_L_demanded S S r 2 _ hct (Or.inr rfl)
    rw [if_neg (by decide), if_neg (by decide)] at hL
    obtain ⟨V, v1, vA, vH, vX, vN, vU, vf, v0, vo, vc, vr, vz⟩ := behind tA tH tX ta 0
    have hR : gF mX9_demanded [.ref 115, .int r] S (some (.int 0)) (wI S 115 0 1) := refR_demanded hA hs 0
    exact ⟨1, _, _, _, hL, hR, rI_same _ _ _ _, fun z => absurd z (by decide), Inv.refuse hA hH hX 1⟩

theorem refR_width {S : gS} {n : Nat} (hA : IA S n) {r0 : Int32} (hs : ¬ sgn (nI n) r0) (g : Int32) : gF mX9_width [.ref 115, .int r0, .int g] S (some (.int 0)) (wI S 115 0 1) := by
  have uA : IA (wI S 115 0 0) n := hA.of (fun a c z1 z2 => rI_wIc (by omega) _ _) (fun a c z => rfl)
  obtain ⟨V, v1, vA, _⟩ := anR uA
  have hR := ct_X9_width S r0 g n hA.1.2.1 hA.1.1.2.1 V v1
  rw [if_neg hs, if_neg hs] at hR
  exact hR

theorem q_width {S : gS} (h : Inv S) (r g : Int32) : A1 mL_width [.ref 0, .int r, .int g, .ref 145] mX9_width [.ref 115, .int r, .int g] S Int32.toInt64 := by
  obtain ⟨n, T, hn, h24, ho, hA, hH, hX, t1, tA, tH, tX, ta, tF⟩ := front h
  have hct := ct_X8_width S r g T n ho t1
  by_cases hs : sgn (nI n) r
  · have e : f_X8_width S r g T = (0, (if g = 0 then rI T 42 r.toNatClampNeg else rI T 39 r.toNatClampNeg), T) := by unfold f_X8_width; rw [if_neg (fun z => (has_s hn).mp z hs)]; split <;> rfl
    rw [e] at hct
    have hL := ct_L_width S T r g 0 _ hct (Or.inl rfl)
    rw [if_pos rfl, if_pos rfl] at hL
    obtain ⟨V, v1, vA, vH, vX, vN, vU, vf, v0, vo, vc, vr, vz⟩ := behind tA tH tX ta _
    have hR := ct_X9_width (wL T 145 0 _) r g n (tA.1.2.1) h24 V v1
    rw [if_pos hs, if_pos hs] at hR
    obtain ⟨i, i1, i2, i3⟩ := nI_ofInt hs h24
    refine ⟨0, _, _, _, hL, hR, v0, fun _ => ?_, ⟨n, vA, vH, vX⟩⟩
    rw [vo, i3]
    obtain ⟨a1, a2, a3, a4, a5, a6⟩ := vN.1 i i1
    by_cases hg : g = 0
    · rw [if_pos hg, if_pos hg, ← a4, vc 42 i (by decide)]
    · rw [if_neg hg, if_neg hg, ← a2, vc 39 i (by decide)]
  · have e : f_X8_width S r g T = (2, 0, S) := by unfold f_X8_width; rw [if_pos ((has_s hn).mpr hs)]
    rw [e] at hct
    have hL := ct_L_width S S r g 2 _ hct (Or.inr rfl)
    rw [if_neg (by decide), if_neg (by decide)] at hL
    obtain ⟨V, v1, vA, vH, vX, vN, vU, vf, v0, vo, vc, vr, vz⟩ := behind tA tH tX ta 0
    have hR : gF mX9_width [.ref 115, .int r, .int g] S (some (.int 0)) (wI S 115 0 1) := refR_width hA hs g
    exact ⟨1, _, _, _, hL, hR, rI_same _ _ _ _, fun z => absurd z (by decide), Inv.refuse hA hH hX 1⟩

theorem refR_isSigned {S : gS} {n : Nat} (hA : IA S n) {r0 : Int32} (hs : ¬ sgn (nI n) r0) (u9 : Int32) : gF mX9_isSigned [.ref 115, .int r0] S (some (.int 0)) (wI S 115 0 1) := by
  have uA : IA (wI S 115 0 0) n := hA.of (fun a c z1 z2 => rI_wIc (by omega) _ _) (fun a c z => rfl)
  obtain ⟨V, v1, vA, _⟩ := anR uA
  have hR := ct_X9_isSigned S r0 n hA.1.2.1 hA.1.1.2.1 V v1
  rw [if_neg hs, if_neg hs] at hR
  exact hR

theorem q_isSigned {S : gS} (h : Inv S) (r : Int32) : A1 mL_isSigned [.ref 0, .int r, .ref 145] mX9_isSigned [.ref 115, .int r] S (fun b => if b = 0 then 0 else 1) := by
  obtain ⟨n, T, hn, h24, ho, hA, hH, hX, t1, tA, tH, tX, ta, tF⟩ := front h
  have hct := ct_X8_isSigned S r T n ho t1 tA.2.2.2.1
  by_cases hs : sgn (nI n) r
  · have e : f_X8_isSigned S r T = (0, rI T 43 r.toNatClampNeg, T) := by unfold f_X8_isSigned; rw [if_neg (fun z => (has_s hn).mp z hs)]
    rw [e] at hct
    have hL := ct_L_isSigned S T r 0 _ hct (Or.inl rfl)
    rw [if_pos rfl, if_pos rfl] at hL
    obtain ⟨V, v1, vA, vH, vX, vN, vU, vf, v0, vo, vc, vr, vz⟩ := behind tA tH tX ta _
    have hR := ct_X9_isSigned (wL T 145 0 _) r n (tA.1.2.1) h24 V v1
    rw [if_pos hs, if_pos hs] at hR
    obtain ⟨i, i1, i2, i3⟩ := nI_ofInt hs h24
    refine ⟨0, _, _, _, hL, hR, v0, fun _ => ?_, ⟨n, vA, vH, vX⟩⟩
    rw [vo, i3]
    obtain ⟨a1, a2, a3, a4, a5, a6⟩ := vN.1 i i1
    rw [← a5, vc 43 i (by decide)]
  · have e : f_X8_isSigned S r T = (2, 0, S) := by unfold f_X8_isSigned; rw [if_pos ((has_s hn).mpr hs)]
    rw [e] at hct
    have hL := ct_L_isSigned S S r 2 _ hct (Or.inr rfl)
    rw [if_neg (by decide), if_neg (by decide)] at hL
    obtain ⟨V, v1, vA, vH, vX, vN, vU, vf, v0, vo, vc, vr, vz⟩ := behind tA tH tX ta 0
    have hR : gF mX9_isSigned [.ref 115, .int r] S (some (.int 0)) (wI S 115 0 1) := refR_isSigned hA hs 0
    exact ⟨1, _, _, _, hL, hR, rI_same _ _ _ _, fun z => absurd z (by decide), Inv.refuse hA hH hX 1⟩

theorem cost_h {V : gS} {n : Nat} {r : Int32} (vA : IA V n) (hs : sgn (nI n) r) (z : rI V 116 r.toNatClampNeg = 11) : vp_in (rI V 117 r.toNatClampNeg) 24 ∧ vp_in (rI V 118 r.toNatClampNeg) 24 := by
  obtain ⟨i, i1, i2, i3⟩ := nI_ofInt hs vA.1.1.2.1
  rw [i3] at z ⊢
  obtain ⟨k1, k2, k3, k4⟩ := (vA.1.okR.2.2 i i1).1
  exact ⟨k1 (by rw [z]; decide), k2 (by rw [z]; decide) (by rw [z]; decide) (by rw [z]; decide)⟩

theorem refR_cost {S : gS} {n : Nat} (hA : IA S n) {r0 : Int32} (hs : ¬ sgn (nI n) r0) (u9 : Int32) : gF mX9_cost [.ref 115, .int r0] S (some (.int 0)) (wI S 115 0 1) := by
  have uA : IA (wI S 115 0 0) n := hA.of (fun a c z1 z2 => rI_wIc (by omega) _ _) (fun a c z => rfl)
  obtain ⟨V, v1, vA, _⟩ := anR uA
  have hR := ct_X9_cost S r0 n hA.1.2.1 hA.1.1.2.1 V v1 (fun y z => cost_h vA y z)
  rw [if_neg hs, if_neg hs] at hR
  exact hR

theorem q_cost {S : gS} (h : Inv S) (r : Int32) : A1 mL_cost [.ref 0, .int r, .ref 145] mX9_cost [.ref 115, .int r] S Int32.toInt64 := by
  obtain ⟨n, T, hn, h24, ho, hA, hH, hX, t1, tA, tH, tX, ta, tF⟩ := front h
  have hct := ct_X8_cost S r T n ho t1 tA.1.1
  by_cases hs : sgn (nI n) r
  · have e : f_X8_cost S r T = (0, f_X7_costIn T r.toNatClampNeg, T) := by unfold f_X8_cost; rw [if_neg (fun z => (has_s hn).mp z hs)]
    rw [e] at hct
    have hL := ct_L_cost S T r 0 _ hct (Or.inl rfl)
    rw [if_pos rfl, if_pos rfl] at hL
    obtain ⟨V, v1, vA, vH, vX, vN, vU, vf, v0, vo, vc, vr, vz⟩ := behind tA tH tX ta _
    have hR := ct_X9_cost (wL T 145 0 _) r n (tA.1.2.1) h24 V v1 (fun y z => cost_h vA y z)
    rw [if_pos hs, if_pos hs] at hR
    obtain ⟨i, i1, i2, i3⟩ := nI_ofInt hs h24
    refine ⟨0, _, _, _, hL, hR, v0, fun _ => ?_, ⟨n, vA, vH, vX⟩⟩
    rw [vo, i3]
    obtain ⟨a1, a2, a3, a4, a5, a6⟩ := vN.1 i i1
    have hCT : CI T V n := vA.1.of (fun a c z1 z2 z3 => (vc a c (by omega)).symm) (fun a c _ => rfl)
    rw [cost_s hCT i1 (fun j hj => (vc 42 j (by decide)).symm.trans (vN.1 j hj).2.2.2.1)]
  · have e : f_X8_cost S r T = (2, 0, S) := by unfold f_X8_cost; rw [if_pos ((has_s hn).mpr hs)]
    rw [e] at hct
    have hL := ct_L_cost S S r 2 _ hct (Or.inr rfl)
    rw [if_neg (by decide), if_neg (by decide)] at hL
    obtain ⟨V, v1, vA, vH, vX, vN, vU, vf, v0, vo, vc, vr, vz⟩ := behind tA tH tX ta 0
    have hR : gF mX9_cost [.ref 115, .int r] S (some (.int 0)) (wI S 115 0 1) := refR_cost hA hs 0
    exact ⟨1, _, _, _, hL, hR, rI_same _ _ _ _, fun z => absurd z (by decide), Inv.refuse hA hH hX 1⟩

