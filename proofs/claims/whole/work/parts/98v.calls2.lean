theorem behindG {T U : gS} {n : Nat} (tA : IA T n) (tH : IH T n) (tX : IX T) (ta : rI T 0 12 ≠ 0) (e : ∀ a c, ¬ (a = 115 ∧ c = 0) → rI U a c = rI T a c) (l : ∀ a c, a ≠ 145 → rL U a c = rL T a c) : ∃ V, gF mX9_refreshes [.ref 115] U none V ∧ IA V n ∧ IH V n ∧ IX V ∧ AN V V n ∧ UN V V n ∧ rI V 115 15 ≠ 0 ∧ rI V 115 0 = rI U 115 0 ∧ rL V 145 0 = rL U 145 0 ∧ (∀ a c, a < 115 → rI V a c = rI T a c) ∧ (∀ a c, 116 ≤ a → a ≤ 124 → rI V a c = rI T a c) ∧ (∀ c, c ≠ 0 → c ≠ 14 → c ≠ 15 → rI V 115 c = rI T 115 c) := by
  have uA : IA U n := tA.of (fun a c z1 z2 => e a c (by omega)) (fun a c z => l a c (by omega))
  obtain ⟨V, v1, v2, v3, v4, v5⟩ := anR uA
  have va : rI V 0 12 ≠ 0 := by rw [v4 0 12 (by decide) (by decide) (by decide), e 0 12 (by decide)]; exact ta
  exact ⟨V, v1, v2, tH.of (fun a c z => (v4 a c (by omega) (by omega) (by omega)).trans (e a c (by omega))), tX.of (fun a c z => (v4 a c (by omega) (by omega) (by omega)).trans (e a c (by omega))), v2.alike va v3, v2.units va v3, v3, v4 115 0 (by decide) (by decide) (by decide), v5 145 0 (by decide) (by decide) (by decide), fun a c z => (v4 a c (by omega) (by omega) (by omega)).trans (e a c (by omega)), fun a c z1 z2 => (v4 a c (by omega) (by omega) (by omega)).trans (e a c (by omega)), fun c z1 z2 z3 => (v4 115 c (by decide) (by decide) (by omega)).trans (e 115 c (by omega))⟩
/-- behind a call of the class, the reference finds its units -/
theorem behindU {T U0 : gS} {n : Nat} (tA : IA T n) (tH : IH T n) (tX : IX T) (ta : rI T 0 12 ≠ 0) (e : ∀ a c, ¬ (a = 115 ∧ c = 0) → rI U0 a c = rI T a c) (l : ∀ a c, a ≠ 145 → rL U0 a c = rL T a c) : ∃ U m, gF mX9_findUnits [.ref 115] U0 none U ∧ IA U n ∧ IH U n ∧ IX U ∧ CI T U n ∧ (∀ i, i < n → rI T 42 i = woF U i) ∧ m ≤ n ∧ UQ T U m ∧ (∀ i, i < n → rI T 50 i = rI U 134 i) ∧ okR U n ∧ rI U 115 0 = rI U0 115 0 ∧ rL U 145 0 = rL U0 145 0 ∧ rI U 115 15 ≠ 0 ∧ (∀ a c, a < 115 → rI U a c = rI T a c) := by
  obtain ⟨V, v1, vA, vH, vX, vN, vU, vf, v0, vo, vc, vr, vz⟩ := behindG tA tH tX ta e l
  have f : ∀ a c, a < 129 ∨ 134 < a → ¬ (a = 115 ∧ c = 26) → rI (unF V n) a c = rI V a c := fun a c z1 z2 => rI_unF _ _ _ _ z1 z2
  have g : ∀ a c, rL (unF V n) a c = rL V a c := fun a c => rL_unF _ _ _ _
  have hct := ct_X9_findUnits U0 V n v1 vA.1.okR
  obtain ⟨m, m1, m2, m3⟩ := vU
  revert f g hct m2 m3
  generalize unF V n = U
  intro f g hct m2 m3
  have uA : IA U n := vA.of (fun a c z1 z2 => f a c (by omega) (by omega)) (fun a c z => g a c)
  refine ⟨U, m, hct, uA, vH.of (fun a c z => f a c (by omega) (by omega)), vX.of (fun a c z => f a c (by omega) (by omega)), ?_, fun i hi => ?_, m1, ⟨(vc 44 0 (by decide)).symm.trans m2.1, m2.2.1, fun u hu => ?_⟩, fun i hi => (vc 50 i (by decide)).symm.trans (m3 i hi), uA.1.okR, (f 115 0 (by decide) (by decide)).trans v0, (g 145 0).trans vo, by rw [f 115 15 (by decide) (by decide)]; exact vf, fun a c z => (f a c (by omega) (by omega)).trans (vc a c z)⟩
  · exact vA.1.of (fun a c z1 z2 z3 => (vc a c (by omega)).symm) (fun a c z => f a c (by omega) (by omega))
  · rw [← vc 42 i (by decide), (vN.1 i hi).2.2.2.1, wo_of (f 128 i (by decide) (by omega))]
  · rw [← vc 45 u (by decide), ← vc 46 u (by decide), ← vc 47 u (by decide), ← vc 48 u (by decide), ← vc 49 u (by decide)]
    exact m2.2.2 u hu
theorem q_rounds {S : gS} (h : Inv S) : A0 mX8_rounds mX9_rounds S := by
  obtain ⟨n, T, hn, h24, ho, hA, hH, hX, t1, tA, tH, tX, ta, tF⟩ := front h
  have hct := ct_X8_rounds S T t1
  obtain ⟨V, v1, vA, vH, vX, vN, vU, vf, v0, vo, vc, vr, vz⟩ := behindG (U := wI T 115 0 0) tA tH tX ta (fun a c z => rI_wIc z _ _) (fun a c z => rfl)
  have hR := ct_X9_rounds T V v1
  rw [← vN.2, vc 36 3 (by decide)] at hR
  exact ⟨_, _, _, hct, hR, ⟨n, vA, vH, vX⟩⟩
theorem q_units {S : gS} (h : Inv S) : A0 mX8_units mX9_units S := by
  obtain ⟨n, T, hn, h24, ho, hA, hH, hX, t1, tA, tH, tX, ta, tF⟩ := front h
  have hct := ct_X8_units S T t1
  obtain ⟨U, m, u1, uA, uH, uX, uC, u42, um, uQ, u50, uok, u0, uo, uf, uc⟩ := behindU (U0 := wI T 115 0 0) tA tH tX ta (fun a c z => rI_wIc z _ _) (fun a c z => rfl)
  have hR := ct_X9_units T U u1
  rw [uQ.2.1, ← uQ.1] at hR
  exact ⟨_, _, _, hct, hR, ⟨n, uA, uH, uX⟩⟩
theorem b04_c {w : Int32} : b04 w ↔ (w = 0 ∨ w = 1 ∨ w = 2 ∨ w = 3 ∨ w = 4) := by
  unfold b04
  rw [show (0 : Int64) = (0 : Int32).toInt64 from rfl, w_le, ile, show (4 : Int64) = (4 : Int32).toInt64 from rfl, w_le, ile]
  simp only [ieq]
  simp
  omega
theorem q_total {S : gS} (h : Inv S) (w : Int32) : A1 mL_total [.ref 0, .int w, .ref 145] mX9_total [.ref 115, .int w] S Int32.toInt64 := by
  obtain ⟨n, T, hn, h24, ho, hA, hH, hX, t1, tA, tH, tX, ta, tF⟩ := front h
  obtain ⟨V, v1, vA, vH, vX, vN, vU, vf, v0, vo, vc, vr, vz⟩ := behindG (U := T) tA tH tX ta (fun a c z => rfl) (fun a c z => rfl)
  obtain ⟨m0, m1, m2, m3⟩ := vU
  have hct := ct_X8_total S w T n tA.1.1 t1 m0 ⟨(vc 44 0 (by decide)).symm.trans m2.1, by omega⟩
  clear v1 vA vH vX vN vf v0 vo vr vz m3
  by_cases hb : b04 w
  · have key : ∃ r, f_X8_total S w T n = (0, r, T) ∧ ∀ U m, CI T U n → (∀ i, i < n → rI T 42 i = woF U i) → m ≤ n → UQ T U m → (∀ i, i < n → rI T 50 i = rI U 134 i) → toN U n m w = r := by
      rcases b04_c.mp hb with q | q | q | q | q
      · subst q; exact ⟨_, rfl, fun U m c1 c2 c3 c4 c5 => (sum_0 c1 c2).symm⟩
      · subst q; exact ⟨_, rfl, fun U m c1 c2 c3 c4 c5 => (sum_1 c1).symm⟩
      · subst q; exact ⟨_, rfl, fun U m c1 c2 c3 c4 c5 => (sum_2 c1 c2 c4 (by omega) c5).symm⟩
      · subst q; exact ⟨_, rfl, fun U m c1 c2 c3 c4 c5 => (sum_3 c2).symm⟩
      · subst q; exact ⟨_, rfl, fun U m c1 c2 c3 c4 c5 => (sum_4 c2).symm⟩
    obtain ⟨r, k1, k2⟩ := key
    rw [k1] at hct
    have hL := ct_L_total S T w 0 _ hct (Or.inl rfl)
    rw [if_pos rfl, if_pos rfl] at hL
    obtain ⟨U, m, u1, uA, uH, uX, uC, u42, um, uQ, u50, uok, u0, uo, uf, uc⟩ := behindU (U0 := wI (wL T 145 0 r.toInt64) 115 0 0) tA tH tX ta (fun a c z => (rI_wIc z _ _).trans (rI_wL _ _ _ _ _ _)) (fun a c z => (rL_wI _ _ _ _ _ _).trans ((rL_wL _ _ _ _ _ _).trans (if_neg (fun q => z q.1))))
    have hR := ct_X9_total (wL T 145 0 r.toInt64) U w _ (fun _ => ct_X9_totalOf _ U w n m u1 uok uQ.2.1 (by omega))
    rw [if_pos hb, if_pos hb] at hR
    refine ⟨0, _, _, _, hL, hR, u0.trans (rI_same _ _ _ _), fun _ => ?_, ⟨n, uA, uH, uX⟩⟩
    rw [uo, k2 U m uC u42 um uQ u50, rL_wI, rL_wL, if_pos ⟨rfl, rfl⟩]
  · have e : f_X8_total S w T n = (1, 0, T) := by
      unfold f_X8_total
      have hn := fun z => hb (b04_c.mpr z)
      rw [if_neg (fun z => hn (Or.inl z)), if_neg (fun z => hn (Or.inr (Or.inl z))), if_neg (fun z => hn (Or.inr (Or.inr (Or.inl z)))), if_neg (fun z => hn (Or.inr (Or.inr (Or.inr (Or.inl z))))), if_neg (fun z => hn (Or.inr (Or.inr (Or.inr (Or.inr z)))))]
    rw [e] at hct
    have hL := ct_L_total S T w 1 _ hct (Or.inr rfl)
    rw [if_neg (by decide), if_neg (by decide)] at hL
    have hR := ct_X9_total T T w 0 (fun z => absurd z hb)
    rw [if_neg hb, if_neg hb] at hR
    exact ⟨1, _, _, _, hL, hR, rI_same _ _ _ _, fun z => absurd z (by decide), Inv.refuse tA tH tX 1⟩
theorem q_unitOf {S : gS} (h : Inv S) (r : Int32) : A1 mL_unitOf [.ref 0, .int r, .ref 145] mX9_unitOf [.ref 115, .int r] S Int32.toInt64 := by
  obtain ⟨n, T, hn, h24, ho, hA, hH, hX, t1, tA, tH, tX, ta, tF⟩ := front h
  have hct := ct_X8_unitOf S r T n ho t1
  by_cases hs : sgn (nI n) r
  · obtain ⟨i, i1, i2, i3⟩ := nI_ofInt hs h24
    by_cases h5 : (0 : Int32) ≤ rI T 50 r.toNatClampNeg
    · have e : f_X8_unitOf S r T = (0, rI T 50 r.toNatClampNeg, T) := by unfold f_X8_unitOf; rw [if_neg (fun z => (has_s hn).mp z hs), if_pos h5]
      rw [e] at hct
      have hL := ct_L_unitOf S T r 0 _ hct (Or.inl rfl)
      rw [if_pos rfl, if_pos rfl] at hL
      obtain ⟨U, m, u1, uA, uH, uX, uC, u42, um, uQ, u50, uok, u0, uo, uf, uc⟩ := behindU (U0 := wL T 145 0 (rI T 50 r.toNatClampNeg).toInt64) tA tH tX ta (fun a c z => rI_wL _ _ _ _ _ _) (fun a c z => (rL_wL _ _ _ _ _ _).trans (if_neg (fun q => z q.1)))
      have hR := ct_X9_unitOf (wL T 145 0 (rI T 50 r.toNatClampNeg).toInt64) U r n tA.1.2.1 h24 (fun _ => u1)
      have h5' : (0 : Int32) ≤ rI U 134 r.toNatClampNeg := by rw [i3, ← u50 i i1, ← i3]; exact h5
      rw [if_pos ⟨hs, h5'⟩, if_neg (fun z => z hs), if_pos h5'] at hR
      refine ⟨0, _, _, _, hL, hR, rI_same _ _ _ _, fun _ => ?_, Inv.refuse uA uH uX 0⟩
      rw [rL_wI, uo, rL_wL, if_pos ⟨rfl, rfl⟩, i3, u50 i i1]
    · have e : f_X8_unitOf S r T = (4, 0, T) := by unfold f_X8_unitOf; rw [if_neg (fun z => (has_s hn).mp z hs), if_neg h5]
      rw [e] at hct
      have hL := ct_L_unitOf S T r 4 _ hct (Or.inr (Or.inr rfl))
      rw [if_neg (by decide), if_neg (by decide), if_neg (by decide)] at hL
      obtain ⟨U, m, u1, uA, uH, uX, uC, u42, um, uQ, u50, uok, u0, uo, uf, uc⟩ := behindU (U0 := T) tA tH tX ta (fun a c z => rfl) (fun a c z => rfl)
      have hR := ct_X9_unitOf T U r n tA.1.2.1 h24 (fun _ => u1)
      have h5' : ¬ (0 : Int32) ≤ rI U 134 r.toNatClampNeg := by rw [i3, ← u50 i i1, ← i3]; exact h5
      rw [if_neg (fun z => h5' z.2), if_neg (fun z => z hs), if_neg h5'] at hR
      exact ⟨2, _, _, _, hL, hR, rI_same _ _ _ _, fun z => absurd z (by decide), Inv.refuse uA uH uX 2⟩
  · have e : f_X8_unitOf S r T = (2, 0, S) := by unfold f_X8_unitOf; rw [if_pos ((has_s hn).mpr hs)]
    rw [e] at hct
    have hL := ct_L_unitOf S S r 2 _ hct (Or.inr (Or.inl rfl))
    rw [if_neg (by decide), if_pos rfl, if_neg (by decide)] at hL
    have hR := ct_X9_unitOf S S r n hA.1.2.1 h24 (fun z => absurd z hs)
    rw [if_neg (fun z => hs z.1), if_pos hs] at hR
    exact ⟨1, _, _, _, hL, hR, rI_same _ _ _ _, fun z => absurd z (by decide), Inv.refuse hA hH hX 1⟩

