theorem q_unit {S : gS} (h : Inv S) (r w : Int32) : A1 mL_unit [.ref 0, .int r, .int w, .ref 145] mX9_unit [.ref 115, .int r, .int w] S Int32.toInt64 := by
  obtain ⟨n, T, hn, h24, ho, hA, hH, hX, t1, tA, tH, tX, ta, tF⟩ := front h
  obtain ⟨V, v1, vA, vH, vX, vN, vU, vf, v0, vo, vc, vr, vz⟩ := behindG (U := T) tA tH tX ta (fun a c z => rfl) (fun a c z => rfl)
  obtain ⟨m0, m1, m2, m3⟩ := vU
  have h44 : rI T 44 0 = nI m0 := (vc 44 0 (by decide)).symm.trans m2.1
  have hct := ct_X8_unit S r w T t1 m0 ⟨h44, by omega⟩
  clear v1 vA vH vX vN vf v0 vo vr vz m2 m3 vc
  by_cases hs : sgn (nI m0) r
  · obtain ⟨i, i1, i2, i3⟩ := nI_ofInt hs (by omega)
    have hn0 : ¬ r < 0 := by have := hs.1; rw [ile] at this; rw [il]; omega
    have hlt : r < rI T 44 0 := by rw [h44]; exact hs.2
    by_cases hb : b04 w
    · have key : ∃ x, f_X8_unit S r w T = (0, x, T) ∧ ∀ U m, UQ T U m → m ≤ 24 → sgn (nI m) r ∧ utF U w r.toNatClampNeg = x := by
        have mm : ∀ U m, UQ T U m → m ≤ 24 → m = m0 := fun U m z1 z2 => nI_inj2 (by omega) (by omega) (z1.1.symm.trans h44)
        have e0 : ∀ x y z : Nat × Int32 × gS, (if r < 0 then x else if r < rI T 44 0 then y else z) = y := fun x y z => by rw [if_neg hn0, if_pos hlt]
        rcases b04_c.mp hb with q | q | q | q | q
        · subst q
          refine ⟨rI T 45 r.toNatClampNeg, by unfold f_X8_unit; rw [e0]; rfl, fun U m z1 z2 => ?_⟩
          have := mm U m z1 z2; subst this
          exact ⟨hs, by rw [i3]; exact (z1.2.2 i i1).1.symm⟩
        · subst q
          refine ⟨rI T 46 r.toNatClampNeg, by unfold f_X8_unit; rw [e0]; rfl, fun U m z1 z2 => ?_⟩
          have := mm U m z1 z2; subst this
          exact ⟨hs, by rw [i3]; exact (z1.2.2 i i1).2.1.symm⟩
        · subst q
          refine ⟨f_X6_costOf T r, by unfold f_X8_unit; rw [e0]; rfl, fun U m z1 z2 => ?_⟩
          have := mm U m z1 z2; subst this
          exact ⟨hs, by rw [i3, i2]; exact (ucost z1 z2 i1).symm⟩
        · subst q
          refine ⟨rI T 47 r.toNatClampNeg, by unfold f_X8_unit; rw [e0]; rfl, fun U m z1 z2 => ?_⟩
          have := mm U m z1 z2; subst this
          exact ⟨hs, by rw [i3]; exact (z1.2.2 i i1).2.2.1.symm⟩
        · subst q
          refine ⟨rI T 48 r.toNatClampNeg, by unfold f_X8_unit; rw [e0]; rfl, fun U m z1 z2 => ?_⟩
          have := mm U m z1 z2; subst this
          exact ⟨hs, by rw [i3]; exact (z1.2.2 i i1).2.2.2.1.symm⟩
      obtain ⟨x, k1, k2⟩ := key
      rw [k1] at hct
      have hL := ct_L_unit S T r w 0 _ hct (Or.inl rfl)
      rw [if_pos rfl, if_pos rfl] at hL
      obtain ⟨U, m, u1, uA, uH, uX, uC, u42, um, uQ, u50, uok, u0, uo, uf, uc⟩ := behindU (U0 := wL T 145 0 x.toInt64) tA tH tX ta (fun a c z => rI_wL _ _ _ _ _ _) (fun a c z => (rL_wL _ _ _ _ _ _).trans (if_neg (fun q => z q.1)))
      obtain ⟨y1, y2⟩ := k2 U m uQ (by omega)
      have hR := ct_X9_unit (wL T 145 0 x.toInt64) U r w m u1 uQ.2.1 (by omega)
      rw [if_pos ⟨y1, hb⟩, if_neg (fun z => z y1), if_neg (fun z => z hb), y2] at hR
      refine ⟨0, _, _, _, hL, hR, rI_same _ _ _ _, fun _ => ?_, Inv.refuse uA uH uX 0⟩
      rw [rL_wI, uo, rL_wL, if_pos ⟨rfl, rfl⟩]
    · have e : f_X8_unit S r w T = (1, 0, T) := by
        unfold f_X8_unit
        have hq := fun z => hb (b04_c.mpr z)
        rw [if_neg hn0, if_pos hlt, if_neg (fun z => hq (Or.inl z)), if_neg (fun z => hq (Or.inr (Or.inl z))), if_neg (fun z => hq (Or.inr (Or.inr (Or.inl z)))), if_neg (fun z => hq (Or.inr (Or.inr (Or.inr (Or.inl z))))), if_neg (fun z => hq (Or.inr (Or.inr (Or.inr (Or.inr z)))))]
      rw [e] at hct
      have hL := ct_L_unit S T r w 1 _ hct (Or.inr (Or.inr rfl))
      rw [if_neg (by decide), if_neg (by decide), if_neg (by decide)] at hL
      obtain ⟨U, m, u1, uA, uH, uX, uC, u42, um, uQ, u50, uok, u0, uo, uf, uc⟩ := behindU (U0 := T) tA tH tX ta (fun a c z => rfl) (fun a c z => rfl)
      have hm : m = m0 := nI_inj2 (by omega) (by omega) (uQ.1.symm.trans h44)
      subst hm
      have hR := ct_X9_unit T U r w m u1 uQ.2.1 (by omega)
      rw [if_neg (fun z => hb z.2), if_neg (fun z => z hs), if_pos hb] at hR
      exact ⟨2, _, _, _, hL, hR, rI_same _ _ _ _, fun z => absurd z (by decide), Inv.refuse uA uH uX 2⟩
  · have e : f_X8_unit S r w T = (2, 0, T) := by
      unfold f_X8_unit
      by_cases h1 : r < 0
      · rw [if_pos h1]
      · rw [if_neg h1, if_neg (fun z => hs ⟨by rw [ile]; rw [il] at h1; omega, by rw [← h44]; exact z⟩)]
    rw [e] at hct
    have hL := ct_L_unit S T r w 2 _ hct (Or.inr (Or.inl rfl))
    rw [if_neg (by decide), if_pos rfl, if_neg (by decide)] at hL
    obtain ⟨U, m, u1, uA, uH, uX, uC, u42, um, uQ, u50, uok, u0, uo, uf, uc⟩ := behindU (U0 := T) tA tH tX ta (fun a c z => rfl) (fun a c z => rfl)
    have hm : m = m0 := nI_inj2 (by omega) (by omega) (uQ.1.symm.trans h44)
    subst hm
    have hR := ct_X9_unit T U r w m u1 uQ.2.1 (by omega)
    rw [if_neg (fun z => hs z.1), if_pos hs] at hR
    exact ⟨1, _, _, _, hL, hR, rI_same _ _ _ _, fun z => absurd z (by decide), Inv.refuse uA uH uX 1⟩
theorem hv_of {T V : gS} {n : Nat} (tH : IH T n) (vA : IA V n) (vf : rI V 115 15 ≠ 0) (e : ∀ a c, a < 8 → ¬ (a = 1 ∧ c = 1) → a ≠ 0 → rI V a c = rI T a c) (r3 : ∀ i, rI V 123 i = rI T 123 i) (r4 : ∀ i, rI V 124 i = rI T 124 i) : HV T V n := by
  obtain ⟨h1, h2, h3, h4, h5⟩ := tH
  obtain ⟨X, hX⟩ := ar_ex vA
  have re := vA.2.2.2.2.2.2.2 vf X hX
  have hX2 : AR T X n := hX.of (fun a c z1 z2 z3 => (e a c z1 z2 z3).symm)
  intro i hi
  obtain ⟨r1, r2, q3, q4⟩ := re.1 i hi
  rw [r3, r4, na_of q4 q3 r1, na_of q4 q3 r1]
  exact ⟨h3 i hi, fun z => ⟨h4 i hi z, h5 X hX2 i hi z⟩⟩
theorem NA.of_AN {V : gS} {n : Nat} (h : AN V V n) : NA V V n := fun i hi => ⟨(h.1 i hi).2.2.2.1, (h.1 i hi).2.2.2.2.1, (h.1 i hi).2.2.2.2.2⟩
theorem q_value {S : gS} (h : Inv S) (r b : Int32) (hb : b = 0 ∨ b = 1) : A1 mL_value [.ref 0, .int r, .int b, .ref 145] mX9_value [.ref 115, .int r, .int b] S Int32.toInt64 := by
  obtain ⟨n, T, hn, h24, ho, hA, hH, hX, t1, tA, tH, tX, ta, tF⟩ := front h
  have hct := ct_X8_value S r b T n ho t1 tA.1.1
  by_cases hs : sgn (nI n) r
  · have e : f_X8_value S r b T n = (0, rI (f_X8_settleBoth T n) (if b = 0 then 52 else 54) r.toNatClampNeg, f_X8_settleBoth T n) := by
      unfold f_X8_value
      rw [if_neg (fun z => (has_s hn).mp z hs)]
      by_cases z : b = 0
      · rw [if_pos z, if_pos z]
      · rw [if_neg z, if_neg z]
    rw [e] at hct
    have hL := ct_L_value S _ r b 0 _ hct (Or.inl rfl)
    rw [if_pos rfl, if_pos rfl] at hL
    have f : ∀ a c, a ≠ 52 → a ≠ 54 → rI (f_X8_settleBoth T n) a c = rI T a c := fun a c z1 z2 => fr_f_X8_settleBoth z1 z2 _ _
    have g : ∀ a c, rL (f_X8_settleBoth T n) a c = rL T a c := fun a c => fl_f_X8_settleBoth _ _ a c
    obtain ⟨V, v1, vA, vH, vX, vN, vU, vf, v0, vo, vc, vr, vz⟩ := behindG (T := f_X8_settleBoth T n) (U := wI (wL (f_X8_settleBoth T n) 145 0 (rI (f_X8_settleBoth T n) (if b = 0 then 52 else 54) r.toNatClampNeg).toInt64) 115 0 0) (tA.of (fun a c z1 z2 => f a c (by omega) (by omega)) (fun a c z => g a c)) (tH.of (fun a c z => f a c (by omega) (by omega))) (tX.of (fun a c z => f a c (by omega) (by omega))) (by rw [f 0 12 (by decide) (by decide)]; exact ta) (fun a c z => (rI_wIc z _ _).trans (rI_wL _ _ _ _ _ _)) (fun a c z => (rL_wI _ _ _ _ _ _).trans ((rL_wL _ _ _ _ _ _).trans (if_neg (fun q => z q.1))))
    have hR := ct_X9_value (wL (f_X8_settleBoth T n) 145 0 (rI (f_X8_settleBoth T n) (if b = 0 then 52 else 54) r.toNatClampNeg).toInt64) r b n (by rw [rI_wL, f 115 10 (by decide) (by decide)]; exact tA.1.2.1) h24 V v1 vA.1.okR
    rw [if_pos hs, if_pos hs] at hR
    obtain ⟨i, i1, i2, i3⟩ := nI_ofInt hs h24
    have vT : ∀ a c, a < 115 → a ≠ 52 → a ≠ 54 → rI V a c = rI T a c := fun a c z1 z2 z3 => (vc a c z1).trans (f a c z2 z3)
    have hC : CI T V n := vA.1.of (fun a c z1 z2 z3 => (vT a c (by omega) (by omega) (by omega)).symm) (fun a c _ => rfl)
    have hN : NA T V n := (NA.of_AN vN).of (fun i => (vT 42 i (by decide) (by decide) (by decide)).symm) (fun i => (vT 43 i (by decide) (by decide) (by decide)).symm) (fun i => rfl) (fun i => rfl) (fun i => rfl)
    have hV : HV T V n := hv_of tH vA vf (fun a c z1 z2 z3 => vT a c (by omega) (by omega) (by omega)) (fun i => (vr 123 i (by decide) (by decide)).trans (f 123 i (by decide) (by decide))) (fun i => (vr 124 i (by decide) (by decide)).trans (f 124 i (by decide) (by decide)))
    refine ⟨0, _, _, _, hL, hR, ?_, fun _ => ?_, ⟨n, vA.of (fun a c z1 z2 => rI_evF _ _ _ _ _ (by omega)) (fun a c z => rL_evF _ _ _ _ _), vH.of (fun a c z => rI_evF _ _ _ _ _ (by omega)), vX.of (fun a c z => rI_evF _ _ _ _ _ (by omega))⟩⟩
    · rw [rI_evF _ _ _ _ _ (by decide), v0, rI_same]
    · rw [rL_evF, vo, rL_wI, rL_wL, if_pos ⟨rfl, rfl⟩, i3]
      rcases hb with q | q
      · subst q
        rw [if_pos rfl, (settle_s hC hN hV i i1).1]
      · subst q
        rw [if_neg (by decide), (settle_s hC hN hV i i1).2]
  · have e : f_X8_value S r b T n = (2, 0, S) := by unfold f_X8_value; rw [if_pos ((has_s hn).mpr hs)]
    rw [e] at hct
    have hL := ct_L_value S S r b 2 _ hct (Or.inr rfl)
    rw [if_neg (by decide), if_neg (by decide)] at hL
    have uA : IA (wI S 115 0 0) n := hA.of (fun a c z1 z2 => rI_wIc (by omega) _ _) (fun a c z => rfl)
    obtain ⟨V, v1, vA, _⟩ := anR uA
    have hR := ct_X9_value S r b n hA.1.2.1 h24 V v1 vA.1.okR
    rw [if_neg hs, if_neg hs] at hR
    exact ⟨1, _, _, _, hL, hR, rI_same _ _ _ _, fun z => absurd z (by decide), Inv.refuse hA hH hX 1⟩

