theorem b200_c {p : Int32} : b200 p ↔ (¬ p < 1 ∧ p ≤ 200) := by
  unfold b200
  rw [show (1 : Int64) = (1 : Int32).toInt64 from rfl, w_le, ile, show (200 : Int64) = (200 : Int32).toInt64 from rfl, w_le, ile, il]
  constructor
  · rintro ⟨a, b⟩; exact ⟨by omega, b⟩
  · rintro ⟨a, b⟩; exact ⟨by omega, b⟩
theorem rI_ruF (T : gS) (n k a c : Nat) (h1 : a ≠ 123) (h2 : a ≠ 124) (h3 : a ≠ 135) (h4 : a ≠ 136) (h5 : ¬ (a = 115 ∧ c = 11)) : rI (ruF T n k) a c = rI T a c := by
  unfold ruF
  rw [rI_evF _ _ _ _ _ h3, rI_tcF _ _ _ _ h4, rI_evF _ _ _ _ _ h3, rI_wIc h5, rI_rcF _ _ _ _ _ h1 h2 h3 h4]
theorem rL_ruF (T : gS) (n k a c : Nat) : rL (ruF T n k) a c = rL T a c := by
  unfold ruF
  rw [rL_evF]
  show rL (evF _ 0 n) a c = _
  rw [rL_evF, rL_wI, rL_rcF]
theorem cy_ruF (T : gS) (n k : Nat) : rI (ruF T n k) 115 11 = rI T 115 11 + nI k := by
  unfold ruF
  rw [rI_evF _ _ _ _ _ (by decide), rI_tcF _ _ _ _ (by decide), rI_evF _ _ _ _ _ (by decide), rI_same, rI_rcF _ _ _ _ _ (by decide) (by decide) (by decide) (by decide)]
theorem fl_lp_run (n k a c : Nat) (p : gS) : rL (itr (bd_run n) k p) a c = rL p a c := fl_lp_bd_run n k p a c
theorem q_run {S : gS} (h : Inv S) (p : Int32) : A1 mL_run [.ref 0, .int p, .ref 145] mX9_run [.ref 115, .int p] S Int32.toInt64 := by
  obtain ⟨n, T, hn, h24, ho, hA, hH, hX, t1, tA, tH, tX, ta, tF⟩ := front h
  have hct := ct_X8_run S p T n t1 tA.1.1
  by_cases hb : b200 p
  · obtain ⟨k, k1, k2, k3, k4⟩ := b200_n hb
    have e : f_X8_run S p T n = (0, f_X8_differingOutputs (f_X8_settleBoth (wI (itr (bd_run n) k T) 1 1 (rI T 1 1 + p)) n) n, f_X8_settleBoth (wI (itr (bd_run n) k T) 1 1 (rI T 1 1 + p)) n) := by
      unfold f_X8_run
      rw [if_neg (b200_c.mp hb).1, if_pos (b200_c.mp hb).2, k4, fr_lp_run (by decide) (by decide) (by decide) (by decide)]
    rw [e] at hct
    have f : ∀ a c, a ≠ 10 → a ≠ 11 → a ≠ 52 → a ≠ 54 → ¬ (a = 1 ∧ c = 1) → rI (f_X8_settleBoth (wI (itr (bd_run n) k T) 1 1 (rI T 1 1 + p)) n) a c = rI T a c := fun a c z1 z2 z3 z4 z5 => by
      rw [fr_f_X8_settleBoth z3 z4, rI_wIc z5, fr_lp_run z1 z2 z3 z4]
    have f1 : rI (f_X8_settleBoth (wI (itr (bd_run n) k T) 1 1 (rI T 1 1 + p)) n) 1 1 = rI T 1 1 + p := by
      rw [fr_f_X8_settleBoth (by decide) (by decide), rI_same]
    have g : ∀ a c, rL (f_X8_settleBoth (wI (itr (bd_run n) k T) 1 1 (rI T 1 1 + p)) n) a c = rL T a c := fun a c => by
      rw [fl_f_X8_settleBoth, rL_wI, fl_lp_run]
    have hans : ∀ V, CI T V n → NA T V n → HV T V n → f_X8_differingOutputs (f_X8_settleBoth (wI (itr (bd_run n) k T) 1 1 (rI T 1 1 + p)) n) n = dfN (ruF V n k) n ∧ HV (f_X8_settleBoth (wI (itr (bd_run n) k T) 1 1 (rI T 1 1 + p)) n) (ruF V n k) n := fun V c1 c2 c3 => run_ans c1 c2 c3 (fun i _ => tA.2.1 i) k _
    have hL := ct_L_run S _ p 0 _ hct (Or.inl rfl)
    rw [if_pos rfl, if_pos rfl] at hL
    revert f f1 g hans hL
    generalize f_X8_settleBoth (wI (itr (bd_run n) k T) 1 1 (rI T 1 1 + p)) n = W
    intro f f1 g hans hL
    have wA : IA W n := tA.of (fun a c z1 z2 => f a c (by omega) (by omega) (by omega) (by omega) z1) (fun a c z => g a c)
    have wX : IX W := tX.of (fun a c z => f a c (by omega) (by omega) (by omega) (by omega) (by omega))
    have uA : IA (wI (wL W 145 0 (f_X8_differingOutputs W n).toInt64) 115 0 0) n := wA.of (fun a c z1 z2 => (rI_wIc (by omega) _ _).trans (rI_wL _ _ _ _ _ _)) (fun a c z => (rL_wI _ _ _ _ _ _).trans ((rL_wL _ _ _ _ _ _).trans (if_neg (by omega))))
    obtain ⟨V, v1, vA, vf, v4, v5⟩ := anR uA
    have vT : ∀ a c, a ≠ 10 → a ≠ 11 → a ≠ 52 → a ≠ 54 → ¬ (a = 1 ∧ c = 1) → a ≠ 127 → a ≠ 128 → ¬ (a = 115 ∧ (c = 0 ∨ c = 14 ∨ c = 15)) → rI V a c = rI T a c := fun a c z1 z2 z3 z4 z5 z6 z7 z8 => (v4 a c z6 z7 (by omega)).trans ((rI_wIc (by omega) _ _).trans ((rI_wL _ _ _ _ _ _).trans (f a c z1 z2 z3 z4 z5)))
    have vW : ∀ a c, a < 115 → rI V a c = rI W a c := fun a c z => (v4 a c (by omega) (by omega) (by omega)).trans ((rI_wIc (by omega) _ _).trans (rI_wL _ _ _ _ _ _))
    have v0 : rI V 115 0 = 0 := (v4 115 0 (by decide) (by decide) (by decide)).trans (rI_same _ _ _ _)
    have vo : rL V 145 0 = (f_X8_differingOutputs W n).toInt64 := (v5 145 0 (by decide) (by decide) (by decide)).trans ((rL_wI _ _ _ _ _ _).trans ((rL_wL _ _ _ _ _ _).trans (if_pos ⟨rfl, rfl⟩)))
    have va : rI V 0 12 ≠ 0 := by rw [vT 0 12 (by decide) (by decide) (by decide) (by decide) (by decide) (by decide) (by decide) (by decide)]; exact ta
    have vN := vA.alike va vf
    have hC : CI T V n := vA.1.of (fun a c z1 z2 z3 => (vT a c (by omega) (by omega) (by omega) (by omega) z2 (by omega) (by omega) (by omega)).symm) (fun a c _ => rfl)
    have hN : NA T V n := (NA.of_AN vN).of (fun i => (vT 42 i (by decide) (by decide) (by decide) (by decide) (by omega) (by decide) (by decide) (by omega)).symm) (fun i => (vT 43 i (by decide) (by decide) (by decide) (by decide) (by omega) (by decide) (by decide) (by omega)).symm) (fun i => rfl) (fun i => rfl) (fun i => rfl)
    have hV : HV T V n := hv_of tH vA vf (fun a c z1 z2 z3 => vT a c (by omega) (by omega) (by omega) (by omega) z2 (by omega) (by omega) (by omega)) (fun i => vT 123 i (by decide) (by decide) (by decide) (by decide) (by omega) (by decide) (by decide) (by omega)) (fun i => vT 124 i (by decide) (by decide) (by decide) (by decide) (by omega) (by decide) (by decide) (by omega))
    obtain ⟨a1, a2⟩ := hans V hC hN hV
    have hR := ct_X9_run (wL W 145 0 (f_X8_differingOutputs W n).toInt64) V p n v1 vA.1.okR vf
    rw [if_pos hb, if_pos hb, k4, ← a1] at hR
    have r1 : ∀ a c, a ≠ 123 → a ≠ 124 → a ≠ 135 → a ≠ 136 → ¬ (a = 115 ∧ c = 11) → rI (ruF V n k) a c = rI V a c := fun a c z1 z2 z3 z4 z5 => rI_ruF V n k a c z1 z2 z3 z4 z5
    have r2 : ∀ a c, rL (ruF V n k) a c = rL V a c := fun a c => rL_ruF V n k a c
    have r3 := cy_ruF V n k
    clear hans a1
    revert r1 r2 r3 a2 hR
    generalize ruF V n k = R
    intro a2 hR r1 r2 r3
    have rA : IA R n := vA.of (fun a c z1 z2 => r1 a c (by omega) (by omega) (by omega) (by omega) (by omega)) (fun a c z => r2 a c)
    have rf : rI R 115 15 ≠ 0 := by rw [r1 115 15 (by decide) (by decide) (by decide) (by decide) (by decide)]; exact vf
    have rW : ∀ a c, a < 115 → rI R a c = rI W a c := fun a c z => (r1 a c (by omega) (by omega) (by omega) (by omega) (by omega)).trans (vW a c z)
    refine ⟨0, _, _, _, hL, hR, ?_, fun _ => ?_, ⟨n, rA, ⟨?_, fun i hi z => ?_, fun i hi z => ?_, fun i hi z => ?_, fun X hXX i hi z => ?_⟩, ?_⟩⟩
    · rw [r1 115 0 (by decide) (by decide) (by decide) (by decide) (by decide)]; exact v0
    · rw [r2, vo]
    · rw [rW 1 1 (by decide), f1, r3, vT 115 11 (by decide) (by decide) (by decide) (by decide) (by decide) (by decide) (by decide) (by decide), tH.1, k3]
    · rw [rW 2 i (by decide), f 2 i (by decide) (by decide) (by decide) (by decide) (by omega)] at z
      rw [r1 120 i (by decide) (by decide) (by decide) (by decide) (by omega), vT 120 i (by decide) (by decide) (by decide) (by decide) (by omega) (by decide) (by decide) (by omega)]
      exact tH.2.1 i hi z
    · rw [rW 9 i (by decide)]
      exact (a2 i hi).1 ((rW 2 i (by decide)).symm.trans z)
    · rw [rW 10 i (by decide)]
      exact ((a2 i hi).2 ((rW 2 i (by decide)).symm.trans z)).1
    · obtain ⟨y1, y2, y3, y4⟩ := (rA.2.2.2.2.2.2.2 rf X hXX).1 i hi
      have hz := ((a2 i hi).2 ((rW 2 i (by decide)).symm.trans z)).2
      rw [na_of y4 y3 y1, na_of y4 y3 y1] at hz
      rw [rW 11 i (by decide)]
      exact hz
    · exact wX.of (fun a c z => by
        rcases Nat.lt_or_ge a 115 with q | q
        · exact rW a c q
        · rw [r1 a c (by omega) (by omega) (by omega) (by omega) (by omega), v4 a c (by omega) (by omega) (by omega), rI_wIc (by omega), rI_wL])
  · have e : f_X8_run S p T n = (1, 0, S) := by
      unfold f_X8_run
      by_cases z : p < 1
      · rw [if_pos z]
      · rw [if_neg z, if_neg (fun y => hb (b200_c.mpr ⟨z, y⟩))]
    rw [e] at hct
    have hL := ct_L_run S S p 1 _ hct (Or.inr rfl)
    rw [if_neg (by decide), if_neg (by decide)] at hL
    have uA : IA (wI S 115 0 0) n := hA.of (fun a c z1 z2 => rI_wIc (by omega) _ _) (fun a c z => rfl)
    obtain ⟨V, v1, vA, vf, _⟩ := anR uA
    have hR := ct_X9_run S V p n v1 vA.1.okR vf
    rw [if_neg hb, if_neg hb] at hR
    exact ⟨1, _, _, _, hL, hR, rI_same _ _ _ _, fun z => absurd z (by decide), Inv.refuse hA hH hX 1⟩

