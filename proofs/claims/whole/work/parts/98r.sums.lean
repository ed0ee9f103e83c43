theorem cost_s {Sc Sr : gS} {n i : Nat} (hC : CI Sc Sr n) (hi : i < n) (h42 : ∀ i, i < n → rI Sc 42 i = woF Sr i) : f_X7_costIn Sc i = coF Sr i := by
  have hn := hC.1.2.1
  have hok := hC.1.2.2 i hi
  obtain ⟨s1, s2, s3, s4, s5, s6⟩ := (hC.2.2 i hi).1
  unfold f_X7_costIn coF
  rw [s1, s2, s3]
  by_cases h11 : rI Sc 2 i = 11
  · obtain ⟨p, p1, p2, p3⟩ := nI_ofInt (hok.2.1 (by rw [h11]; decide)) (by omega)
    obtain ⟨q, q1, q2, q3⟩ := nI_ofInt (hok.2.2.1 (by rw [h11]; decide) (by rw [h11]; decide) (by rw [h11]; decide)) (by omega)
    rw [if_pos h11, if_pos h11, p3, q3, h42 i hi, h42 p (by omega), h42 q (by omega), h11]
    by_cases h0 : woF Sr i = 0
    · rw [if_pos h0, if_pos h0, h0]; rfl
    · rw [if_neg h0, if_neg h0]
      have e : ∀ w, f_X8_costFor 11 w = w := fun w => rfl
      rw [e]
      unfold mxi
      by_cases hl : woF Sr p ≤ woF Sr q
      · rw [if_pos hl]
        by_cases hl2 : woF Sr p < woF Sr q
        · rw [if_pos hl2]
        · rw [if_neg hl2]
          apply Int32.toInt_inj.mp
          rw [il] at hl2
          rw [ile] at hl
          omega
      · rw [if_neg hl, if_neg (fun z => hl (by rw [ile]; rw [il] at z; omega))]
  · rw [if_neg h11, if_neg h11, co_eq h11, h42 i hi]
theorem ts_0 (U : gS) (i : Nat) (v : Int32) : tsF U 0 i v = v + coF U i := rfl
theorem ts_1 (U : gS) (i : Nat) (v : Int32) : tsF U 1 i v = v + (if rI U 116 i = 11 then 32 else cbF (rI U 116 i) 32) := rfl
theorem ts_2 (U : gS) (i : Nat) (v : Int32) : tsF U 2 i v = v + (if 0 ≤ rI U 134 i then 0 else coF U i) := rfl
theorem ts_3 (U : gS) (i : Nat) (v : Int32) : tsF U 3 i v = v + woF U i := rfl
theorem ts_4 (U : gS) (i : Nat) (v : Int32) : tsF U 4 i v = v + (if woF U i = 0 then 1 else 0) := rfl
theorem itr_eq {α : Type} {f g : Nat → α → α} {n : Nat} (h : ∀ i, i < n → ∀ x, f i x = g i x) (x : α) : itr f n x = itr g n x := by
  induction n with
  | zero => rfl
  | succ n ih =>
    show f n (itr f n x) = g n (itr g n x)
    rw [ih (fun i hi x => h i (by omega) x), h n (by omega)]
theorem itr_add {f : Nat → Int32 → Int32} {d : Nat → Int32} {n : Nat} (h : ∀ i, i < n → ∀ x, f i x = x + d i) (x : Int32) : itr f n x = x + itr (fun i v => v + d i) n 0 := by
  induction n with
  | zero => exact (Int32.add_zero x).symm
  | succ n ih =>
    show f n (itr f n x) = x + (itr (fun i v => v + d i) n 0 + d n)
    rw [ih (fun i hi x => h i (by omega) x), h n (by omega), Int32.add_assoc]
theorem sum_0 {Sc Sr : gS} {n : Nat} (hC : CI Sc Sr n) (h42 : ∀ i, i < n → rI Sc 42 i = woF Sr i) : f_X7_costOfAll Sc n = tsN Sr 0 n := itr_eq (fun i hi x => by rw [ts_0, ← cost_s hC hi h42]; rfl) 0
theorem sum_1 {Sc Sr : gS} {n : Nat} (hC : CI Sc Sr n) : f_X8_fullCost Sc n = tsN Sr 1 n := itr_eq (fun i hi x => by
  rw [ts_1, (hC.2.2 i hi).1.1]
  unfold bd_fCst
  by_cases h : rI Sc 2 i = 11
  · rw [if_pos h, h]; rfl
  · rw [if_neg h, co_eq h]) 0
theorem sum_3 {Sc Sr : gS} {n : Nat} (h42 : ∀ i, i < n → rI Sc 42 i = woF Sr i) : f_X7_sumIn Sc n = tsN Sr 3 n := itr_eq (fun i hi x => by rw [ts_3, ← h42 i hi]; rfl) 0
theorem sum_4 {Sc Sr : gS} {n : Nat} (h42 : ∀ i, i < n → rI Sc 42 i = woF Sr i) : f_X7_zeroesIn Sc n = tsN Sr 4 n := itr_eq (fun i hi x => by
  rw [ts_4, ← h42 i hi]
  unfold bd_wZer
  by_cases h : rI Sc 42 i = 0
  · rw [if_pos h, if_pos h]; rfl
  · rw [if_neg h, if_neg h, Int32.add_zero]) 0
theorem uall {Sc U : gS} {m : Nat} (h : UQ Sc U m) (hm : m ≤ 24) : f_X6_costOfAll Sc = itr (fun i v => v + ucF (rI U 129 i) (rI U 130 i) (rI U 131 i)) m 0 := by
  unfold f_X6_costOfAll
  rw [h.1, nI_c (by omega)]
  refine itr_eq (fun i hi x => ?_) 0
  obtain ⟨g1, g2, g3, g4, g5, g6⟩ := h.2.2 i hi
  unfold bd_uAll f_X6_costOf f_X6_costWith ucF
  rw [nI_c (by omega), g1, g2, g3, co_eq g6]
theorem sum_2 {Sc U : gS} {n m : Nat} (hC : CI Sc U n) (h42 : ∀ i, i < n → rI Sc 42 i = woF U i) (h : UQ Sc U m) (hm : m ≤ 24) (h50 : ∀ i, i < n → rI Sc 50 i = rI U 134 i) : f_X8_sharedCost Sc n = tuN U (tsN U 2 n) m := by
  have e1 : f_X8_sharedCost Sc n = f_X6_costOfAll Sc + itr (fun i v => v + (if 0 ≤ rI U 134 i then 0 else coF U i)) n 0 := by
    unfold f_X8_sharedCost
    refine itr_add (fun i hi x => ?_) _
    unfold bd_sCst
    rw [h50 i hi, cost_s hC hi h42]
    by_cases c : 0 ≤ rI U 134 i
    · rw [if_pos c, if_pos c, Int32.add_zero]
    · rw [if_neg c, if_neg c]
  have e2 : tsN U 2 n = itr (fun i v => v + (if 0 ≤ rI U 134 i then 0 else coF U i)) n 0 := itr_eq (fun i hi x => ts_2 U i x) 0
  have e3 : tuN U (tsN U 2 n) m = tsN U 2 n + itr (fun i v => v + ucF (rI U 129 i) (rI U 130 i) (rI U 131 i)) m 0 := by
    unfold tuN
    exact itr_add (fun i hi x => rfl) _
  rw [e1, e3, e2, uall h hm, Int32.add_comm]
theorem ucost {Sc U : gS} {m u : Nat} (h : UQ Sc U m) (hm : m ≤ 24) (hu : u < m) : f_X6_costOf Sc (nI u) = ucF (rI U 129 u) (rI U 130 u) (rI U 131 u) := by
  obtain ⟨g1, g2, g3, g4, g5, g6⟩ := h.2.2 u hu
  unfold f_X6_costOf f_X6_costWith ucF
  rw [nI_c (by omega), g1, g2, g3, co_eq g6]
/-- outputs that differ -/
theorem diff_s {Sc U : gS} {n : Nat} (h01 : ∀ i, i < n → rI Sc 7 i = 0 ∨ rI Sc 7 i = 1) (h7 : ∀ i, i < n → rI U 121 i = rI Sc 7 i) (h52 : ∀ i, i < n → rI Sc 52 i = rI U 136 i) (h54 : ∀ i, i < n → rI Sc 54 i = rI U 135 i) : f_X8_differingOutputs Sc n = dfN U n := itr_eq (fun i hi x => by
  unfold bd_dOut d1F
  rw [h7 i hi, h52 i hi, h54 i hi]
  rcases h01 i hi with q | q
  · rw [q, if_pos rfl, if_neg (fun z => absurd z.1 (by decide)), Int32.add_zero]
  · rw [q, if_neg (by decide)]
    by_cases c : rI U 136 i = rI U 135 i
    · rw [if_pos c, if_neg (fun z => z.2 c), Int32.add_zero]
    · rw [if_neg c, if_pos ⟨rfl, c⟩]; rfl) 0
theorem tc_rd (S : gS) (n i : Nat) (hi : i < n) : rI (tcF S n) 136 i = rI S 135 i := by
  unfold tcF
  rw [rI_wR, if_pos rfl, if_pos hi]
theorem HV.of {Sc Sr Tc Tr : gS} {n : Nat} (h : HV Sc Sr n) (c2 : ∀ i, rI Tc 2 i = rI Sc 2 i) (c9 : ∀ i, rI Tc 9 i = rI Sc 9 i) (c10 : ∀ i, rI Tc 10 i = rI Sc 10 i) (c11 : ∀ i, rI Tc 11 i = rI Sc 11 i) (r3 : ∀ i, rI Tr 123 i = rI Sr 123 i) (r4 : ∀ i, rI Tr 124 i = rI Sr 124 i) (h1 : ∀ i, rI Tr 128 i = rI Sr 128 i) (h2 : ∀ i, rI Tr 127 i = rI Sr 127 i) (h3 : ∀ i, rL Tr 125 i = rL Sr 125 i) : HV Tc Tr n := by
  intro i hi
  obtain ⟨g1, g2⟩ := h i hi
  rw [c2, c9, c10, c11, r3, r4, na_of (h1 i) (h2 i) (h3 i), na_of (h1 i) (h2 i) (h3 i)]
  exact ⟨g1, g2⟩
/-- what run answers -/
theorem run_ans {Sc Sr : gS} {n : Nat} (hC : CI Sc Sr n) (hA : NA Sc Sr n) (hv : HV Sc Sr n) (h01 : ∀ i, i < n → rI Sc 7 i = 0 ∨ rI Sc 7 i = 1) (k : Nat) (v : Int32) : f_X8_differingOutputs (f_X8_settleBoth (wI (itr (bd_run n) k Sc) 1 1 v) n) n = dfN (ruF Sr n k) n ∧ HV (f_X8_settleBoth (wI (itr (bd_run n) k Sc) 1 1 v) n) (ruF Sr n k) n := by
  obtain ⟨hC1, hA1, hv1⟩ := run_s hC hA hv k
  have a7 : ∀ i, rI (itr (bd_run n) k Sc) 7 i = rI Sc 7 i := fun i => fr_lp_run (by decide) (by decide) (by decide) (by decide) _ _ _
  unfold ruF
  revert hC1 hA1 hv1 a7
  generalize itr (bd_run n) k Sc = A
  generalize rcF Sr n k = B
  intro hC1 hA1 hv1 a7
  have ca : ∀ a c, ¬ (a = 1 ∧ c = 1) → rI (wI A 1 1 v) a c = rI A a c := fun a c h => rI_wIc h _ _
  have cb : ∀ a c, ¬ (a = 115 ∧ c = 11) → rI (wI B 115 11 (rI B 115 11 + nI k)) a c = rI B a c := fun a c h => rI_wIc h _ _
  have lb : ∀ a c, rL (wI B 115 11 (rI B 115 11 + nI k)) a c = rL B a c := fun a c => rfl
  have hC2 : CI (wI A 1 1 v) (wI B 115 11 (rI B 115 11 + nI k)) n := hC1.of (fun a c z1 z2 z3 => ca a c z2) (fun a c z => cb a c (by omega))
  have hA2 : NA (wI A 1 1 v) (wI B 115 11 (rI B 115 11 + nI k)) n := hA1.of (fun i => ca 42 i (by omega)) (fun i => ca 43 i (by omega)) (fun i => cb 128 i (by omega)) (fun i => cb 127 i (by omega)) (fun i => lb 125 i)
  have hv2 : HV (wI A 1 1 v) (wI B 115 11 (rI B 115 11 + nI k)) n := hv1.of (fun i => ca 2 i (by omega)) (fun i => ca 9 i (by omega)) (fun i => ca 10 i (by omega)) (fun i => ca 11 i (by omega)) (fun i => cb 123 i (by omega)) (fun i => cb 124 i (by omega)) (fun i => cb 128 i (by omega)) (fun i => cb 127 i (by omega)) (fun i => lb 125 i)
  have b7 : ∀ i, rI (wI A 1 1 v) 7 i = rI Sc 7 i := fun i => (ca 7 i (by omega)).trans (a7 i)
  revert hC2 hA2 hv2 b7
  generalize wI A 1 1 v = A
  generalize wI B 115 11 (rI B 115 11 + nI k) = B
  clear ca cb lb
  intro hC2 hA2 hv2 b7
  have f0 : ∀ a c, a ≠ 135 → a ≠ 136 → rI (tcF (evF B 0 n) n) a c = rI B a c := fun a c h1 h2 => (rI_tcF _ _ _ _ h2).trans (rI_evF _ _ _ _ _ h1)
  have l0 : ∀ a c, rL (tcF (evF B 0 n) n) a c = rL B a c := fun a c => rL_evF _ _ _ _ _
  have hC3 : CI A (tcF (evF B 0 n) n) n := hC2.of (fun a c _ _ _ => rfl) (fun a c z => f0 a c (by omega) (by omega))
  have hA3 : NA A (tcF (evF B 0 n) n) n := hA2.of (fun i => rfl) (fun i => rfl) (fun i => f0 128 i (by decide) (by decide)) (fun i => f0 127 i (by decide) (by decide)) (fun i => l0 125 i)
  have hv3 : HV A (tcF (evF B 0 n) n) n := hv2.of (fun i => rfl) (fun i => rfl) (fun i => rfl) (fun i => rfl) (fun i => f0 123 i (by decide) (by decide)) (fun i => f0 124 i (by decide) (by decide)) (fun i => f0 128 i (by decide) (by decide)) (fun i => f0 127 i (by decide) (by decide)) (fun i => l0 125 i)
  have s1 := settle_s hC2 hA2 hv2
  have s2 := settle_s hC3 hA3 hv3
  have e7 : ∀ i, rI (f_X8_settleBoth A n) 7 i = rI Sc 7 i := fun i => (fr_f_X8_settleBoth (by decide) (by decide) _ _).trans (b7 i)
  constructor
  · refine diff_s (fun i hi => by rw [e7]; exact h01 i hi) (fun i hi => ?_) (fun i hi => ?_) (fun i hi => (s2 i hi).2)
    · rw [e7, rI_evF _ _ _ _ _ (by decide), f0 121 i (by decide) (by decide), (hC2.2.2 i hi).1.2.2.2.2.2, b7]
    · rw [(s1 i hi).1, rI_evF _ _ _ _ _ (show 136 ≠ 135 by decide), tc_rd _ _ _ hi]
  · refine hv3.of (fun i => fr_f_X8_settleBoth (by decide) (by decide) _ _) (fun i => fr_f_X8_settleBoth (by decide) (by decide) _ _) (fun i => fr_f_X8_settleBoth (by decide) (by decide) _ _) (fun i => fr_f_X8_settleBoth (by decide) (by decide) _ _) (fun i => rI_evF _ _ _ _ _ (by decide)) (fun i => rI_evF _ _ _ _ _ (by decide)) (fun i => rI_evF _ _ _ _ _ (by decide)) (fun i => rI_evF _ _ _ _ _ (by decide)) (fun i => rL_evF _ _ _ _ _)

