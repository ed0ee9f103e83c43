theorem takeF_rd (S : gS) : ∀ k i, rI (itr bd_takeF k S) 10 i = if i < k ∧ rI S 2 i = 2 then rI S 52 (rI S 6 i).toNatClampNeg else rI S 10 i := by
  intro k
  induction k with
  | zero => intro i; rw [if_neg (fun z => absurd z.1 (Nat.not_lt_zero i))]; rfl
  | succ k ih =>
    intro i
    have hi := ih i
    have f2 : rI (itr bd_takeF k S) 2 k = rI S 2 k := fr_lp_takeF (by decide) _ _
    have f6 : rI (itr bd_takeF k S) 6 k = rI S 6 k := fr_lp_takeF (by decide) _ _
    have fv : ∀ c, rI (itr bd_takeF k S) 52 c = rI S 52 c := fun c => fr_lp_takeF (by decide) _ _
    rw [show itr bd_takeF (k + 1) S = bd_takeF k (itr bd_takeF k S) from rfl]
    revert hi f2 f6 fv
    generalize itr bd_takeF k S = p
    intro hi f2 f6 fv
    unfold bd_takeF
    rw [f2, f6, fv]
    by_cases c2 : rI S 2 k = 2
    · rw [if_pos c2]
      by_cases e : i = k
      · subst e; rw [rI_same, if_pos ⟨Nat.lt_succ_self i, c2⟩]
      · rw [rI_wIc (fun z => e z.2), hi]
        have hl : i < k + 1 ↔ i < k := by omega
        simp only [hl]
    · rw [if_neg c2, hi]
      by_cases e : i = k
      · subst e; rw [if_neg (fun z => c2 z.2), if_neg (fun z => c2 z.2)]
      · have hl : i < k + 1 ↔ i < k := by omega
        simp only [hl]

theorem takeN_rd (S : gS) : ∀ k i, rI (itr bd_takeN k S) 11 i = if i < k ∧ rI S 2 i = 2 then rI S 54 (rI S 6 i).toNatClampNeg else rI S 11 i := by
  intro k
  induction k with
  | zero => intro i; rw [if_neg (fun z => absurd z.1 (Nat.not_lt_zero i))]; rfl
  | succ k ih =>
    intro i
    have hi := ih i
    have f2 : rI (itr bd_takeN k S) 2 k = rI S 2 k := fr_lp_takeN (by decide) _ _
    have f6 : rI (itr bd_takeN k S) 6 k = rI S 6 k := fr_lp_takeN (by decide) _ _
    have fv : ∀ c, rI (itr bd_takeN k S) 54 c = rI S 54 c := fun c => fr_lp_takeN (by decide) _ _
    rw [show itr bd_takeN (k + 1) S = bd_takeN k (itr bd_takeN k S) from rfl]
    revert hi f2 f6 fv
    generalize itr bd_takeN k S = p
    intro hi f2 f6 fv
    unfold bd_takeN
    rw [f2, f6, fv]
    by_cases c2 : rI S 2 k = 2
    · rw [if_pos c2]
      by_cases e : i = k
      · subst e; rw [rI_same, if_pos ⟨Nat.lt_succ_self i, c2⟩]
      · rw [rI_wIc (fun z => e z.2), hi]
        have hl : i < k + 1 ↔ i < k := by omega
        simp only [hl]
    · rw [if_neg c2, hi]
      by_cases e : i = k
      · subst e; rw [if_neg (fun z => c2 z.2), if_neg (fun z => c2 z.2)]
      · have hl : i < k + 1 ↔ i < k := by omega
        simp only [hl]

theorem hl0_rd (S : gS) : ∀ k i, rI (hlF S 0 k) 123 i = (if i < k ∧ rI S 116 i = 2 then rI S 136 i else rI S 123 i) ∧ rI (hlF S 0 k) 124 i = rI S 124 i := by
  intro k
  induction k with
  | zero => intro i; rw [if_neg (fun z => absurd z.1 (Nat.not_lt_zero i))]; exact ⟨rfl, rfl⟩
  | succ k ih =>
    intro i
    have hi := ih i
    have f6 : rI (hlF S 0 k) 116 k = rI S 116 k := rI_hlF _ _ _ _ _ (by decide) (by decide)
    have f36 : rI (hlF S 0 k) 136 k = rI S 136 k := rI_hlF _ _ _ _ _ (by decide) (by decide)
    rw [show hlF S 0 (k + 1) = h1F 0 k (hlF S 0 k) from rfl]
    revert hi f6 f36
    generalize hlF S 0 k = p
    intro hi f6 f36
    unfold h1F
    rw [f6, f36, if_pos rfl]
    by_cases c2 : rI S 116 k = 2
    · rw [if_pos c2, rI_wIk (show 124 ≠ 123 by decide)]
      refine ⟨?_, hi.2⟩
      by_cases e : i = k
      · subst e; rw [rI_same, if_pos ⟨Nat.lt_succ_self i, c2⟩]
      · rw [rI_wIc (fun z => e z.2), hi.1]
        have hl : i < k + 1 ↔ i < k := by omega
        simp only [hl]
    · rw [if_neg c2]
      refine ⟨?_, hi.2⟩
      rw [hi.1]
      by_cases e : i = k
      · subst e; rw [if_neg (fun z => c2 z.2), if_neg (fun z => c2 z.2)]
      · have hl : i < k + 1 ↔ i < k := by omega
        simp only [hl]
theorem hl1_rd (S : gS) : ∀ k i, rI (hlF S 1 k) 124 i = (if i < k ∧ rI S 116 i = 2 then naF S i (rI S 136 i) else rI S 124 i) ∧ rI (hlF S 1 k) 123 i = rI S 123 i := by
  intro k
  induction k with
  | zero => intro i; rw [if_neg (fun z => absurd z.1 (Nat.not_lt_zero i))]; exact ⟨rfl, rfl⟩
  | succ k ih =>
    intro i
    have hi := ih i
    have f6 : rI (hlF S 1 k) 116 k = rI S 116 k := rI_hlF _ _ _ _ _ (by decide) (by decide)
    have f36 : rI (hlF S 1 k) 136 k = rI S 136 k := rI_hlF _ _ _ _ _ (by decide) (by decide)
    have fna : naF (hlF S 1 k) k (rI S 136 k) = naF S k (rI S 136 k) := na_of (rI_hlF _ _ _ _ _ (by decide) (by decide)) (rI_hlF _ _ _ _ _ (by decide) (by decide)) (rL_hlF _ _ _ _ _) _
    rw [show hlF S 1 (k + 1) = h1F 1 k (hlF S 1 k) from rfl]
    revert hi f6 f36 fna
    generalize hlF S 1 k = p
    intro hi f6 f36 fna
    unfold h1F
    rw [f6, f36, fna, if_neg (show ¬ (1 : Int32) = 0 by decide)]
    by_cases c2 : rI S 116 k = 2
    · rw [if_pos c2, rI_wIk (show 123 ≠ 124 by decide)]
      refine ⟨?_, hi.2⟩
      by_cases e : i = k
      · subst e; rw [rI_same, if_pos ⟨Nat.lt_succ_self i, c2⟩]
      · rw [rI_wIc (fun z => e z.2), hi.1]
        have hl : i < k + 1 ↔ i < k := by omega
        simp only [hl]
    · rw [if_neg c2]
      refine ⟨?_, hi.2⟩
      rw [hi.1]
      by_cases e : i = k
      · subst e; rw [if_neg (fun z => c2 z.2), if_neg (fun z => c2 z.2)]
      · have hl : i < k + 1 ↔ i < k := by omega
        simp only [hl]
theorem tk_rd (S : gS) (n i : Nat) (hi : i < n) (h : rI S 116 i = 2) : rI (tkF S n) 136 i = rI S 135 (rI S 120 i).toNatClampNeg := by
  unfold tkF
  rw [rI_wR, if_pos rfl, if_pos hi, if_pos h]
/-- narrowing of a signal is alike -/
def NA (Sc Sr : gS) (n : Nat) : Prop := ∀ i, i < n → rI Sc 42 i = woF Sr i ∧ rI Sc 43 i = bi (nsP Sr i) ∧ ∃ w : Nat, 1 ≤ w ∧ w ≤ 32 ∧ rI Sr 127 i = nI w
/-- what is held is alike -/
def HV (Sc Sr : gS) (n : Nat) : Prop := ∀ i, i < n → (rI Sc 2 i = 0 → rI Sc 9 i = rI Sr 123 i) ∧ (rI Sc 2 i = 2 → rI Sc 10 i = rI Sr 123 i ∧ naF Sr i (rI Sc 11 i) = naF Sr i (rI Sr 124 i))
theorem NA.of {Sc Sr Tc Tr : gS} {n : Nat} (h : NA Sc Sr n) (c2 : ∀ i, rI Tc 42 i = rI Sc 42 i) (c3 : ∀ i, rI Tc 43 i = rI Sc 43 i) (h1 : ∀ i, rI Tr 128 i = rI Sr 128 i) (h2 : ∀ i, rI Tr 127 i = rI Sr 127 i) (h3 : ∀ i, rL Tr 125 i = rL Sr 125 i) : NA Tc Tr n := by
  intro i hi
  obtain ⟨g1, g2, g3⟩ := h i hi
  rw [c2, c3, bi_ns (h1 i) (h2 i) (h3 i), wo_of (h1 i), h2]
  exact ⟨g1, g2, g3⟩
/-- both machines settle alike -/
theorem settle_s {Sc Sr : gS} {n : Nat} (hC : CI Sc Sr n) (hA : NA Sc Sr n) (hv : HV Sc Sr n) : ∀ i, i < n → rI (f_X8_settleBoth Sc n) 52 i = rI (evF Sr 0 n) 135 i ∧ rI (f_X8_settleBoth Sc n) 54 i = rI (evF Sr 1 n) 135 i := by
  have f1 : ∀ a c, a ≠ 52 → rI (f_X3_settle Sc n) a c = rI Sc a c := fun a c h => fr_f_X3_settle h _ _
  have hC2 : CI (f_X3_settle Sc n) Sr n := hC.of (fun a c q1 q2 q3 => f1 a c (by omega)) (fun a c q => rfl)
  have hA2 : NA (f_X3_settle Sc n) Sr n := hA.of (fun i => f1 42 i (by decide)) (fun i => f1 43 i (by decide)) (fun i => rfl) (fun i => rfl) (fun i => rfl)
  intro i hi
  constructor
  · unfold f_X8_settleBoth
    rw [fr_f_X3_settleNarrowed (by decide)]
    exact ev_full hC (fun i hi z => (hv i hi).1 z) (fun i hi z => ((hv i hi).2 z).1) n (Nat.le_refl n) i hi
  · unfold f_X8_settleBoth f_X3_settleNarrowed
    refine ev_narr hC2 hA2 (fun i hi z => ?_) (fun i hi z => ?_) n (Nat.le_refl n) i hi
    · rw [f1 9 i (by decide)]; exact (hv i hi).1 ((f1 2 i (by decide)).symm.trans z)
    · rw [f1 11 i (by decide)]; exact ((hv i hi).2 ((f1 2 i (by decide)).symm.trans z)).2
/-- one cycle -/
theorem cyc_s {Sc Sr : gS} {n : Nat} (hC : CI Sc Sr n) (hA : NA Sc Sr n) (hv : HV Sc Sr n) (q : Nat) : CI (bd_run n q Sc) (toF (toF Sr 0 n) 1 n) n ∧ NA (bd_run n q Sc) (toF (toF Sr 0 n) 1 n) n ∧ HV (bd_run n q Sc) (toF (toF Sr 0 n) 1 n) n := by
  have hn := hC.1.2.1
  have g1 : ∀ a c, a ≠ 10 → a ≠ 11 → a ≠ 52 → a ≠ 54 → rI (bd_run n q Sc) a c = rI Sc a c := fun a c h1 h2 h3 h4 => by unfold bd_run; rw [fr_f_takeN h2, fr_f_takeF h1, fr_f_X8_settleBoth h3 h4]
  have r1 : ∀ a c, a ≠ 123 → a ≠ 124 → a ≠ 135 → a ≠ 136 → rI (toF Sr 0 n) a c = rI Sr a c := fun a c h1 h2 h3 h4 => rI_toF _ _ _ _ _ h1 h2 h3 h4
  have r2 : ∀ a c, a ≠ 123 → a ≠ 124 → a ≠ 135 → a ≠ 136 → rI (toF (toF Sr 0 n) 1 n) a c = rI Sr a c := fun a c h1 h2 h3 h4 => (rI_toF _ _ _ _ _ h1 h2 h3 h4).trans (r1 a c h1 h2 h3 h4)
  have hA2 : NA Sc (toF Sr 0 n) n := hA.of (fun i => rfl) (fun i => rfl) (fun i => r1 128 i (by decide) (by decide) (by decide) (by decide)) (fun i => r1 127 i (by decide) (by decide) (by decide) (by decide)) (fun i => rL_toF _ _ _ _ _)
  have hC2 : CI Sc (toF Sr 0 n) n := hC.of (fun a c _ _ _ => rfl) (fun a c z => r1 a c (by omega) (by omega) (by omega) (by omega))
  -- the first taking over
  have t0 : ∀ i, i < n → (rI Sc 2 i ≠ 2 → rI (toF Sr 0 n) 123 i = rI Sr 123 i) ∧ (rI Sc 2 i = 2 → rI (toF Sr 0 n) 123 i = rI (evF Sr 0 n) 135 (rI Sc 6 i).toNatClampNeg) ∧ rI (toF Sr 0 n) 124 i = rI Sr 124 i := by
    intro i hi
    obtain ⟨s1, s2, s3, s4, s5, s6⟩ := (hC.2.2 i hi).1
    have k6 : rI (tkF (evF Sr 0 n) n) 116 i = rI Sc 2 i := by rw [rI_tkF _ _ _ _ (by decide), rI_evF _ _ _ _ _ (by decide)]; exact s1
    have e6 : rI (evF Sr 0 n) 116 i = rI Sc 2 i := by rw [rI_evF _ _ _ _ _ (by decide)]; exact s1
    unfold toF
    obtain ⟨w1, w2⟩ := hl0_rd (tkF (evF Sr 0 n) n) n i
    rw [w1, w2, k6]
    refine ⟨fun z => ?_, fun z => ?_, ?_⟩
    · rw [if_neg (fun y => z y.2), rI_tkF _ _ _ _ (by decide), rI_evF _ _ _ _ _ (by decide)]
    · rw [if_pos ⟨hi, z⟩, tk_rd _ _ _ hi (e6.trans z), rI_evF _ _ _ _ _ (show 120 ≠ 135 by decide), s5 z]
    · rw [rI_tkF _ _ _ _ (by decide), rI_evF _ _ _ _ _ (by decide)]
  have hna0 : ∀ i v, naF (toF Sr 0 n) i v = naF Sr i v := fun i v => na_of (r1 128 i (by decide) (by decide) (by decide) (by decide)) (r1 127 i (by decide) (by decide) (by decide) (by decide)) (rL_toF _ _ _ _ _) v
  have t1 : ∀ i, i < n → rI (toF (toF Sr 0 n) 1 n) 123 i = rI (toF Sr 0 n) 123 i ∧ (rI Sc 2 i = 2 → rI (toF (toF Sr 0 n) 1 n) 124 i = naF Sr i (rI (evF (toF Sr 0 n) 1 n) 135 (rI Sc 6 i).toNatClampNeg)) := by
    intro i hi
    obtain ⟨s1, s2, s3, s4, s5, s6⟩ := (hC2.2.2 i hi).1
    have k6 : rI (tkF (evF (toF Sr 0 n) 1 n) n) 116 i = rI Sc 2 i := by rw [rI_tkF _ _ _ _ (by decide), rI_evF _ _ _ _ _ (by decide)]; exact s1
    have e6 : rI (evF (toF Sr 0 n) 1 n) 116 i = rI Sc 2 i := by rw [rI_evF _ _ _ _ _ (by decide)]; exact s1
    have hna : ∀ v, naF (tkF (evF (toF Sr 0 n) 1 n) n) i v = naF Sr i v := fun v => (na_of (S := toF Sr 0 n) ((rI_tkF _ _ _ _ (by decide)).trans (rI_evF _ _ _ _ _ (by decide))) ((rI_tkF _ _ _ _ (by decide)).trans (rI_evF _ _ _ _ _ (by decide))) (rL_evF _ _ _ _ _) v).trans (hna0 i v)
    rw [show toF (toF Sr 0 n) 1 n = hlF (tkF (evF (toF Sr 0 n) 1 n) n) 1 n from rfl]
    obtain ⟨w1, w2⟩ := hl1_rd (tkF (evF (toF Sr 0 n) 1 n) n) n i
    rw [w1, w2, k6]
    refine ⟨?_, fun z => ?_⟩
    · rw [rI_tkF _ _ _ _ (by decide), rI_evF _ _ _ _ _ (by decide)]
    · rw [if_pos ⟨hi, z⟩, hna, tk_rd _ _ _ hi (e6.trans z), rI_evF _ _ _ _ _ (show 120 ≠ 135 by decide), s5 z]
  have hvv : ∀ i, i < n → rI (f_X8_settleBoth Sc n) 54 i = rI (evF (toF Sr 0 n) 1 n) 135 i := by
    have f1 : ∀ a c, a ≠ 52 → rI (f_X3_settle Sc n) a c = rI Sc a c := fun a c h => fr_f_X3_settle h _ _
    have hC3 : CI (f_X3_settle Sc n) (toF Sr 0 n) n := hC2.of (fun a c q1 q2 q3 => f1 a c (by omega)) (fun a c q => rfl)
    have hA3 : NA (f_X3_settle Sc n) (toF Sr 0 n) n := hA2.of (fun i => f1 42 i (by decide)) (fun i => f1 43 i (by decide)) (fun i => rfl) (fun i => rfl) (fun i => rfl)
    intro i hi
    unfold f_X8_settleBoth f_X3_settleNarrowed
    refine ev_narr hC3 hA3 (fun i hi z => ?_) (fun i hi z => ?_) n (Nat.le_refl n) i hi
    · have z2 := (f1 2 i (by decide)).symm.trans z
      rw [f1 9 i (by decide), (t0 i hi).1 (by rw [z2]; decide)]
      exact (hv i hi).1 z2
    · have z2 := (f1 2 i (by decide)).symm.trans z
      rw [f1 11 i (by decide), (t0 i hi).2.2, hna0, hna0]
      exact ((hv i hi).2 z2).2
  refine ⟨hC.of (fun a c z1 z2 z3 => g1 a c (by omega) (by omega) (by omega) (by omega)) (fun a c z => r2 a c (by omega) (by omega) (by omega) (by omega)), hA.of (fun i => g1 42 i (by decide) (by decide) (by decide) (by decide)) (fun i => g1 43 i (by decide) (by decide) (by decide) (by decide)) (fun i => r2 128 i (by decide) (by decide) (by decide) (by decide)) (fun i => r2 127 i (by decide) (by decide) (by decide) (by decide)) (fun i => (rL_toF _ _ _ _ _).trans (rL_toF _ _ _ _ _)), ?_⟩
  intro i hi
  have hna2 : ∀ v, naF (toF (toF Sr 0 n) 1 n) i v = naF Sr i v := fun v => na_of (r2 128 i (by decide) (by decide) (by decide) (by decide)) (r2 127 i (by decide) (by decide) (by decide) (by decide)) ((rL_toF _ _ _ _ _).trans (rL_toF _ _ _ _ _)) v
  have k2 : rI (bd_run n q Sc) 2 i = rI Sc 2 i := g1 2 i (by decide) (by decide) (by decide) (by decide)
  rw [k2, g1 9 i (by decide) (by decide) (by decide) (by decide), (t1 i hi).1]
  refine ⟨fun z => ?_, fun z => ?_⟩
  · rw [(t0 i hi).1 (by rw [z]; decide)]; exact (hv i hi).1 z
  obtain ⟨p, p1, p2, p3⟩ := nI_ofInt (hC.1.2.2 i hi).2.2.2.2 hn
  have s2 : rI (f_X8_settleBoth Sc n) 2 i = rI Sc 2 i := fr_f_X8_settleBoth (by decide) (by decide) _ _
  have s6 : rI (f_X8_settleBoth Sc n) 6 i = rI Sc 6 i := fr_f_X8_settleBoth (by decide) (by decide) _ _
  have v10 : rI (bd_run n q Sc) 10 i = rI (f_X8_settleBoth Sc n) 52 p := by
    unfold bd_run
    rw [fr_f_takeN (by decide)]
    unfold f_takeF
    rw [takeF_rd, s2, s6, p3, if_pos ⟨hi, z⟩]
  have v11 : rI (bd_run n q Sc) 11 i = rI (f_X8_settleBoth Sc n) 54 p := by
    unfold bd_run
    rw [show f_takeN (f_takeF (f_X8_settleBoth Sc n) n) n = itr bd_takeN n (f_takeF (f_X8_settleBoth Sc n) n) from rfl]
    rw [takeN_rd, fr_f_takeF (by decide), fr_f_takeF (by decide), fr_f_takeF (by decide), s2, s6, p3, if_pos ⟨hi, z⟩]
  constructor
  · rw [v10, (t0 i hi).2.1 z, p3]
    exact (settle_s hC hA hv p p1).1
  · rw [hna2, hna2, v11, (t1 i hi).2 z, p3, na_id, hvv p p1]
/-- so many cycles -/
theorem run_s {Sc Sr : gS} {n : Nat} (hC : CI Sc Sr n) (hA : NA Sc Sr n) (hv : HV Sc Sr n) : ∀ k, CI (itr (bd_run n) k Sc) (rcF Sr n k) n ∧ NA (itr (bd_run n) k Sc) (rcF Sr n k) n ∧ HV (itr (bd_run n) k Sc) (rcF Sr n k) n := by
  intro k
  induction k with
  | zero => exact ⟨hC, hA, hv⟩
  | succ k ih => exact cyc_s ih.1 ih.2.1 ih.2.2 k

