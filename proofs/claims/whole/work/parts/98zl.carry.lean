theorem wk_c {S : gS} {k : Nat} {i : Int32} (h : ¬ f_X2_isWrongConstant S k i = 0) : ¬ f_X2_isConstantAt S k i = 0 := by
  intro q
  unfold f_X2_isWrongConstant at h
  rw [if_pos q] at h
  exact h rfl
theorem mk_c {S : gS} {k : Nat} {i n : Int32} (h : ¬ f_X2_isMissingSignal S k i n = 0) : f_X2_isConstantAt S k i = 0 := by
  unfold f_X2_isMissingSignal at h
  unfold f_X2_isConstantAt
  by_cases q : f_X2_roleOf S k i = 2
  · rw [q]; rfl
  · rw [if_neg q] at h; exact absurd rfl h
theorem not3 {v : Int32} (h : v ≤ 2) : ¬ 3 ≤ v := by
  rw [ile] at h ⊢
  have e1 : (2 : Int32).toInt = 2 := rfl
  have e2 : (3 : Int32).toInt = 3 := rfl
  omega
/-- the first operand at fault, and what the reference finds -/
theorem fwo_s {S : gS} {k : Nat} {n v x y z : Int32} (hv : rI S k 0 = v) (hx : rI S (k + 1) 0 = x) (hy : rI S (k + 1) 1 = y) (hz : rI S (k + 1) 2 = z) (h0 : 0 ≤ v) (h12 : v ≤ 12) :
    (f_X2_firstWrongOperand S k n < 0 ∧ bcF v x y < 0 ∧ bsF n v x y z < 0) ∨ (f_X2_firstWrongOperand S k n = bcF v x y ∧ ¬ bcF v x y < 0 ∧ ¬ f_X2_isConstantAt S k (bcF v x y) = 0 ∧ (bsF n v x y z < 0 ∨ ¬ bsF n v x y z ≤ bcF v x y)) ∨ (f_X2_firstWrongOperand S k n = bsF n v x y z ∧ ¬ bsF n v x y z < 0 ∧ f_X2_isConstantAt S k (bsF n v x y z) = 0 ∧ (bcF v x y < 0 ∨ bsF n v x y z ≤ bcF v x y)) := by
  have w0 := wc_0 hv hx h0 (le_14 h12)
  have w1 := wc_1 hv hx hy h0 (le_14 h12)
  have w2 := wc_2 hv h0 (le_14 h12)
  have m0 := ms_0 (n := n) hv hx h0 (le_14 h12)
  have m1 := ms_1 (n := n) hv hy h0 (le_14 h12)
  have m2 := ms_2 (n := n) hv hz h0 (le_14 h12)
  have h14 := ne_14 h12
  have r1 : ¬ f_X2_isWrongConstant S k 0 = 0 → ¬ f_X2_isConstantAt S k 0 = 0 := wk_c
  have r2 : ¬ f_X2_isWrongConstant S k 1 = 0 → ¬ f_X2_isConstantAt S k 1 = 0 := wk_c
  have r3 : ¬ f_X2_isMissingSignal S k 0 n = 0 → f_X2_isConstantAt S k 0 = 0 := mk_c
  have r4 : ¬ f_X2_isMissingSignal S k 1 n = 0 → f_X2_isConstantAt S k 1 = 0 := mk_c
  have r5 : ¬ f_X2_isMissingSignal S k 2 n = 0 → f_X2_isConstantAt S k 2 = 0 := mk_c
  unfold f_X2_firstWrongOperand
  rw [if_pos w2]
  by_cases a0 : A0p v x
  · have n0 : ¬ f_X2_isWrongConstant S k 0 = 0 := fun q => w0.mp q a0
    have eb : bcF v x y = 0 := by unfold bcF; rw [if_pos a0]
    have es : bsF n v x y z = -1 := by
      unfold bsF
      rw [if_neg (fun q => not3 a0.1 q.1.1), if_neg (fun q => not3 a0.1 q.1.1), if_neg (fun q => not3 a0.1 q.1.1)]
    rw [if_neg n0, eb, es]
    exact Or.inr (Or.inl ⟨rfl, by decide, r1 n0, Or.inl (by decide)⟩)
  · rw [if_pos (w0.mpr a0)]
    have eb : bcF v x y = if A1p v x y then 1 else if A2p v y then 1 else -1 := by unfold bcF; rw [if_neg a0]
    by_cases b0 : opS v 0 ∧ ¬ sgn n x
    · have n0 : ¬ f_X2_isMissingSignal S k 0 n = 0 := fun q => m0.mp q b0
      have es : bsF n v x y z = 0 := by unfold bsF; rw [if_pos b0]
      rw [if_neg n0, es]
      refine Or.inr (Or.inr ⟨rfl, by decide, r3 n0, ?_⟩)
      rw [eb]
      by_cases a1 : A1p v x y
      · rw [if_pos a1]; exact Or.inr (by decide)
      · rw [if_neg a1]
        by_cases a2 : A2p v y
        · rw [if_pos a2]; exact Or.inr (by decide)
        · rw [if_neg a2]; exact Or.inl (by decide)
    · rw [if_pos (m0.mpr b0)]
      have es : bsF n v x y z = if opS v 1 ∧ ¬ sgn n y then 1 else if opS v 2 ∧ ¬ sgn n z then 2 else -1 := by unfold bsF; rw [if_neg b0]
      by_cases a12 : A1p v x y ∨ A2p v y
      · have n1 : ¬ f_X2_isWrongConstant S k 1 = 0 := fun q => w1.mp q a12
        have eb1 : bcF v x y = 1 := by
          rw [eb]
          by_cases a1 : A1p v x y
          · rw [if_pos a1]
          · rw [if_neg a1, if_pos (a12.elim (fun q => absurd q a1) id)]
        have nb1 : ¬ (opS v 1 ∧ ¬ sgn n y) := fun q => by
          rcases a12 with u | u
          · have := q.1.1; rw [u.1] at this; exact absurd this (by decide)
          · rcases q.1.2 with w | w | w
            · exact absurd w (by decide)
            · exact u.1.elim w.2.1 w.2.2
            · exact absurd w.1 (by decide)
        have nb2 : ¬ (opS v 2 ∧ ¬ sgn n z) := fun q => by
          rcases q.1.2 with w | w | w
          · exact absurd w (by decide)
          · exact absurd w.1 (by decide)
          · have e12 := w.2
            rcases a12 with u | u
            · rw [u.1] at e12; exact absurd e12 (by decide)
            · rcases u.1 with t | t <;> rw [t] at e12 <;> exact absurd e12 (by decide)
        rw [if_neg nb1, if_neg nb2] at es
        rw [if_neg n1, eb1, es]
        exact Or.inr (Or.inl ⟨rfl, by decide, r2 n1, Or.inl (by decide)⟩)
      · rw [if_pos (w1.mpr a12)]
        have eb1 : bcF v x y = -1 := by rw [eb, if_neg (fun q => a12 (Or.inl q)), if_neg (fun q => a12 (Or.inr q))]
        rw [eb1]
        by_cases b1 : opS v 1 ∧ ¬ sgn n y
        · have n1 : ¬ f_X2_isMissingSignal S k 1 n = 0 := fun q => m1.mp q ⟨b1.1, h14, b1.2⟩
          rw [if_pos b1] at es
          rw [if_neg n1, es]
          exact Or.inr (Or.inr ⟨rfl, by decide, r4 n1, Or.inl (by decide)⟩)
        · rw [if_pos (m1.mpr (fun q => b1 ⟨q.1, q.2.2⟩))]
          rw [if_neg b1] at es
          by_cases b2 : opS v 2 ∧ ¬ sgn n z
          · have n2 : ¬ f_X2_isMissingSignal S k 2 n = 0 := fun q => m2.mp q b2
            rw [if_pos b2] at es
            rw [if_neg n2, es]
            exact Or.inr (Or.inr ⟨rfl, by decide, r5 n2, Or.inl (by decide)⟩)
          · rw [if_neg b2] at es
            rw [if_pos (m2.mpr b2), es]
            exact Or.inl ⟨by decide, by decide, by decide⟩
theorem fw_w {S : gS} {k : Nat} {n : Int32} (h : f_X2_firstWrongOperand S k n < 0) : f_X2_isWrongConstant S k 0 = 0 ∧ f_X2_isWrongConstant S k 1 = 0 := by
  unfold f_X2_firstWrongOperand at h
  by_cases h1 : f_X2_isWrongConstant S k 0 = 0
  · rw [if_pos h1] at h
    by_cases h2 : f_X2_isMissingSignal S k 0 n = 0
    · rw [if_pos h2] at h
      by_cases h3 : f_X2_isWrongConstant S k 1 = 0
      · exact ⟨h1, h3⟩
      · rw [if_neg h3] at h; exact absurd h (by decide)
    · rw [if_neg h2] at h; exact absurd h (by decide)
  · rw [if_neg h1] at h; exact absurd h (by decide)
/-- item j of the class and of the reference -/
def IT (Sc Sr : gS) (j : Nat) : Prop := rI Sr 138 j = rI Sc (58 + 2 * j) 0 ∧ rI Sr 139 j = rI Sc (58 + 2 * j + 1) 0 ∧ rI Sr 140 j = rI Sc (58 + 2 * j + 1) 1 ∧ rI Sr 141 j = rI Sc (58 + 2 * j + 1) 2 ∧ (0 ≤ rI Sr 138 j ∧ rI Sr 138 j ≤ 14) ∧ (rI Sr 138 j = 1 ∨ rI Sr 138 j = 2 → rI Sr 140 j = 0) ∧ (¬ rI Sr 138 j = 12 → rI Sr 141 j = 0)
theorem RD.next {Sc Sr : gS} {n i : Nat} {t : Int32} (h : RD Sc Sr n) (hi : i < n) (ht : sgn (nI n) t) (hk : rI Sc 2 i = 2) : RD (wI Sc 6 i t) (wI Sr 120 i t) n := by
  obtain ⟨h1, h2, h3, h4, h5, h6⟩ := h
  have h24 := h1.1.2.1
  have ok : okC (wI Sc 6 i t) n := by have := okC_next (r := nI i) h1.1 (nI_i (by omega) (by omega)) ht; rw [nI_c (by omega)] at this; exact this
  refine ⟨⟨ok, (rI_wIk (by decide) _ _ _).trans h1.2.1, fun j hj => ?_⟩, fun c => ?_, fun j hj => ?_, fun j hj => ?_, fun j hj => ?_, fun j hj => ?_⟩
  · have hb := h1.2.2 j hj
    unfold CS cB at hb ⊢
    have f1 : ∀ a c, a ≠ 6 → rI (wI Sc 6 i t) a c = rI Sc a c := fun a c q => rI_wIk q _ _ _
    have f2 : ∀ a c, a ≠ 120 → rI (wI Sr 120 i t) a c = rI Sr a c := fun a c q => rI_wIk q _ _ _
    rw [f1 2 j (by decide), f1 3 j (by decide), f1 4 j (by decide), f1 5 j (by decide), f1 7 j (by decide), f2 116 j (by decide), f2 117 j (by decide), f2 118 j (by decide), f2 119 j (by decide), f2 121 j (by decide), rI_wI, rI_wI]
    obtain ⟨⟨s1, s2, s3, s4, s5, s6⟩, hb⟩ := hb
    refine ⟨⟨s1, s2, s3, s4, ?_, s6⟩, hb⟩
    by_cases e : j = i
    · rw [if_pos ⟨rfl, e⟩, if_pos ⟨rfl, e⟩]; exact fun _ => rfl
    · rw [if_neg (fun z => e z.2), if_neg (fun z => e z.2)]; exact s5
  · rw [rI_wIk (by decide)]; exact h2 c
  · rw [rI_wIk (by decide)]; exact h3 j hj
  · rw [rI_wIk (by decide), rI_wIk (by decide)]; exact h4 j hj
  · rw [rI_wIk (by decide), rI_wI]
    by_cases e : j = i
    · subst e; exact fun z => absurd hk z
    · rw [if_neg (fun z => e z.2)]; exact h5 j hj
  · rw [rI_wIk (by decide), rI_wIk (by decide), rI_wIk (by decide)]; exact h6 j hj
theorem RD.out {Sc Sr : gS} {n i : Nat} (h : RD Sc Sr n) : RD (wI Sc 7 i 1) (wI Sr 121 i 1) n := by
  obtain ⟨h1, h2, h3, h4, h5, h6⟩ := h
  refine ⟨⟨h1.1.of (fun a c z => rI_wIk (by omega) _ _ _), (rI_wIk (by decide) _ _ _).trans h1.2.1, fun j hj => ?_⟩, fun c => ?_, fun j hj => ?_, fun j hj => ?_, fun j hj => ?_, fun j hj => ?_⟩
  · have hb := h1.2.2 j hj
    unfold CS cB at hb ⊢
    have f1 : ∀ a c, a ≠ 7 → rI (wI Sc 7 i 1) a c = rI Sc a c := fun a c q => rI_wIk q _ _ _
    have f2 : ∀ a c, a ≠ 121 → rI (wI Sr 121 i 1) a c = rI Sr a c := fun a c q => rI_wIk q _ _ _
    rw [f1 2 j (by decide), f1 3 j (by decide), f1 4 j (by decide), f1 5 j (by decide), f1 6 j (by decide), f2 116 j (by decide), f2 117 j (by decide), f2 118 j (by decide), f2 119 j (by decide), f2 120 j (by decide), rI_wI, rI_wI]
    obtain ⟨⟨s1, s2, s3, s4, s5, s6⟩, hb⟩ := hb
    refine ⟨⟨s1, s2, s3, s4, s5, ?_⟩, hb⟩
    by_cases e : j = i
    · rw [if_pos ⟨rfl, e⟩, if_pos ⟨rfl, e⟩]
    · rw [if_neg (fun z => e z.2), if_neg (fun z => e z.2)]; exact s6
  · rw [rI_wI]
    by_cases e : c = i
    · rw [if_pos ⟨rfl, e⟩]; exact Or.inr rfl
    · rw [if_neg (fun z => e z.2)]; exact h2 c
  · rw [rI_wIk (by decide)]; exact h3 j hj
  · rw [rI_wIk (by decide), rI_wIk (by decide)]; exact h4 j hj
  · rw [rI_wIk (by decide), rI_wIk (by decide)]; exact h5 j hj
  · rw [rI_wIk (by decide), rI_wIk (by decide), rI_wIk (by decide)]; exact h6 j hj
/-- what carrying out item j gives -/
def CO (Sc Sr : gS) (n j : Nat) : Prop := (∃ why op, f_X8_carryOut Sc (58 + 2 * j) (nI j) = (0, f_X1_addCause (f_X1_become Sc (nI j) 3 (nI n)) why op) ∧ (f_X9_notDone Sr j).1 = why ∧ ¬ why ≤ 0 ∧ rI (f_X9_notDone Sr j).2 115 40 = op) ∨ (¬ (f_X8_carryOut Sc (58 + 2 * j) (nI j)).1 = 0 ∧ (f_X9_notDone Sr j).1 ≤ 0 ∧ (∀ a c, ¬ (1 ≤ a ∧ a ≤ 9) → rI (f_X8_carryOut Sc (58 + 2 * j) (nI j)).2 a c = rI Sc a c) ∧ (∀ a c, rL (f_X8_carryOut Sc (58 + 2 * j) (nI j)).2 a c = rL Sc a c) ∧ ∃ n', RD (f_X8_carryOut Sc (58 + 2 * j) (nI j)).2 (f_X9_does (f_X9_notDone Sr j).2 j) n')
theorem gt12 {v : Int32} : (12 : Int32) < v ↔ ¬ v ≤ 12 := Int32.not_le.symm
theorem lt13 {v : Int32} : v < 13 ↔ v ≤ 12 := by
  rw [ile, il]
  have e1 : (12 : Int32).toInt = 12 := rfl
  have e2 : (13 : Int32).toInt = 13 := rfl
  omega
theorem carry {Sc Sr : gS} {n j : Nat} (h : RD Sc Sr n) (hi : IT Sc Sr j) (hj : j < 27) : CO Sc Sr n j := by
  obtain ⟨i1, i2, i3, i4, ⟨i5, i6⟩, i7, i8⟩ := hi
  have hk := itm_all j hj
  have hn : rI Sc 1 0 = nI n := h.1.1.1
  have hr : rI Sr 115 10 = nI n := h.1.2.1
  have h24 := h.1.1.2.1
  have s40 : RD Sc (wI Sr 115 40 0) n := h.of (fun a c _ _ _ => rfl) (fun a c z => rI_wIc (by omega) _ _)
  revert i1 i2 i3 i4 i5 i6 i7 i8
  generalize e138 : rI Sr 138 j = v
  generalize e139 : rI Sr 139 j = x
  generalize e140 : rI Sr 140 j = y
  generalize e141 : rI Sr 141 j = z
  intro i1 i2 i3 i4 i5 i6 i7 i8
  have hb40 : bsG (wI Sr 115 40 0) v x y z = bsF (nI n) v x y z := by rw [bsG_40, hr]
  have rf : ∀ a b c : Int32, f_X8_refuse Sc a b c = (0, f_X1_addCause (f_X1_become Sc a 3 (nI n)) b c) := fun a b c => by unfold f_X8_refuse; rw [hn]
  have is : ∀ s, isF (wI Sr 115 40 0) s = 0 ↔ ¬ sgn (nI n) s := fun s => by rw [isF_40]; unfold isF; rw [hr]; exact bi0
  by_cases hv : v ≤ 12
  · have hv13 : v < 13 := lt13.mpr hv
    have hv12 : ¬ (12 : Int32) < v := fun q => gt12.mp q hv
    have n13 : ¬ v = 13 := fun q => by rw [q] at hv; exact absurd hv (by decide)
    have n14 : ¬ v = 14 := fun q => by rw [q] at hv; exact absurd hv (by decide)
    have fs := fwo_s (n := nI n) i1.symm i2.symm i3.symm i4.symm i5 hv
    unfold CO f_X8_carryOut f_X9_notDone
    rw [e138, e139, e140, e141, hb40, hn, ← i1, if_pos hv13]
    rcases fs with ⟨g1, g2, g3⟩ | ⟨g1, g2, g3, g4⟩ | ⟨g1, g2, g3, g4⟩
    · rw [if_pos g1, if_neg hv12, if_neg (Int32.not_le.mpr g2), if_neg (Int32.not_le.mpr g3), hr]
      by_cases hf : n = 24
      · have f1 : ¬ f_X0_isFull Sc = 0 := by
          unfold f_X0_isFull
          rw [hn, if_neg (by rw [show (24 : Int32) = nI 24 from rfl, nI_lt2 (by omega) (by omega)]; omega)]
          decide
        rw [if_neg f1, if_pos (by rw [hf]; rfl), rf]
        exact Or.inl ⟨6, 0, rfl, rfl, by decide, rI_same _ _ _ _⟩
      · have f1 : f_X0_isFull Sc = 0 := by
          unfold f_X0_isFull
          rw [hn, if_pos (by rw [show (24 : Int32) = nI 24 from rfl, nI_lt2 (by omega) (by omega)]; omega)]
        rw [if_pos f1, if_neg (fun q => hf (nI_inj2 (by omega) (by omega) (q.trans (show (24 : Int32) = nI 24 from rfl))))]
        refine Or.inr ⟨(show ¬ (1 : Int32) = 0 by decide), (show (0 : Int32) ≤ 0 by decide), fun a c q => ?_, fun a c => ?_, n + 1, ?_⟩
        · show rI (f_X0_append Sc (58 + 2 * j)) a c = _
          rw [app_rd hk hn (by omega), if_neg (by omega), if_neg (by omega), if_neg (by omega), if_neg (by omega), if_neg (by omega), if_neg (by omega), if_neg (by omega), if_neg (by omega), if_neg (by omega)]
        · show rL (f_X0_append Sc (58 + 2 * j)) a c = _
          exact fl_f_X0_append _ _ _ _
        · show RD (f_X0_append Sc (58 + 2 * j)) (f_X9_does (wI Sr 115 40 0) j) (n + 1)
          have ed : f_X9_does (wI Sr 115 40 0) j = adF (wI Sr 115 40 0) v x y z := by
            unfold f_X9_does
            rw [rI_wIk (by decide), rI_wIk (by decide), rI_wIk (by decide), rI_wIk (by decide), e138, e139, e140, e141, if_neg n13, if_neg n14]
          rw [ed]
          obtain ⟨w0, w1⟩ := fw_w g1
          refine s40.app hk (by omega) i5 hv w0 w1 (fw_lk g1) i1.symm i2.symm ?_ ?_
          · by_cases q : v = 1 ∨ v = 2
            · rw [if_pos q, ← i3, i7 q]
            · rw [if_neg q, ← i3]
          · by_cases q : v = 12
            · rw [if_pos q, ← i4]
            · rw [if_neg q, ← i4, i8 q]
    · rw [if_neg (by rw [g1]; exact g2), g1, if_neg g3, rf, if_pos (Int32.not_lt.mp g2)]
      by_cases q : bsF (nI n) v x y z < 0
      · rw [if_pos q]
        exact Or.inl ⟨4, _, rfl, rfl, by decide, rI_same _ _ _ _⟩
      · rw [if_neg q, if_neg g2, if_neg (g4.elim (fun u => absurd u q) id)]
        exact Or.inl ⟨4, _, rfl, rfl, by decide, rI_same _ _ _ _⟩
    · rw [if_neg (by rw [g1]; exact g2), g1, if_pos g3, rf]
      by_cases q : bcF v x y < 0
      · rw [if_neg (Int32.not_le.mpr q), if_pos (Int32.not_lt.mp g2), if_neg g2, if_pos q]
        exact Or.inl ⟨5, _, rfl, rfl, by decide, rI_same _ _ _ _⟩
      · rw [if_pos (Int32.not_lt.mp q), if_neg g2, if_neg q, if_pos (g4.elim (fun u => absurd u q) id)]
        exact Or.inl ⟨5, _, rfl, rfl, by decide, rI_same _ _ _ _⟩
  · have hv13 : ¬ v < 13 := fun q => hv (lt13.mp q)
    have hv12 : (12 : Int32) < v := gt12.mpr hv
    have v134 : v = 13 ∨ v = 14 := by
      rw [ile] at hv i6
      have e1 : (12 : Int32).toInt = 12 := rfl
      have e2 : (14 : Int32).toInt = 14 := rfl
      have e3 : (13 : Int32).toInt = 13 := rfl
      rw [ieq, ieq]
      omega
    have w0 : f_X2_isWrongConstant Sc (58 + 2 * j) 0 = 0 := (wc_0 i1.symm i2.symm i5 i6).mpr (fun q => by
      have := q.1
      rcases v134 with u | u <;> rw [u] at this <;> exact absurd this (by decide))
    have w1 : f_X2_isWrongConstant Sc (58 + 2 * j) 1 = 0 := (wc_1 i1.symm i2.symm i3.symm i5 i6).mpr (fun q => by
      rcases q with q | q
      · have := q.1
        rcases v134 with u | u <;> rw [u] at this <;> exact absurd this (by decide)
      · have := q.1
        rcases v134 with u | u <;> rw [u] at this <;> exact absurd this (by decide))
    have w2 := wc_2 (S := Sc) (k := 58 + 2 * j) i1.symm i5 i6
    have m0 := ms_0 (n := nI n) i1.symm i2.symm i5 i6
    have m1 := ms_1 (n := nI n) i1.symm i3.symm i5 i6
    have m2 : f_X2_isMissingSignal Sc (58 + 2 * j) 2 (nI n) = 0 := (ms_2 (n := nI n) i1.symm i4.symm i5 i6).mpr (fun q => by
      rcases q.1.2 with u | u | u
      · exact absurd u (by decide)
      · exact absurd u.1 (by decide)
      · exact absurd u.2 (by rcases v134 with t | t <;> rw [t] <;> decide))
    have op0 : opS v 0 := ⟨by rcases v134 with t | t <;> rw [t] <;> decide, Or.inl rfl⟩
    have op1 : opS v 1 := ⟨by rcases v134 with t | t <;> rw [t] <;> decide, Or.inr (Or.inl ⟨rfl, by rcases v134 with t | t <;> rw [t] <;> decide, by rcases v134 with t | t <;> rw [t] <;> decide⟩)⟩
    unfold CO f_X8_carryOut f_X9_notDone
    rw [e138, e139, e140, e141, hn, ← i1, ← i2, ← i3, if_neg hv13]
    by_cases sx : sgn (nI n) x
    · obtain ⟨i, hi1, hi2, hi3⟩ := nI_ofInt sx h24
      have M0 : f_X2_isMissingSignal Sc (58 + 2 * j) 0 (nI n) = 0 := m0.mpr (fun q => q.2 sx)
      rw [if_neg (fun q => (is x).mp q sx)]
      by_cases sy : v = 14 ∨ sgn (nI n) y
      · have M1 : f_X2_isMissingSignal Sc (58 + 2 * j) 1 (nI n) = 0 := m1.mpr (fun q => sy.elim q.2.1 q.2.2)
        have fw : f_X2_firstWrongOperand Sc (58 + 2 * j) (nI n) = -1 := by unfold f_X2_firstWrongOperand; rw [if_pos w0, if_pos M0, if_pos w1, if_pos M1, if_pos w2, if_pos m2]
        rw [fw, if_pos (show (-1 : Int32) < 0 by decide), if_pos hv12]
        by_cases e4 : v = 14
        · rw [if_pos e4, if_pos e4, if_neg (fun q => by rw [e4] at q; exact absurd q (by decide))]
          refine Or.inr ⟨(show ¬ (1 : Int32) = 0 by decide), (show (0 : Int32) ≤ 0 by decide), fun a c q => ?_, fun a c => ?_, n, ?_⟩
          · show rI (wI Sc 7 _ _) a c = _
            rw [rI_wIk (by omega)]
          · rfl
          · show RD (wI Sc 7 x.toNatClampNeg (vp_nar .boolean 1)) (f_X9_does (wI Sr 115 40 0) j) n
            have ed : f_X9_does (wI Sr 115 40 0) j = wI (wI Sr 115 40 0) 121 x.toNatClampNeg 1 := by
              unfold f_X9_does
              rw [rI_wIk (by decide), rI_wIk (by decide), e138, e139, if_neg (fun q => by rw [e4] at q; exact absurd q (by decide)), if_pos e4]
            rw [ed, nar_01 (Or.inr rfl)]
            exact s40.out
        · have e3 : v = 13 := v134.elim id (fun q => absurd q e4)
          have sy : sgn (nI n) y := sy.elim (fun q => absurd q e4) id
          rw [if_neg e4, if_neg e4, if_neg (fun q => (is y).mp q sy), if_pos e3, hi3]
          have k6 : rI Sr 116 i = rI Sc 2 i := (h.1.2.2 i hi1).1.1
          rw [k6]
          by_cases k2 : rI Sc 2 i = 2
          · rw [if_pos k2, if_pos k2]
            refine Or.inr ⟨(show ¬ (1 : Int32) = 0 by decide), (show (0 : Int32) ≤ 0 by decide), fun a c q => ?_, fun a c => ?_, n, ?_⟩
            · show rI (wI Sc 6 _ _) a c = _
              rw [rI_wIk (by omega)]
            · rfl
            · show RD (wI Sc 6 i y) (f_X9_does (wI Sr 115 40 0) j) n
              have ed : f_X9_does (wI Sr 115 40 0) j = wI (wI Sr 115 40 0) 120 i y := by
                unfold f_X9_does
                rw [rI_wIk (by decide), rI_wIk (by decide), rI_wIk (by decide), e138, e139, e140, if_pos e3, hi3]
              rw [ed]
              exact s40.next hi1 sy k2
          · rw [if_neg k2, if_neg k2, rf]
            exact Or.inl ⟨7, 0, rfl, rfl, by decide, rI_same _ _ _ _⟩
      · have e4 : ¬ v = 14 := fun q => sy (Or.inl q)
        have sy2 : ¬ sgn (nI n) y := fun q => sy (Or.inr q)
        have M1 : ¬ f_X2_isMissingSignal Sc (58 + 2 * j) 1 (nI n) = 0 := fun q => m1.mp q ⟨op1, e4, sy2⟩
        have fw : f_X2_firstWrongOperand Sc (58 + 2 * j) (nI n) = 1 := by unfold f_X2_firstWrongOperand; rw [if_pos w0, if_pos M0, if_pos w1, if_neg M1]
        rw [fw, if_neg (show ¬ (1 : Int32) < 0 by decide), if_pos (mk_c M1), rf, if_neg e4, if_pos ((is y).mpr sy2)]
        exact Or.inl ⟨5, 1, rfl, rfl, by decide, rI_same _ _ _ _⟩
    · have M0 : ¬ f_X2_isMissingSignal Sc (58 + 2 * j) 0 (nI n) = 0 := fun q => m0.mp q ⟨op0, sx⟩
      have fw : f_X2_firstWrongOperand Sc (58 + 2 * j) (nI n) = 0 := by unfold f_X2_firstWrongOperand; rw [if_pos w0, if_neg M0]
      rw [fw, if_neg (show ¬ (0 : Int32) < 0 by decide), if_pos (mk_c M0), rf, if_pos ((is x).mpr sx)]
      exact Or.inl ⟨5, 0, rfl, rfl, by decide, rI_same _ _ _ _⟩

