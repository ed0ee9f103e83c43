theorem iz_3 {p q : Prop} [Decidable p] [Decidable q] : (if p then (1 : Int32) else if q then 0 else 1) = 0 ↔ (¬ p ∧ q) := by
  by_cases h1 : p <;> by_cases h2 : q <;> simp [h1, h2]
theorem iz_2 {p : Prop} [Decidable p] {z : Int32} : (if p then z else (1 : Int32)) = 0 ↔ (p ∧ z = 0) := by
  by_cases h1 : p <;> simp [h1]
theorem iz_1 {p : Prop} [Decidable p] {z : Int32} : (if p then (1 : Int32) else z) = 0 ↔ (¬ p ∧ z = 0) := by
  by_cases h1 : p <;> simp [h1]
theorem cst_c {v : Int32} : cst v ↔ (-4096 ≤ v ∧ v ≤ 4095) := by
  unfold cst
  rw [show (-4096 : Int64) = (-4096 : Int32).toInt64 from rfl, w_le, show (4095 : Int64) = (4095 : Int32).toInt64 from rfl, w_le]
abbrev c15 (v : Int32) : Prop := (0 : Int64) ≤ v.toInt64 ∧ v.toInt64 ≤ 15
theorem c15_c {v : Int32} : c15 v ↔ (0 ≤ v ∧ v ≤ 15) := by
  unfold c15
  rw [show (0 : Int64) = (0 : Int32).toInt64 from rfl, w_le, show (15 : Int64) = (15 : Int32).toInt64 from rfl, w_le]
theorem kd_all14 {v : Int32} (h0 : 0 ≤ v) (h14 : v ≤ 14) : v = 0 ∨ v = 1 ∨ v = 2 ∨ v = 3 ∨ v = 4 ∨ v = 5 ∨ v = 6 ∨ v = 7 ∨ v = 8 ∨ v = 9 ∨ v = 10 ∨ v = 11 ∨ v = 12 ∨ v = 13 ∨ v = 14 := by
  simp only [ieq, ile] at *
  simp at *
  omega
abbrev A0p (v x : Int32) : Prop := v ≤ 2 ∧ ¬ cst x
abbrev A1p (v x y : Int32) : Prop := v = 0 ∧ (¬ cst y ∨ y < x)
abbrev A2p (v y : Int32) : Prop := (v = 9 ∨ v = 10) ∧ ¬ c15 y
theorem wc_0 {S : gS} {k : Nat} {v x : Int32} (hv : rI S k 0 = v) (hx : rI S (k + 1) 0 = x) (h0 : 0 ≤ v) (h14 : v ≤ 14) : f_X2_isWrongConstant S k 0 = 0 ↔ ¬ A0p v x := by
  have c0 : (0 : Int32).toNatClampNeg = 0 := rfl
  unfold f_X2_isWrongConstant f_X2_isConstantAt f_X2_roleOf A0p
  rw [cst_c, c0, hx, hv]
  rcases kd_all14 h0 h14 with e | e | e | e | e | e | e | e | e | e | e | e | e | e | e <;> subst e
  all_goals simp (decide := true) only [↓reduceIte, iz_3, iz_2, iz_1, true_and, and_true, false_and, and_false, or_false, false_or, true_or, or_true, not_false_eq_true, not_true_eq_false, Classical.not_not, not_or, Int32.not_lt, ne_eq]
theorem wc_1 {S : gS} {k : Nat} {v x y : Int32} (hv : rI S k 0 = v) (hx : rI S (k + 1) 0 = x) (hy : rI S (k + 1) 1 = y) (h0 : 0 ≤ v) (h14 : v ≤ 14) : f_X2_isWrongConstant S k 1 = 0 ↔ ¬ (A1p v x y ∨ A2p v y) := by
  have c1 : (1 : Int32).toNatClampNeg = 1 := rfl
  unfold f_X2_isWrongConstant f_X2_isConstantAt f_X2_roleOf A1p A2p
  rw [cst_c, c15_c, c1, hx, hy, hv]
  rcases kd_all14 h0 h14 with e | e | e | e | e | e | e | e | e | e | e | e | e | e | e <;> subst e
  all_goals simp (decide := true) only [↓reduceIte, iz_3, iz_2, iz_1, true_and, and_true, false_and, and_false, or_false, false_or, true_or, or_true, not_false_eq_true, not_true_eq_false, Classical.not_not, not_or, Int32.not_lt, ne_eq]
  all_goals exact and_comm
theorem wc_2 {S : gS} {k : Nat} {v : Int32} (hv : rI S k 0 = v) (h0 : 0 ≤ v) (h14 : v ≤ 14) : f_X2_isWrongConstant S k 2 = 0 := by
  unfold f_X2_isWrongConstant f_X2_isConstantAt f_X2_roleOf
  rw [hv]
  rcases kd_all14 h0 h14 with e | e | e | e | e | e | e | e | e | e | e | e | e | e | e <;> subst e
  all_goals simp (decide := true) only [↓reduceIte, iz_3, iz_2, iz_1, true_and, and_true, false_and, and_false, or_false, false_or, true_or, or_true, not_false_eq_true, not_true_eq_false, Classical.not_not, not_or, Int32.not_lt, ne_eq]
theorem ms_0 {S : gS} {k : Nat} {n v x : Int32} (hv : rI S k 0 = v) (hx : rI S (k + 1) 0 = x) (h0 : 0 ≤ v) (h14 : v ≤ 14) : f_X2_isMissingSignal S k 0 n = 0 ↔ ¬ (opS v 0 ∧ ¬ sgn n x) := by
  have c0 : (0 : Int32).toNatClampNeg = 0 := rfl
  unfold f_X2_isMissingSignal f_X2_roleOf opS sgn
  rw [c0, hx, hv]
  rcases kd_all14 h0 h14 with e | e | e | e | e | e | e | e | e | e | e | e | e | e | e <;> subst e
  all_goals simp (decide := true) only [↓reduceIte, iz_3, iz_2, iz_1, true_and, and_true, false_and, and_false, or_false, false_or, true_or, or_true, not_false_eq_true, not_true_eq_false, Classical.not_not, not_or, Int32.not_lt, ne_eq]
theorem ms_1 {S : gS} {k : Nat} {n v y : Int32} (hv : rI S k 0 = v) (hy : rI S (k + 1) 1 = y) (h0 : 0 ≤ v) (h14 : v ≤ 14) : f_X2_isMissingSignal S k 1 n = 0 ↔ ¬ (opS v 1 ∧ v ≠ 14 ∧ ¬ sgn n y) := by
  have c1 : (1 : Int32).toNatClampNeg = 1 := rfl
  unfold f_X2_isMissingSignal f_X2_roleOf opS sgn
  rw [c1, hy, hv]
  rcases kd_all14 h0 h14 with e | e | e | e | e | e | e | e | e | e | e | e | e | e | e <;> subst e
  all_goals simp (decide := true) only [↓reduceIte, iz_3, iz_2, iz_1, true_and, and_true, false_and, and_false, or_false, false_or, true_or, or_true, not_false_eq_true, not_true_eq_false, Classical.not_not, not_or, Int32.not_lt, ne_eq]
theorem ms_2 {S : gS} {k : Nat} {n v z : Int32} (hv : rI S k 0 = v) (hz : rI S (k + 1) 2 = z) (h0 : 0 ≤ v) (h14 : v ≤ 14) : f_X2_isMissingSignal S k 2 n = 0 ↔ ¬ (opS v 2 ∧ ¬ sgn n z) := by
  have c2 : (2 : Int32).toNatClampNeg = 2 := rfl
  unfold f_X2_isMissingSignal f_X2_roleOf opS sgn
  rw [c2, hz, hv]
  rcases kd_all14 h0 h14 with e | e | e | e | e | e | e | e | e | e | e | e | e | e | e <;> subst e
  all_goals simp (decide := true) only [↓reduceIte, iz_3, iz_2, iz_1, true_and, and_true, false_and, and_false, or_false, false_or, true_or, or_true, not_false_eq_true, not_true_eq_false, Classical.not_not, not_or, Int32.not_lt, ne_eq]
theorem ro_1 {S : gS} {k : Nat} {v : Int32} (hv : rI S k 0 = v) (h0 : 0 ≤ v) (h12 : v ≤ 12) : f_X2_roleOf S k 1 = 0 ↔ (v = 1 ∨ v = 2) := by
  unfold f_X2_roleOf
  rw [hv]
  rcases kd_all h0 h12 with e | e | e | e | e | e | e | e | e | e | e | e | e <;> subst e
  all_goals simp (decide := true)
theorem ro_2 {S : gS} {k : Nat} {v : Int32} (hv : rI S k 0 = v) (h0 : 0 ≤ v) (h12 : v ≤ 12) : f_X2_roleOf S k 2 = 0 ↔ ¬ v = 12 := by
  unfold f_X2_roleOf
  rw [hv]
  rcases kd_all h0 h12 with e | e | e | e | e | e | e | e | e | e | e | e | e <;> subst e
  all_goals simp (decide := true)
theorem le_14 {v : Int32} (h : v ≤ 12) : v ≤ 14 := by
  rw [ile] at h ⊢
  have e1 : (12 : Int32).toInt = 12 := rfl
  have e2 : (14 : Int32).toInt = 14 := rfl
  omega
theorem ne_14 {v : Int32} (h : v ≤ 12) : v ≠ 14 := fun e => by rw [e] at h; exact absurd h (by decide)
/-- the class's first test of constants is the reference's -/
theorem hwc {S : gS} {k : Nat} {v x y : Int32} (hv : rI S k 0 = v) (hx : rI S (k + 1) 0 = x) (hy : rI S (k + 1) 1 = y) (h0 : 0 ≤ v) (h12 : v ≤ 12) : f_X2_hasWrongConstant S k = 0 ↔ bcF v x y < 0 := by
  have w0 := wc_0 hv hx h0 (le_14 h12)
  have w1 := wc_1 hv hx hy h0 (le_14 h12)
  have w2 := wc_2 hv h0 (le_14 h12)
  unfold f_X2_hasWrongConstant bcF
  rw [if_pos w2]
  by_cases a0 : A0p v x
  · rw [if_neg (fun z => w0.mp z a0), if_pos a0]; decide
  · rw [if_pos (w0.mpr a0), if_neg a0]
    by_cases a1 : A1p v x y
    · rw [if_neg (fun z => w1.mp z (Or.inl a1)), if_pos a1]; decide
    · rw [if_neg a1]
      by_cases a2 : A2p v y
      · rw [if_neg (fun z => w1.mp z (Or.inr a2)), if_pos a2]; decide
      · rw [if_pos (w1.mpr (fun z => z.elim a1 a2)), if_neg a2]; decide
theorem hls {S : gS} {k : Nat} {n v x y z : Int32} (hv : rI S k 0 = v) (hx : rI S (k + 1) 0 = x) (hy : rI S (k + 1) 1 = y) (hz : rI S (k + 1) 2 = z) (h0 : 0 ≤ v) (h12 : v ≤ 12) : f_X2_lacksSignal S k n = 0 ↔ bsF n v x y z < 0 := by
  have m0 := ms_0 (n := n) hv hx h0 (le_14 h12)
  have m1 := ms_1 (n := n) hv hy h0 (le_14 h12)
  have m2 := ms_2 (n := n) hv hz h0 (le_14 h12)
  have h14 := ne_14 h12
  unfold f_X2_lacksSignal bsF
  by_cases b0 : opS v 0 ∧ ¬ sgn n x
  · rw [if_neg (fun q => m0.mp q b0), if_pos b0]; decide
  · rw [if_pos (m0.mpr b0), if_neg b0]
    by_cases b1 : opS v 1 ∧ ¬ sgn n y
    · rw [if_neg (fun q => m1.mp q ⟨b1.1, h14, b1.2⟩), if_pos b1]; decide
    · rw [if_pos (m1.mpr (fun q => b1 ⟨q.1, q.2.2⟩)), if_neg b1]
      by_cases b2 : opS v 2 ∧ ¬ sgn n z
      · rw [if_neg (fun q => m2.mp q b2), if_pos b2]; decide
      · rw [if_pos (m2.mpr b2), if_neg b2]; decide
theorem bc_n {v x y : Int32} (y2 : Int32) (h : v = 1 ∨ v = 2) : bcF v x y = bcF v x y2 := by
  unfold bcF
  rcases h with e | e <;> subst e <;> simp (decide := true) only [false_and, false_or, if_false, ite_self]
theorem bs_n {n v x y z y2 z2 : Int32} (e1 : ¬ (v = 1 ∨ v = 2) → y2 = y) (e2 : v = 12 → z2 = z) : bsF n v x y2 z2 = bsF n v x y z := by
  unfold bsF
  by_cases h : v = 1 ∨ v = 2
  · rcases h with e | e <;> subst e <;> simp (decide := true) only [false_and, if_false]
  · rw [e1 h]
    by_cases h2 : v = 12
    · rw [e2 h2]
    · have n2 : ¬ opS v 2 := fun q => by
        rcases q.2 with q | q | q
        · exact absurd q (by decide)
        · exact absurd q.1 (by decide)
        · exact h2 q.2
      rw [if_neg (fun q : opS v 2 ∧ ¬ sgn n z2 => n2 q.1), if_neg (fun q : opS v 2 ∧ ¬ sgn n z => n2 q.1)]
theorem bcm_rd {S : gS} {k : Nat} {v a b c : Int32} (h0 : 0 ≤ v) (h12 : v ≤ 12) : rI (f_X2_become S k v a b c) k 0 = v ∧ rI (f_X2_become S k v a b c) (k + 1) 0 = a ∧ rI (f_X2_become S k v a b c) (k + 1) 1 = (if v = 1 ∨ v = 2 then 0 else b) ∧ rI (f_X2_become S k v a b c) (k + 1) 2 = (if v = 12 then c else 0) := by
  have hk : k ≠ k + 1 := by omega
  have r0 : rI (wI (wI S k 0 v) (k + 1) 0 a) k 0 = v := by rw [rI_wIk hk, rI_same]
  have ra : ∀ w, rI (wI (wI (wI S k 0 v) (k + 1) 0 a) (k + 1) 1 w) k 0 = v := fun w => by rw [rI_wIk hk, r0]
  have q1 := ro_1 r0 h0 h12
  have q2 := fun w => ro_2 (ra w) h0 h12
  have fin : ∀ w1 w2, rI (wI (wI (wI (wI S k 0 v) (k + 1) 0 a) (k + 1) 1 w1) (k + 1) 2 w2) k 0 = v ∧ rI (wI (wI (wI (wI S k 0 v) (k + 1) 0 a) (k + 1) 1 w1) (k + 1) 2 w2) (k + 1) 0 = a ∧ rI (wI (wI (wI (wI S k 0 v) (k + 1) 0 a) (k + 1) 1 w1) (k + 1) 2 w2) (k + 1) 1 = w1 ∧ rI (wI (wI (wI (wI S k 0 v) (k + 1) 0 a) (k + 1) 1 w1) (k + 1) 2 w2) (k + 1) 2 = w2 := fun w1 w2 => by
    refine ⟨?_, ?_, ?_, ?_⟩
    · rw [rI_wIk hk, ra]
    · rw [rI_wIc (by omega), rI_wIc (by omega), rI_same]
    · rw [rI_wIc (by omega), rI_same]
    · rw [rI_same]
  unfold f_X2_become
  by_cases h1 : v = 1 ∨ v = 2
  · rw [if_pos (q1.mpr h1), if_pos h1]
    by_cases h2 : v = 12
    · rw [if_neg (fun z => (q2 _).mp z h2), if_pos h2]; exact fin _ _
    · rw [if_pos ((q2 _).mpr h2), if_neg h2]; exact fin _ _
  · rw [if_neg (fun z => h1 (q1.mp z)), if_neg h1]
    by_cases h2 : v = 12
    · rw [if_neg (fun z => (q2 _).mp z h2), if_pos h2]; exact fin _ _
    · rw [if_pos ((q2 _).mpr h2), if_neg h2]; exact fin _ _
/-- circuits alike in all that beginning anew needs -/
def RD (Sc Sr : gS) (n : Nat) : Prop := CI Sc Sr n ∧ (∀ c, rI Sc 7 c = 0 ∨ rI Sc 7 c = 1) ∧ (∀ i, i < n → ∃ k, k < 4 ∧ rI Sc 8 i = nI k) ∧ PH Sc Sr n ∧ (∀ i, i < n → rI Sc 2 i ≠ 2 → rI Sr 120 i = -1) ∧ (∀ i, i < n → rI Sc 2 i = 0 → rI Sc 9 i = rI Sr 123 i)
theorem RD.of {Sc Sr Tc Tr : gS} {n : Nat} (h : RD Sc Sr n) (e1 : ∀ a c, 1 ≤ a → a ≤ 9 → ¬ (a = 1 ∧ c = 1) → rI Tc a c = rI Sc a c) (e2 : ∀ a c, (a = 115 ∧ c = 10) ∨ (116 ≤ a ∧ a ≤ 123) → rI Tr a c = rI Sr a c) : RD Tc Tr n := by
  obtain ⟨h1, h2, h3, h4, h5, h6⟩ := h
  refine ⟨h1.of (fun a c z1 z2 z3 => e1 a c (by omega) (by omega) z2) (fun a c z => e2 a c (by omega)), fun c => ?_, fun i hi => ?_, fun i hi => ?_, fun i hi => ?_, fun i hi => ?_⟩
  · rw [e1 7 c (by omega) (by omega) (by omega)]; exact h2 c
  · rw [e1 8 i (by omega) (by omega) (by omega)]; exact h3 i hi
  · rw [e1 8 i (by omega) (by omega) (by omega), e2 122 i (by omega)]; exact h4 i hi
  · rw [e1 2 i (by omega) (by omega) (by omega), e2 120 i (by omega)]; exact h5 i hi
  · rw [e1 2 i (by omega) (by omega) (by omega), e1 9 i (by omega) (by omega) (by omega), e2 123 i (by omega)]; exact h6 i hi
theorem adn_rd {S : gS} {n : Nat} {is x y z : Int32} (hn : rI S 115 10 = nI n) (h24 : n < 24) (a c : Nat) : rI (adF S is x y z) a c = if a = 115 ∧ c = 10 then nI (n + 1) else if a = 123 ∧ c = n then x else if a = 122 ∧ c = n then 0 else if a = 121 ∧ c = n then 0 else if a = 120 ∧ c = n then (if is = 2 then nI n else -1) else if a = 119 ∧ c = n then (if is = 12 then z else 0) else if a = 118 ∧ c = n then (if is = 1 ∨ is = 2 then 0 else y) else if a = 117 ∧ c = n then x else if a = 116 ∧ c = n then is else rI S a c := by
  unfold adF
  rw [hn, nI_c (by omega), nI_1]
  simp only [rI_wI]
theorem hw_01 {S : gS} {k : Nat} (h : f_X2_hasWrongConstant S k = 0) : f_X2_isWrongConstant S k 0 = 0 ∧ f_X2_isWrongConstant S k 1 = 0 := by
  unfold f_X2_hasWrongConstant at h
  by_cases h1 : f_X2_isWrongConstant S k 0 = 0
  · rw [if_pos h1] at h
    by_cases h2 : f_X2_isWrongConstant S k 1 = 0
    · exact ⟨h1, h2⟩
    · rw [if_neg h2] at h
      exact absurd h (by decide)
  · rw [if_neg h1] at h
    exact absurd h (by decide)
theorem c15_n {y : Int32} (h : c15 y) : ∃ k : Nat, k < 16 ∧ y = nI k := by
  rw [c15_c] at h
  obtain ⟨p, p1, p2, p3⟩ := nI_ofInt (s := y) (n := 16) ⟨h.1, by have := h.2; rw [ile] at this; rw [il, nI_toInt (by omega)]; have e : (15 : Int32).toInt = 15 := rfl; omega⟩ (by omega)
  exact ⟨p, p1, p2⟩
/-- a signal more, alike -/
theorem RD.app {Sc Sr : gS} {k n : Nat} {is x y z : Int32} (h : RD Sc Sr n) (hk : itm k) (h24 : n < 24) (h0 : 0 ≤ is) (h12 : is ≤ 12) (w0 : f_X2_isWrongConstant Sc k 0 = 0) (w1 : f_X2_isWrongConstant Sc k 1 = 0) (hl : f_X2_lacksSignal Sc k (nI n) = 0) (e0 : rI Sc k 0 = is) (e1 : rI Sc (k + 1) 0 = x) (e2 : rI Sc (k + 1) 1 = (if is = 1 ∨ is = 2 then 0 else y)) (e3 : rI Sc (k + 1) 2 = (if is = 12 then z else 0)) : RD (f_X0_append Sc k) (adF Sr is x y z) (n + 1) := by
  have ok := okC_app hk h.1.1 h24 ⟨by rw [e0]; exact h0, by rw [e0]; exact h12⟩ hl
  have hc := app_rd hk h.1.1.1 h24
  have hr := adn_rd (S := Sr) (is := is) (x := x) (y := y) (z := z) h.1.2.1 h24
  rw [wc_1 e0 e1 e2 h0 (le_14 h12)] at w1
  revert ok hc hr
  generalize f_X0_append Sc k = C
  generalize adF Sr is x y z = R
  intro ok hc hr
  have co : ∀ a i, i < n → 2 ≤ a → rI C a i = rI Sc a i := fun a i hi ha => by rw [hc, if_neg (by omega), if_neg (by omega), if_neg (by omega), if_neg (by omega), if_neg (by omega), if_neg (by omega), if_neg (by omega), if_neg (by omega), if_neg (by omega)]
  have ro : ∀ a i, i < n → 116 ≤ a → rI R a i = rI Sr a i := fun a i hi ha => by rw [hr, if_neg (by omega), if_neg (by omega), if_neg (by omega), if_neg (by omega), if_neg (by omega), if_neg (by omega), if_neg (by omega), if_neg (by omega), if_neg (by omega)]
  have d2 : rI C 2 n = is := by rw [hc, if_neg (by omega), if_pos (by omega), e0]
  have d3 : rI C 3 n = x := by rw [hc, if_neg (by omega), if_neg (by omega), if_pos (by omega), e1]
  have d4 : rI C 4 n = (if is = 1 ∨ is = 2 then 0 else y) := by rw [hc, if_neg (by omega), if_neg (by omega), if_neg (by omega), if_pos (by omega), e2]
  have d5 : rI C 5 n = (if is = 12 then z else 0) := by rw [hc, if_neg (by omega), if_neg (by omega), if_neg (by omega), if_neg (by omega), if_pos (by omega), e3]
  have d6 : rI C 6 n = nI n := by rw [hc, if_neg (by omega), if_neg (by omega), if_neg (by omega), if_neg (by omega), if_neg (by omega), if_pos (by omega)]
  have d7 : rI C 7 n = 0 := by rw [hc, if_neg (by omega), if_neg (by omega), if_neg (by omega), if_neg (by omega), if_neg (by omega), if_neg (by omega), if_pos (by omega)]
  have d8 : rI C 8 n = 0 := by rw [hc, if_neg (by omega), if_neg (by omega), if_neg (by omega), if_neg (by omega), if_neg (by omega), if_neg (by omega), if_neg (by omega), if_pos (by omega)]
  have d9 : rI C 9 n = x := by rw [hc, if_neg (by omega), if_neg (by omega), if_neg (by omega), if_neg (by omega), if_neg (by omega), if_neg (by omega), if_neg (by omega), if_neg (by omega), if_pos (by omega), e1]
  have g10 : rI R 115 10 = nI (n + 1) := by rw [hr, if_pos (by omega)]
  have g3 : rI R 123 n = x := by rw [hr, if_neg (by omega), if_pos (by omega)]
  have g2 : rI R 122 n = 0 := by rw [hr, if_neg (by omega), if_neg (by omega), if_pos (by omega)]
  have g1 : rI R 121 n = 0 := by rw [hr, if_neg (by omega), if_neg (by omega), if_neg (by omega), if_pos (by omega)]
  have g0 : rI R 120 n = (if is = 2 then nI n else -1) := by rw [hr, if_neg (by omega), if_neg (by omega), if_neg (by omega), if_neg (by omega), if_pos (by omega)]
  have g9 : rI R 119 n = (if is = 12 then z else 0) := by rw [hr, if_neg (by omega), if_neg (by omega), if_neg (by omega), if_neg (by omega), if_neg (by omega), if_pos (by omega)]
  have g8 : rI R 118 n = (if is = 1 ∨ is = 2 then 0 else y) := by rw [hr, if_neg (by omega), if_neg (by omega), if_neg (by omega), if_neg (by omega), if_neg (by omega), if_neg (by omega), if_pos (by omega)]
  have g7 : rI R 117 n = x := by rw [hr, if_neg (by omega), if_neg (by omega), if_neg (by omega), if_neg (by omega), if_neg (by omega), if_neg (by omega), if_neg (by omega), if_pos (by omega)]
  have g6 : rI R 116 n = is := by rw [hr, if_neg (by omega), if_neg (by omega), if_neg (by omega), if_neg (by omega), if_neg (by omega), if_neg (by omega), if_neg (by omega), if_neg (by omega), if_pos (by omega)]
  obtain ⟨h1, h2, h3, h4, h5, h6⟩ := h
  have cas : ∀ i, i < n + 1 → i < n ∨ i = n := fun i hi => by omega
  refine ⟨⟨ok, g10, fun i hi => ?_⟩, fun c => ?_, fun i hi => ?_, fun i hi => ?_, fun i hi => ?_, fun i hi => ?_⟩
  · rcases cas i hi with q | q
    · have hb := h1.2.2 i q
      unfold CS cB at hb ⊢
      rw [co 2 i q (by omega), co 3 i q (by omega), co 4 i q (by omega), co 5 i q (by omega), co 6 i q (by omega), co 7 i q (by omega), ro 116 i q (by omega), ro 117 i q (by omega), ro 118 i q (by omega), ro 119 i q (by omega), ro 120 i q (by omega), ro 121 i q (by omega)]
      exact hb
    · subst q
      unfold CS cB
      rw [d2, d3, d4, d5, d6, d7, g6, g7, g8, g9, g0, g1]
      refine ⟨⟨rfl, rfl, rfl, rfl, fun q => if_pos q, rfl⟩, fun q => ?_, fun q => ?_⟩
      · exact Int32.not_lt.mp (fun u => w1 (Or.inl ⟨q, Or.inr u⟩))
      · exact c15_n (Classical.byContradiction (fun u => w1 (Or.inr ⟨q, u⟩)))
  · rw [hc, if_neg (by omega), if_neg (by omega), if_neg (by omega), if_neg (by omega), if_neg (by omega), if_neg (by omega)]
    by_cases q : c = n
    · rw [if_pos (by omega)]; exact Or.inl rfl
    · rw [if_neg (by omega), if_neg (by omega), if_neg (by omega)]; exact h2 c
  · rcases cas i hi with q | q
    · rw [co 8 i q (by omega)]; exact h3 i q
    · subst q; rw [d8]; exact ⟨0, by omega, rfl⟩
  · rcases cas i hi with q | q
    · rw [co 8 i q (by omega), ro 122 i q (by omega)]; exact h4 i q
    · subst q; rw [d8, g2]
  · rcases cas i hi with q | q
    · rw [co 2 i q (by omega), ro 120 i q (by omega)]; exact h5 i q
    · subst q; rw [d2, g0]; exact fun u => if_neg u
  · rcases cas i hi with q | q
    · rw [co 2 i q (by omega), co 9 i q (by omega), ro 123 i q (by omega)]; exact h6 i q
    · subst q; rw [d2, d9, g3]; exact fun _ => rfl

