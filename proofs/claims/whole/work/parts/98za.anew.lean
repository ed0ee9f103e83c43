abbrev b01q (p : Int32) : Prop := (0 : Int64) ≤ p.toInt64 ∧ p.toInt64 ≤ 1
theorem b01q_c {p : Int32} : b01q p ↔ (¬ p < 0 ∧ p ≤ 1) := by
  unfold b01q
  rw [show (0 : Int64) = (0 : Int32).toInt64 from rfl, w_le, ile, show (1 : Int64) = (1 : Int32).toInt64 from rfl, w_le, ile, il]
  constructor
  · rintro ⟨a, b⟩; exact ⟨by omega, b⟩
  · rintro ⟨a, b⟩; exact ⟨by omega, b⟩
theorem q_fault {S : gS} (h : Inv S) (l w : Int32) : A1 mL_fault [.ref 0, .int l, .int w, .ref 145] mX9_fault [.ref 115, .int l, .int w] S Int32.toInt64 := by
  obtain ⟨n, hA, hH, hX⟩ := h
  obtain ⟨hT, ⟨v, v1, v2, v3, v4⟩, hS1, hS2⟩ := hX
  have hX : IX S := ⟨hT, ⟨v, v1, v2, v3, v4⟩, hS1, hS2⟩
  have hin : ∀ l : Int32, ¬ l < 0 → l < rI S 112 0 → ∃ p, p < v ∧ l = nI p ∧ l.toNatClampNeg = p := by
    intro l z1 z2
    rw [v2] at z2
    exact nI_ofInt ⟨by rw [ile]; rw [il] at z1; omega, z2⟩ (by omega)
  have hct := ct_X8_fault S l w (fun l z1 z2 => by
    obtain ⟨p, p1, p2, p3⟩ := hin l z1 z2
    rw [p2]
    exact nI_i (by omega) (by omega))
  have no : f_X8_fault S l w = (1, 0, S) → f_X9_fault S l w = (0, wI S 115 0 1) → A1 mL_fault [.ref 0, .int l, .int w, .ref 145] mX9_fault [.ref 115, .int l, .int w] S Int32.toInt64 := by
    intro e eR
    rw [e] at hct
    have hL := ct_L_fault S S l w 1 _ hct (Or.inr (Or.inl rfl))
    rw [if_neg (by decide), if_pos rfl, if_neg (by decide)] at hL
    have hR := ct_X9_fault S l w
    rw [eR] at hR
    exact ⟨1, _, _, _, hL, hR, rI_same _ _ _ _, fun z => absurd z (by decide), Inv.refuse hA hH hX 1⟩
  by_cases hl : l < 0
  · refine no ?_ ?_
    · unfold f_X8_fault; rw [if_pos hl]
    · unfold f_X9_fault; rw [if_pos hl]; rfl
  by_cases hw : b01q w
  · obtain ⟨w1, w2⟩ := b01q_c.mp hw
    have hib : ¬ ibF w.toInt64 0 1 = 0 := by unfold ibF; rw [bi_t hw]; decide
    by_cases hv : l < rI S 112 0
    · obtain ⟨p, p1, p2, p3⟩ := hin l hl hv
      have h2 : ¬ (2 : Int32) < l := by rw [p2, show (2 : Int32) = nI 2 from rfl, nI_lt2 (by omega) (by omega)]; omega
      have hk : ¬ rI S 142 p = 0 := fun z => (v3 p (by omega)).mp z p1
      have e : f_X8_fault S l w = (0, (if w = 0 then rI S 113 p else rI S 114 p), S) := by
        unfold f_X8_fault
        rw [if_neg hl, if_neg w1, if_pos w2, if_pos hv, p3]
        by_cases z : w = 0
        · rw [if_pos z, if_pos z]
        · rw [if_neg z, if_neg z]
      rw [e] at hct
      have hL := ct_L_fault S S l w 0 _ hct (Or.inl rfl)
      rw [if_pos rfl, if_pos rfl] at hL
      have hR := ct_X9_fault (wL S 145 0 (if w = 0 then rI S 113 p else rI S 114 p).toInt64) l w
      have eR : f_X9_fault (wL S 145 0 (if w = 0 then rI S 113 p else rI S 114 p).toInt64) l w = ((if w = 0 then rI S 113 p else rI S 114 p), wI (wL S 145 0 (if w = 0 then rI S 113 p else rI S 114 p).toInt64) 115 0 0) := by
        unfold f_X9_fault
        rw [if_neg hl, if_neg hib, if_neg h2, p3, rI_wL, if_neg hk, rI_wL]
        by_cases z : w = 0
        · rw [if_pos z, if_pos z, (v4 p p1).1]
        · rw [if_neg z, if_neg z, (v4 p p1).2]
      rw [eR] at hR
      refine ⟨0, _, _, _, hL, hR, rI_same _ _ _ _, fun _ => ?_, Inv.out hA hH hX _ 0⟩
      show rL (wI (wL S 145 0 _) 115 0 0) 145 0 = _
      rw [rL_wI, rL_wL, if_pos ⟨rfl, rfl⟩]
    · have e : f_X8_fault S l w = (4, 0, S) := by unfold f_X8_fault; rw [if_neg hl, if_neg w1, if_pos w2, if_neg hv]
      rw [e] at hct
      have hL := ct_L_fault S S l w 4 _ hct (Or.inr (Or.inr rfl))
      rw [if_neg (by decide), if_neg (by decide), if_neg (by decide)] at hL
      have hR := ct_X9_fault S l w
      have eR : f_X9_fault S l w = (0, wI S 115 0 2) := by
        unfold f_X9_fault
        rw [if_neg hl, if_neg hib]
        by_cases h2 : (2 : Int32) < l
        · rw [if_pos h2]; rfl
        · have hl3 : ∃ p, p < 3 ∧ l = nI p ∧ l.toNatClampNeg = p := nI_ofInt ⟨by rw [ile]; rw [il] at hl; omega, by rw [il, nI_toInt (by omega)]; rw [il] at h2; have e2 : (2 : Int32).toInt = 2 := rfl; omega⟩ (by omega)
          obtain ⟨p, p1, p2, p3⟩ := hl3
          have hk : rI S 142 p = 0 := (v3 p p1).mpr (fun z => hv (by rw [v2, p2, nI_lt2 (by omega) (by omega)]; exact z))
          rw [if_neg h2, p3, if_pos hk]; rfl
      rw [eR] at hR
      exact ⟨2, _, _, _, hL, hR, rI_same _ _ _ _, fun z => absurd z (by decide), Inv.refuse hA hH hX 2⟩
  · have hib : ibF w.toInt64 0 1 = 0 := by unfold ibF; exact bi_f hw
    refine no ?_ ?_
    · unfold f_X8_fault
      rw [if_neg hl]
      by_cases z : w < 0
      · rw [if_pos z]
      · rw [if_neg z, if_neg (fun y => hw (b01q_c.mpr ⟨z, y⟩))]
    · unfold f_X9_fault; rw [if_neg hl, if_pos hib]; rfl
theorem rew_rd (S : gS) : ∀ k i, rI (itr bd_rewind k S) 10 i = (if i < k then rI S 3 i else rI S 10 i) ∧ rI (itr bd_rewind k S) 11 i = (if i < k then rI S 3 i else rI S 11 i) := by
  intro k
  induction k with
  | zero => intro i; simp [itr]
  | succ k ih =>
    intro i
    have hi := ih i
    have f3 : rI (itr bd_rewind k S) 3 k = rI S 3 k := fr_lp_rewind (by decide) (by decide) _ _
    rw [show itr bd_rewind (k + 1) S = bd_rewind k (itr bd_rewind k S) from rfl]
    revert hi f3
    generalize itr bd_rewind k S = p
    intro hi f3
    unfold bd_rewind
    rw [rI_wIk (show 3 ≠ 10 by decide), f3]
    by_cases e : i = k
    · subst e
      rw [rI_wIk (show 10 ≠ 11 by decide), rI_same, rI_same, if_pos (Nat.lt_succ_self i), if_pos (Nat.lt_succ_self i)]
      exact ⟨rfl, rfl⟩
    · have hl : i < k + 1 ↔ i < k := by omega
      rw [rI_wIc (fun z => e z.2), rI_wIc (fun z => e z.2), rI_wIc (fun z => e z.2), rI_wIc (fun z => e z.2)]
      simp only [hl]
      exact hi
/-- what begins anew keeps the invariant -/
theorem anew {R : gS} {n : Nat} (hC : CI R R n) (h7 : ∀ c, rI R 7 c = 0 ∨ rI R 7 c = 1) (h40 : rI R 40 3 = 0 ∨ rI R 40 3 = 1) (h43 : ∀ c, rI R 43 c = 0 ∨ rI R 43 c = 1) (h8 : ∀ i, i < n → ∃ k, k < 4 ∧ rI R 8 i = nI k) (hP : PH R R n) (h4 : rI R 0 12 ≠ 0 → (∀ X, AR R X n → AN R X n) ∧ ∀ U, CI R U n → AN R U n → PH R U n → UN R U n) (h15 : rI R 115 15 = 0) (hcy : rI R 1 1 = rI R 115 11) (nx : ∀ i, i < n → rI R 2 i ≠ 2 → rI R 120 i = -1) (k0 : ∀ i, i < n → rI R 2 i = 0 → rI R 9 i = rI R 123 i) (reg : ∀ i, i < n → rI R 2 i = 2 → rI R 10 i = rI R 3 i ∧ rI R 11 i = rI R 3 i ∧ rI R 123 i = rI R 117 i ∧ rI R 124 i = rI R 117 i) (hX : IX R) : Inv R := by
  refine ⟨n, ⟨hC, h7, h40, h43, h8, hP, h4, fun z => absurd h15 z⟩, ⟨hcy, nx, k0, fun i hi z => ?_, fun X hXX i hi z => ?_⟩, hX⟩
  · obtain ⟨r1, r2, r3, r4⟩ := reg i hi z
    rw [r1, r3, (hC.2.2 i hi).1.2.1]
  · obtain ⟨r1, r2, r3, r4⟩ := reg i hi z
    rw [r2, r4, (hC.2.2 i hi).1.2.1]

