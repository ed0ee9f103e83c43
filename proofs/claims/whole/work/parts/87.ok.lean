-- needs 
theorem itm_big {k : Nat} (h : itm k) : 34 ≤ k := by
  rcases Nat.lt_or_ge k 34 with q | q
  · exfalso
    have h1 := h.1
    have h2 := h.2
    match k, q, h1, h2 with
    | 0, _, h1, h2 => first | exact absurd (h1.symm.trans ly_0) (by simp) | exact absurd (h2.symm.trans ly_1) (by simp)
    | 1, _, h1, h2 => first | exact absurd (h1.symm.trans ly_1) (by simp) | exact absurd (h2.symm.trans ly_2) (by simp)
    | 2, _, h1, h2 => first | exact absurd (h1.symm.trans ly_2) (by simp) | exact absurd (h2.symm.trans ly_3) (by simp)
    | 3, _, h1, h2 => first | exact absurd (h1.symm.trans ly_3) (by simp) | exact absurd (h2.symm.trans ly_4) (by simp)
    | 4, _, h1, h2 => first | exact absurd (h1.symm.trans ly_4) (by simp) | exact absurd (h2.symm.trans ly_5) (by simp)
    | 5, _, h1, h2 => first | exact absurd (h1.symm.trans ly_5) (by simp) | exact absurd (h2.symm.trans ly_6) (by simp)
    | 6, _, h1, h2 => first | exact absurd (h1.symm.trans ly_6) (by simp) | exact absurd (h2.symm.trans ly_7) (by simp)
    | 7, _, h1, h2 => first | exact absurd (h1.symm.trans ly_7) (by simp) | exact absurd (h2.symm.trans ly_8) (by simp)
    | 8, _, h1, h2 => first | exact absurd (h1.symm.trans ly_8) (by simp) | exact absurd (h2.symm.trans ly_9) (by simp)
    | 9, _, h1, h2 => first | exact absurd (h1.symm.trans ly_9) (by simp) | exact absurd (h2.symm.trans ly_10) (by simp)
    | 10, _, h1, h2 => first | exact absurd (h1.symm.trans ly_10) (by simp) | exact absurd (h2.symm.trans ly_11) (by simp)
    | 11, _, h1, h2 => first | exact absurd (h1.symm.trans ly_11) (by simp) | exact absurd (h2.symm.trans ly_12) (by simp)
    | 12, _, h1, h2 => first | exact absurd (h1.symm.trans ly_12) (by simp) | exact absurd (h2.symm.trans ly_13) (by simp)
    | 13, _, h1, h2 => first | exact absurd (h1.symm.trans ly_13) (by simp) | exact absurd (h2.symm.trans ly_14) (by simp)
    | 14, _, h1, h2 => first | exact absurd (h1.symm.trans ly_14) (by simp) | exact absurd (h2.symm.trans ly_15) (by simp)
    | 15, _, h1, h2 => first | exact absurd (h1.symm.trans ly_15) (by simp) | exact absurd (h2.symm.trans ly_16) (by simp)
    | 16, _, h1, h2 => first | exact absurd (h1.symm.trans ly_16) (by simp) | exact absurd (h2.symm.trans ly_17) (by simp)
    | 17, _, h1, h2 => first | exact absurd (h1.symm.trans ly_17) (by simp) | exact absurd (h2.symm.trans ly_18) (by simp)
    | 18, _, h1, h2 => first | exact absurd (h1.symm.trans ly_18) (by simp) | exact absurd (h2.symm.trans ly_19) (by simp)
    | 19, _, h1, h2 => first | exact absurd (h1.symm.trans ly_19) (by simp) | exact absurd (h2.symm.trans ly_20) (by simp)
    | 20, _, h1, h2 => first | exact absurd (h1.symm.trans ly_20) (by simp) | exact absurd (h2.symm.trans ly_21) (by simp)
    | 21, _, h1, h2 => first | exact absurd (h1.symm.trans ly_21) (by simp) | exact absurd (h2.symm.trans ly_22) (by simp)
    | 22, _, h1, h2 => first | exact absurd (h1.symm.trans ly_22) (by simp) | exact absurd (h2.symm.trans ly_23) (by simp)
    | 23, _, h1, h2 => first | exact absurd (h1.symm.trans ly_23) (by simp) | exact absurd (h2.symm.trans ly_24) (by simp)
    | 24, _, h1, h2 => first | exact absurd (h1.symm.trans ly_24) (by simp) | exact absurd (h2.symm.trans ly_25) (by simp)
    | 25, _, h1, h2 => first | exact absurd (h1.symm.trans ly_25) (by simp) | exact absurd (h2.symm.trans ly_26) (by simp)
    | 26, _, h1, h2 => first | exact absurd (h1.symm.trans ly_26) (by simp) | exact absurd (h2.symm.trans ly_27) (by simp)
    | 27, _, h1, h2 => first | exact absurd (h1.symm.trans ly_27) (by simp) | exact absurd (h2.symm.trans ly_28) (by simp)
    | 28, _, h1, h2 => first | exact absurd (h1.symm.trans ly_28) (by simp) | exact absurd (h2.symm.trans ly_29) (by simp)
    | 29, _, h1, h2 => first | exact absurd (h1.symm.trans ly_29) (by simp) | exact absurd (h2.symm.trans ly_30) (by simp)
    | 30, _, h1, h2 => first | exact absurd (h1.symm.trans ly_30) (by simp) | exact absurd (h2.symm.trans ly_31) (by simp)
    | 31, _, h1, h2 => first | exact absurd (h1.symm.trans ly_31) (by simp) | exact absurd (h2.symm.trans ly_32) (by simp)
    | 32, _, h1, h2 => first | exact absurd (h1.symm.trans ly_32) (by simp) | exact absurd (h2.symm.trans ly_33) (by simp)
    | 33, _, h1, h2 => first | exact absurd (h1.symm.trans ly_33) (by simp) | exact absurd (h2.symm.trans ly_34) (by simp)
    | i + 34, q, _, _ => exact absurd q (by omega)
  · exact q
theorem sgn_up {n m : Nat} (h : n ≤ m) (hm : m < 1000) {s : Int32} (q : sgn (nI n) s) : sgn (nI m) s := by
  refine ⟨q.1, ?_⟩
  have h1 := q.2
  rw [il, nI_toInt (by omega)] at h1 ⊢
  omega
theorem okI_up {S T : gS} {n m i : Nat} (h : okI S n i) (hnm : n ≤ m) (hm : m < 1000) (e : ∀ k, 2 ≤ k → k ≤ 6 → rI T k i = rI S k i) : okI T m i := by
  obtain ⟨h1, h2, h3, h4, h5⟩ := h
  unfold okI
  rw [e 2 (by decide) (by decide), e 3 (by decide) (by decide), e 4 (by decide) (by decide), e 5 (by decide) (by decide), e 6 (by decide) (by decide)]
  exact ⟨h1, h2, h3, h4, sgn_up hnm hm h5⟩
theorem kd_all {v : Int32} (h0 : 0 ≤ v) (h12 : v ≤ 12) : v = 0 ∨ v = 1 ∨ v = 2 ∨ v = 3 ∨ v = 4 ∨ v = 5 ∨ v = 6 ∨ v = 7 ∨ v = 8 ∨ v = 9 ∨ v = 10 ∨ v = 11 ∨ v = 12 := by
  simp only [ieq, ile] at *
  simp at *
  omega
theorem miss_0 {S : gS} {k : Nat} {i n : Int32} (h : f_X2_isMissingSignal S k i n = 0) (hr : f_X2_roleOf S k i = 2) : sgn n (rI S (k + 1) i.toNatClampNeg) := by
  unfold f_X2_isMissingSignal at h
  rw [if_pos hr] at h
  by_cases h1 : rI S (k + 1) i.toNatClampNeg < 0
  · rw [if_pos h1] at h
    exact absurd h (by decide)
  · rw [if_neg h1] at h
    by_cases h2 : rI S (k + 1) i.toNatClampNeg < n
    · exact ⟨Int32.not_lt.mp h1, h2⟩
    · rw [if_neg h2] at h
      exact absurd h (by decide)
theorem lacks_0 {S : gS} {k : Nat} {n : Int32} (h : f_X2_lacksSignal S k n = 0) : f_X2_isMissingSignal S k 0 n = 0 ∧ f_X2_isMissingSignal S k 1 n = 0 ∧ f_X2_isMissingSignal S k 2 n = 0 := by
  unfold f_X2_lacksSignal at h
  by_cases h1 : f_X2_isMissingSignal S k 0 n = 0
  · rw [if_pos h1] at h
    by_cases h2 : f_X2_isMissingSignal S k 1 n = 0
    · rw [if_pos h2] at h
      by_cases h3 : f_X2_isMissingSignal S k 2 n = 0
      · exact ⟨h1, h2, h3⟩
      · rw [if_neg h3] at h
        exact absurd h (by decide)
    · rw [if_neg h2] at h
      exact absurd h (by decide)
  · rw [if_neg h1] at h
    exact absurd h (by decide)
/-- the signal behind the last: what append writes -/
theorem app_rd {S : gS} {k n : Nat} (hk : itm k) (hn : rI S 1 0 = nI n) (h24 : n < 24) (a c : Nat) : rI (f_X0_append S k) a c =
    if a = 1 ∧ c = 0 then nI (n + 1) else if a = 2 ∧ c = n then rI S k 0 else if a = 3 ∧ c = n then rI S (k + 1) 0 else if a = 4 ∧ c = n then rI S (k + 1) 1 else if a = 5 ∧ c = n then rI S (k + 1) 2 else if a = 6 ∧ c = n then nI n else if a = 7 ∧ c = n then 0 else if a = 8 ∧ c = n then 0 else if a = 9 ∧ c = n then rI S (k + 1) 0 else rI S a c := by
  have hb := itm_big hk
  have hc : (nI n).toNatClampNeg = n := nI_c (by omega)
  have e1 : nI n + 1 = nI (n + 1) := nI_1 n
  have hv : vp_nar .boolean (0 : Int32) = 0 := rfl
  have g : ∀ j : Nat, j < 12 → ¬ k = j ∧ ¬ k + 1 = j := fun j hj => by omega
  unfold f_X0_append
  simp only [rI_wI, hn, hc, e1, hv, g 2 (by decide), g 3 (by decide), g 4 (by decide), g 5 (by decide), g 6 (by decide), g 7 (by decide), g 8 (by decide), g 9 (by decide), false_and, if_false]
  by_cases h1 : a = 1 ∧ c = 0
  · simp [h1]
  · by_cases hcn : c = n
    · subst hcn
      by_cases q9 : a = 9
      · subst q9; simp
      by_cases q8 : a = 8
      · subst q8; simp
      by_cases q7 : a = 7
      · subst q7; simp
      by_cases q6 : a = 6
      · subst q6; simp
      by_cases q5 : a = 5
      · subst q5; simp
      by_cases q4 : a = 4
      · subst q4; simp
      by_cases q3 : a = 3
      · subst q3; simp
      by_cases q2 : a = 2
      · subst q2; simp
      simp [h1, q2, q3, q4, q5, q6, q7, q8, q9]
    · simp [h1, hcn]
theorem okC_app {S : gS} {k n : Nat} (hk : itm k) (ho : okC S n) (h24 : n < 24) (h0 : 0 ≤ rI S k 0 ∧ rI S k 0 ≤ 12) (hl : f_X2_lacksSignal S k (nI n) = 0) : okC (f_X0_append S k) (n + 1) := by
  have hrd := app_rd hk ho.1 h24
  refine ⟨by rw [hrd]; simp, by omega, fun i hi => ?_⟩
  by_cases hin : i = n
  · subst hin
    obtain ⟨m0, m1, m2⟩ := lacks_0 hl
    have e2 : rI (f_X0_append S k) 2 i = rI S k 0 := by rw [hrd]; simp
    have e3 : rI (f_X0_append S k) 3 i = rI S (k + 1) 0 := by rw [hrd]; simp
    have e4 : rI (f_X0_append S k) 4 i = rI S (k + 1) 1 := by rw [hrd]; simp
    have e5 : rI (f_X0_append S k) 5 i = rI S (k + 1) 2 := by rw [hrd]; simp
    have e6 : rI (f_X0_append S k) 6 i = nI i := by rw [hrd]; simp
    have m0' := miss_0 m0
    have m1' := miss_0 m1
    have m2' := miss_0 m2
    have c0 : (0 : Int32).toNatClampNeg = 0 := rfl
    have c1 : (1 : Int32).toNatClampNeg = 1 := rfl
    have c2 : (2 : Int32).toNatClampNeg = 2 := rfl
    rw [c0] at m0'
    rw [c1] at m1'
    rw [c2] at m2'
    unfold okI
    rw [e2, e3, e4, e5, e6]
    refine ⟨h0, ?_, ?_, ?_, ⟨by rw [ile, nI_toInt (by omega)]; simp, by rw [il, nI_toInt (by omega), nI_toInt (by omega)]; omega⟩⟩
    · intro q
      refine m0' ?_
      unfold f_X2_roleOf
      rcases kd_all h0.1 h0.2 with e | e | e | e | e | e | e | e | e | e | e | e | e <;> rw [e] at q ⊢ <;> first | exact absurd q (by decide) | rfl
    · intro q q9 q10
      refine m1' ?_
      unfold f_X2_roleOf
      rcases kd_all h0.1 h0.2 with e | e | e | e | e | e | e | e | e | e | e | e | e <;> rw [e] at q q9 q10 ⊢ <;> first | exact absurd q (by decide) | exact absurd rfl q9 | exact absurd rfl q10 | rfl
    · intro q
      refine m2' ?_
      unfold f_X2_roleOf
      rw [q]
      rfl
  · refine okI_up (ho.2.2 i (by omega)) (by omega) (by omega) (fun k' h2 h6 => ?_)
    rw [hrd]
    simp [hin]
    omega
theorem okC_next {S : gS} {n : Nat} {r t : Int32} (ho : okC S n) (hr : vp_in r 24) (ht : sgn (nI n) t) : okC (wI S 6 r.toNatClampNeg t) n := by
  refine ⟨(rI_wIk (by decide) _ _ _).trans ho.1, ho.2.1, fun i hi => ?_⟩
  obtain ⟨h1, h2, h3, h4, h5⟩ := ho.2.2 i hi
  unfold okI
  rw [rI_wIk (by decide), rI_wIk (by decide), rI_wIk (by decide), rI_wIk (by decide), rI_wI]
  refine ⟨h1, h2, h3, h4, ?_⟩
  by_cases q : i = r.toNatClampNeg
  · rw [if_pos ⟨rfl, q⟩]; exact ht
  · rw [if_neg (fun z => q z.2)]; exact h5
/-- what dropLast does to the next signals -/
theorem drop_nx (S : gS) (n : Nat) (hn : rI S 1 0 = nI n) (m : Nat) : ∀ c, rI (itr bd_dropLast m S) 6 c = if c < m ∧ rI S 6 c = nI n then nI c else rI S 6 c := by
  induction m with
  | zero => intro c; simp [itr]
  | succ m ih =>
    intro c
    have hs : rI (itr bd_dropLast m S) 1 0 = nI n := (fr_lp_dropLast (by decide) m S).trans hn
    show rI (bd_dropLast m (itr bd_dropLast m S)) 6 c = _
    have hm := ih m
    have hc := ih c
    revert hs hm hc
    generalize itr bd_dropLast m S = p
    intro hs hm hc
    unfold bd_dropLast
    rw [hs]
    by_cases hcm : c = m
    · subst hcm
      have hm2 : rI p 6 c = rI S 6 c := by rw [hm]; simp
      by_cases q : rI p 6 c = nI n
      · rw [if_pos q, rI_same, if_pos ⟨by omega, hm2 ▸ q⟩]
      · rw [if_neg q, hm2, if_neg (fun z => q (hm2.trans z.2))]
    · have hl : c < m + 1 ↔ c < m := by omega
      simp only [hl]
      split
      · rw [rI_wI, if_neg (fun z => hcm z.2), hc]
      · exact hc
theorem okC_drop {S : gS} {n : Nat} (ho : okC S (n + 1)) : okC (f_X0_dropLast S n).2 n := by
  have h24 := ho.2.1
  have hs : rI (wI S 1 0 (rI S 1 0 - 1)) 1 0 = nI n := by
    rw [rI_same, ho.1]
    exact nI_pred n
  unfold f_X0_dropLast
  refine ⟨(fr_lp_dropLast (by decide) n _).trans hs, by omega, fun i hi => ?_⟩
  obtain ⟨h1, h2, h3, h4, h5⟩ := ho.2.2 i (by omega)
  unfold okI
  rw [fr_lp_dropLast (by decide) n _, fr_lp_dropLast (by decide) n _, fr_lp_dropLast (by decide) n _, fr_lp_dropLast (by decide) n _, drop_nx _ n hs, rI_wIk (by decide), rI_wIk (by decide), rI_wIk (by decide), rI_wIk (by decide), rI_wIk (by decide)]
  refine ⟨h1, h2, h3, h4, ?_⟩
  by_cases q : rI S 6 i = nI n
  · rw [if_pos ⟨hi, q⟩]
    exact ⟨by rw [ile, nI_toInt (by omega)]; simp, by rw [il, nI_toInt (by omega), nI_toInt (by omega)]; omega⟩
  · rw [if_neg (fun z => q z.2)]
    refine ⟨h5.1, ?_⟩
    have h6 := h5.2
    have q2 : ¬ (rI S 6 i).toInt = n := by
      intro z
      apply q
      rw [ieq, nI_toInt (by omega)]
      exact z
    rw [il, nI_toInt (by omega)] at h6 ⊢
    omega
theorem nar01 {v : Int32} (h : v = 0 ∨ v = 1) : narrow .boolean (.int v) = .int v := by
  rcases h with e | e <;> rw [e] <;> rfl
