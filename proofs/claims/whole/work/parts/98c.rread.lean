-- needs 
theorem ad_rd {S : gS} {n : Nat} (hn : rI S 115 10 = nI n) (h24 : n < 24) (is a c d : Int32) (x y : Nat) : rI (adF S is a c d) x y =
    if x = 115 ∧ y = 10 then nI (n + 1) else if x = 116 ∧ y = n then is else if x = 117 ∧ y = n then a else if x = 118 ∧ y = n then (if is = 1 ∨ is = 2 then 0 else c) else if x = 119 ∧ y = n then (if is = 12 then d else 0) else if x = 120 ∧ y = n then (if is = 2 then nI n else -1) else if x = 121 ∧ y = n then 0 else if x = 122 ∧ y = n then 0 else if x = 123 ∧ y = n then a else rI S x y := by
  have hc : (nI n).toNatClampNeg = n := nI_c (by omega)
  have e1 : nI n + 1 = nI (n + 1) := nI_1 n
  unfold adF
  simp only [rI_wI, hn, hc, e1]
  by_cases h1 : x = 115 ∧ y = 10
  · simp [h1]
  · by_cases hyn : y = n
    · subst hyn
      by_cases q9 : x = 123
      · subst q9; simp
      by_cases q8 : x = 122
      · subst q8; simp
      by_cases q7 : x = 121
      · subst q7; simp
      by_cases q6 : x = 120
      · subst q6; simp
      by_cases q5 : x = 119
      · subst q5; simp
      by_cases q4 : x = 118
      · subst q4; simp
      by_cases q3 : x = 117
      · subst q3; simp
      by_cases q2 : x = 116
      · subst q2; simp
      simp [h1, q2, q3, q4, q5, q6, q7, q8, q9]
    · simp [h1, hyn]
theorem bs_neg {n kind a b d : Int32} (h : bsF n kind a b d < 0) : (opS kind 0 → sgn n a) ∧ (opS kind 1 → sgn n b) ∧ (opS kind 2 → sgn n d) := by
  unfold bsF at h
  by_cases h0 : opS kind 0 ∧ ¬ sgn n a
  · rw [if_pos h0] at h; exact absurd h (by decide)
  · rw [if_neg h0] at h
    by_cases h1 : opS kind 1 ∧ ¬ sgn n b
    · rw [if_pos h1] at h; exact absurd h (by decide)
    · rw [if_neg h1] at h
      by_cases h2 : opS kind 2 ∧ ¬ sgn n d
      · rw [if_pos h2] at h; exact absurd h (by decide)
      · exact ⟨fun q => Classical.byContradiction fun z => h0 ⟨q, z⟩, fun q => Classical.byContradiction fun z => h1 ⟨q, z⟩, fun q => Classical.byContradiction fun z => h2 ⟨q, z⟩⟩
theorem okR_ad {S : gS} {n : Nat} (ho : okR S n) (h24 : n < 24) {is a c d : Int32} (h0 : 0 ≤ is ∧ is ≤ 12) (hb : bsF (nI n) is a c d < 0) : okR (adF S is a c d) (n + 1) := by
  obtain ⟨g1, g2, g3⟩ := ho
  have hrd := ad_rd g1 h24 is a c d
  obtain ⟨b0, b1, b2⟩ := bs_neg hb
  refine ⟨by rw [hrd]; simp, by omega, fun i hi => ?_⟩
  by_cases hin : i = n
  · subst hin
    have e2 : rI (adF S is a c d) 116 i = is := by rw [hrd]; simp
    have e3 : rI (adF S is a c d) 117 i = a := by rw [hrd]; simp
    have e4 : rI (adF S is a c d) 118 i = (if is = 1 ∨ is = 2 then 0 else c) := by rw [hrd]; simp
    have e5 : rI (adF S is a c d) 119 i = (if is = 12 then d else 0) := by rw [hrd]; simp
    have e6 : rI (adF S is a c d) 120 i = (if is = 2 then nI i else -1) := by rw [hrd]; simp
    unfold okS
    rw [e2, e3, e4, e5, e6]
    refine ⟨⟨fun q => vin_of (b0 ⟨q, Or.inl rfl⟩) (by omega), fun q q9 q10 => ?_, fun q => ?_, h0⟩, fun q => ?_⟩
    · have n12 : ¬ (is = 1 ∨ is = 2) := by
        rintro (e | e) <;> rw [e] at q <;> exact absurd q (by decide)
      rw [if_neg n12]
      exact vin_of (b1 ⟨q, Or.inr (Or.inl ⟨rfl, q9, q10⟩)⟩) (by omega)
    · rw [if_pos q]
      exact vin_of (b2 ⟨by rw [q]; decide, Or.inr (Or.inr ⟨rfl, q⟩)⟩) (by omega)
    · rw [if_pos q]
      exact nI_i h24 (by omega)
  · have e : ∀ k, 116 ≤ k → k ≤ 120 → rI (adF S is a c d) k i = rI S k i := fun k h1 h2 => by
      rw [hrd]
      simp [hin]
      omega
    obtain ⟨g4, g5⟩ := g3 i (by omega)
    unfold okS at g4 ⊢
    rw [e 116 (by decide) (by decide), e 117 (by decide) (by decide), e 118 (by decide) (by decide), e 119 (by decide) (by decide), e 120 (by decide) (by decide)]
    exact ⟨g4, g5⟩
theorem nd_fr {S : gS} {k x y : Nat} (h : ¬ (x = 115 ∧ y = 40)) : rI (f_X9_notDone S k).2 x y = rI S x y := by
  unfold f_X9_notDone
  simp only [snd_ite, rI_ite, rI_wIc h, ite_self]
theorem bsG_40 (S : gS) (v kind a b d : Int32) : bsG (wI S 115 40 v) kind a b d = bsF (rI S 115 10) kind a b d := by
  unfold bsG
  rw [rI_wIc (by decide)]
theorem isF_40 (S : gS) (v s : Int32) : isF (wI S 115 40 v) s = isF S s := by
  unfold isF
  rw [rI_wIc (by decide)]
theorem nd_ok {S : gS} {k : Nat} (h : (f_X9_notDone S k).1 ≤ 0) : (rI S 138 k < 13 → bcF (rI S 138 k) (rI S 139 k) (rI S 140 k) < 0 ∧ bsF (rI S 115 10) (rI S 138 k) (rI S 139 k) (rI S 140 k) (rI S 141 k) < 0 ∧ ¬ rI S 115 10 = 24) ∧ (¬ rI S 138 k < 13 → ¬ isF S (rI S 139 k) = 0 ∧ (rI S 138 k = 14 ∨ ¬ isF S (rI S 140 k) = 0) ∧ (rI S 138 k = 13 → rI S 116 (rI S 139 k).toNatClampNeg = 2)) := by
  unfold f_X9_notDone at h
  simp only [bsG_40, isF_40] at h
  by_cases h1 : rI S 138 k < 13
  · refine ⟨fun _ => ?_, fun q => absurd h1 q⟩
    simp only [if_pos h1] at h
    by_cases h2 : (0 : Int32) ≤ bcF (rI S 138 k) (rI S 139 k) (rI S 140 k)
    · exfalso
      simp only [if_pos h2, fst_ite] at h
      revert h
      (repeat' split) <;> decide
    · simp only [if_neg h2] at h
      by_cases h3 : (0 : Int32) ≤ bsF (rI S 115 10) (rI S 138 k) (rI S 139 k) (rI S 140 k) (rI S 141 k)
      · exfalso
        simp only [if_pos h3, fst_ite] at h
        revert h
        (repeat' split) <;> decide
      · simp only [if_neg h3] at h
        by_cases h4 : rI S 115 10 = 24
        · simp only [if_pos h4] at h
          exact absurd h (by decide)
        · exact ⟨Int32.not_le.mp h2, Int32.not_le.mp h3, h4⟩
  · refine ⟨fun q => absurd q h1, fun _ => ?_⟩
    simp only [if_neg h1] at h
    by_cases h2 : isF S (rI S 139 k) = 0
    · simp only [if_pos h2] at h
      exact absurd h (by decide)
    · simp only [if_neg h2] at h
      refine ⟨h2, ?_⟩
      by_cases h3 : rI S 138 k = 14
      · exact ⟨Or.inl h3, fun q => by rw [h3] at q; exact absurd q (by decide)⟩
      · simp only [if_neg h3] at h
        by_cases h4 : isF S (rI S 140 k) = 0
        · simp only [if_pos h4] at h
          exact absurd h (by decide)
        · simp only [if_neg h4] at h
          refine ⟨Or.inr h4, fun q => ?_⟩
          simp only [if_pos q] at h
          by_cases h5 : rI S 116 (rI S 139 k).toNatClampNeg = 2
          · exact h5
          · simp only [if_neg h5] at h
            exact absurd h (by decide)
theorem do_fr {S : gS} {k x y : Nat} (h : x < 115 ∨ 123 < x ∨ (x = 115 ∧ y ≠ 10)) : rI (f_X9_does S k) x y = rI S x y := by
  have ha : rI (adF S (rI S 138 k) (rI S 139 k) (rI S 140 k) (rI S 141 k)) x y = rI S x y := by
    unfold adF
    rw [rI_wIc (by omega), rI_wIk (by omega), rI_wIk (by omega), rI_wIk (by omega), rI_wIk (by omega), rI_wIk (by omega), rI_wIk (by omega), rI_wIk (by omega), rI_wIk (by omega)]
  unfold f_X9_does
  split
  · exact rI_wIk (by omega) _ _ _
  · split
    · exact rI_wIk (by omega) _ _ _
    · exact ha
theorem vin_lt {s : Int32} (h : vp_in s 24) : s.toNatClampNeg < 24 := by
  unfold vp_in at h
  omega
theorem do_ok {S : gS} {k n : Nat} (ho : okR S n) (h0 : 0 ≤ rI S 138 k) (h14 : rI S 138 k ≤ 14) (h : (f_X9_notDone S k).1 ≤ 0) : ∃ n', n' ≤ n + 1 ∧ okR (f_X9_does (f_X9_notDone S k).2 k) n' := by
  obtain ⟨hA, hB⟩ := nd_ok h
  have e : ∀ x y, ¬ (x = 115 ∧ y = 40) → rI (f_X9_notDone S k).2 x y = rI S x y := fun x y h => nd_fr h
  have hoN : okR (f_X9_notDone S k).2 n := okR_of ho (e 115 10 (by decide)) (fun k j _ => e _ _ (by omega))
  revert e hoN
  generalize (f_X9_notDone S k).2 = T
  intro e hoN
  unfold f_X9_does
  rw [e 138 k (by omega), e 139 k (by omega), e 140 k (by omega), e 141 k (by omega)]
  by_cases h13 : rI S 138 k = 13
  · rw [if_pos h13]
    obtain ⟨q1, q2, q3⟩ := hB (by rw [h13]; decide)
    have hb : vp_in (rI S 140 k) 24 := by
      rcases q2 with q | q
      · rw [h13] at q; exact absurd q (by decide)
      · exact isF_in ho.1 ho.2.1 q
    refine ⟨n, by omega, (rI_wIk (by decide) _ _ _).trans hoN.1, hoN.2.1, fun i hi => ?_⟩
    obtain ⟨g4, g5⟩ := hoN.2.2 i hi
    unfold okS at g4 ⊢
    rw [rI_wIk (by decide), rI_wIk (by decide), rI_wIk (by decide), rI_wIk (by decide)]
    refine ⟨g4, fun q => ?_⟩
    rw [rI_wI]
    split
    · exact hb
    · exact g5 q
  · rw [if_neg h13]
    by_cases h4 : rI S 138 k = 14
    · rw [if_pos h4]
      refine ⟨n, by omega, okR_of2 hoN (rI_wIk (by decide) _ _ _) (fun k j _ _ => rI_wIk (by omega) _ _ _)⟩
    · rw [if_neg h4]
      have h12 : rI S 138 k < 13 ∧ rI S 138 k ≤ 12 := by
        rw [ile] at h14 h0
        rw [ieq] at h13 h4
        rw [il, ile]
        have e1 : (13 : Int32).toInt = 13 := rfl
        have e2 : (14 : Int32).toInt = 14 := rfl
        have e3 : (12 : Int32).toInt = 12 := rfl
        omega
      obtain ⟨q1, q2, q3⟩ := hA h12.1
      rw [ho.1] at q2 q3
      have hn : n < 24 := by
        have := ho.2.1
        rcases Nat.lt_or_ge n 24 with w | w
        · exact w
        · have e9 : n = 24 := by omega
          subst e9
          exact absurd rfl q3
      exact ⟨n + 1, by omega, okR_ad hoN hn ⟨h0, h12.2⟩ q2⟩
/-- the items from number k on, f of them -/
def ryF : Nat → Nat → gS → Int32 × gS
  | 0, _, S => (rI (rsF S (rI S 115 10).toNatClampNeg) 115 36, rsF S (rI S 115 10).toNatClampNeg)
  | f + 1, k, S => if (f_X9_notDone S k).1 ≤ 0 then ryF f (k + 1) (f_X9_does (f_X9_notDone S k).2 k) else (-1, f_pass10 (f_X9_faults (f_X9_notDone S k).2 (nI k) 3 (rI (f_X9_notDone S k).2 115 10) (f_X9_notDone S k).1 (rI (f_X9_notDone S k).2 115 40)))
theorem ryF_0 (f k : Nat) (S : gS) (h : ¬ (f_X9_notDone S k).1 ≤ 0) : ryF (f + 1) k S = (-1, f_pass10 (f_X9_faults (f_X9_notDone S k).2 (nI k) 3 (rI (f_X9_notDone S k).2 115 10) (f_X9_notDone S k).1 (rI (f_X9_notDone S k).2 115 40))) := by
  show (if _ then _ else _) = _
  rw [if_neg h]
theorem ryF_1 (f k : Nat) (S : gS) (h : (f_X9_notDone S k).1 ≤ 0) : ryF (f + 1) k S = ryF f (k + 1) (f_X9_does (f_X9_notDone S k).2 k) := by
  show (if _ then _ else _) = _
  rw [if_pos h]
theorem ry_in {S : gS} {k n : Nat} (ho : okR S n) (h0 : 0 ≤ rI S 138 k) (h14 : rI S 138 k ≤ 14) (h13 : ¬ rI S 138 k = 13) (h4 : ¬ rI S 138 k = 14) (hA : rI S 138 k < 13 → bcF (rI S 138 k) (rI S 139 k) (rI S 140 k) < 0 ∧ bsF (rI S 115 10) (rI S 138 k) (rI S 139 k) (rI S 140 k) (rI S 141 k) < 0 ∧ ¬ rI S 115 10 = 24) : vp_in (rI S 115 10) 24 := by
  have h12 : rI S 138 k < 13 := by
    rw [ile] at h14 h0
    rw [ieq] at h13 h4
    rw [il]
    have e1 : (13 : Int32).toInt = 13 := rfl
    have e2 : (14 : Int32).toInt = 14 := rfl
    omega
  have q3 := (hA h12).2.2
  rw [ho.1] at q3 ⊢
  have := ho.2.1
  refine nI_i ?_ (by omega)
  rcases Nat.lt_or_ge n 24 with w | w
  · exact w
  · have e9 : n = 24 := by omega
    subst e9
    exact absurd rfl q3
set_option maxRecDepth 100000 in
set_option maxHeartbeats 1000000 in
theorem lp_rread (cnt : Nat) (h27 : cnt < 40) (v1 : Int32) : ∀ f k S, f + k = cnt → rI S 115 36 = nI cnt → (∃ n, okR S n) → (∀ j, j < cnt → (0 : Int32) ≤ rI S 138 j ∧ rI S 138 j ≤ 14) → Go mX9_read false (go_Qm mX9_read false (fun v9 h9 => v9 = some (.int (ryF f k S).1) ∧ h9 = hp (ryF f k S).2) go_no) 0 0 64 [(2, .int (nI k)), (0, .ref 115), (1, .int v1)] [] (hp S) := by
  intro f
  induction f with
  | zero =>
    intro k S hf hcnt ⟨n, ho⟩ hkd
    have hi : k = cnt := by omega
    refine go_iload_n 65 dX9_read_64 rfl rfl ?_
    refine go_aload_n 66 dX9_read_65 rfl rfl ?_
    refine g_getI 69 dX9_read_66 rfl fF_RX9_324 ly_115 rfl ?_
    refine go_topi (nI cnt) hcnt ?_
    refine go_icmp_ge 72 116 dX9_read_69 rfl (by decide) (fun _ => ?_) (fun h => absurd ((nI_le2 (by omega) (by omega)).mpr (by omega)) h)
    refine go_aload_n 117 dX9_read_116 rfl rfl ?_
    refine g_callV0 120 [] [] dX9_read_117 rfl (ct_X9_restarts S (rI S 115 10).toNatClampNeg (by rw [ho.1, nI_c (by have := ho.2.1; omega)]) (by rw [ho.1, nI_c (by have := ho.2.1; omega)]; exact ho.2.1)) rfl sV_X9_read_144 rfl ly_115 rfl rfl (Nat.le_of_ble_eq_true rfl) (Nat.le_of_ble_eq_true rfl) (Nat.le_of_ble_eq_true rfl) ?_
    refine go_aload_n 121 dX9_read_120 rfl rfl ?_
    refine g_getI 124 dX9_read_121 rfl fF_RX9_324 ly_115 rfl ?_
    refine go_ireturn dX9_read_124 rfl (by first | rfl | exact bi_nar) (Nat.le_of_ble_eq_true rfl) (Nat.le_of_ble_eq_true rfl) ?_
    refine ⟨?_, ?_⟩ <;> first | rfl | dsimp only
  | succ f ih =>
    intro k S hf hcnt ⟨n, ho⟩ hkd
    have hcl := nI_c (n := k) (by omega)
    refine go_iload_n 65 dX9_read_64 rfl rfl ?_
    refine go_aload_n 66 dX9_read_65 rfl rfl ?_
    refine g_getI 69 dX9_read_66 rfl fF_RX9_324 ly_115 rfl ?_
    refine go_topi (nI cnt) hcnt ?_
    refine go_icmp_ge 72 116 dX9_read_69 rfl (by decide) (fun h => absurd ((nI_le2 (by omega) (by omega)).mp h) (by omega)) (fun _ => ?_)
    refine go_aload_n 73 dX9_read_72 rfl rfl ?_
    refine go_iload_n 74 dX9_read_73 rfl rfl ?_
    refine g_callV 77 [.int _] [] dX9_read_74 rfl (ct_X9_notDone _ _ (by omega) n ho.1 ho.2.1) rfl sV_X9_read_357 rfl ly_115 rfl rfl (Nat.le_of_ble_eq_true rfl) (Nat.le_of_ble_eq_true rfl) (Nat.le_of_ble_eq_true rfl) ?_
    refine go_istore_n 78 [(3, .int _), (2, .int _), (0, .ref 115), (1, .int _)] dX9_read_77 rfl (Nat.le_of_ble_eq_true rfl) rfl ?_
    refine go_iload_n 79 dX9_read_78 rfl rfl ?_
    refine go_if_le 82 105 dX9_read_79 rfl (by decide) (fun hc1 => ?_) (fun hc1 => ?_)
    · refine go_aload_n 106 dX9_read_105 rfl rfl ?_
      refine go_iload_n 107 dX9_read_106 rfl rfl ?_
      refine g_callV0 110 [.int _] [] dX9_read_107 rfl (ct_X9_does _ _ (by omega) (fun q => by rw [nd_fr (by omega)] at q ⊢; exact isF_in ho.1 ho.2.1 ((nd_ok hc1).2 (by rw [q]; decide)).1) (fun q => by rw [nd_fr (by omega)] at q ⊢; exact isF_in ho.1 ho.2.1 ((nd_ok hc1).2 (by rw [q]; decide)).1) (fun q1 q2 => by rw [nd_fr (by omega)] at q1 q2; rw [nd_fr (by decide)]; exact ry_in ho (hkd k (by omega)).1 (hkd k (by omega)).2 q1 q2 (nd_ok hc1).1)) rfl sV_X9_read_360 rfl ly_115 rfl rfl (Nat.le_of_ble_eq_true rfl) (Nat.le_of_ble_eq_true rfl) (Nat.le_of_ble_eq_true rfl) ?_
      refine go_iinc 113 [(2, .int _), (3, .int _), (0, .ref 115), (1, .int _)] (nI (k + 1)) dX9_read_110 rfl (Nat.le_of_ble_eq_true rfl) rfl (nI_inc k) rfl ?_
      refine go_goto 64 dX9_read_113 (by decide) ?_
      rw [ryF_1 f k S hc1]
      refine go_ls [(2, .int _), (0, .ref 115), (1, .int v1)] (List.forall_mem_cons.mpr ⟨rfl, List.forall_mem_cons.mpr ⟨rfl, List.forall_mem_cons.mpr ⟨rfl, fun _ h => absurd h List.not_mem_nil⟩⟩⟩) ?_
      obtain ⟨n', -, hn'⟩ := do_ok ho (hkd k (by omega)).1 (hkd k (by omega)).2 hc1
      exact ih (k + 1) _ (by omega) ((do_fr (by decide)).trans ((nd_fr (by decide)).trans hcnt)) ⟨n', hn'⟩ (fun j hj => by rw [do_fr (by omega), nd_fr (by omega)]; exact hkd j hj)
    · refine go_aload_n 83 dX9_read_82 rfl rfl ?_
      refine go_iload_n 84 dX9_read_83 rfl rfl ?_
      refine go_iconst 85 (3) dX9_read_84 rfl (by decide) ?_
      refine go_aload_n 86 dX9_read_85 rfl rfl ?_
      refine g_getI 89 dX9_read_86 rfl fF_RX9_102 ly_115 rfl ?_
      refine go_iload_n 90 dX9_read_89 rfl rfl ?_
      refine go_aload_n 91 dX9_read_90 rfl rfl ?_
      refine g_getI 94 dX9_read_91 rfl fF_RX9_343 ly_115 rfl ?_
      refine g_callV0 97 [.int _, .int _, .int _, .int _, .int _] [] dX9_read_94 rfl (ct_X9_faults _ _ _ _ _ _) rfl sV_X9_read_349 rfl ly_115 rfl rfl (Nat.le_of_ble_eq_true rfl) (Nat.le_of_ble_eq_true rfl) (Nat.le_of_ble_eq_true rfl) ?_
      refine go_aload_n 98 dX9_read_97 rfl rfl ?_
      refine go_iconst 99 (1) dX9_read_98 rfl (by decide) ?_
      refine go_iconst 100 (0) dX9_read_99 rfl (by decide) ?_
      refine g_callV0 103 [.int _, .int _] [] dX9_read_100 rfl (ct_pass10 _) rfl sV_X9_read_353 rfl ly_115 rfl rfl (Nat.le_of_ble_eq_true rfl) (Nat.le_of_ble_eq_true rfl) (Nat.le_of_ble_eq_true rfl) ?_
      refine go_iconst 104 (-1) dX9_read_103 rfl (by decide) ?_
      refine go_ireturn dX9_read_104 rfl (by first | rfl | exact bi_nar) (Nat.le_of_ble_eq_true rfl) (Nat.le_of_ble_eq_true rfl) ?_
      rw [ryF_0 f k S hc1]
      refine ⟨?_, ?_⟩ <;> dsimp only
