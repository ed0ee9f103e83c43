-- needs 
theorem pOp_kd {c : Nat → Int32} {L a : Nat} (x : Int32) (h : ¬ (pOp c L a x).1 = 0) : (0 : Int32) ≤ (pOp c L a x).2.2.1 := by
  unfold pOp at h ⊢
  by_cases h1 : f_X5_kindOf (pk c L a) = -1
  · rw [if_pos h1] at h; exact absurd rfl h
  · have h9 := (ko_le (pk c L a)).mpr h1
    rw [if_neg h1] at h ⊢
    (repeat' split) <;> first | exact h9 | (show (0 : Int32) ≤ 12; decide)
theorem pIt_kd {c : Nat → Int32} {L a : Nat} (h : ¬ (pIt c L a).1 = 0) : (0 : Int32) ≤ (pIt c L a).2.2.1 := by
  unfold pIt at h ⊢
  by_cases h1 : pk c L a = 105
  · rw [if_pos h1]
    unfold pPair
    (repeat' split) <;> (show (0 : Int32) ≤ 0; decide)
  rw [if_neg h1] at h ⊢
  by_cases h1 : pk c L a = 107
  · rw [if_pos h1]; show (0 : Int32) ≤ 1; decide
  rw [if_neg h1] at h ⊢
  by_cases h1 : pk c L a = 114
  · rw [if_pos h1]; show (0 : Int32) ≤ 2; decide
  rw [if_neg h1] at h ⊢
  by_cases h1 : pk c L a = 110
  · rw [if_pos h1]
    unfold pPair
    (repeat' split) <;> (show (0 : Int32) ≤ 13; decide)
  rw [if_neg h1] at h ⊢
  by_cases h1 : pk c L a = 111
  · rw [if_pos h1]; show (0 : Int32) ≤ 14; decide
  rw [if_neg h1] at h ⊢
  by_cases h2 : 0 < dN c L 2 a
  · rw [if_pos h2] at h ⊢; exact pOp_kd _ h
  · rw [if_neg h2] at h; exact absurd rfl h
theorem ix_fr {S : gS} {c : Nat → Int32} {L a n x y : Nat} (h : ¬ (x = 58 + 2 * n ∧ y = 0)) (h2 : x ≠ 59 + 2 * n) : rI (itX S c L a n) x y = rI S x y := by
  unfold itX
  rw [it_rd, if_neg (by omega), if_neg (by omega), if_neg (by omega), if_neg (by omega)]
/-- what the parser leaves alone -/
theorem pz_fr (c : Nat → Int32) (L x y : Nat) (hx : ¬ (x = 55 ∧ y = 1)) (hy : ¬ (x = 55 ∧ y = 2)) : ∀ f n a S, (x < 58 + 2 * n ∨ 58 + 2 * (n + f) ≤ x) → rI (pzS c L f n a S).2 x y = rI S x y := by
  intro f
  induction f with
  | zero => intro n a S h; exact cn_fr hx hy _ _ _
  | succ f ih =>
    intro n a S h
    have hi : rI (itX S c L a n) x y = rI S x y := ix_fr (by omega) (by omega)
    by_cases h1 : (pIt c L a).1 = 0
    · rw [pz_0 _ _ _ _ _ _ h1]; exact (cn_fr hx hy _ _ _).trans hi
    by_cases h2 : (pIt c L a).2.1 = L
    · rw [pz_1 _ _ _ _ _ _ h1 h2]; exact (cn_fr hx hy _ _ _).trans hi
    by_cases h3 : pk c L (pIt c L a).2.1 = 59
    · rw [pz_2 _ _ _ _ _ _ h1 h2 h3]; exact (ih (n + 1) _ _ (by omega)).trans hi
    · rw [pz_3 _ _ _ _ _ _ h1 h2 h3]; exact (cn_fr hx hy _ _ _).trans hi
theorem pz_cnt (c : Nat → Int32) (L : Nat) : ∀ f n a S, ∃ m, m ≤ n + f ∧ rI (pzS c L f n a S).2 55 2 = nI m := by
  intro f
  induction f with
  | zero => intro n a S; exact ⟨n, by omega, cn_n _ _ _⟩
  | succ f ih =>
    intro n a S
    by_cases h1 : (pIt c L a).1 = 0
    · rw [pz_0 _ _ _ _ _ _ h1]; exact ⟨n, by omega, cn_n _ _ _⟩
    by_cases h2 : (pIt c L a).2.1 = L
    · rw [pz_1 _ _ _ _ _ _ h1 h2]; exact ⟨n + 1, by omega, cn_n _ _ _⟩
    by_cases h3 : pk c L (pIt c L a).2.1 = 59
    · rw [pz_2 _ _ _ _ _ _ h1 h2 h3]
      obtain ⟨m, q1, q2⟩ := ih (n + 1) ((pIt c L a).2.1 + 1) (itX S c L a n)
      exact ⟨m, by omega, q2⟩
    · rw [pz_3 _ _ _ _ _ _ h1 h2 h3]; exact ⟨n, by omega, cn_n _ _ _⟩
theorem ix_k (S : gS) (c : Nat → Int32) (L a n : Nat) : rI (itX S c L a n) (58 + 2 * n) 0 = (pIt c L a).2.2.1 := by
  unfold itX
  rw [it_rd, if_neg (by omega), if_neg (by omega), if_neg (by omega), if_pos ⟨rfl, rfl⟩]
theorem pz_kd (c : Nat → Int32) (L : Nat) : ∀ f n a S, (∀ j, j < n → (0 : Int32) ≤ rI S (58 + 2 * j) 0) → ¬ (pzS c L f n a S).1 = 0 → ∀ m, rI (pzS c L f n a S).2 55 2 = nI m → m < 1000 → n + f ≤ 27 → ∀ j, j < m → (0 : Int32) ≤ rI (pzS c L f n a S).2 (58 + 2 * j) 0 := by
  intro f
  induction f with
  | zero => intro n a S hS hk; exact absurd rfl hk
  | succ f ih =>
    intro n a S hS hk m hm h1000 hnf j hj
    by_cases h1 : (pIt c L a).1 = 0
    · rw [pz_0 _ _ _ _ _ _ h1] at hk; exact absurd rfl hk
    have hS2 : ∀ j, j < n + 1 → (0 : Int32) ≤ rI (itX S c L a n) (58 + 2 * j) 0 := by
      intro j hj
      by_cases e : j = n
      · subst e; rw [ix_k]; exact pIt_kd h1
      · rw [ix_fr (by omega) (by omega)]; exact hS j (by omega)
    by_cases h2 : (pIt c L a).2.1 = L
    · rw [pz_1 _ _ _ _ _ _ h1 h2] at hm ⊢
      have hm2 : nI (n + 1) = nI m := (cn_n _ _ _).symm.trans hm
      have : n + 1 = m := nI_inj2 (by omega) (by omega) hm2
      rw [cn_fr (by omega) (by omega)]
      exact hS2 j (by omega)
    by_cases h3 : pk c L (pIt c L a).2.1 = 59
    · rw [pz_2 _ _ _ _ _ _ h1 h2 h3] at hk hm ⊢
      exact ih (n + 1) _ _ hS2 hk m hm h1000 (by omega) j hj
    · rw [pz_3 _ _ _ _ _ _ h1 h2 h3] at hk; exact absurd rfl hk
/-- carrying out leaves the items alone, and a circuit -/
theorem co_fr {S : gS} {k : Nat} {i : Int32} {x y : Nat} (h : 12 ≤ x) (h2 : x < 112 ∨ 114 < x) : rI (f_X8_carryOut S k i).2 x y = rI S x y := by
  have hr : ∀ a b c : Int32, rI (f_X8_refuse S a b c).2 x y = rI S x y := fun a b c => fr_f_X8_refuse (by omega) (by omega) (by omega) _ _ _ _
  have h7 : x ≠ 7 := by omega
  have h6 : x ≠ 6 := by omega
  have ha : rI (f_X0_append S k) x y = rI S x y := fr_f_X0_append (by omega) (by omega) (by omega) (by omega) (by omega) (by omega) (by omega) (by omega) (by omega) _ _
  unfold f_X8_carryOut
  simp only [snd_ite, rI_ite, hr, ha, rI_wIk h7, rI_wIk h6, ite_self]
theorem role1_big {S : gS} {k : Nat} (h : (12 : Int32) < rI S k 0) (h14 : ¬ rI S k 0 = 14) : f_X2_roleOf S k 1 = 2 := by
  unfold f_X2_roleOf
  have g : ∀ v : Int32, v ≤ 12 → ¬ rI S k 0 = v := fun v hv q => by
    rw [q] at h
    exact absurd h (Int32.not_lt.mpr hv)
  rw [if_neg (g 0 (by decide)), if_neg (g 1 (by decide)), if_neg (g 2 (by decide)), if_neg (g 3 (by decide)), if_neg (g 4 (by decide)), if_neg (g 5 (by decide)), if_neg (g 6 (by decide)), if_neg (g 7 (by decide)), if_neg (g 8 (by decide)), if_neg (g 9 (by decide)), if_neg (g 10 (by decide)), if_neg (g 11 (by decide)), if_neg (g 12 (by decide)), if_neg h14]
  (repeat' split) <;> first | rfl | (exfalso; rename_i q; exact absurd q (by decide))
theorem ref_0 (S : gS) (a b c : Int32) : (f_X8_refuse S a b c).1 = 0 := rfl
theorem fw_lk {S : gS} {k : Nat} {n : Int32} (h : f_X2_firstWrongOperand S k n < 0) : f_X2_lacksSignal S k n = 0 := by
  obtain ⟨-, h0, h1, h2⟩ := fw_ok h
  unfold f_X2_lacksSignal
  rw [if_pos h0, if_pos h1, if_pos h2]
theorem co_ok {S : gS} {k n : Nat} {i : Int32} (hk : itm k) (ho : okC S n) (h0 : 0 ≤ rI S k 0) (h : ¬ (f_X8_carryOut S k i).1 = 0) : ∃ n', n' ≤ n + 1 ∧ okC (f_X8_carryOut S k i).2 n' := by
  unfold f_X8_carryOut at h ⊢
  by_cases h1 : f_X2_firstWrongOperand S k (rI S 1 0) < 0
  · simp only [if_pos h1] at h ⊢
    by_cases h2 : (12 : Int32) < rI S k 0
    · simp only [if_pos h2] at h ⊢
      have hs := co_sgn ho.1 h1 h2
      have hv := vin_of hs ho.2.1
      by_cases h3 : rI S k 0 = 14
      · simp only [if_pos h3]
        exact ⟨n, by omega, okC.of ho (fun a c q => rI_wIk (by omega) _ _ _)⟩
      · simp only [if_neg h3] at h ⊢
        by_cases h4 : rI S 2 (rI S (k + 1) 0).toNatClampNeg = 2
        · simp only [if_pos h4]
          refine ⟨n, by omega, okC_next ho hv ?_⟩
          have h5 := h1
          rw [ho.1] at h5
          exact miss_0 (fw_ok h5).2.2.1 (role1_big h2 h3)
        · simp only [if_neg h4, ref_0] at h
          exact absurd trivial h
    · simp only [if_neg h2] at h ⊢
      by_cases h3 : f_X0_isFull S = 0
      · simp only [if_pos h3]
        have h5 := h1
        rw [ho.1] at h5
        exact ⟨n + 1, by omega, okC_app hk ho (full_lt ho.1 ho.2.1 h3) ⟨h0, Int32.not_lt.mp h2⟩ (fw_lk h5)⟩
      · simp only [if_neg h3, ref_0] at h
        exact absurd trivial h
  · simp only [if_neg h1] at h
    by_cases h2 : f_X2_isConstantAt S k (f_X2_firstWrongOperand S k (rI S 1 0)) = 0
    · simp only [if_pos h2, ref_0] at h
      exact absurd trivial h
    · simp only [if_neg h2, ref_0] at h
      exact absurd trivial h
/-- the items from number i on, f of them -/
def cyF : Nat → Nat → gS → Int32 × gS
  | 0, _, S => (rI (f_X8_beginAnew S (rI S 1 0).toNatClampNeg) 55 2, f_X8_beginAnew S (rI S 1 0).toNatClampNeg)
  | f + 1, i, S => if (f_X8_carryOut S (58 + 2 * i) (nI i)).1 = 0 then (-1, f_copy1_23 (f_X8_carryOut S (58 + 2 * i) (nI i)).2) else cyF f (i + 1) (f_X8_carryOut S (58 + 2 * i) (nI i)).2
theorem cyF_0 (f i : Nat) (S : gS) (h : (f_X8_carryOut S (58 + 2 * i) (nI i)).1 = 0) : cyF (f + 1) i S = (-1, f_copy1_23 (f_X8_carryOut S (58 + 2 * i) (nI i)).2) := by
  show (if _ then _ else _) = _
  rw [if_pos h]
theorem cyF_1 (f i : Nat) (S : gS) (h : ¬ (f_X8_carryOut S (58 + 2 * i) (nI i)).1 = 0) : cyF (f + 1) i S = cyF f (i + 1) (f_X8_carryOut S (58 + 2 * i) (nI i)).2 := by
  show (if _ then _ else _) = _
  rw [if_neg h]
set_option maxRecDepth 100000 in
set_option maxHeartbeats 1000000 in
theorem lp_read (cnt : Nat) (h27 : cnt ≤ 27) (v1 : Int32) : ∀ f i S, f + i = cnt → rI S 55 2 = nI cnt → (∃ n, okC S n) → (∀ j, j < cnt → (0 : Int32) ≤ rI S (58 + 2 * j) 0) → Go mX8_read false (go_Qm mX8_read false (fun v9 h9 => v9 = some (.int (cyF f i S).1) ∧ h9 = hp (cyF f i S).2) go_no) 0 0 64 [(2, .int (nI i)), (0, .ref 0), (1, .int v1)] [] (hp S) := by
  intro f
  induction f with
  | zero =>
    intro i S hf hcnt ⟨n, ho⟩ hkd
    have hi : i = cnt := by omega
    refine go_iload_n 65 dX8_read_64 rfl rfl ?_
    refine go_aload_n 66 dX8_read_65 rfl rfl ?_
    refine g_getR 69 dX8_read_66 rfl fF_RX8_63 ly_0 rfl ?_
    refine g_getI 72 dX8_read_69 rfl fF_RX8_294 ly_55 rfl ?_
    refine go_topi (nI cnt) hcnt ?_
    refine go_icmp_ge 75 111 dX8_read_72 rfl (by decide) (fun _ => ?_) (fun h => absurd ((nI_le2 (by omega) (by omega)).mpr (by omega)) h)
    refine go_aload_n 112 dX8_read_111 rfl rfl ?_
    refine g_callV0 115 [] [] dX8_read_112 rfl (ct_X8_beginAnew S (rI S 1 0).toNatClampNeg (by rw [ho.1, nI_c (by have := ho.2.1; omega)]; exact ho)) rfl sV_X8_read_123 rfl ly_0 rfl rfl (Nat.le_of_ble_eq_true rfl) (Nat.le_of_ble_eq_true rfl) (Nat.le_of_ble_eq_true rfl) ?_
    refine go_aload_n 116 dX8_read_115 rfl rfl ?_
    refine g_getR 119 dX8_read_116 rfl fF_RX8_63 ly_0 rfl ?_
    refine g_getI 122 dX8_read_119 rfl fF_RX8_294 ly_55 rfl ?_
    refine go_ireturn dX8_read_122 rfl (by first | rfl | exact bi_nar) (Nat.le_of_ble_eq_true rfl) (Nat.le_of_ble_eq_true rfl) ?_
    exact ⟨rfl, rfl⟩
  | succ f ih =>
    intro i S hf hcnt ⟨n, ho⟩ hkd
    have hcl := nI_c (n := i) (by omega)
    refine go_iload_n 65 dX8_read_64 rfl rfl ?_
    refine go_aload_n 66 dX8_read_65 rfl rfl ?_
    refine g_getR 69 dX8_read_66 rfl fF_RX8_63 ly_0 rfl ?_
    refine g_getI 72 dX8_read_69 rfl fF_RX8_294 ly_55 rfl ?_
    refine go_topi (nI cnt) hcnt ?_
    refine go_icmp_ge 75 111 dX8_read_72 rfl (by decide) (fun h => absurd ((nI_le2 (by omega) (by omega)).mp h) (by omega)) (fun _ => ?_)
    refine go_aload_n 76 dX8_read_75 rfl rfl ?_
    refine go_aload_n 77 dX8_read_76 rfl rfl ?_
    refine g_getR 80 dX8_read_77 rfl fF_RX8_63 ly_0 rfl ?_
    refine g_getR 83 dX8_read_80 rfl fF_RX8_307 ly_55 rfl ?_
    refine go_iload_n 84 dX8_read_83 rfl rfl ?_
    refine g_aald2 85 i dX8_read_84 rfl (nI_i (by omega) (by omega)) hcl ?_
    refine go_iload_n 86 dX8_read_85 rfl rfl ?_
    refine g_callV 89 [.ref (58 + 2 * i), .int _] [] dX8_read_86 rfl (ct_X8_carryOut _ _ _ (itm_all i (by omega)) n ho) rfl sV_X8_read_311 rfl ly_0 rfl rfl (Nat.le_of_ble_eq_true rfl) (Nat.le_of_ble_eq_true rfl) (Nat.le_of_ble_eq_true rfl) ?_
    refine go_if_ne 92 105 dX8_read_89 rfl (by decide) (fun hc1 => ?_) (fun hc1 => ?_)
    · refine go_iinc 108 [(2, .int _), (0, .ref 0), (1, .int _)] (nI (i + 1)) dX8_read_105 rfl (Nat.le_of_ble_eq_true rfl) rfl (nI_inc i) rfl ?_
      refine go_goto 64 dX8_read_108 (by decide) ?_
      rw [cyF_1 f i S hc1]
      refine go_ls [(2, .int _), (0, .ref 0), (1, .int v1)] (List.forall_mem_cons.mpr ⟨rfl, List.forall_mem_cons.mpr ⟨rfl, List.forall_mem_cons.mpr ⟨rfl, fun _ h => absurd h List.not_mem_nil⟩⟩⟩) ?_
      obtain ⟨n', -, hn'⟩ := co_ok (itm_all i (by omega)) ho (hkd i (by omega)) hc1
      exact ih (i + 1) _ (by omega) ((co_fr (by decide) (by decide)).trans hcnt) ⟨n', hn'⟩ (fun j hj => by rw [co_fr (by omega) (by omega)]; exact hkd j hj)
    · refine go_aload_n 93 dX8_read_92 rfl rfl ?_
      refine g_getR 96 dX8_read_93 rfl fF_RX8_10 ly_0 rfl ?_
      refine go_aload_n 97 dX8_read_96 rfl rfl ?_
      refine g_getR 100 dX8_read_97 rfl fF_RX8_19 ly_0 rfl ?_
      refine g_callV0 103 [.ref 23] [] dX8_read_100 rfl (ct_copy1_23 _) rfl sV_X8_read_303 rfl ly_1 rfl rfl (Nat.le_of_ble_eq_true rfl) (Nat.le_of_ble_eq_true rfl) (Nat.le_of_ble_eq_true rfl) ?_
      refine go_iconst 104 (-1) dX8_read_103 rfl (by decide) ?_
      refine go_ireturn dX8_read_104 rfl (by first | rfl | exact bi_nar) (Nat.le_of_ble_eq_true rfl) (Nat.le_of_ble_eq_true rfl) ?_
      rw [cyF_0 f i S hc1]
      refine ⟨?_, ?_⟩ <;> dsimp only
theorem cp23_fr {S : gS} {x y : Nat} (h : x < 23 ∨ 33 < x) : rI (f_copy23_1 S) x y = rI S x y := by
  unfold f_copy23_1
  rw [fr_lp_cpo23_1 (by omega)]
  simp only [f_X0_copyRow, rI_wR]
  have g : ∀ k, 23 ≤ k → k ≤ 33 → ¬ x = k := fun k h1 h2 => by omega
  rw [if_neg (g 33 (by decide) (by decide)), if_neg (g 32 (by decide) (by decide)), if_neg (g 31 (by decide) (by decide)), if_neg (g 30 (by decide) (by decide)), if_neg (g 28 (by decide) (by decide)), if_neg (g 27 (by decide) (by decide)), if_neg (g 26 (by decide) (by decide)), if_neg (g 25 (by decide) (by decide)), if_neg (g 24 (by decide) (by decide)), rI_wIk (by omega), rI_wIk (by omega)]
