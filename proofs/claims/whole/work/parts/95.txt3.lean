-- needs 
theorem pOp_le {c : Nat → Int32} {L a : Nat} (x : Int32) (ha : a ≤ L) : (pOp c L a x).2.1 ≤ L := by
  unfold pOp
  by_cases h1 : f_X5_kindOf (pk c L a) = -1
  · rw [if_pos h1]; exact ha
  · rw [if_neg h1]
    have hl : a < L := by
      by_cases q : a < L
      · exact q
      · exfalso
        apply h1
        unfold pk
        rw [if_neg q]
        rfl
    have hd := dN_le c L 2 (a + 1) hl
    by_cases h2 : 0 < dN c L 2 (a + 1)
    · rw [if_pos h2]
      by_cases h3 : f_X5_kindOf (pk c L a) = 12
      · rw [if_pos h3]
        by_cases h4 : pk c L (a + 1 + dN c L 2 (a + 1)) = 58
        · rw [if_pos h4]
          exact dN_le c L 2 _ (pk_l h4 (by decide))
        · rw [if_neg h4]; exact hd
      · rw [if_neg h3]; exact hd
    · rw [if_neg h2]; exact hd
theorem pOp_adv {c : Nat → Int32} {L a : Nat} (x : Int32) (h : ¬ (pOp c L a x).1 = 0) : a + 2 ≤ (pOp c L a x).2.1 := by
  unfold pOp at h ⊢
  by_cases h1 : f_X5_kindOf (pk c L a) = -1
  · rw [if_pos h1] at h; exact absurd rfl h
  · rw [if_neg h1] at h ⊢
    by_cases h2 : 0 < dN c L 2 (a + 1)
    · rw [if_pos h2] at h ⊢
      by_cases h3 : f_X5_kindOf (pk c L a) = 12
      · rw [if_pos h3] at h ⊢
        by_cases h4 : pk c L (a + 1 + dN c L 2 (a + 1)) = 58
        · rw [if_pos h4]
          show a + 2 ≤ a + 1 + dN c L 2 (a + 1) + 1 + _
          omega
        · rw [if_neg h4] at h; exact absurd rfl h
      · rw [if_neg h3]
        show a + 2 ≤ a + 1 + dN c L 2 (a + 1)
        omega
    · rw [if_neg h2] at h; exact absurd rfl h
theorem nE_adv {c : Nat → Int32} {L a : Nat} (h : nO c L a) : a + 1 ≤ nE c L a := by
  unfold nO at h
  unfold nE
  have : a ≤ nB c L a := by
    unfold nB
    split <;> omega
  omega
theorem pIt_le {c : Nat → Int32} {L a : Nat} (ha : a ≤ L) : (pIt c L a).2.1 ≤ L := by
  unfold pIt pPair fNum fSig
  by_cases h1 : pk c L a = 105
  · rw [if_pos h1]
    have hl := pk_l h1 (by decide)
    by_cases h2 : nO c L (a + 1)
    · rw [if_pos h2]
      by_cases h3 : pk c L (nE c L (a + 1)) = 58
      · rw [if_pos h3]; exact nE_le (pk_l h3 (by decide))
      · rw [if_neg h3]; exact nE_le hl
    · rw [if_neg h2]; exact nE_le hl
  rw [if_neg h1]
  by_cases h1 : pk c L a = 107
  · rw [if_pos h1]; exact nE_le (pk_l h1 (by decide))
  rw [if_neg h1]
  by_cases h1 : pk c L a = 114
  · rw [if_pos h1]; exact nE_le (pk_l h1 (by decide))
  rw [if_neg h1]
  by_cases h1 : pk c L a = 110
  · rw [if_pos h1]
    have hl := pk_l h1 (by decide)
    by_cases h2 : 0 < dN c L 2 (a + 1)
    · rw [if_pos h2]
      by_cases h3 : pk c L (a + 1 + dN c L 2 (a + 1)) = 58
      · rw [if_pos h3]; exact dN_le c L 2 _ (pk_l h3 (by decide))
      · rw [if_neg h3]; exact dN_le c L 2 _ hl
    · rw [if_neg h2]; exact dN_le c L 2 _ hl
  rw [if_neg h1]
  by_cases h1 : pk c L a = 111
  · rw [if_pos h1]; exact dN_le c L 2 _ (pk_l h1 (by decide))
  rw [if_neg h1]
  by_cases h2 : 0 < dN c L 2 a
  · rw [if_pos h2]; exact pOp_le _ (dN_le c L 2 _ ha)
  · rw [if_neg h2]; exact dN_le c L 2 _ ha
theorem bi_n0 {p : Prop} [Decidable p] (h : ¬ bi p = 0) : p := bi1.mp h
theorem pIt_adv {c : Nat → Int32} {L a : Nat} (h : ¬ (pIt c L a).1 = 0) : a + 2 ≤ (pIt c L a).2.1 := by
  unfold pIt pPair fNum fSig at h ⊢
  by_cases h1 : pk c L a = 105
  · rw [if_pos h1] at h ⊢
    by_cases h2 : nO c L (a + 1)
    · rw [if_pos h2] at h ⊢
      have g1 := nE_adv h2
      by_cases h3 : pk c L (nE c L (a + 1)) = 58
      · rw [if_pos h3] at h ⊢
        have g2 := nE_adv (bi_n0 h)
        show a + 2 ≤ nE c L (nE c L (a + 1) + 1)
        omega
      · rw [if_neg h3] at h; exact absurd rfl h
    · rw [if_neg h2] at h; exact absurd rfl h
  rw [if_neg h1] at h ⊢
  by_cases h1 : pk c L a = 107
  · rw [if_pos h1] at h ⊢; exact nE_adv (bi_n0 h)
  rw [if_neg h1] at h ⊢
  by_cases h1 : pk c L a = 114
  · rw [if_pos h1] at h ⊢; exact nE_adv (bi_n0 h)
  rw [if_neg h1] at h ⊢
  by_cases h1 : pk c L a = 110
  · rw [if_pos h1] at h ⊢
    by_cases h2 : 0 < dN c L 2 (a + 1)
    · rw [if_pos h2] at h ⊢
      by_cases h3 : pk c L (a + 1 + dN c L 2 (a + 1)) = 58
      · rw [if_pos h3]
        show a + 2 ≤ a + 1 + dN c L 2 (a + 1) + 1 + _
        omega
      · rw [if_neg h3] at h; exact absurd rfl h
    · rw [if_neg h2] at h; exact absurd rfl h
  rw [if_neg h1] at h ⊢
  by_cases h1 : pk c L a = 111
  · rw [if_pos h1] at h ⊢
    have := bi_n0 h
    show a + 2 ≤ a + 1 + dN c L 2 (a + 1)
    omega
  rw [if_neg h1] at h ⊢
  by_cases h2 : 0 < dN c L 2 a
  · rw [if_pos h2] at h ⊢
    have := pOp_adv _ h
    omega
  · rw [if_neg h2] at h; exact absurd rfl h
/-- the class's text: the place, the number of the item -/
def clN (S : gS) (a n : Nat) : gS := wI (wI S 55 1 (nI a)) 55 2 (nI n)
def itX (S : gS) (c : Nat → Int32) (L a n : Nat) : gS := itS S (58 + 2 * n) (pIt c L a).2.2.1 (pIt c L a).2.2.2.1 (pIt c L a).2.2.2.2.1 (pIt c L a).2.2.2.2.2
theorem cn_a (S : gS) (a n : Nat) : rI (clN S a n) 55 1 = nI a := by unfold clN; rw [rI_wIc (by decide), rI_same]
theorem cn_n (S : gS) (a n : Nat) : rI (clN S a n) 55 2 = nI n := rI_same _ _ _ _
theorem cn_fr {x y : Nat} (h1 : ¬ (x = 55 ∧ y = 1)) (h2 : ¬ (x = 55 ∧ y = 2)) (S : gS) (a n : Nat) : rI (clN S a n) x y = rI S x y := (rI_wIc h2 _ _).trans (rI_wIc h1 _ _)
theorem cn_eq (S : gS) (a n : Nat) : clN S a n = clS (wI S 55 2 (nI n)) a := wI_comm (by decide) _ _ _
theorem tx_2 {S : gS} {L : Nat} (ht : txt S L) (v : Int32) : txt (wI S 55 2 v) L := ⟨(rI_wIc (by decide) _ _).trans ht.1, ht.2⟩
theorem ch_2 (S : gS) (v : Int32) : rI (wI S 55 2 v) 56 = rI S 56 := funext fun c => rI_wIk (by decide) _ _ _
theorem it_cm {k : Nat} (hk : k ≠ 55) (hk1 : k + 1 ≠ 55) (S : gS) (v kd x y z : Int32) : itS (wI S 55 2 v) k kd x y z = wI (itS S k kd x y z) 55 2 v := by
  unfold itS
  rw [wI_comm (k := 55) (k' := k) (fun q => hk q.1.symm), wI_comm (k := 55) (k' := k + 1) (fun q => hk1 q.1.symm), wI_comm (k := 55) (k' := k + 1) (fun q => hk1 q.1.symm), wI_comm (k := 55) (k' := k + 1) (fun q => hk1 q.1.symm)]
theorem ct_item2 (S : gS) (c : Nat → Int32) (L a n : Nat) (hn : n < 27) (ht : txt S L) (hc : rI S 56 = c) (ha : a ≤ L) : gF mX5_parseItem [.ref 55, .ref (58 + 2 * n)] (clN S a n) (some (.int (pIt c L a).1)) (clN (itX S c L a n) (pIt c L a).2.1 n) := by
  subst hc
  have hk := itm_all n hn
  have h80 := ht.2
  have hok : okQ (clN S a n) := ⟨L, a, (cn_fr (by decide) (by decide) _ _ _).trans ht.1, cn_a _ _ _, ha, h80⟩
  have h := ct_X5_parseItem (clN S a n) (58 + 2 * n) hk hok
  rw [cn_eq, item_c (tx_2 ht _) ha hk, ch_2] at h
  unfold clI at h
  rw [it_cm (itm_ne hk).1 (itm_ne hk).2, ← cn_eq, ← cn_eq] at h
  exact h
theorem ct_take2 (S : gS) (L a n : Nat) (w : Int32) (hw : w ≠ -1) (c : Nat → Int32) (ht : txt S L) (hc : rI S 56 = c) (ha : a ≤ L) : gF mX5_take [.ref 55, .int w] (clN S a n) (some (.int (bi (pk c L a = w)))) (if pk c L a = w then clN S (a + 1) n else clN S a n) := by
  subst hc
  have h80 := ht.2
  have hok : okQ (clN S a n) := ⟨L, a, (cn_fr (by decide) (by decide) _ _ _).trans ht.1, cn_a _ _ _, ha, h80⟩
  have h := ct_X5_take (clN S a n) w hok
  rw [cn_eq, take_c (tx_2 ht _) ha, ch_2, ← cn_eq, ← cn_eq] at h
  by_cases q : pk (rI S 56) L a = w
  · rw [if_pos q] at h ⊢
    rw [bi_t q]
    exact h
  · rw [if_neg q] at h ⊢
    rw [bi_f q]
    exact h
/-- the items from number n on, at most f of them -/
def pzS (c : Nat → Int32) (L : Nat) : Nat → Nat → Nat → gS → Int32 × gS
  | 0, n, a, S => (0, clN S a n)
  | f + 1, n, a, S =>
    if (pIt c L a).1 = 0 then (0, clN (itX S c L a n) (pIt c L a).2.1 n)
    else if (pIt c L a).2.1 = L then (1, clN (itX S c L a n) (pIt c L a).2.1 (n + 1))
    else if pk c L (pIt c L a).2.1 = 59 then pzS c L f (n + 1) ((pIt c L a).2.1 + 1) (itX S c L a n)
    else (0, clN (itX S c L a n) (pIt c L a).2.1 n)
theorem pz_0 (c : Nat → Int32) (L f n a : Nat) (S : gS) (h : (pIt c L a).1 = 0) : pzS c L (f + 1) n a S = (0, clN (itX S c L a n) (pIt c L a).2.1 n) := by
  show (if _ then _ else _) = _
  rw [if_pos h]
theorem pz_1 (c : Nat → Int32) (L f n a : Nat) (S : gS) (h : ¬ (pIt c L a).1 = 0) (h2 : (pIt c L a).2.1 = L) : pzS c L (f + 1) n a S = (1, clN (itX S c L a n) (pIt c L a).2.1 (n + 1)) := by
  show (if _ then _ else _) = _
  rw [if_neg h, if_pos h2]
theorem pz_2 (c : Nat → Int32) (L f n a : Nat) (S : gS) (h : ¬ (pIt c L a).1 = 0) (h2 : ¬ (pIt c L a).2.1 = L) (h3 : pk c L (pIt c L a).2.1 = 59) : pzS c L (f + 1) n a S = pzS c L f (n + 1) ((pIt c L a).2.1 + 1) (itX S c L a n) := by
  show (if _ then _ else _) = _
  rw [if_neg h, if_neg h2, if_pos h3]
theorem pz_3 (c : Nat → Int32) (L f n a : Nat) (S : gS) (h : ¬ (pIt c L a).1 = 0) (h2 : ¬ (pIt c L a).2.1 = L) (h3 : ¬ pk c L (pIt c L a).2.1 = 59) : pzS c L (f + 1) n a S = (0, clN (itX S c L a n) (pIt c L a).2.1 n) := by
  show (if _ then _ else _) = _
  rw [if_neg h, if_neg h2, if_neg h3]
theorem ix_tx {S : gS} {c : Nat → Int32} {L a n : Nat} (hn : n < 27) (ht : txt S L) : txt (itX S c L a n) L := it_tx ht (itm_ne (itm_all n hn)).1 (itm_ne (itm_all n hn)).2 _ _ _ _
theorem ix_ch {S : gS} {c : Nat → Int32} {L a n : Nat} (hn : n < 27) : rI (itX S c L a n) 56 = rI S 56 := it_ch S (by omega) (by omega) _ _ _ _
theorem nI_ne {a b : Nat} (ha : a < 1000) (hb : b < 1000) (h : ¬ nI a = nI b) : ¬ a = b := fun q => h (by rw [q])
theorem nI_inj2 {a b : Nat} (ha : a < 1000) (hb : b < 1000) (h : nI a = nI b) : a = b := by
  have := congrArg Int32.toInt h
  rw [nI_toInt (by omega), nI_toInt (by omega)] at this
  omega
theorem cn_up (S : gS) (a n : Nat) : wI (clN S a n) 55 2 (nI n + 1) = clN S a (n + 1) := by
  unfold clN
  rw [wI_over, nI_p1]
set_option maxRecDepth 100000 in
set_option maxHeartbeats 1000000 in
theorem lp_parse (c : Nat → Int32) (L : Nat) (h80 : L ≤ 80) : ∀ f n a S, f + n = 27 → txt S L → rI S 56 = c → a ≤ L → Go mX5_parse false (go_Qm mX5_parse false (fun v9 h9 => v9 = some (.int (pzS c L f n a S).1) ∧ h9 = hp (pzS c L f n a S).2) go_no) 0 0 10 [(0, .ref 55)] [] (hp (clN S a n)) := by
  intro f
  induction f with
  | zero =>
    intro n a S hf ht hcs ha
    have hn : n = 27 := by omega
    subst hn
    refine go_aload_n 11 dX5_parse_10 rfl rfl ?_
    refine g_getI 14 dX5_parse_11 rfl fF_RX5_18 ly_55 rfl ?_
    refine go_topi (nI 27) (cn_n S a 27) ?_
    refine go_bipush 16 (27) dX5_parse_14 rfl (by decide) ?_
    refine go_icmp_ge 19 88 dX5_parse_16 rfl (by decide) (fun _ => ?_) (fun h => absurd (Int32.le_refl _) h)
    refine go_iconst 89 (0) dX5_parse_88 rfl (by decide) ?_
    refine go_ireturn dX5_parse_89 rfl (by first | rfl | exact bi_nar) (Nat.le_of_ble_eq_true rfl) (Nat.le_of_ble_eq_true rfl) ?_
    exact ⟨rfl, rfl⟩
  | succ f ih =>
    intro n a S hf ht hcs ha
    have hcl := nI_c (n := n) (by omega)
    refine go_aload_n 11 dX5_parse_10 rfl rfl ?_
    refine g_getI 14 dX5_parse_11 rfl fF_RX5_18 ly_55 rfl ?_
    refine go_topi (nI n) (cn_n S a n) ?_
    refine go_bipush 16 (27) dX5_parse_14 rfl (by decide) ?_
    refine go_icmp_ge 19 88 dX5_parse_16 rfl (by decide) (fun h => absurd ((nI_le2 (a := 27) (b := n) (by decide) (by omega)).mp h) (by omega)) (fun _ => ?_)
    refine go_aload_n 20 dX5_parse_19 rfl rfl ?_
    refine go_aload_n 21 dX5_parse_20 rfl rfl ?_
    refine g_getR 24 dX5_parse_21 rfl fF_RX5_27 ly_55 rfl ?_
    refine go_aload_n 25 dX5_parse_24 rfl rfl ?_
    refine g_getI 28 dX5_parse_25 rfl fF_RX5_18 ly_55 rfl ?_
    refine go_topi (nI n) (cn_n S a n) ?_
    refine g_aald2 29 n dX5_parse_28 rfl (nI_i (by omega) (by omega)) hcl ?_
    refine g_callV 32 [.ref (58 + 2 * n)] [] dX5_parse_29 rfl (ct_item2 S c L a n (by omega) ht hcs ha) rfl sV_X5_parse_32 rfl ly_55 rfl rfl (Nat.le_of_ble_eq_true rfl) (Nat.le_of_ble_eq_true rfl) (Nat.le_of_ble_eq_true rfl) ?_
    refine go_if_ne 35 37 dX5_parse_32 rfl (by decide) (fun hc1 => ?_) (fun hc1 => ?_)
    · refine go_aload_n 38 dX5_parse_37 rfl rfl ?_
      refine g_getI 41 dX5_parse_38 rfl fF_RX5_15 ly_55 rfl ?_
      refine go_topi (nI (pIt c L a).2.1) (cn_a (itX S c L a n) (pIt c L a).2.1 n) ?_
      refine go_aload_n 42 dX5_parse_41 rfl rfl ?_
      refine g_getI 45 dX5_parse_42 rfl fF_RX5_11 ly_55 rfl ?_
      refine go_topi (nI L) ((cn_fr (by decide) (by decide) (itX S c L a n) (pIt c L a).2.1 n).trans (ix_tx (by omega) ht).1) ?_
      refine go_icmp_ne 48 52 dX5_parse_45 rfl (by decide) (fun hc2 => ?_) (fun hc2 => ?_)
      · have hL : ¬ (pIt c L a).2.1 = L := nI_ne (by have := pIt_le (c := c) ha; omega) (by omega) hc2
        refine go_iconst 53 (0) dX5_parse_52 rfl (by decide) ?_
        refine go_istore_n 54 [(1, .int _), (0, .ref 55)] dX5_parse_53 rfl (Nat.le_of_ble_eq_true rfl) rfl ?_
        refine go_iload_n 55 dX5_parse_54 rfl rfl ?_
        refine go_if_ne 58 69 dX5_parse_55 rfl (by decide) (fun hc3 => absurd hc3 (by decide)) (fun _ => ?_)
        refine go_aload_n 59 dX5_parse_58 rfl rfl ?_
        refine go_bipush 61 (59) dX5_parse_59 rfl (by decide) ?_
        refine g_callV 64 [.int _] [] dX5_parse_61 rfl (ct_take2 (itX S c L a n) L (pIt c L a).2.1 n 59 (by decide) c (ix_tx (by omega) ht) ((ix_ch (by omega)).trans hcs) (pIt_le ha)) rfl sV_X5_parse_36 rfl ly_55 rfl rfl (Nat.le_of_ble_eq_true rfl) (Nat.le_of_ble_eq_true rfl) (Nat.le_of_ble_eq_true rfl) ?_
        refine go_if_ne 67 69 dX5_parse_64 rfl (by decide) (fun hc4 => ?_) (fun hc4 => ?_)
        · refine go_aload_n 70 dX5_parse_69 rfl rfl ?_
          refine go_dup 71 dX5_parse_70 rfl rfl ?_
          refine g_getI 74 dX5_parse_71 rfl fF_RX5_18 ly_55 rfl ?_
          refine go_topi (nI n) (by first | exact cn_n _ _ n | (rw [if_pos (bi1.mp hc4)]; exact cn_n _ _ n)) ?_
          refine go_iconst 75 (1) dX5_parse_74 rfl (by decide) ?_
          refine go_iadd 76 dX5_parse_75 rfl ?_
          refine g_putI 79 dX5_parse_76 rfl fF_RX5_18 ly_55 rfl (fun q hq => by cases hq; rfl) rfl rfl ?_
          refine go_iload_n 80 dX5_parse_79 rfl rfl ?_
          refine go_if_eq 83 85 dX5_parse_80 rfl (by decide) (fun _ => ?_) (fun hc5 => absurd hc5 (by decide))
          refine go_goto 10 dX5_parse_85 (by decide) ?_
          have h3 := bi1.mp hc4
          rw [pz_2 c L f n a S hc1 hL h3]
          rw [if_pos h3]
          refine go_ls [(0, .ref 55)] (List.forall_mem_cons.mpr ⟨rfl, fun _ h => absurd h List.not_mem_nil⟩) ?_
          refine g_st (T := clN (itX S c L a n) ((pIt c L a).2.1 + 1) (n + 1)) (cn_up _ _ _) ?_
          exact ih (n + 1) ((pIt c L a).2.1 + 1) (itX S c L a n) (by omega) (ix_tx (by omega) ht) ((ix_ch (by omega)).trans hcs) (pk_l h3 (by decide))
        · refine go_iconst 68 (0) dX5_parse_67 rfl (by decide) ?_
          refine go_ireturn dX5_parse_68 rfl (by first | rfl | exact bi_nar) (Nat.le_of_ble_eq_true rfl) (Nat.le_of_ble_eq_true rfl) ?_
          first
            | (rw [pz_0 c L f n a S hc1]; exact ⟨rfl, rfl⟩)
            | (rw [pz_1 c L f n a S hc1 hL]; exact ⟨rfl, congrArg hp (cn_up _ _ _)⟩)
            | (rw [pz_3 c L f n a S hc1 hL (bi0.mp hc4)]; rw [if_neg (bi0.mp hc4)]; exact ⟨rfl, rfl⟩)
      · have hL : (pIt c L a).2.1 = L := nI_inj2 (by have := pIt_le (c := c) ha; omega) (by omega) hc2
        refine go_iconst 49 (1) dX5_parse_48 rfl (by decide) ?_
        refine go_goto 53 dX5_parse_49 (by decide) ?_
        refine go_istore_n 54 [(1, .int _), (0, .ref 55)] dX5_parse_53 rfl (Nat.le_of_ble_eq_true rfl) rfl ?_
        refine go_iload_n 55 dX5_parse_54 rfl rfl ?_
        refine go_if_ne 58 69 dX5_parse_55 rfl (by decide) (fun _ => ?_) (fun hc6 => absurd hc6 (by decide))
        refine go_aload_n 70 dX5_parse_69 rfl rfl ?_
        refine go_dup 71 dX5_parse_70 rfl rfl ?_
        refine g_getI 74 dX5_parse_71 rfl fF_RX5_18 ly_55 rfl ?_
        refine go_topi (nI n) (by first | exact cn_n _ _ n | (rw [if_pos (bi1.mp hc4)]; exact cn_n _ _ n)) ?_
        refine go_iconst 75 (1) dX5_parse_74 rfl (by decide) ?_
        refine go_iadd 76 dX5_parse_75 rfl ?_
        refine g_putI 79 dX5_parse_76 rfl fF_RX5_18 ly_55 rfl (fun q hq => by cases hq; rfl) rfl rfl ?_
        refine go_iload_n 80 dX5_parse_79 rfl rfl ?_
        refine go_if_eq 83 85 dX5_parse_80 rfl (by decide) (fun hc7 => absurd hc7 (by decide)) (fun _ => ?_)
        refine go_iconst 84 (1) dX5_parse_83 rfl (by decide) ?_
        refine go_ireturn dX5_parse_84 rfl (by first | rfl | exact bi_nar) (Nat.le_of_ble_eq_true rfl) (Nat.le_of_ble_eq_true rfl) ?_
        first
          | (rw [pz_0 c L f n a S hc1]; exact ⟨rfl, rfl⟩)
          | (rw [pz_1 c L f n a S hc1 hL]; exact ⟨rfl, congrArg hp (cn_up _ _ _)⟩)
          | (rw [pz_3 c L f n a S hc1 hL (bi0.mp hc4)]; rw [if_neg (bi0.mp hc4)]; exact ⟨rfl, rfl⟩)
    · refine go_iconst 36 (0) dX5_parse_35 rfl (by decide) ?_
      refine go_ireturn dX5_parse_36 rfl (by first | rfl | exact bi_nar) (Nat.le_of_ble_eq_true rfl) (Nat.le_of_ble_eq_true rfl) ?_
      first
        | (rw [pz_0 c L f n a S hc1]; exact ⟨rfl, rfl⟩)
        | (rw [pz_1 c L f n a S hc1 hL]; exact ⟨rfl, congrArg hp (cn_up _ _ _)⟩)
        | (rw [pz_3 c L f n a S hc1 hL (bi0.mp hc4)]; rw [if_neg (bi0.mp hc4)]; exact ⟨rfl, rfl⟩)
