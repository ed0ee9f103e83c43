-- needs 
/-- the reference's text, at most f items more -/
def rzS : Nat → gS → Int32 × gS
  | 0, S => (0, S)
  | f + 1, S =>
    if (f_X9_takesItem S).1 = 0 then (0, (f_X9_takesItem S).2)
    else if rI (f_X9_takesItem S).2 115 34 ≤ rI (f_X9_takesItem S).2 115 35 ∨ rI (f_X9_takesItem S).2 137 (rI (f_X9_takesItem S).2 115 35).toNatClampNeg = 59 then
      (if (f_X9_skips (wI (f_X9_takesItem S).2 115 36 (rI (f_X9_takesItem S).2 115 36 + 1)) 59).1 = 0 then (1, (f_X9_skips (wI (f_X9_takesItem S).2 115 36 (rI (f_X9_takesItem S).2 115 36 + 1)) 59).2)
       else rzS f (f_X9_skips (wI (f_X9_takesItem S).2 115 36 (rI (f_X9_takesItem S).2 115 36 + 1)) 59).2)
    else (0, (f_X9_takesItem S).2)
theorem rz_0 (f : Nat) (S : gS) (h : (f_X9_takesItem S).1 = 0) : rzS (f + 1) S = (0, (f_X9_takesItem S).2) := by
  show (if _ then _ else _) = _
  rw [if_pos h]
theorem rz_1 (f : Nat) (S : gS) (h : ¬ (f_X9_takesItem S).1 = 0) (h2 : ¬ (rI (f_X9_takesItem S).2 115 34 ≤ rI (f_X9_takesItem S).2 115 35 ∨ rI (f_X9_takesItem S).2 137 (rI (f_X9_takesItem S).2 115 35).toNatClampNeg = 59)) : rzS (f + 1) S = (0, (f_X9_takesItem S).2) := by
  show (if _ then _ else _) = _
  rw [if_neg h, if_neg h2]
theorem rz_2 (f : Nat) (S : gS) (h : ¬ (f_X9_takesItem S).1 = 0) (h2 : rI (f_X9_takesItem S).2 115 34 ≤ rI (f_X9_takesItem S).2 115 35 ∨ rI (f_X9_takesItem S).2 137 (rI (f_X9_takesItem S).2 115 35).toNatClampNeg = 59) (h3 : (f_X9_skips (wI (f_X9_takesItem S).2 115 36 (rI (f_X9_takesItem S).2 115 36 + 1)) 59).1 = 0) : rzS (f + 1) S = (1, (f_X9_skips (wI (f_X9_takesItem S).2 115 36 (rI (f_X9_takesItem S).2 115 36 + 1)) 59).2) := by
  show (if _ then _ else _) = _
  rw [if_neg h, if_pos h2, if_pos h3]
theorem rz_3 (f : Nat) (S : gS) (h : ¬ (f_X9_takesItem S).1 = 0) (h2 : rI (f_X9_takesItem S).2 115 34 ≤ rI (f_X9_takesItem S).2 115 35 ∨ rI (f_X9_takesItem S).2 137 (rI (f_X9_takesItem S).2 115 35).toNatClampNeg = 59) (h3 : ¬ (f_X9_skips (wI (f_X9_takesItem S).2 115 36 (rI (f_X9_takesItem S).2 115 36 + 1)) 59).1 = 0) : rzS (f + 1) S = rzS f (f_X9_skips (wI (f_X9_takesItem S).2 115 36 (rI (f_X9_takesItem S).2 115 36 + 1)) 59).2 := by
  show (if _ then _ else _) = _
  rw [if_neg h, if_pos h2, if_neg h3]
/-- a state of the text: the place a, the item n -/
def rPl (S : gS) (c : Nat → Int32) (L a n : Nat) : Prop := RI S L n c ∧ rI S 115 35 = nI a ∧ a ≤ L ∧ 3 * n ≤ a
theorem rPl.ok {S : gS} {c : Nat → Int32} {L a n : Nat} (h : rPl S c L a n) : okT S := by
  obtain ⟨⟨h1, h2, h3, h4, h5⟩, h6, h7, h8⟩ := h
  exact ⟨L, a, n, h1, h6, h3, h7, h2, h4⟩
theorem rPl.rx {S : gS} {c : Nat → Int32} {L a n : Nat} (h : rPl S c L a n) : rX S n (rI S 138 n) (rI S 139 n) (rI S 140 n) (rI S 141 n) a (rI S 115 39) = S := by
  unfold rX
  rw [rt_id, rp_id h.2.1]
/-- behind an item -/
theorem rPl.it {S : gS} {c : Nat → Int32} {L a n : Nat} (h : rPl S c L a n) : ∃ m' k' x' y' z', f_X9_takesItem S = ((pIt c L a).1, rX S n k' x' y' z' (pIt c L a).2.1 m') ∧ (¬ (pIt c L a).1 = 0 → (k', x', y', z') = (pIt c L a).2.2) := by
  have h1 := xit h.1 (rI S 138 n) (rI S 139 n) (rI S 140 n) (rI S 141 n) a (rI S 115 39) h.2.2.1
  rw [h.rx] at h1
  exact h1
theorem RI.rX {S : gS} {c : Nat → Int32} {L n : Nat} (h : RI S L n c) (k' x' y' z' : Int32) (e : Nat) (m' : Int32) : RI (rX S n k' x' y' z' e m') L n c := by
  obtain ⟨h1, h2, h3, h4, h5⟩ := h.rt k' x' y' z'
  unfold _root_.Jvm.Pilot.CWidthMinimizerLaw_law_r8020_bdbe8e.rX
  refine ⟨(rp_fr (by decide) (by decide) _ _ _).trans h1, h2, (rp_fr (by decide) (by decide) _ _ _).trans h3, h4, ?_⟩
  rw [← h5]
  funext j
  exact rp_fr (by omega) (by omega) _ _ _
theorem rPl.T {S : gS} {c : Nat → Int32} {L a n : Nat} (h : rPl S c L a n) : okT (f_X9_takesItem S).2 ∧ RI (f_X9_takesItem S).2 L n c ∧ rI (f_X9_takesItem S).2 115 35 = nI (pIt c L a).2.1 := by
  obtain ⟨m', k', x', y', z', e1, -⟩ := h.it
  have hr := h.1.rX k' x' y' z' (pIt c L a).2.1 m'
  rw [e1]
  have ha := xa S n k' x' y' z' (pIt c L a).2.1 m'
  refine ⟨⟨L, (pIt c L a).2.1, n, hr.1, ha, hr.2.2.1, pIt_le h.2.2.1, hr.2.1, hr.2.2.2.1⟩, hr, ha⟩
theorem rPl.U {S : gS} {c : Nat → Int32} {L a n : Nat} (h : rPl S c L a n) (hk : ¬ (f_X9_takesItem S).1 = 0) : RI (wI (f_X9_takesItem S).2 115 36 (rI (f_X9_takesItem S).2 115 36 + 1)) L (n + 1) c ∧ rI (wI (f_X9_takesItem S).2 115 36 (rI (f_X9_takesItem S).2 115 36 + 1)) 115 35 = nI (pIt c L a).2.1 ∧ 3 * n + 2 ≤ (pIt c L a).2.1 ∧ (pIt c L a).2.1 ≤ L := by
  obtain ⟨-, ⟨h1, h2, h3, h4, h5⟩, h6⟩ := h.T
  obtain ⟨m', k', x', y', z', e1, -⟩ := h.it
  have hk2 : ¬ (pIt c L a).1 = 0 := by rw [e1] at hk; exact hk
  have hadv := pIt_adv hk2
  have hle := pIt_le (c := c) h.2.2.1
  have h38 := h.2.2.2
  refine ⟨⟨(rI_wIc (by decide) _ _).trans h1, h2, ?_, by omega, ?_⟩, (rI_wIc (by decide) _ _).trans h6, by omega, hle⟩
  · rw [rI_same, h3]; exact nI_1 n
  · rw [← h5]
    funext j
    exact rI_wIk (by decide) _ _ _
theorem rPl.V {S : gS} {c : Nat → Int32} {L a n : Nat} (h : rPl S c L a n) (hk : ¬ (f_X9_takesItem S).1 = 0) (hs : ¬ (f_X9_skips (wI (f_X9_takesItem S).2 115 36 (rI (f_X9_takesItem S).2 115 36 + 1)) 59).1 = 0) : rPl (f_X9_skips (wI (f_X9_takesItem S).2 115 36 (rI (f_X9_takesItem S).2 115 36 + 1)) 59).2 c L ((pIt c L a).2.1 + 1) (n + 1) ∧ a + 3 ≤ (pIt c L a).2.1 + 1 ∧ pk c L (pIt c L a).2.1 = 59 := by
  obtain ⟨m', k', x', y', z', e1, -⟩ := h.it
  have hk2 : ¬ (pIt c L a).1 = 0 := by rw [e1] at hk; exact hk
  have hadv := pIt_adv hk2
  obtain ⟨hR, h35, h3, hle⟩ := h.U hk
  revert hR h35 hs
  generalize wI (f_X9_takesItem S).2 115 36 (rI (f_X9_takesItem S).2 115 36 + 1) = U
  intro hs hR h35
  have e2 := rsk (m := rI U 115 39) (w := 59) ⟨hR.1, hR.2.1⟩ hle (by decide)
  rw [rp_id h35, hR.2.2.2.2] at e2
  rw [e2] at hs ⊢
  by_cases q : pk c L (pIt c L a).2.1 = 59
  · rw [if_pos q]
    refine ⟨⟨⟨(rp_fr (by decide) (by decide) _ _ _).trans hR.1, hR.2.1, (rp_fr (by decide) (by decide) _ _ _).trans hR.2.2.1, hR.2.2.2.1, ?_⟩, rp_a _ _ _, pk_l q (by decide), by omega⟩, by omega, q⟩
    rw [← hR.2.2.2.2]
    funext j
    exact rp_fr (by omega) (by omega) _ _ _
  · rw [if_neg q] at hs
    exact absurd rfl hs
set_option maxRecDepth 100000 in
set_option maxHeartbeats 1000000 in
theorem lp_tt (c : Nat → Int32) (L : Nat) : ∀ f n a S, rPl S c L a n → L + 3 ≤ 3 * f + a → Go mX9_takesText false (go_Qm mX9_takesText false (fun v9 h9 => v9 = some (.int (rzS f S).1) ∧ h9 = hp (rzS f S).2) go_no) 0 0 16 [(0, .ref 115)] [] (hp S) := by
  intro f
  induction f with
  | zero =>
    intro n a S h hf
    have := h.2.2.1
    omega
  | succ f ih =>
    intro n a S h hf
    refine go_aload_n 17 dX9_takesText_16 rfl rfl ?_
    refine g_callV 20 [] [] dX9_takesText_17 rfl (ct_X9_takesItem _ h.ok) rfl sV_X9_takesText_340 rfl ly_115 rfl rfl (Nat.le_of_ble_eq_true rfl) (Nat.le_of_ble_eq_true rfl) (Nat.le_of_ble_eq_true rfl) ?_
    refine go_if_ne 23 25 dX9_takesText_20 rfl (by decide) (fun hc1 => ?_) (fun hc1 => ?_)
    · refine go_aload_n 26 dX9_takesText_25 rfl rfl ?_
      refine g_getI 29 dX9_takesText_26 rfl fF_RX9_298 ly_115 rfl ?_
      refine go_aload_n 30 dX9_takesText_29 rfl rfl ?_
      refine g_getI 33 dX9_takesText_30 rfl fF_RX9_295 ly_115 rfl ?_
      refine go_icmp_ge 36 52 dX9_takesText_33 rfl (by decide) (fun hc2 => ?_) (fun hc2 => ?_)
      · have h59 := Or.inl (b := rI (f_X9_takesItem S).2 137 (rI (f_X9_takesItem S).2 115 35).toNatClampNeg = 59) hc2
        have hU : okT (wI (f_X9_takesItem S).2 115 36 (rI (f_X9_takesItem S).2 115 36 + 1)) := by
          obtain ⟨q1, q2, q3, q4⟩ := h.U hc1
          exact ⟨L, _, n + 1, q1.1, q2, q1.2.2.1, q4, q1.2.1, q1.2.2.2.1⟩
        refine go_aload_n 53 dX9_takesText_52 rfl rfl ?_
        refine go_dup 54 dX9_takesText_53 rfl rfl ?_
        refine g_getI 57 dX9_takesText_54 rfl fF_RX9_324 ly_115 rfl ?_
        refine go_iconst 58 (1) dX9_takesText_57 rfl (by decide) ?_
        refine go_iadd 59 dX9_takesText_58 rfl ?_
        refine g_putI 62 dX9_takesText_59 rfl fF_RX9_324 ly_115 rfl (fun q hq => by cases hq; rfl) rfl rfl ?_
        refine go_aload_n 63 dX9_takesText_62 rfl rfl ?_
        refine go_bipush 65 (59) dX9_takesText_63 rfl (by decide) ?_
        refine g_callV 68 [.int _] [] dX9_takesText_65 rfl (ct_X9_skips _ _ (hU)) rfl sV_X9_takesText_309 rfl ly_115 rfl rfl (Nat.le_of_ble_eq_true rfl) (Nat.le_of_ble_eq_true rfl) (Nat.le_of_ble_eq_true rfl) ?_
        refine go_istore_n 69 [(1, .int _), (0, .ref 115)] dX9_takesText_68 rfl (Nat.le_of_ble_eq_true rfl) rfl ?_
        refine go_goto 12 dX9_takesText_69 (by decide) ?_
        refine go_iload_n 13 dX9_takesText_12 rfl rfl ?_
        refine go_if_eq 16 72 dX9_takesText_13 rfl (by decide) (fun hc3 => ?_) (fun hc3 => ?_)
        · refine go_iconst 73 (1) dX9_takesText_72 rfl (by decide) ?_
          refine go_ireturn dX9_takesText_73 rfl (by first | rfl | exact bi_nar) (Nat.le_of_ble_eq_true rfl) (Nat.le_of_ble_eq_true rfl) ?_
          first
            | (rw [rz_0 f S hc1]; exact ⟨rfl, rfl⟩)
            | (rw [rz_1 f S hc1 (fun q => q.elim hc2 hc4)]; exact ⟨rfl, rfl⟩)
            | (rw [rz_2 f S hc1 h59 (by assumption)]; exact ⟨rfl, rfl⟩)
        · have hvs := h.V hc1 (by assumption)
          rw [rz_3 f S hc1 h59 (by assumption)]
          refine go_ls [(0, .ref 115)] (List.forall_mem_cons.mpr ⟨rfl, fun _ h => absurd h List.not_mem_nil⟩) ?_
          exact ih _ _ _ hvs.1 (by have := hvs.2.1; omega)
      · refine go_aload_n 37 dX9_takesText_36 rfl rfl ?_
        refine g_getR 40 dX9_takesText_37 rfl fF_RX9_74 ly_115 rfl ?_
        refine go_aload_n 41 dX9_takesText_40 rfl rfl ?_
        refine g_getI 44 dX9_takesText_41 rfl fF_RX9_298 ly_115 rfl ?_
        refine g_iald2 45 _ dX9_takesText_44 rfl ly_137 (okT.in1 h.T.1 (Int32.not_le.mp hc2)) rfl ?_
        refine go_bipush 47 (59) dX9_takesText_45 rfl (by decide) ?_
        refine go_icmp_eq 50 52 dX9_takesText_47 rfl (by decide) (fun hc4 => ?_) (fun hc4 => ?_)
        · have h59 := Or.inr (a := rI (f_X9_takesItem S).2 115 34 ≤ rI (f_X9_takesItem S).2 115 35) hc4
          have hU : okT (wI (f_X9_takesItem S).2 115 36 (rI (f_X9_takesItem S).2 115 36 + 1)) := by
            obtain ⟨q1, q2, q3, q4⟩ := h.U hc1
            exact ⟨L, _, n + 1, q1.1, q2, q1.2.2.1, q4, q1.2.1, q1.2.2.2.1⟩
          refine go_aload_n 53 dX9_takesText_52 rfl rfl ?_
          refine go_dup 54 dX9_takesText_53 rfl rfl ?_
          refine g_getI 57 dX9_takesText_54 rfl fF_RX9_324 ly_115 rfl ?_
          refine go_iconst 58 (1) dX9_takesText_57 rfl (by decide) ?_
          refine go_iadd 59 dX9_takesText_58 rfl ?_
          refine g_putI 62 dX9_takesText_59 rfl fF_RX9_324 ly_115 rfl (fun q hq => by cases hq; rfl) rfl rfl ?_
          refine go_aload_n 63 dX9_takesText_62 rfl rfl ?_
          refine go_bipush 65 (59) dX9_takesText_63 rfl (by decide) ?_
          refine g_callV 68 [.int _] [] dX9_takesText_65 rfl (ct_X9_skips _ _ (hU)) rfl sV_X9_takesText_309 rfl ly_115 rfl rfl (Nat.le_of_ble_eq_true rfl) (Nat.le_of_ble_eq_true rfl) (Nat.le_of_ble_eq_true rfl) ?_
          refine go_istore_n 69 [(1, .int _), (0, .ref 115)] dX9_takesText_68 rfl (Nat.le_of_ble_eq_true rfl) rfl ?_
          refine go_goto 12 dX9_takesText_69 (by decide) ?_
          refine go_iload_n 13 dX9_takesText_12 rfl rfl ?_
          refine go_if_eq 16 72 dX9_takesText_13 rfl (by decide) (fun hc5 => ?_) (fun hc5 => ?_)
          · refine go_iconst 73 (1) dX9_takesText_72 rfl (by decide) ?_
            refine go_ireturn dX9_takesText_73 rfl (by first | rfl | exact bi_nar) (Nat.le_of_ble_eq_true rfl) (Nat.le_of_ble_eq_true rfl) ?_
            first
              | (rw [rz_0 f S hc1]; exact ⟨rfl, rfl⟩)
              | (rw [rz_1 f S hc1 (fun q => q.elim hc2 hc4)]; exact ⟨rfl, rfl⟩)
              | (rw [rz_2 f S hc1 h59 (by assumption)]; exact ⟨rfl, rfl⟩)
          · have hvs := h.V hc1 (by assumption)
            rw [rz_3 f S hc1 h59 (by assumption)]
            refine go_ls [(0, .ref 115)] (List.forall_mem_cons.mpr ⟨rfl, fun _ h => absurd h List.not_mem_nil⟩) ?_
            exact ih _ _ _ hvs.1 (by have := hvs.2.1; omega)
        · refine go_iconst 51 (0) dX9_takesText_50 rfl (by decide) ?_
          refine go_ireturn dX9_takesText_51 rfl (by first | rfl | exact bi_nar) (Nat.le_of_ble_eq_true rfl) (Nat.le_of_ble_eq_true rfl) ?_
          first
            | (rw [rz_0 f S hc1]; exact ⟨rfl, rfl⟩)
            | (rw [rz_1 f S hc1 (fun q => q.elim hc2 hc4)]; exact ⟨rfl, rfl⟩)
            | (rw [rz_2 f S hc1 h59 (by assumption)]; exact ⟨rfl, rfl⟩)
    · refine go_iconst 24 (0) dX9_takesText_23 rfl (by decide) ?_
      refine go_ireturn dX9_takesText_24 rfl (by first | rfl | exact bi_nar) (Nat.le_of_ble_eq_true rfl) (Nat.le_of_ble_eq_true rfl) ?_
      first
        | (rw [rz_0 f S hc1]; exact ⟨rfl, rfl⟩)
        | (rw [rz_1 f S hc1 (fun q => q.elim hc2 hc4)]; exact ⟨rfl, rfl⟩)
        | (rw [rz_2 f S hc1 h59 (by assumption)]; exact ⟨rfl, rfl⟩)
theorem ct_tt (S : gS) (L : Nat) (h1 : rI S 115 34 = nI L) (h80 : L ≤ 80) : gF mX9_takesText [.ref 115] S (some (.int (rzS 28 (wI (wI S 115 35 0) 115 36 0)).1)) (rzS 28 (wI (wI S 115 35 0) 115 36 0)).2 := by
  refine go_enter [.ref 115] [(0, .ref 115)] (by decide +kernel) rfl rfl (Nat.le_of_ble_eq_true rfl) rfl ?_
  refine go_aload_n 1 dX9_takesText_0 rfl rfl ?_
  refine go_iconst 2 (0) dX9_takesText_1 rfl (by decide) ?_
  refine g_putI 5 dX9_takesText_2 rfl fF_RX9_298 ly_115 rfl (fun q hq => by cases hq; rfl) rfl rfl ?_
  refine go_aload_n 6 dX9_takesText_5 rfl rfl ?_
  refine go_iconst 7 (0) dX9_takesText_6 rfl (by decide) ?_
  refine g_putI 10 dX9_takesText_7 rfl fF_RX9_324 ly_115 rfl (fun q hq => by cases hq; rfl) rfl rfl ?_
  refine go_iconst 11 (1) dX9_takesText_10 rfl (by decide) ?_
  refine go_istore_n 12 [(1, .int _), (0, .ref 115)] dX9_takesText_11 rfl (Nat.le_of_ble_eq_true rfl) rfl ?_
  refine go_iload_n 13 dX9_takesText_12 rfl rfl ?_
  refine go_if_eq 16 72 dX9_takesText_13 rfl (by decide) (fun h => absurd h (by decide)) (fun _ => ?_)
  refine go_ls [(0, .ref 115)] (List.forall_mem_cons.mpr ⟨rfl, fun _ h => absurd h List.not_mem_nil⟩) ?_
  refine lp_tt (rI S 137) L 28 0 0 _ ⟨⟨?_, h80, rI_same _ _ _ _, by decide, ?_⟩, ?_, Nat.zero_le _, by decide⟩ (by omega)
  · rw [rI_wIc (by decide), rI_wIc (by decide)]; exact h1
  · funext j
    rw [rI_wIk (by decide), rI_wIk (by decide)]
  · rw [rI_wIc (by decide), rI_same]; rfl
