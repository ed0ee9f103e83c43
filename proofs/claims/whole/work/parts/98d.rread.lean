-- needs 
def f_X9_read (S : gS) (L : Nat) : Int32 × gS := (if (rzS 28 (wI (wI (wI (wI (wI (wI S 115 0 0) 142 0 0) 142 1 0) 142 2 0) 115 35 0) 115 36 0)).1 = 0 then ((-1), (f_X9_faults (wI (rzS 28 (wI (wI (wI (wI (wI (wI S 115 0 0) 142 0 0) 142 1 0) 142 2 0) 115 35 0) 115 36 0)).2 115 34 0) ((rI (rzS 28 (wI (wI (wI (wI (wI (wI S 115 0 0) 142 0 0) 142 1 0) 142 2 0) 115 35 0) 115 36 0)).2 115 36)) 2 ((rI (rzS 28 (wI (wI (wI (wI (wI (wI S 115 0 0) 142 0 0) 142 1 0) 142 2 0) 115 35 0) 115 36 0)).2 115 35)) 0 0)) else (ryF (rI (f_pass11 (wI (rzS 28 (wI (wI (wI (wI (wI (wI S 115 0 0) 142 0 0) 142 1 0) 142 2 0) 115 35 0) 115 36 0)).2 115 34 0)) 115 36).toNatClampNeg 0 (f_pass11 (wI (rzS 28 (wI (wI (wI (wI (wI (wI S 115 0 0) 142 0 0) 142 1 0) 142 2 0) 115 35 0) 115 36 0)).2 115 34 0))))
set_option maxRecDepth 100000 in
set_option maxHeartbeats 1000000 in
theorem ct_X9_read (S : gS) (L : Nat) (h1 : rI S 115 34 = nI L) (h80 : L ≤ 80) (hfin : ¬ (rzS 28 (wI (wI (wI (wI (wI (wI S 115 0 0) 142 0 0) 142 1 0) 142 2 0) 115 35 0) 115 36 0)).1 = 0 → (rI (f_pass11 (wI (rzS 28 (wI (wI (wI (wI (wI (wI S 115 0 0) 142 0 0) 142 1 0) 142 2 0) 115 35 0) 115 36 0)).2 115 34 0)) 115 36).toNatClampNeg < 40 ∧ rI (f_pass11 (wI (rzS 28 (wI (wI (wI (wI (wI (wI S 115 0 0) 142 0 0) 142 1 0) 142 2 0) 115 35 0) 115 36 0)).2 115 34 0)) 115 36 = nI (rI (f_pass11 (wI (rzS 28 (wI (wI (wI (wI (wI (wI S 115 0 0) 142 0 0) 142 1 0) 142 2 0) 115 35 0) 115 36 0)).2 115 34 0)) 115 36).toNatClampNeg ∧ (∃ n, okR (f_pass11 (wI (rzS 28 (wI (wI (wI (wI (wI (wI S 115 0 0) 142 0 0) 142 1 0) 142 2 0) 115 35 0) 115 36 0)).2 115 34 0)) n) ∧ ∀ j, j < (rI (f_pass11 (wI (rzS 28 (wI (wI (wI (wI (wI (wI S 115 0 0) 142 0 0) 142 1 0) 142 2 0) 115 35 0) 115 36 0)).2 115 34 0)) 115 36).toNatClampNeg → (0 : Int32) ≤ rI (f_pass11 (wI (rzS 28 (wI (wI (wI (wI (wI (wI S 115 0 0) 142 0 0) 142 1 0) 142 2 0) 115 35 0) 115 36 0)).2 115 34 0)) 138 j ∧ rI (f_pass11 (wI (rzS 28 (wI (wI (wI (wI (wI (wI S 115 0 0) 142 0 0) 142 1 0) 142 2 0) 115 35 0) 115 36 0)).2 115 34 0)) 138 j ≤ 14) : gF mX9_read [.ref 115] S (some (.int (f_X9_read S L).1)) (f_X9_read S L).2 := by
  refine go_enter [.ref 115] [(0, .ref 115)] (by decide +kernel) rfl rfl (Nat.le_of_ble_eq_true rfl) rfl ?_
  refine go_aload_n 1 dX9_read_0 rfl rfl ?_
  refine go_iconst 2 (0) dX9_read_1 rfl (by decide) ?_
  refine g_putI 5 dX9_read_2 rfl fF_RX9_98 ly_115 rfl (fun q hq => by cases hq; rfl) rfl rfl ?_
  refine go_iconst 6 (0) dX9_read_5 rfl (by decide) ?_
  refine go_istore_n 7 [(1, .int _), (0, .ref 115)] dX9_read_6 rfl (Nat.le_of_ble_eq_true rfl) rfl ?_
  refine go_iload_n 8 dX9_read_7 rfl rfl ?_
  refine go_iconst 9 (3) dX9_read_8 rfl (by decide) ?_
  refine go_icmp_ge 12 25 dX9_read_9 rfl (by decide) (fun hc1 => absurd hc1 (by decide)) (fun _ => ?_)
  refine go_aload_n 13 dX9_read_12 rfl rfl ?_
  refine g_getR 16 dX9_read_13 rfl fF_RX9_89 ly_115 rfl ?_
  refine go_iload_n 17 dX9_read_16 rfl rfl ?_
  refine go_iconst 18 (0) dX9_read_17 rfl (by decide) ?_
  refine g_iast2 19 0 dX9_read_18 rfl ly_142 (by unfold vp_in; decide) rfl ?_
  refine go_iinc 22 [(1, .int _), (0, .ref 115)] (1) dX9_read_19 rfl (Nat.le_of_ble_eq_true rfl) rfl (by decide) rfl ?_
  refine go_goto 7 dX9_read_22 (by decide) ?_
  refine go_iload_n 8 dX9_read_7 rfl rfl ?_
  refine go_iconst 9 (3) dX9_read_8 rfl (by decide) ?_
  refine go_icmp_ge 12 25 dX9_read_9 rfl (by decide) (fun hc2 => absurd hc2 (by decide)) (fun _ => ?_)
  refine go_aload_n 13 dX9_read_12 rfl rfl ?_
  refine g_getR 16 dX9_read_13 rfl fF_RX9_89 ly_115 rfl ?_
  refine go_iload_n 17 dX9_read_16 rfl rfl ?_
  refine go_iconst 18 (0) dX9_read_17 rfl (by decide) ?_
  refine g_iast2 19 1 dX9_read_18 rfl ly_142 (by unfold vp_in; decide) rfl ?_
  refine go_iinc 22 [(1, .int _), (0, .ref 115)] (2) dX9_read_19 rfl (Nat.le_of_ble_eq_true rfl) rfl (by decide) rfl ?_
  refine go_goto 7 dX9_read_22 (by decide) ?_
  refine go_iload_n 8 dX9_read_7 rfl rfl ?_
  refine go_iconst 9 (3) dX9_read_8 rfl (by decide) ?_
  refine go_icmp_ge 12 25 dX9_read_9 rfl (by decide) (fun hc3 => absurd hc3 (by decide)) (fun _ => ?_)
  refine go_aload_n 13 dX9_read_12 rfl rfl ?_
  refine g_getR 16 dX9_read_13 rfl fF_RX9_89 ly_115 rfl ?_
  refine go_iload_n 17 dX9_read_16 rfl rfl ?_
  refine go_iconst 18 (0) dX9_read_17 rfl (by decide) ?_
  refine g_iast2 19 2 dX9_read_18 rfl ly_142 (by unfold vp_in; decide) rfl ?_
  refine go_iinc 22 [(1, .int _), (0, .ref 115)] (3) dX9_read_19 rfl (Nat.le_of_ble_eq_true rfl) rfl (by decide) rfl ?_
  refine go_goto 7 dX9_read_22 (by decide) ?_
  refine go_iload_n 8 dX9_read_7 rfl rfl ?_
  refine go_iconst 9 (3) dX9_read_8 rfl (by decide) ?_
  refine go_icmp_ge 12 25 dX9_read_9 rfl (by decide) (fun _ => ?_) (fun hc4 => absurd hc4 (by decide))
  refine go_aload_n 26 dX9_read_25 rfl rfl ?_
  refine g_callV 29 [] [] dX9_read_26 rfl (ct_tt (wI (wI (wI (wI S 115 0 0) 142 0 0) 142 1 0) 142 2 0) L (by rw [rI_wIk (by decide), rI_wIk (by decide), rI_wIk (by decide), rI_wIc (by decide)]; exact h1) h80) rfl sV_X9_read_346 rfl ly_115 rfl rfl (Nat.le_of_ble_eq_true rfl) (Nat.le_of_ble_eq_true rfl) (Nat.le_of_ble_eq_true rfl) ?_
  refine go_istore_n 30 [(1, .int _), (0, .ref 115)] dX9_read_29 rfl (Nat.le_of_ble_eq_true rfl) rfl ?_
  refine go_aload_n 31 dX9_read_30 rfl rfl ?_
  refine go_iconst 32 (0) dX9_read_31 rfl (by decide) ?_
  refine g_putI 35 dX9_read_32 rfl fF_RX9_295 ly_115 rfl (fun q hq => by cases hq; rfl) rfl rfl ?_
  refine go_iload_n 36 dX9_read_35 rfl rfl ?_
  refine go_if_ne 39 56 dX9_read_36 rfl (by decide) (fun hc5 => ?_) (fun hc5 => ?_)
  · have hq := hfin hc5
    refine go_aload_n 57 dX9_read_56 rfl rfl ?_
    refine go_iconst 58 (1) dX9_read_57 rfl (by decide) ?_
    refine go_iconst 59 (1) dX9_read_58 rfl (by decide) ?_
    refine g_callV0 62 [.int _, .int _] [] dX9_read_59 rfl (ct_pass11 _) rfl sV_X9_read_353 rfl ly_115 rfl rfl (Nat.le_of_ble_eq_true rfl) (Nat.le_of_ble_eq_true rfl) (Nat.le_of_ble_eq_true rfl) ?_
    refine go_iconst 63 (0) dX9_read_62 rfl (by decide) ?_
    refine go_istore_n 64 [(2, .int _), (1, .int _), (0, .ref 115)] dX9_read_63 rfl (Nat.le_of_ble_eq_true rfl) rfl ?_
    have e9 : f_X9_read S L = ryF (rI (f_pass11 (wI (rzS 28 (wI (wI (wI (wI (wI (wI S 115 0 0) 142 0 0) 142 1 0) 142 2 0) 115 35 0) 115 36 0)).2 115 34 0)) 115 36).toNatClampNeg 0 (f_pass11 (wI (rzS 28 (wI (wI (wI (wI (wI (wI S 115 0 0) 142 0 0) 142 1 0) 142 2 0) 115 35 0) 115 36 0)).2 115 34 0)) := by unfold f_X9_read; simp only [if_neg hc5]
    rw [e9]
    refine go_ls [(2, .int _), (0, .ref 115), (1, .int _)] (List.forall_mem_cons.mpr ⟨rfl, List.forall_mem_cons.mpr ⟨rfl, List.forall_mem_cons.mpr ⟨rfl, fun _ h => absurd h List.not_mem_nil⟩⟩⟩) ?_
    exact lp_rread (rI (f_pass11 (wI (rzS 28 (wI (wI (wI (wI (wI (wI S 115 0 0) 142 0 0) 142 1 0) 142 2 0) 115 35 0) 115 36 0)).2 115 34 0)) 115 36).toNatClampNeg hq.1 _ (rI (f_pass11 (wI (rzS 28 (wI (wI (wI (wI (wI (wI S 115 0 0) 142 0 0) 142 1 0) 142 2 0) 115 35 0) 115 36 0)).2 115 34 0)) 115 36).toNatClampNeg 0 (f_pass11 (wI (rzS 28 (wI (wI (wI (wI (wI (wI S 115 0 0) 142 0 0) 142 1 0) 142 2 0) 115 35 0) 115 36 0)).2 115 34 0)) (Nat.add_zero _) hq.2.1 hq.2.2.1 hq.2.2.2
  · refine go_aload_n 40 dX9_read_39 rfl rfl ?_
    refine go_aload_n 41 dX9_read_40 rfl rfl ?_
    refine g_getI 44 dX9_read_41 rfl fF_RX9_324 ly_115 rfl ?_
    refine go_topi (rI (rzS 28 (wI (wI (wI (wI (wI (wI S 115 0 0) 142 0 0) 142 1 0) 142 2 0) 115 35 0) 115 36 0)).2 115 36) (rI_wIc (by decide) _ _) ?_
    refine go_iconst 45 (2) dX9_read_44 rfl (by decide) ?_
    refine go_aload_n 46 dX9_read_45 rfl rfl ?_
    refine g_getI 49 dX9_read_46 rfl fF_RX9_298 ly_115 rfl ?_
    refine go_topi (rI (rzS 28 (wI (wI (wI (wI (wI (wI S 115 0 0) 142 0 0) 142 1 0) 142 2 0) 115 35 0) 115 36 0)).2 115 35) (rI_wIc (by decide) _ _) ?_
    refine go_iconst 50 (0) dX9_read_49 rfl (by decide) ?_
    refine go_iconst 51 (0) dX9_read_50 rfl (by decide) ?_
    refine g_callV0 54 [.int _, .int _, .int _, .int _, .int _] [] dX9_read_51 rfl (ct_X9_faults _ _ _ _ _ _) rfl sV_X9_read_349 rfl ly_115 rfl rfl (Nat.le_of_ble_eq_true rfl) (Nat.le_of_ble_eq_true rfl) (Nat.le_of_ble_eq_true rfl) ?_
    refine go_iconst 55 (-1) dX9_read_54 rfl (by decide) ?_
    refine go_ireturn dX9_read_55 rfl (by first | rfl | exact bi_nar) (Nat.le_of_ble_eq_true rfl) (Nat.le_of_ble_eq_true rfl) ?_
    exact ⟨congrArg (fun z => some (Value.int z)) (by unfold f_X9_read; simp only [if_pos hc5]; try first | rfl | contradiction), congrArg hp (by unfold f_X9_read; simp only [if_pos hc5]; try first | rfl | contradiction)⟩

