-- needs 
theorem forget_ch (S : gS) : rI (f_X1_forget S) 56 = rI S 56 := funext fun c => fr_f_X1_forget (by omega) _
def f_X8_read (S : gS) (L : Nat) : Int32 × gS := (if (pzS (rI S 56) L 27 0 0 (f_X1_forget S)).1 = 0 then ((-1), (f_X1_become (wI (pzS (rI S 56) L 27 0 0 (f_X1_forget S)).2 55 0 0) ((rI (pzS (rI S 56) L 27 0 0 (f_X1_forget S)).2 55 2)) 2 ((rI (pzS (rI S 56) L 27 0 0 (f_X1_forget S)).2 55 1)))) else (cyF (rI (f_copy23_1 (wI (pzS (rI S 56) L 27 0 0 (f_X1_forget S)).2 55 0 0)) 55 2).toNatClampNeg 0 (f_copy23_1 (wI (pzS (rI S 56) L 27 0 0 (f_X1_forget S)).2 55 0 0))))
set_option maxRecDepth 100000 in
set_option maxHeartbeats 1000000 in
theorem ct_X8_read (S : gS) (L : Nat) (n : Nat) (ho : okC S n) (ht : txt S L) : gF mX8_read [.ref 0] S (some (.int (f_X8_read S L).1)) (f_X8_read S L).2 := by
  refine go_enter [.ref 0] [(0, .ref 0)] (by decide +kernel) rfl rfl (Nat.le_of_ble_eq_true rfl) rfl ?_
  refine go_aload_n 1 dX8_read_0 rfl rfl ?_
  refine g_getR 4 dX8_read_1 rfl fF_RX8_70 ly_0 rfl ?_
  refine g_callV0 7 [] [] dX8_read_4 rfl (ct_X1_forget _) rfl sV_X8_read_288 rfl ly_112 rfl rfl (Nat.le_of_ble_eq_true rfl) (Nat.le_of_ble_eq_true rfl) (Nat.le_of_ble_eq_true rfl) ?_
  refine go_aload_n 8 dX8_read_7 rfl rfl ?_
  refine g_getR 11 dX8_read_8 rfl fF_RX8_63 ly_0 rfl ?_
  refine g_callV 14 [] [] dX8_read_11 rfl (by have h9 := ct_parse (f_X1_forget S) L ⟨(fr_f_X1_forget (by decide) _).trans ht.1, ht.2⟩; rw [forget_ch] at h9; exact h9) rfl sV_X8_read_291 rfl ly_55 rfl rfl (Nat.le_of_ble_eq_true rfl) (Nat.le_of_ble_eq_true rfl) (Nat.le_of_ble_eq_true rfl) ?_
  refine go_istore_n 15 [(1, .int _), (0, .ref 0)] dX8_read_14 rfl (Nat.le_of_ble_eq_true rfl) rfl ?_
  refine go_aload_n 16 dX8_read_15 rfl rfl ?_
  refine g_getR 19 dX8_read_16 rfl fF_RX8_63 ly_0 rfl ?_
  refine go_iconst 20 (0) dX8_read_19 rfl (by decide) ?_
  refine g_putI 23 dX8_read_20 rfl fF_RX8_280 ly_55 rfl (fun q hq => by cases hq; rfl) rfl rfl ?_
  obtain ⟨m, hm1, hm2⟩ := pz_cnt (rI S 56) L 27 0 0 (f_X1_forget S)
  refine go_iload_n 24 dX8_read_23 rfl rfl ?_
  refine go_if_ne 27 51 dX8_read_24 rfl (by decide) (fun hc1 => ?_) (fun hc1 => ?_)
  · refine go_aload_n 52 dX8_read_51 rfl rfl ?_
    refine g_getR 55 dX8_read_52 rfl fF_RX8_19 ly_0 rfl ?_
    refine go_aload_n 56 dX8_read_55 rfl rfl ?_
    refine g_getR 59 dX8_read_56 rfl fF_RX8_10 ly_0 rfl ?_
    refine g_callV0 62 [.ref 1] [] dX8_read_59 rfl (ct_copy23_1 _) rfl sV_X8_read_303 rfl ly_23 rfl rfl (Nat.le_of_ble_eq_true rfl) (Nat.le_of_ble_eq_true rfl) (Nat.le_of_ble_eq_true rfl) ?_
    have hcn0 : rI (f_copy23_1 (wI (pzS (rI S 56) L 27 0 0 (f_X1_forget S)).2 55 0 0)) 55 2 = nI m := by rw [cp23_fr (by decide), rI_wIc (by decide)]; exact hm2
    have hcn : (rI (f_copy23_1 (wI (pzS (rI S 56) L 27 0 0 (f_X1_forget S)).2 55 0 0)) 55 2).toNatClampNeg = m := by rw [hcn0]; exact nI_c (by omega)
    refine go_iconst 63 (0) dX8_read_62 rfl (by decide) ?_
    refine go_istore_n 64 [(2, .int _), (1, .int _), (0, .ref 0)] dX8_read_63 rfl (Nat.le_of_ble_eq_true rfl) rfl ?_
    have e9 : f_X8_read S L = cyF (rI (f_copy23_1 (wI (pzS (rI S 56) L 27 0 0 (f_X1_forget S)).2 55 0 0)) 55 2).toNatClampNeg 0 (f_copy23_1 (wI (pzS (rI S 56) L 27 0 0 (f_X1_forget S)).2 55 0 0)) := by unfold f_X8_read; simp only [if_neg hc1]
    rw [e9]
    refine go_ls [(2, .int _), (0, .ref 0), (1, .int _)] (List.forall_mem_cons.mpr ⟨rfl, List.forall_mem_cons.mpr ⟨rfl, List.forall_mem_cons.mpr ⟨rfl, fun _ h => absurd h List.not_mem_nil⟩⟩⟩) ?_
    refine lp_read (rI (f_copy23_1 (wI (pzS (rI S 56) L 27 0 0 (f_X1_forget S)).2 55 0 0)) 55 2).toNatClampNeg (by rw [hcn]; omega) _ (rI (f_copy23_1 (wI (pzS (rI S 56) L 27 0 0 (f_X1_forget S)).2 55 0 0)) 55 2).toNatClampNeg 0 _ rfl ?_ ⟨n, okC.of ho ?_⟩ ?_
    · rw [hcn]; exact hcn0
    · intro a c h
      rw [cp23_fr (by omega), rI_wIk (by omega), pz_fr _ _ _ _ (by omega) (by omega) _ _ _ _ (by omega), fr_f_X1_forget (by omega)]
    · rw [hcn]
      intro j hj
      rw [cp23_fr (by omega), rI_wIk (by omega)]
      exact pz_kd _ _ 27 0 0 _ (fun j hj => absurd hj (Nat.not_lt_zero j)) hc1 m hm2 (by omega) (by omega) j hj
  · refine go_aload_n 28 dX8_read_27 rfl rfl ?_
    refine g_getR 31 dX8_read_28 rfl fF_RX8_70 ly_0 rfl ?_
    refine go_aload_n 32 dX8_read_31 rfl rfl ?_
    refine g_getR 35 dX8_read_32 rfl fF_RX8_63 ly_0 rfl ?_
    refine g_getI 38 dX8_read_35 rfl fF_RX8_294 ly_55 rfl ?_
    refine go_topi (rI (pzS (rI S 56) L 27 0 0 (f_X1_forget S)).2 55 2) (rI_wIc (by decide) _ _) ?_
    refine go_iconst 39 (2) dX8_read_38 rfl (by decide) ?_
    refine go_aload_n 40 dX8_read_39 rfl rfl ?_
    refine g_getR 43 dX8_read_40 rfl fF_RX8_63 ly_0 rfl ?_
    refine g_getI 46 dX8_read_43 rfl fF_RX8_297 ly_55 rfl ?_
    refine go_topi (rI (pzS (rI S 56) L 27 0 0 (f_X1_forget S)).2 55 1) (rI_wIc (by decide) _ _) ?_
    refine g_callV0 49 [.int _, .int _, .int _] [] dX8_read_46 rfl (ct_X1_become _ _ _ _) rfl sV_X8_read_300 rfl ly_112 rfl rfl (Nat.le_of_ble_eq_true rfl) (Nat.le_of_ble_eq_true rfl) (Nat.le_of_ble_eq_true rfl) ?_
    refine go_iconst 50 (-1) dX8_read_49 rfl (by decide) ?_
    refine go_ireturn dX8_read_50 rfl (by first | rfl | exact bi_nar) (Nat.le_of_ble_eq_true rfl) (Nat.le_of_ble_eq_true rfl) ?_
    exact ⟨congrArg (fun z => some (Value.int z)) (by unfold f_X8_read; simp only [if_pos hc1]; try first | rfl | contradiction), congrArg hp (by unfold f_X8_read; simp only [if_pos hc1]; try first | rfl | contradiction)⟩

