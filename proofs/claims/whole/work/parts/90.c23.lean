-- needs 
def bd_run (n : Nat) (i : Nat) (p : gS) : gS := (f_takeN (f_takeF (f_X8_settleBoth p n) n) n)
set_option maxRecDepth 100000 in
set_option maxHeartbeats 1000000 in
theorem lk_run {Q : go_Q} (n : Nat) (k : Nat) (c : Int32) (s0 : gS) (hc9 : c = nI k) (hk : k ≤ 200) (hI : ∀ i, i ≤ k → okC (itr (bd_run n) i s0) n) (kx : Go mX8_run false Q 0 0 85 [(2, .int (nI k)), (0, .ref 0), (1, .int c)] [] (hp (itr (bd_run n) k s0))) : ∀ i, i ≤ k → Go mX8_run false Q 0 0 28 [(2, .int (nI i)), (0, .ref 0), (1, .int c)] [] (hp (itr (bd_run n) i s0)) := by
  refine g_dn _ (k) (fun i hi ih => ?_)
  have hT := hI i hi
  have ih2 : i < k → Go mX8_run false Q 0 0 28 [(2, .int (nI (i + 1))), (0, .ref 0), (1, .int c)] [] (hp ((bd_run n) i (itr (bd_run n) i s0))) := ih
  have kx2 : i = k → Go mX8_run false Q 0 0 85 [(2, .int (nI i)), (0, .ref 0), (1, .int c)] [] (hp (itr (bd_run n) i s0)) := by
    rintro rfl
    exact kx
  clear ih kx hI
  revert hT ih2 kx2
  generalize itr (bd_run n) i s0 = p
  intro hT ih2 kx2
  have h24 := hT.2.1
  refine go_iload_n 29 dX8_run_28 rfl rfl ?_
  refine go_iload_n 30 dX8_run_29 rfl rfl ?_
  refine go_icmp_ge 33 85 dX8_run_30 rfl (by decide) (fun hc1 => ?_) (fun hc1 => ?_)
  · have hv : i = k := by
      have h8 := hc1
      rw [hc9, nI_le2 (by omega) (by omega)] at h8
      omega
    refine go_ls [(2, .int _), (0, .ref 0), (1, .int _)] (List.forall_mem_cons.mpr ⟨rfl, List.forall_mem_cons.mpr ⟨rfl, List.forall_mem_cons.mpr ⟨rfl, fun _ h => absurd h List.not_mem_nil⟩⟩⟩) ?_
    exact kx2 hv
  · have hv : i < k := by
      have h8 := hc1
      rw [hc9, nI_le2 (by omega) (by omega)] at h8
      omega
    clear hc1
    have hcl := nI_c (n := i) (by omega)
    refine go_aload_n 34 dX8_run_33 rfl rfl ?_
    refine g_callV0 37 [] [] dX8_run_34 rfl (ct_X8_settleBoth _ _ hT) rfl sV_X8_run_255 rfl ly_0 rfl rfl (Nat.le_of_ble_eq_true rfl) (Nat.le_of_ble_eq_true rfl) (Nat.le_of_ble_eq_true rfl) ?_
    refine go_aload_n 38 dX8_run_37 rfl rfl ?_
    refine g_getR 41 dX8_run_38 rfl fF_RX8_10 ly_0 rfl ?_
    refine go_aload_n 42 dX8_run_41 rfl rfl ?_
    refine g_getR 45 dX8_run_42 rfl fF_RX8_10 ly_0 rfl ?_
    refine g_getR 48 dX8_run_45 rfl fF_RX8_258 ly_1 rfl ?_
    refine go_aload_n 49 dX8_run_48 rfl rfl ?_
    refine g_getR 52 dX8_run_49 rfl fF_RX8_53 ly_0 rfl ?_
    refine g_getR 55 dX8_run_52 rfl fF_RX8_261 ly_51 rfl ?_
    refine g_callV0 58 [.ref 10, .ref 52] [] dX8_run_55 rfl (ct_takeF _ _ (okC.of hT (fun a c h => (fr_f_X8_settleBoth (by omega) (by omega) _ _)))) rfl sV_X8_run_264 rfl ly_1 rfl rfl (Nat.le_of_ble_eq_true rfl) (Nat.le_of_ble_eq_true rfl) (Nat.le_of_ble_eq_true rfl) ?_
    refine go_aload_n 59 dX8_run_58 rfl rfl ?_
    refine g_getR 62 dX8_run_59 rfl fF_RX8_10 ly_0 rfl ?_
    refine go_aload_n 63 dX8_run_62 rfl rfl ?_
    refine g_getR 66 dX8_run_63 rfl fF_RX8_10 ly_0 rfl ?_
    refine g_getR 69 dX8_run_66 rfl fF_RX8_268 ly_1 rfl ?_
    refine go_aload_n 70 dX8_run_69 rfl rfl ?_
    refine g_getR 73 dX8_run_70 rfl fF_RX8_57 ly_0 rfl ?_
    refine g_getR 76 dX8_run_73 rfl fF_RX8_261 ly_53 rfl ?_
    refine g_callV0 79 [.ref 11, .ref 54] [] dX8_run_76 rfl (ct_takeN _ _ (okC.of hT (fun a c h => (fr_f_takeF (by omega) _ _).trans (fr_f_X8_settleBoth (by omega) (by omega) _ _)))) rfl sV_X8_run_264 rfl ly_1 rfl rfl (Nat.le_of_ble_eq_true rfl) (Nat.le_of_ble_eq_true rfl) (Nat.le_of_ble_eq_true rfl) ?_
    refine go_iinc 82 [(2, .int _), (0, .ref 0), (1, .int _)] (nI (i + 1)) dX8_run_79 rfl (Nat.le_of_ble_eq_true rfl) rfl (nI_inc i) rfl ?_
    refine go_goto 28 dX8_run_82 (by decide) ?_
    refine go_ls [(2, .int _), (0, .ref 0), (1, .int _)] (List.forall_mem_cons.mpr ⟨rfl, List.forall_mem_cons.mpr ⟨rfl, List.forall_mem_cons.mpr ⟨rfl, fun _ h => absurd h List.not_mem_nil⟩⟩⟩) ?_
    refine g_st (T := bd_run n i p) (by try rfl) (ih2 (by omega))
theorem fr_bd_run {a0 c0 : Nat} (h10 : a0 ≠ 10) (h11 : a0 ≠ 11) (h52 : a0 ≠ 52) (h54 : a0 ≠ 54) (n : Nat) (i : Nat) (p : gS) : rI (bd_run n i p) a0 c0 = rI p a0 c0 := by
  unfold bd_run
  first | (simp only [snd_ite, rI_ite, ite_self, rI_wIk h10, rI_wRk h10, rI_wIk h11, rI_wRk h11, rI_wIk h52, rI_wRk h52, rI_wIk h54, rI_wRk h54, fr_f_X8_settleBoth h52 h54, fr_f_takeF h10, fr_f_takeN h11]; done) | ((repeat' split) <;> first | rfl | simp only [rI_wIk h10, rI_wRk h10, rI_wIk h11, rI_wRk h11, rI_wIk h52, rI_wRk h52, rI_wIk h54, rI_wRk h54, fr_f_X8_settleBoth h52 h54, fr_f_takeF h10, fr_f_takeN h11] | (apply fr_f_X8_settleBoth <;> assumption) | (apply fr_f_takeF <;> assumption) | (apply fr_f_takeN <;> assumption))
theorem fr_lp_run {a0 c0 : Nat} (h10 : a0 ≠ 10) (h11 : a0 ≠ 11) (h52 : a0 ≠ 52) (h54 : a0 ≠ 54) (n : Nat) (m9 : Nat) (p : gS) : rI (itr (bd_run n) m9 p) a0 c0 = rI p a0 c0 := by
  induction m9 with
  | zero => rfl
  | succ m9 ih => exact (fr_bd_run h10 h11 h52 h54 _ _ _).trans ih

theorem run_k {c : Int32} (h1 : ¬ c < 1) (h2 : c ≤ 200) : ∃ k, 1 ≤ k ∧ k ≤ 200 ∧ c = nI k := by
  rw [il] at h1
  rw [ile] at h2
  have e1 : (1 : Int32).toInt = 1 := rfl
  have e2 : (200 : Int32).toInt = 200 := rfl
  refine ⟨c.toInt.toNat, by omega, by omega, ?_⟩
  rw [ieq, nI_toInt (by omega)]
  omega
theorem run_c {c : Int32} (h1 : ¬ c < 1) (h2 : c ≤ 200) : c = nI c.toNatClampNeg ∧ c.toNatClampNeg ≤ 200 := by
  obtain ⟨k, -, k2, rfl⟩ := run_k h1 h2
  rw [nI_c (by omega)]
  exact ⟨rfl, k2⟩
def f_X8_run (S : gS) (c : Int32) (T : gS) (n : Nat) : Nat × Int32 × gS := (if c < 1 then (1, 0, S) else (if c ≤ 200 then (0, (f_X8_differingOutputs (f_X8_settleBoth (wI (itr (bd_run n) c.toNatClampNeg T) 1 1 (((rI (itr (bd_run n) c.toNatClampNeg T) 1 1) + c))) n) n), (f_X8_settleBoth (wI (itr (bd_run n) c.toNatClampNeg T) 1 1 (((rI (itr (bd_run n) c.toNatClampNeg T) 1 1) + c))) n)) else (1, 0, S)))
set_option maxRecDepth 100000 in
set_option maxHeartbeats 1000000 in
theorem ct_X8_run (S : gS) (c : Int32) (T : gS) (n : Nat) (hA : gF mX8_analyse [.ref 0] S none T) (hoT : okC T n) : gO mX8_run [.ref 0, .int c] S (f_X8_run S c T n).1 (some (.int (f_X8_run S c T n).2.1)) (f_X8_run S c T n).2.2 := by
  refine go_enter [.ref 0, .int c] [(0, .ref 0), (1, .int c)] (by decide +kernel) rfl rfl (Nat.le_of_ble_eq_true rfl) rfl ?_
  refine go_iload_n 1 dX8_run_0 rfl rfl ?_
  refine go_iconst 2 (1) dX8_run_1 rfl (by decide) ?_
  refine go_icmp_lt 5 12 dX8_run_2 rfl (by decide) (fun hc1 => ?_) (fun hc1 => ?_)
  · refine go_throw "java/lang/IllegalArgumentException" "the number of cycles is not from 1 to 200" dX8_run_12 dX8_run_15 dX8_run_16 dX8_run_18 dX8_run_21 rfl sT_RX8_81 (List.mem_of_getElem? (i := 16) rfl) (Nat.le_of_ble_eq_true rfl) (Nat.le_of_ble_eq_true rfl) (Nat.le_of_ble_eq_true rfl) (Nat.le_of_ble_eq_true rfl) ?_
    exact ⟨(by unfold f_X8_run; simp only [if_pos hc1]; try decide), (by unfold f_X8_run; simp only [if_pos hc1]; try rfl), congrArg hp (by unfold f_X8_run; simp only [if_pos hc1]; try first | rfl | contradiction)⟩
  · refine go_iload_n 6 dX8_run_5 rfl rfl ?_
    refine go_sipush 9 (200) dX8_run_6 rfl (by decide) ?_
    refine go_icmp_le 12 22 dX8_run_9 rfl (by decide) (fun hc2 => ?_) (fun hc2 => ?_)
    · refine go_aload_n 23 dX8_run_22 rfl rfl ?_
      refine g_callV0 26 [] [] dX8_run_23 rfl hA rfl sV_X8_run_171 rfl ly_0 rfl rfl (Nat.le_of_ble_eq_true rfl) (Nat.le_of_ble_eq_true rfl) (Nat.le_of_ble_eq_true rfl) ?_
      refine go_iconst 27 (0) dX8_run_26 rfl (by decide) ?_
      refine go_istore_n 28 [(2, .int _), (0, .ref 0), (1, .int _)] dX8_run_27 rfl (Nat.le_of_ble_eq_true rfl) rfl ?_
      refine go_ls [(2, .int _), (0, .ref 0), (1, .int _)] (List.forall_mem_cons.mpr ⟨rfl, List.forall_mem_cons.mpr ⟨rfl, List.forall_mem_cons.mpr ⟨rfl, fun _ h => absurd h List.not_mem_nil⟩⟩⟩) ?_
      refine lk_run n c.toNatClampNeg c T (run_c hc1 hc2).1 (run_c hc1 hc2).2 (fun i hi => okC.of hoT (fun a c h => (fr_lp_run (by omega) (by omega) (by omega) (by omega) n i _))) ?_ 0 (Nat.zero_le _)
      refine go_aload_n 86 dX8_run_85 rfl rfl ?_
      refine g_getR 89 dX8_run_86 rfl fF_RX8_10 ly_0 rfl ?_
      refine go_dup 90 dX8_run_89 rfl rfl ?_
      refine g_getI 93 dX8_run_90 rfl fF_RX8_271 ly_1 rfl ?_
      refine go_iload_n 94 dX8_run_93 rfl rfl ?_
      refine go_iadd 95 dX8_run_94 rfl ?_
      refine g_putI 98 dX8_run_95 rfl fF_RX8_271 ly_1 rfl (fun q hq => by cases hq; rfl) rfl rfl ?_
      refine go_aload_n 99 dX8_run_98 rfl rfl ?_
      refine g_callV0 102 [] [] dX8_run_99 rfl (ct_X8_settleBoth _ _ (okC.of hoT (fun a c h => (rI_wIc (by omega) _ _).trans (fr_lp_run (by omega) (by omega) (by omega) (by omega) n _ _)))) rfl sV_X8_run_255 rfl ly_0 rfl rfl (Nat.le_of_ble_eq_true rfl) (Nat.le_of_ble_eq_true rfl) (Nat.le_of_ble_eq_true rfl) ?_
      refine go_aload_n 103 dX8_run_102 rfl rfl ?_
      refine g_callV 106 [] [] dX8_run_103 rfl (ct_X8_differingOutputs _ _ (okC.of hoT (fun a c h => (fr_f_X8_settleBoth (by omega) (by omega) _ _).trans ((rI_wIc (by omega) _ _).trans (fr_lp_run (by omega) (by omega) (by omega) (by omega) n _ _))))) rfl sV_X8_run_274 rfl ly_0 rfl rfl (Nat.le_of_ble_eq_true rfl) (Nat.le_of_ble_eq_true rfl) (Nat.le_of_ble_eq_true rfl) ?_
      refine go_ireturn dX8_run_106 rfl (by first | rfl | exact bi_nar) (Nat.le_of_ble_eq_true rfl) (Nat.le_of_ble_eq_true rfl) ?_
      exact ⟨(by unfold f_X8_run; simp only [if_neg hc1, if_pos hc2]; try first | rfl | contradiction), congrArg (fun z => some (Value.int z)) (by unfold f_X8_run; simp only [if_neg hc1, if_pos hc2]; try first | rfl | contradiction), congrArg hp (by unfold f_X8_run; simp only [if_neg hc1, if_pos hc2]; try first | rfl | contradiction)⟩
    · refine go_throw "java/lang/IllegalArgumentException" "the number of cycles is not from 1 to 200" dX8_run_12 dX8_run_15 dX8_run_16 dX8_run_18 dX8_run_21 rfl sT_RX8_81 (List.mem_of_getElem? (i := 16) rfl) (Nat.le_of_ble_eq_true rfl) (Nat.le_of_ble_eq_true rfl) (Nat.le_of_ble_eq_true rfl) (Nat.le_of_ble_eq_true rfl) ?_
      exact ⟨(by unfold f_X8_run; simp only [if_neg hc1, if_neg hc2]; try decide), (by unfold f_X8_run; simp only [if_neg hc1, if_neg hc2]; try rfl), congrArg hp (by unfold f_X8_run; simp only [if_neg hc1, if_neg hc2]; try first | rfl | contradiction)⟩

