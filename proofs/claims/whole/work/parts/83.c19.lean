-- needs 
def f_X0_dropLast (S : gS) (n : Nat) : Int32 × gS := ((rI (itr (bd_dropLast) n (wI S 1 0 (((rI S 1 0) - 1)))) 2 ((rI (itr (bd_dropLast) n (wI S 1 0 (((rI S 1 0) - 1)))) 1 0)).toNatClampNeg), (itr (bd_dropLast) n (wI S 1 0 (((rI S 1 0) - 1)))))
set_option maxRecDepth 100000 in
set_option maxHeartbeats 1000000 in
theorem ct_X0_dropLast (S : gS) (n : Nat) (hn : rI S 1 0 = nI (n + 1)) (h24 : n < 24) : gF mX0_dropLast [.ref 1] S (some (.int (f_X0_dropLast S n).1)) (f_X0_dropLast S n).2 := by
  have hs : rI (wI S 1 0 (rI S 1 0 - 1)) 1 0 = nI n := by
    rw [rI_same, hn]
    exact nI_pred n
  have hsn : rI (itr bd_dropLast n (wI S 1 0 (rI S 1 0 - 1))) 1 0 = nI n := (fr_lp_dropLast (by decide) n _).trans hs
  refine go_enter [.ref 1] [(0, .ref 1)] (by decide +kernel) rfl rfl (Nat.le_of_ble_eq_true rfl) rfl ?_
  refine go_aload_n 1 dX0_dropLast_0 rfl rfl ?_
  refine go_dup 2 dX0_dropLast_1 rfl rfl ?_
  refine g_getI 5 dX0_dropLast_2 rfl fF_RX0_9 ly_1 rfl ?_
  refine go_iconst 6 (1) dX0_dropLast_5 rfl (by decide) ?_
  refine go_isub 7 dX0_dropLast_6 rfl ?_
  refine g_putI 10 dX0_dropLast_7 rfl fF_RX0_9 ly_1 rfl (fun q hq => by cases hq; rfl) rfl rfl ?_
  refine go_iconst 11 (0) dX0_dropLast_10 rfl (by decide) ?_
  refine go_istore_n 12 [(1, .int _), (0, .ref 1)] dX0_dropLast_11 rfl (Nat.le_of_ble_eq_true rfl) rfl ?_
  refine go_ls [(1, .int _), (0, .ref 1)] (List.forall_mem_cons.mpr ⟨rfl, List.forall_mem_cons.mpr ⟨rfl, fun _ h => absurd h List.not_mem_nil⟩⟩) ?_
  refine lk_dropLast n (wI S 1 0 (((rI S 1 0) - 1))) (fun i hi => ⟨(fr_lp_dropLast (by decide) i _).trans hs, by omega⟩) ?_ 0 (Nat.zero_le _)
  refine go_aload_n 47 dX0_dropLast_46 rfl rfl ?_
  refine g_getR 50 dX0_dropLast_47 rfl fF_RX0_18 ly_1 rfl ?_
  refine go_aload_n 51 dX0_dropLast_50 rfl rfl ?_
  refine g_getI 54 dX0_dropLast_51 rfl fF_RX0_9 ly_1 rfl ?_
  refine g_iald2 55 _ dX0_dropLast_54 rfl ly_2 (by rw [hsn]; exact nI_i h24 (by omega)) rfl ?_
  refine go_ireturn dX0_dropLast_55 rfl (by first | rfl | exact bi_nar) (Nat.le_of_ble_eq_true rfl) (Nat.le_of_ble_eq_true rfl) ?_
  exact ⟨congrArg (fun z => some (Value.int z)) (by unfold f_X0_dropLast; first | done | (dsimp only; done) | rfl), congrArg hp (by unfold f_X0_dropLast; first | done | (dsimp only; done) | rfl)⟩
theorem fr_f_X0_dropLast {a0 c0 : Nat} (h1_0 : ¬ (a0 = 1 ∧ c0 = 0)) (h6 : a0 ≠ 6) (S : gS) (n : Nat) : rI (f_X0_dropLast S n).2 a0 c0 = rI S a0 c0 := by
  unfold f_X0_dropLast
  first | (simp only [snd_ite, rI_ite, ite_self, rI_wIc h1_0, rI_wIk h6, rI_wRk h6, fr_lp_dropLast h6]; done) | ((repeat' split) <;> first | rfl | simp only [rI_wIc h1_0, rI_wIk h6, rI_wRk h6, fr_lp_dropLast h6])

def f_X8_beginAnew (S : gS) (n : Nat) : gS := (wI (f_X0_rewind S n) 0 12 0)
set_option maxRecDepth 100000 in
set_option maxHeartbeats 1000000 in
theorem ct_X8_beginAnew (S : gS) (n : Nat) (ho : okC S n) : gF mX8_beginAnew [.ref 0] S none (f_X8_beginAnew S n) := by
  refine go_enter [.ref 0] [(0, .ref 0)] (by decide +kernel) rfl rfl (Nat.le_of_ble_eq_true rfl) rfl ?_
  refine go_aload_n 1 dX8_beginAnew_0 rfl rfl ?_
  refine g_getR 4 dX8_beginAnew_1 rfl fF_RX8_10 ly_0 rfl ?_
  refine g_callV0 7 [] [] dX8_beginAnew_4 rfl (ct_X0_rewind _ _ ho) rfl sV_X8_beginAnew_277 rfl ly_1 rfl rfl (Nat.le_of_ble_eq_true rfl) (Nat.le_of_ble_eq_true rfl) (Nat.le_of_ble_eq_true rfl) ?_
  refine go_aload_n 8 dX8_beginAnew_7 rfl rfl ?_
  refine go_iconst 9 (0) dX8_beginAnew_8 rfl (by decide) ?_
  refine g_putI 12 dX8_beginAnew_9 rfl fF_RX8_78 ly_0 rfl (fun q hq => by cases hq; rfl) rfl rfl ?_
  refine go_return dX8_beginAnew_12 rfl (Nat.le_of_ble_eq_true rfl) (Nat.le_of_ble_eq_true rfl) ?_
  exact ⟨rfl, congrArg hp (by unfold f_X8_beginAnew; first | done | (dsimp only; done) | rfl)⟩
theorem fr_f_X8_beginAnew {a0 c0 : Nat} (h0_12 : ¬ (a0 = 0 ∧ c0 = 12)) (h1_1 : ¬ (a0 = 1 ∧ c0 = 1)) (h10 : a0 ≠ 10) (h11 : a0 ≠ 11) (S : gS) (n : Nat) : rI (f_X8_beginAnew S n) a0 c0 = rI S a0 c0 := by
  unfold f_X8_beginAnew
  first | (simp only [snd_ite, rI_ite, ite_self, rI_wIc h0_12, rI_wIc h1_1, rI_wIk h10, rI_wRk h10, rI_wIk h11, rI_wRk h11, fr_f_X0_rewind h1_1 h10 h11]; done) | ((repeat' split) <;> first | rfl | simp only [rI_wIc h0_12, rI_wIc h1_1, rI_wIk h10, rI_wRk h10, rI_wIk h11, rI_wRk h11, fr_f_X0_rewind h1_1 h10 h11] | (apply fr_f_X0_rewind <;> assumption))

def f_X8_restart (S : gS) (n : Nat) : Int32 × gS := ((rI S 1 1), (f_X0_rewind S n))
set_option maxRecDepth 100000 in
set_option maxHeartbeats 1000000 in
theorem ct_X8_restart (S : gS) (n : Nat) (ho : okC S n) : gF mX8_restart [.ref 0] S (some (.int (f_X8_restart S n).1)) (f_X8_restart S n).2 := by
  refine go_enter [.ref 0] [(0, .ref 0)] (by decide +kernel) rfl rfl (Nat.le_of_ble_eq_true rfl) rfl ?_
  refine go_aload_n 1 dX8_restart_0 rfl rfl ?_
  refine g_getR 4 dX8_restart_1 rfl fF_RX8_10 ly_0 rfl ?_
  refine g_getI 7 dX8_restart_4 rfl fF_RX8_271 ly_1 rfl ?_
  refine go_istore_n 8 [(1, .int _), (0, .ref 0)] dX8_restart_7 rfl (Nat.le_of_ble_eq_true rfl) rfl ?_
  refine go_aload_n 9 dX8_restart_8 rfl rfl ?_
  refine g_getR 12 dX8_restart_9 rfl fF_RX8_10 ly_0 rfl ?_
  refine g_callV0 15 [] [] dX8_restart_12 rfl (ct_X0_rewind _ _ ho) rfl sV_X8_restart_277 rfl ly_1 rfl rfl (Nat.le_of_ble_eq_true rfl) (Nat.le_of_ble_eq_true rfl) (Nat.le_of_ble_eq_true rfl) ?_
  refine go_iload_n 16 dX8_restart_15 rfl rfl ?_
  refine go_ireturn dX8_restart_16 rfl (by first | rfl | exact bi_nar) (Nat.le_of_ble_eq_true rfl) (Nat.le_of_ble_eq_true rfl) ?_
  exact ⟨congrArg (fun z => some (Value.int z)) (by unfold f_X8_restart; first | done | (dsimp only; done) | rfl), congrArg hp (by unfold f_X8_restart; first | done | (dsimp only; done) | rfl)⟩
theorem fr_f_X8_restart {a0 c0 : Nat} (h1_1 : ¬ (a0 = 1 ∧ c0 = 1)) (h10 : a0 ≠ 10) (h11 : a0 ≠ 11) (S : gS) (n : Nat) : rI (f_X8_restart S n).2 a0 c0 = rI S a0 c0 := by
  unfold f_X8_restart
  first | (simp only [snd_ite, rI_ite, ite_self, rI_wIc h1_1, rI_wIk h10, rI_wRk h10, rI_wIk h11, rI_wRk h11, fr_f_X0_rewind h1_1 h10 h11]; done) | ((repeat' split) <;> first | rfl | simp only [rI_wIc h1_1, rI_wIk h10, rI_wRk h10, rI_wIk h11, rI_wRk h11, fr_f_X0_rewind h1_1 h10 h11] | (apply fr_f_X0_rewind <;> assumption))

def f_X8_count (S : gS)  : Int32 := (rI S 1 0)
set_option maxRecDepth 100000 in
set_option maxHeartbeats 1000000 in
theorem ct_X8_count (S : gS)   : gF mX8_count [.ref 0] S (some (.int (f_X8_count S))) S := by
  refine go_enter [.ref 0] [(0, .ref 0)] (by decide +kernel) rfl rfl (Nat.le_of_ble_eq_true rfl) rfl ?_
  refine go_aload_n 1 dX8_count_0 rfl rfl ?_
  refine g_getR 4 dX8_count_1 rfl fF_RX8_10 ly_0 rfl ?_
  refine g_getI 7 dX8_count_4 rfl fF_RX8_98 ly_1 rfl ?_
  refine go_ireturn dX8_count_7 rfl (by first | rfl | exact bi_nar) (Nat.le_of_ble_eq_true rfl) (Nat.le_of_ble_eq_true rfl) ?_
  exact ⟨congrArg (fun z => some (Value.int z)) (by unfold f_X8_count; first | done | (dsimp only; done) | rfl), rfl⟩

def bd_fCst (S : gS) (i : Nat) (p : Int32) : Int32 := (p + (f_X8_costFor ((rI S 2 i)) 32))
set_option maxRecDepth 100000 in
set_option maxHeartbeats 1000000 in
theorem lk_fCst {Q : go_Q} (S : gS)  (n : Nat) (s0 : Int32)  (hT : okC S n) (kx : Go mX8_fullCost false Q 0 0 38 [(1, .int (itr (bd_fCst S) n s0)), (2, .int (nI n)), (0, .ref 0)] [] (hp S)) : ∀ i, i ≤ n → Go mX8_fullCost false Q 0 0 4 [(1, .int (itr (bd_fCst S) i s0)), (2, .int (nI i)), (0, .ref 0)] [] (hp S) := by
  refine g_dn _ (n) (fun i hi ih => ?_)
  have ih2 : i < n → Go mX8_fullCost false Q 0 0 4 [(1, .int ((bd_fCst S) i (itr (bd_fCst S) i s0))), (2, .int (nI (i + 1))), (0, .ref 0)] [] (hp S) := ih
  have kx2 : i = n → Go mX8_fullCost false Q 0 0 38 [(1, .int (itr (bd_fCst S) i s0)), (2, .int (nI i)), (0, .ref 0)] [] (hp S) := by
    rintro rfl
    exact kx
  clear ih kx
  revert ih2 kx2
  generalize itr (bd_fCst S) i s0 = p
  intro ih2 kx2
  have h24 := hT.2.1
  refine go_iload_n 5 dX8_fullCost_4 rfl rfl ?_
  refine go_aload_n 6 dX8_fullCost_5 rfl rfl ?_
  refine g_getR 9 dX8_fullCost_6 rfl fF_RX8_10 ly_0 rfl ?_
  refine g_getI 12 dX8_fullCost_9 rfl fF_RX8_98 ly_1 rfl ?_
  refine go_icmp_ge 15 38 dX8_fullCost_12 rfl (by decide) (fun hc1 => ?_) (fun hc1 => ?_)
  · have hv : i = n := by
      have h8 := hc1
      rw [hT.1, nI_le2 (by omega) (by omega)] at h8
      omega
    refine go_ls [(1, .int _), (2, .int _), (0, .ref 0)] (List.forall_mem_cons.mpr ⟨rfl, List.forall_mem_cons.mpr ⟨rfl, List.forall_mem_cons.mpr ⟨rfl, fun _ h => absurd h List.not_mem_nil⟩⟩⟩) ?_
    exact kx2 hv
  · have hv : i < n := by
      have h8 := hc1
      rw [hT.1, nI_le2 (by omega) (by omega)] at h8
      omega
    clear hc1
    have hcl := nI_c (n := i) (by omega)
    refine go_iload_n 16 dX8_fullCost_15 rfl rfl ?_
    refine go_aload_n 17 dX8_fullCost_16 rfl rfl ?_
    refine g_getR 20 dX8_fullCost_17 rfl fF_RX8_10 ly_0 rfl ?_
    refine g_getR 23 dX8_fullCost_20 rfl fF_RX8_139 ly_1 rfl ?_
    refine go_iload_n 24 dX8_fullCost_23 rfl rfl ?_
    refine g_iald2 25 i dX8_fullCost_24 rfl ly_2 (nI_i (by have := hv; omega) (by omega)) hcl ?_
    refine go_bipush 27 (32) dX8_fullCost_25 rfl (by decide) ?_
    refine g_callS 30 [.int _, .int _] [.int _] dX8_fullCost_27 rfl (ct_X8_costFor _ _ _) rfl sV_X8_fullCost_343 rfl (Nat.le_of_ble_eq_true rfl) (Nat.le_of_ble_eq_true rfl) (Nat.le_of_ble_eq_true rfl) ?_
    refine go_iadd 31 dX8_fullCost_30 rfl ?_
    refine go_istore_n 32 [(1, .int _), (2, .int _), (0, .ref 0)] dX8_fullCost_31 rfl (Nat.le_of_ble_eq_true rfl) rfl ?_
    refine go_iinc 35 [(2, .int _), (1, .int _), (0, .ref 0)] (nI (i + 1)) dX8_fullCost_32 rfl (Nat.le_of_ble_eq_true rfl) rfl (nI_inc i) rfl ?_
    refine go_goto 4 dX8_fullCost_35 (by decide) ?_
    refine go_ls [(1, .int _), (2, .int _), (0, .ref 0)] (List.forall_mem_cons.mpr ⟨rfl, List.forall_mem_cons.mpr ⟨rfl, List.forall_mem_cons.mpr ⟨rfl, fun _ h => absurd h List.not_mem_nil⟩⟩⟩) ?_
    refine g_l1 (a' := bd_fCst S i p) (by try rfl) ?_
    exact ih2 (by omega)

def f_X8_fullCost (S : gS) (n : Nat) : Int32 := (itr (bd_fCst S) n 0)
set_option maxRecDepth 100000 in
set_option maxHeartbeats 1000000 in
theorem ct_X8_fullCost (S : gS) (n : Nat) (ho : okC S n) : gF mX8_fullCost [.ref 0] S (some (.int (f_X8_fullCost S n))) S := by
  refine go_enter [.ref 0] [(0, .ref 0)] (by decide +kernel) rfl rfl (Nat.le_of_ble_eq_true rfl) rfl ?_
  refine go_iconst 1 (0) dX8_fullCost_0 rfl (by decide) ?_
  refine go_istore_n 2 [(1, .int _), (0, .ref 0)] dX8_fullCost_1 rfl (Nat.le_of_ble_eq_true rfl) rfl ?_
  refine go_iconst 3 (0) dX8_fullCost_2 rfl (by decide) ?_
  refine go_istore_n 4 [(2, .int _), (1, .int _), (0, .ref 0)] dX8_fullCost_3 rfl (Nat.le_of_ble_eq_true rfl) rfl ?_
  refine go_ls [(1, .int _), (2, .int _), (0, .ref 0)] (List.forall_mem_cons.mpr ⟨rfl, List.forall_mem_cons.mpr ⟨rfl, List.forall_mem_cons.mpr ⟨rfl, fun _ h => absurd h List.not_mem_nil⟩⟩⟩) ?_
  refine lk_fCst S n _ ho ?_ 0 (Nat.zero_le _)
  refine go_iload_n 39 dX8_fullCost_38 rfl rfl ?_
  refine go_ireturn dX8_fullCost_39 rfl (by first | rfl | exact bi_nar) (Nat.le_of_ble_eq_true rfl) (Nat.le_of_ble_eq_true rfl) ?_
  exact ⟨congrArg (fun z => some (Value.int z)) (by unfold f_X8_fullCost; first | done | (dsimp only; done) | rfl), rfl⟩

def bd_sCst (S : gS) (i : Nat) (p : Int32) : Int32 := (if (0 : Int32) ≤ (rI S 50 i) then p else (p + (f_X7_costIn S i)))
set_option maxRecDepth 100000 in
set_option maxHeartbeats 1000000 in
theorem lk_sCst {Q : go_Q} (S : gS)  (n : Nat) (s0 : Int32)  (hT : okC S n) (kx : Go mX8_sharedCost false Q 0 0 54 [(1, .int (itr (bd_sCst S) n s0)), (2, .int (nI n)), (0, .ref 0)] [] (hp S)) : ∀ i, i ≤ n → Go mX8_sharedCost false Q 0 0 10 [(1, .int (itr (bd_sCst S) i s0)), (2, .int (nI i)), (0, .ref 0)] [] (hp S) := by
  refine g_dn _ (n) (fun i hi ih => ?_)
  have ih2 : i < n → Go mX8_sharedCost false Q 0 0 10 [(1, .int ((bd_sCst S) i (itr (bd_sCst S) i s0))), (2, .int (nI (i + 1))), (0, .ref 0)] [] (hp S) := ih
  have kx2 : i = n → Go mX8_sharedCost false Q 0 0 54 [(1, .int (itr (bd_sCst S) i s0)), (2, .int (nI i)), (0, .ref 0)] [] (hp S) := by
    rintro rfl
    exact kx
  clear ih kx
  revert ih2 kx2
  generalize itr (bd_sCst S) i s0 = p
  intro ih2 kx2
  have h24 := hT.2.1
  refine go_iload_n 11 dX8_sharedCost_10 rfl rfl ?_
  refine go_aload_n 12 dX8_sharedCost_11 rfl rfl ?_
  refine g_getR 15 dX8_sharedCost_12 rfl fF_RX8_10 ly_0 rfl ?_
  refine g_getI 18 dX8_sharedCost_15 rfl fF_RX8_98 ly_1 rfl ?_
  refine go_icmp_ge 21 54 dX8_sharedCost_18 rfl (by decide) (fun hc1 => ?_) (fun hc1 => ?_)
  · have hv : i = n := by
      have h8 := hc1
      rw [hT.1, nI_le2 (by omega) (by omega)] at h8
      omega
    refine go_ls [(1, .int _), (2, .int _), (0, .ref 0)] (List.forall_mem_cons.mpr ⟨rfl, List.forall_mem_cons.mpr ⟨rfl, List.forall_mem_cons.mpr ⟨rfl, fun _ h => absurd h List.not_mem_nil⟩⟩⟩) ?_
    exact kx2 hv
  · have hv : i < n := by
      have h8 := hc1
      rw [hT.1, nI_le2 (by omega) (by omega)] at h8
      omega
    clear hc1
    have hcl := nI_c (n := i) (by omega)
    refine go_aload_n 22 dX8_sharedCost_21 rfl rfl ?_
    refine g_getR 25 dX8_sharedCost_22 rfl fF_RX8_46 ly_0 rfl ?_
    refine g_getR 28 dX8_sharedCost_25 rfl fF_RX8_241 ly_44 rfl ?_
    refine go_iload_n 29 dX8_sharedCost_28 rfl rfl ?_
    refine g_iald2 30 i dX8_sharedCost_29 rfl ly_50 (nI_i (by have := hv; omega) (by omega)) hcl ?_
    refine go_if_ge 33 48 dX8_sharedCost_30 rfl (by decide) (fun hc2 => ?_) (fun hc2 => ?_)
    · refine go_iinc 51 [(2, .int _), (1, .int _), (0, .ref 0)] (nI (i + 1)) dX8_sharedCost_48 rfl (Nat.le_of_ble_eq_true rfl) rfl (nI_inc i) rfl ?_
      refine go_goto 10 dX8_sharedCost_51 (by decide) ?_
      refine go_ls [(1, .int _), (2, .int _), (0, .ref 0)] (List.forall_mem_cons.mpr ⟨rfl, List.forall_mem_cons.mpr ⟨rfl, List.forall_mem_cons.mpr ⟨rfl, fun _ h => absurd h List.not_mem_nil⟩⟩⟩) ?_
      refine g_l1 (a' := bd_sCst S i p) (by unfold bd_sCst; simp only [if_pos hc2]; try first | rfl | contradiction) ?_
      exact ih2 (by omega)
    · refine go_iload_n 34 dX8_sharedCost_33 rfl rfl ?_
      refine go_aload_n 35 dX8_sharedCost_34 rfl rfl ?_
      refine g_getR 38 dX8_sharedCost_35 rfl fF_RX8_39 ly_0 rfl ?_
      refine go_aload_n 39 dX8_sharedCost_38 rfl rfl ?_
      refine g_getR 42 dX8_sharedCost_39 rfl fF_RX8_10 ly_0 rfl ?_
      refine go_iload_n 43 dX8_sharedCost_42 rfl rfl ?_
      refine g_callV 46 [.ref 1, .int _] [.int _] dX8_sharedCost_43 rfl (ct_X7_costIn _ _ n hT hv) rfl sV_X8_sharedCost_195 rfl ly_40 rfl rfl (Nat.le_of_ble_eq_true rfl) (Nat.le_of_ble_eq_true rfl) (Nat.le_of_ble_eq_true rfl) ?_
      refine go_iadd 47 dX8_sharedCost_46 rfl ?_
      refine go_istore_n 48 [(1, .int _), (2, .int _), (0, .ref 0)] dX8_sharedCost_47 rfl (Nat.le_of_ble_eq_true rfl) rfl ?_
      refine go_iinc 51 [(2, .int _), (1, .int _), (0, .ref 0)] (nI (i + 1)) dX8_sharedCost_48 rfl (Nat.le_of_ble_eq_true rfl) rfl (nI_inc i) rfl ?_
      refine go_goto 10 dX8_sharedCost_51 (by decide) ?_
      refine go_ls [(1, .int _), (2, .int _), (0, .ref 0)] (List.forall_mem_cons.mpr ⟨rfl, List.forall_mem_cons.mpr ⟨rfl, List.forall_mem_cons.mpr ⟨rfl, fun _ h => absurd h List.not_mem_nil⟩⟩⟩) ?_
      refine g_l1 (a' := bd_sCst S i p) (by unfold bd_sCst; simp only [if_neg hc2]; try first | rfl | contradiction) ?_
      exact ih2 (by omega)

def f_X8_sharedCost (S : gS) (n : Nat) : Int32 := (itr (bd_sCst S) n ((f_X6_costOfAll S)))
set_option maxRecDepth 100000 in
set_option maxHeartbeats 1000000 in
theorem ct_X8_sharedCost (S : gS) (n : Nat) (ho : okC S n) (m : Nat) (hm : rI S 44 0 = nI m ∧ m ≤ 24) : gF mX8_sharedCost [.ref 0] S (some (.int (f_X8_sharedCost S n))) S := by
  refine go_enter [.ref 0] [(0, .ref 0)] (by decide +kernel) rfl rfl (Nat.le_of_ble_eq_true rfl) rfl ?_
  refine go_aload_n 1 dX8_sharedCost_0 rfl rfl ?_
  refine g_getR 4 dX8_sharedCost_1 rfl fF_RX8_46 ly_0 rfl ?_
  refine g_callV 7 [] [] dX8_sharedCost_4 rfl (ct_X6_costOfAll _ m hm) rfl sV_X8_sharedCost_347 rfl ly_44 rfl rfl (Nat.le_of_ble_eq_true rfl) (Nat.le_of_ble_eq_true rfl) (Nat.le_of_ble_eq_true rfl) ?_
  refine go_istore_n 8 [(1, .int _), (0, .ref 0)] dX8_sharedCost_7 rfl (Nat.le_of_ble_eq_true rfl) rfl ?_
  refine go_iconst 9 (0) dX8_sharedCost_8 rfl (by decide) ?_
  refine go_istore_n 10 [(2, .int _), (1, .int _), (0, .ref 0)] dX8_sharedCost_9 rfl (Nat.le_of_ble_eq_true rfl) rfl ?_
  refine go_ls [(1, .int _), (2, .int _), (0, .ref 0)] (List.forall_mem_cons.mpr ⟨rfl, List.forall_mem_cons.mpr ⟨rfl, List.forall_mem_cons.mpr ⟨rfl, fun _ h => absurd h List.not_mem_nil⟩⟩⟩) ?_
  refine lk_sCst S n _ ho ?_ 0 (Nat.zero_le _)
  refine go_iload_n 55 dX8_sharedCost_54 rfl rfl ?_
  refine go_ireturn dX8_sharedCost_55 rfl (by first | rfl | exact bi_nar) (Nat.le_of_ble_eq_true rfl) (Nat.le_of_ble_eq_true rfl) ?_
  exact ⟨congrArg (fun z => some (Value.int z)) (by unfold f_X8_sharedCost; first | done | (dsimp only; done) | rfl), rfl⟩

def f_X8_settleBoth (S : gS) (n : Nat) : gS := (f_X3_settleNarrowed (f_X3_settle S n) n)
set_option maxRecDepth 100000 in
set_option maxHeartbeats 1000000 in
theorem ct_X8_settleBoth (S : gS) (n : Nat) (ho : okC S n) : gF mX8_settleBoth [.ref 0] S none (f_X8_settleBoth S n) := by
  refine go_enter [.ref 0] [(0, .ref 0)] (by decide +kernel) rfl rfl (Nat.le_of_ble_eq_true rfl) rfl ?_
  refine go_aload_n 1 dX8_settleBoth_0 rfl rfl ?_
  refine g_getR 4 dX8_settleBoth_1 rfl fF_RX8_53 ly_0 rfl ?_
  refine go_aload_n 5 dX8_settleBoth_4 rfl rfl ?_
  refine g_getR 8 dX8_settleBoth_5 rfl fF_RX8_10 ly_0 rfl ?_
  refine go_aload_n 9 dX8_settleBoth_8 rfl rfl ?_
  refine g_getR 12 dX8_settleBoth_9 rfl fF_RX8_10 ly_0 rfl ?_
  refine g_getR 15 dX8_settleBoth_12 rfl fF_RX8_258 ly_1 rfl ?_
  refine g_callV0 18 [.ref 1, .ref 10] [] dX8_settleBoth_15 rfl (ct_X3_settle _ _ ho) rfl sV_X8_settleBoth_349 rfl ly_51 rfl rfl (Nat.le_of_ble_eq_true rfl) (Nat.le_of_ble_eq_true rfl) (Nat.le_of_ble_eq_true rfl) ?_
  refine go_aload_n 19 dX8_settleBoth_18 rfl rfl ?_
  refine g_getR 22 dX8_settleBoth_19 rfl fF_RX8_57 ly_0 rfl ?_
  refine go_aload_n 23 dX8_settleBoth_22 rfl rfl ?_
  refine g_getR 26 dX8_settleBoth_23 rfl fF_RX8_10 ly_0 rfl ?_
  refine go_aload_n 27 dX8_settleBoth_26 rfl rfl ?_
  refine g_getR 30 dX8_settleBoth_27 rfl fF_RX8_10 ly_0 rfl ?_
  refine g_getR 33 dX8_settleBoth_30 rfl fF_RX8_268 ly_1 rfl ?_
  refine go_aload_n 34 dX8_settleBoth_33 rfl rfl ?_
  refine g_getR 37 dX8_settleBoth_34 rfl fF_RX8_39 ly_0 rfl ?_
  refine g_callV0 40 [.ref 1, .ref 11, .ref 40] [] dX8_settleBoth_37 rfl (ct_X3_settleNarrowed _ _ (okC.of ho (fun a c h => fr_f_X3_settle (by omega) _ _))) rfl sV_X8_settleBoth_353 rfl ly_53 rfl rfl (Nat.le_of_ble_eq_true rfl) (Nat.le_of_ble_eq_true rfl) (Nat.le_of_ble_eq_true rfl) ?_
  refine go_return dX8_settleBoth_40 rfl (Nat.le_of_ble_eq_true rfl) (Nat.le_of_ble_eq_true rfl) ?_
  exact ⟨rfl, congrArg hp (by unfold f_X8_settleBoth; first | done | (dsimp only; done) | rfl)⟩
theorem fr_f_X8_settleBoth {a0 c0 : Nat} (h52 : a0 ≠ 52) (h54 : a0 ≠ 54) (S : gS) (n : Nat) : rI (f_X8_settleBoth S n) a0 c0 = rI S a0 c0 := by
  unfold f_X8_settleBoth
  first | (simp only [snd_ite, rI_ite, ite_self, rI_wIk h52, rI_wRk h52, rI_wIk h54, rI_wRk h54, fr_f_X3_settle h52, fr_f_X3_settleNarrowed h54]; done) | ((repeat' split) <;> first | rfl | simp only [rI_wIk h52, rI_wRk h52, rI_wIk h54, rI_wRk h54, fr_f_X3_settle h52, fr_f_X3_settleNarrowed h54] | (apply fr_f_X3_settle <;> assumption) | (apply fr_f_X3_settleNarrowed <;> assumption))

def bd_dOut (S : gS) (i : Nat) (p : Int32) : Int32 := (if (rI S 7 i) = 0 then p else (if (rI S 52 i) = (rI S 54 i) then p else (p + Int32.ofInt (1))))
set_option maxRecDepth 100000 in
set_option maxHeartbeats 1000000 in
theorem lk_dOut {Q : go_Q} (S : gS)  (n : Nat) (s0 : Int32)  (hT : okC S n) (kx : Go mX8_differingOutputs false Q 0 0 57 [(1, .int (itr (bd_dOut S) n s0)), (2, .int (nI n)), (0, .ref 0)] [] (hp S)) : ∀ i, i ≤ n → Go mX8_differingOutputs false Q 0 0 4 [(1, .int (itr (bd_dOut S) i s0)), (2, .int (nI i)), (0, .ref 0)] [] (hp S) := by
  refine g_dn _ (n) (fun i hi ih => ?_)
  have ih2 : i < n → Go mX8_differingOutputs false Q 0 0 4 [(1, .int ((bd_dOut S) i (itr (bd_dOut S) i s0))), (2, .int (nI (i + 1))), (0, .ref 0)] [] (hp S) := ih
  have kx2 : i = n → Go mX8_differingOutputs false Q 0 0 57 [(1, .int (itr (bd_dOut S) i s0)), (2, .int (nI i)), (0, .ref 0)] [] (hp S) := by
    rintro rfl
    exact kx
  clear ih kx
  revert ih2 kx2
  generalize itr (bd_dOut S) i s0 = p
  intro ih2 kx2
  have h24 := hT.2.1
  refine go_iload_n 5 dX8_differingOutputs_4 rfl rfl ?_
  refine go_aload_n 6 dX8_differingOutputs_5 rfl rfl ?_
  refine g_getR 9 dX8_differingOutputs_6 rfl fF_RX8_10 ly_0 rfl ?_
  refine g_getI 12 dX8_differingOutputs_9 rfl fF_RX8_98 ly_1 rfl ?_
  refine go_icmp_ge 15 57 dX8_differingOutputs_12 rfl (by decide) (fun hc1 => ?_) (fun hc1 => ?_)
  · have hv : i = n := by
      have h8 := hc1
      rw [hT.1, nI_le2 (by omega) (by omega)] at h8
      omega
    refine go_ls [(1, .int _), (2, .int _), (0, .ref 0)] (List.forall_mem_cons.mpr ⟨rfl, List.forall_mem_cons.mpr ⟨rfl, List.forall_mem_cons.mpr ⟨rfl, fun _ h => absurd h List.not_mem_nil⟩⟩⟩) ?_
    exact kx2 hv
  · have hv : i < n := by
      have h8 := hc1
      rw [hT.1, nI_le2 (by omega) (by omega)] at h8
      omega
    clear hc1
    have hcl := nI_c (n := i) (by omega)
    refine go_aload_n 16 dX8_differingOutputs_15 rfl rfl ?_
    refine g_getR 19 dX8_differingOutputs_16 rfl fF_RX8_10 ly_0 rfl ?_
    refine g_getR 22 dX8_differingOutputs_19 rfl fF_RX8_151 ly_1 rfl ?_
    refine go_iload_n 23 dX8_differingOutputs_22 rfl rfl ?_
    refine g_zald2 24 i dX8_differingOutputs_23 rfl ly_7 (nI_i (by have := hv; omega) (by omega)) hcl ?_
    refine go_if_eq 27 51 dX8_differingOutputs_24 rfl (by decide) (fun hc2 => ?_) (fun hc2 => ?_)
    · refine go_iinc 54 [(2, .int _), (1, .int _), (0, .ref 0)] (nI (i + 1)) dX8_differingOutputs_51 rfl (Nat.le_of_ble_eq_true rfl) rfl (nI_inc i) rfl ?_
      refine go_goto 4 dX8_differingOutputs_54 (by decide) ?_
      refine go_ls [(1, .int _), (2, .int _), (0, .ref 0)] (List.forall_mem_cons.mpr ⟨rfl, List.forall_mem_cons.mpr ⟨rfl, List.forall_mem_cons.mpr ⟨rfl, fun _ h => absurd h List.not_mem_nil⟩⟩⟩) ?_
      refine g_l1 (a' := bd_dOut S i p) (by unfold bd_dOut; simp only [if_pos hc2]; try first | rfl | contradiction) ?_
      exact ih2 (by omega)
    · refine go_aload_n 28 dX8_differingOutputs_27 rfl rfl ?_
      refine g_getR 31 dX8_differingOutputs_28 rfl fF_RX8_53 ly_0 rfl ?_
      refine g_getR 34 dX8_differingOutputs_31 rfl fF_RX8_261 ly_51 rfl ?_
      refine go_iload_n 35 dX8_differingOutputs_34 rfl rfl ?_
      refine g_iald2 36 i dX8_differingOutputs_35 rfl ly_52 (nI_i (by have := hv; omega) (by omega)) hcl ?_
      refine go_aload_n 37 dX8_differingOutputs_36 rfl rfl ?_
      refine g_getR 40 dX8_differingOutputs_37 rfl fF_RX8_57 ly_0 rfl ?_
      refine g_getR 43 dX8_differingOutputs_40 rfl fF_RX8_261 ly_53 rfl ?_
      refine go_iload_n 44 dX8_differingOutputs_43 rfl rfl ?_
      refine g_iald2 45 i dX8_differingOutputs_44 rfl ly_54 (nI_i (by have := hv; omega) (by omega)) hcl ?_
      refine go_icmp_eq 48 51 dX8_differingOutputs_45 rfl (by decide) (fun hc3 => ?_) (fun hc3 => ?_)
      · refine go_iinc 54 [(2, .int _), (1, .int _), (0, .ref 0)] (nI (i + 1)) dX8_differingOutputs_51 rfl (Nat.le_of_ble_eq_true rfl) rfl (nI_inc i) rfl ?_
        refine go_goto 4 dX8_differingOutputs_54 (by decide) ?_
        refine go_ls [(1, .int _), (2, .int _), (0, .ref 0)] (List.forall_mem_cons.mpr ⟨rfl, List.forall_mem_cons.mpr ⟨rfl, List.forall_mem_cons.mpr ⟨rfl, fun _ h => absurd h List.not_mem_nil⟩⟩⟩) ?_
        refine g_l1 (a' := bd_dOut S i p) (by unfold bd_dOut; simp only [if_neg hc2, if_pos hc3]; try first | rfl | contradiction) ?_
        exact ih2 (by omega)
      · refine go_iinc 51 [(1, .int _), (2, .int _), (0, .ref 0)] _ dX8_differingOutputs_48 rfl (Nat.le_of_ble_eq_true rfl) rfl rfl rfl ?_
        refine go_iinc 54 [(2, .int _), (1, .int _), (0, .ref 0)] (nI (i + 1)) dX8_differingOutputs_51 rfl (Nat.le_of_ble_eq_true rfl) rfl (nI_inc i) rfl ?_
        refine go_goto 4 dX8_differingOutputs_54 (by decide) ?_
        refine go_ls [(1, .int _), (2, .int _), (0, .ref 0)] (List.forall_mem_cons.mpr ⟨rfl, List.forall_mem_cons.mpr ⟨rfl, List.forall_mem_cons.mpr ⟨rfl, fun _ h => absurd h List.not_mem_nil⟩⟩⟩) ?_
        refine g_l1 (a' := bd_dOut S i p) (by unfold bd_dOut; simp only [if_neg hc2, if_neg hc3]; try first | rfl | contradiction) ?_
        exact ih2 (by omega)

def f_X8_differingOutputs (S : gS) (n : Nat) : Int32 := (itr (bd_dOut S) n 0)
set_option maxRecDepth 100000 in
set_option maxHeartbeats 1000000 in
theorem ct_X8_differingOutputs (S : gS) (n : Nat) (ho : okC S n) : gF mX8_differingOutputs [.ref 0] S (some (.int (f_X8_differingOutputs S n))) S := by
  refine go_enter [.ref 0] [(0, .ref 0)] (by decide +kernel) rfl rfl (Nat.le_of_ble_eq_true rfl) rfl ?_
  refine go_iconst 1 (0) dX8_differingOutputs_0 rfl (by decide) ?_
  refine go_istore_n 2 [(1, .int _), (0, .ref 0)] dX8_differingOutputs_1 rfl (Nat.le_of_ble_eq_true rfl) rfl ?_
  refine go_iconst 3 (0) dX8_differingOutputs_2 rfl (by decide) ?_
  refine go_istore_n 4 [(2, .int _), (1, .int _), (0, .ref 0)] dX8_differingOutputs_3 rfl (Nat.le_of_ble_eq_true rfl) rfl ?_
  refine go_ls [(1, .int _), (2, .int _), (0, .ref 0)] (List.forall_mem_cons.mpr ⟨rfl, List.forall_mem_cons.mpr ⟨rfl, List.forall_mem_cons.mpr ⟨rfl, fun _ h => absurd h List.not_mem_nil⟩⟩⟩) ?_
  refine lk_dOut S n _ ho ?_ 0 (Nat.zero_le _)
  refine go_iload_n 58 dX8_differingOutputs_57 rfl rfl ?_
  refine go_ireturn dX8_differingOutputs_58 rfl (by first | rfl | exact bi_nar) (Nat.le_of_ble_eq_true rfl) (Nat.le_of_ble_eq_true rfl) ?_
  exact ⟨congrArg (fun z => some (Value.int z)) (by unfold f_X8_differingOutputs; first | done | (dsimp only; done) | rfl), rfl⟩

def f_X8_refuse (S : gS) (i c r : Int32) : Int32 × gS := (0, (f_X1_addCause (f_X1_become S i 3 ((rI S 1 0))) c r))
set_option maxRecDepth 100000 in
set_option maxHeartbeats 1000000 in
theorem ct_X8_refuse (S : gS) (i c r : Int32)  : gF mX8_refuse [.ref 0, .int i, .int c, .int r] S (some (.int (f_X8_refuse S i c r).1)) (f_X8_refuse S i c r).2 := by
  refine go_enter [.ref 0, .int i, .int c, .int r] [(0, .ref 0), (1, .int i), (2, .int c), (3, .int r)] (by decide +kernel) rfl rfl (Nat.le_of_ble_eq_true rfl) rfl ?_
  refine go_aload_n 1 dX8_refuse_0 rfl rfl ?_
  refine g_getR 4 dX8_refuse_1 rfl fF_RX8_70 ly_0 rfl ?_
  refine go_iload_n 5 dX8_refuse_4 rfl rfl ?_
  refine go_iconst 6 (3) dX8_refuse_5 rfl (by decide) ?_
  refine go_aload_n 7 dX8_refuse_6 rfl rfl ?_
  refine g_getR 10 dX8_refuse_7 rfl fF_RX8_10 ly_0 rfl ?_
  refine g_getI 13 dX8_refuse_10 rfl fF_RX8_98 ly_1 rfl ?_
  refine g_callV0 16 [.int _, .int _, .int _] [] dX8_refuse_13 rfl (ct_X1_become _ _ _ _) rfl sV_X8_refuse_300 rfl ly_112 rfl rfl (Nat.le_of_ble_eq_true rfl) (Nat.le_of_ble_eq_true rfl) (Nat.le_of_ble_eq_true rfl) ?_
  refine go_aload_n 17 dX8_refuse_16 rfl rfl ?_
  refine g_getR 20 dX8_refuse_17 rfl fF_RX8_70 ly_0 rfl ?_
  refine go_iload_n 21 dX8_refuse_20 rfl rfl ?_
  refine go_iload_n 22 dX8_refuse_21 rfl rfl ?_
  refine g_callV0 25 [.int _, .int _] [] dX8_refuse_22 rfl (ct_X1_addCause _ _ _) rfl sV_X8_refuse_372 rfl ly_112 rfl rfl (Nat.le_of_ble_eq_true rfl) (Nat.le_of_ble_eq_true rfl) (Nat.le_of_ble_eq_true rfl) ?_
  refine go_iconst 26 (0) dX8_refuse_25 rfl (by decide) ?_
  refine go_ireturn dX8_refuse_26 rfl (by first | rfl | exact bi_nar) (Nat.le_of_ble_eq_true rfl) (Nat.le_of_ble_eq_true rfl) ?_
  exact ⟨congrArg (fun z => some (Value.int z)) (by unfold f_X8_refuse; first | done | (dsimp only; done) | rfl), congrArg hp (by unfold f_X8_refuse; first | done | (dsimp only; done) | rfl)⟩
theorem fr_f_X8_refuse {a0 c0 : Nat} (h112_0 : ¬ (a0 = 112 ∧ c0 = 0)) (h113 : a0 ≠ 113) (h114 : a0 ≠ 114) (S : gS) (i c r : Int32) : rI (f_X8_refuse S i c r).2 a0 c0 = rI S a0 c0 := by
  unfold f_X8_refuse
  first | (simp only [snd_ite, rI_ite, ite_self, rI_wIc h112_0, rI_wIk h113, rI_wRk h113, rI_wIk h114, rI_wRk h114, fr_f_X1_addCause h112_0 h113 h114, fr_f_X1_become h112_0 h113 h114]; done) | ((repeat' split) <;> first | rfl | simp only [rI_wIc h112_0, rI_wIk h113, rI_wRk h113, rI_wIk h114, rI_wRk h114, fr_f_X1_addCause h112_0 h113 h114, fr_f_X1_become h112_0 h113 h114] | (apply fr_f_X1_addCause <;> assumption) | (apply fr_f_X1_become <;> assumption))

theorem zo_f_X8_refuse (S : gS) (i c r : Int32) : (f_X8_refuse S i c r).1 = 0 ∨ (f_X8_refuse S i c r).1 = 1 := by
  unfold f_X8_refuse
  (repeat' split) <;> dsimp only <;> first | exact Or.inl rfl | exact Or.inr rfl
theorem nb_f_X8_refuse (S : gS) (i c r : Int32) : narrow .boolean (.int (f_X8_refuse S i c r).1) = .int (f_X8_refuse S i c r).1 := by
  rcases zo_f_X8_refuse _ _ _ _ with e | e <;> rw [e] <;> rfl

