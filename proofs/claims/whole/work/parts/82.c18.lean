-- needs 
def f_X9_saveSnapshot (S : gS)  : Int32 × gS := ((rI (f_pass01 (wI (wI S 115 0 0) 115 42 1)) 115 10), (f_pass01 (wI (wI S 115 0 0) 115 42 1)))
set_option maxRecDepth 100000 in
set_option maxHeartbeats 1000000 in
theorem ct_X9_saveSnapshot (S : gS)   : gF mX9_saveSnapshot [.ref 115] S (some (.int (f_X9_saveSnapshot S).1)) (f_X9_saveSnapshot S).2 := by
  refine go_enter [.ref 115] [(0, .ref 115)] (by decide +kernel) rfl rfl (Nat.le_of_ble_eq_true rfl) rfl ?_
  refine go_aload_n 1 dX9_saveSnapshot_0 rfl rfl ?_
  refine go_iconst 2 (0) dX9_saveSnapshot_1 rfl (by decide) ?_
  refine g_putI 5 dX9_saveSnapshot_2 rfl fF_RX9_98 ly_115 rfl (fun q hq => by cases hq; rfl) rfl rfl ?_
  refine go_aload_n 6 dX9_saveSnapshot_5 rfl rfl ?_
  refine go_iconst 7 (1) dX9_saveSnapshot_6 rfl (by decide) ?_
  refine g_putI 10 dX9_saveSnapshot_7 rfl fF_RX9_376 ly_115 rfl (fun q hq => by cases hq; rfl) rfl rfl ?_
  refine go_aload_n 11 dX9_saveSnapshot_10 rfl rfl ?_
  refine go_iconst 12 (0) dX9_saveSnapshot_11 rfl (by decide) ?_
  refine go_iconst 13 (1) dX9_saveSnapshot_12 rfl (by decide) ?_
  refine g_callV0 16 [.int _, .int _] [] dX9_saveSnapshot_13 rfl (ct_pass01 _) rfl sV_X9_saveSnapshot_353 rfl ly_115 rfl rfl (Nat.le_of_ble_eq_true rfl) (Nat.le_of_ble_eq_true rfl) (Nat.le_of_ble_eq_true rfl) ?_
  refine go_aload_n 17 dX9_saveSnapshot_16 rfl rfl ?_
  refine g_getI 20 dX9_saveSnapshot_17 rfl fF_RX9_102 ly_115 rfl ?_
  refine go_ireturn dX9_saveSnapshot_20 rfl (by first | rfl | exact bi_nar) (Nat.le_of_ble_eq_true rfl) (Nat.le_of_ble_eq_true rfl) ?_
  exact ⟨congrArg (fun z => some (Value.int z)) (by unfold f_X9_saveSnapshot; first | done | (dsimp only; done) | rfl), congrArg hp (by unfold f_X9_saveSnapshot; first | done | (dsimp only; done) | rfl)⟩

def f_X9_restoreSnapshot (S : gS)  : Int32 × gS := (if (rI S 115 42) = 0 then ((flF S 1).1, (flF S 1).2) else ((rI (f_pass00 (wI S 115 0 0)) 115 10), (f_pass00 (wI S 115 0 0))))
set_option maxRecDepth 100000 in
set_option maxHeartbeats 1000000 in
theorem ct_X9_restoreSnapshot (S : gS)   : gF mX9_restoreSnapshot [.ref 115] S (some (.int (f_X9_restoreSnapshot S).1)) (f_X9_restoreSnapshot S).2 := by
  refine go_enter [.ref 115] [(0, .ref 115)] (by decide +kernel) rfl rfl (Nat.le_of_ble_eq_true rfl) rfl ?_
  refine go_aload_n 1 dX9_restoreSnapshot_0 rfl rfl ?_
  refine g_getI 4 dX9_restoreSnapshot_1 rfl fF_RX9_376 ly_115 rfl ?_
  refine go_if_ne 7 13 dX9_restoreSnapshot_4 rfl (by decide) (fun hc1 => ?_) (fun hc1 => ?_)
  · refine go_aload_n 14 dX9_restoreSnapshot_13 rfl rfl ?_
    refine go_iconst 15 (0) dX9_restoreSnapshot_14 rfl (by decide) ?_
    refine g_putI 18 dX9_restoreSnapshot_15 rfl fF_RX9_98 ly_115 rfl (fun q hq => by cases hq; rfl) rfl rfl ?_
    refine go_aload_n 19 dX9_restoreSnapshot_18 rfl rfl ?_
    refine go_iconst 20 (0) dX9_restoreSnapshot_19 rfl (by decide) ?_
    refine go_iconst 21 (0) dX9_restoreSnapshot_20 rfl (by decide) ?_
    refine g_callV0 24 [.int _, .int _] [] dX9_restoreSnapshot_21 rfl (ct_pass00 _) rfl sV_X9_restoreSnapshot_353 rfl ly_115 rfl rfl (Nat.le_of_ble_eq_true rfl) (Nat.le_of_ble_eq_true rfl) (Nat.le_of_ble_eq_true rfl) ?_
    refine go_aload_n 25 dX9_restoreSnapshot_24 rfl rfl ?_
    refine g_getI 28 dX9_restoreSnapshot_25 rfl fF_RX9_102 ly_115 rfl ?_
    refine go_ireturn dX9_restoreSnapshot_28 rfl (by first | rfl | exact bi_nar) (Nat.le_of_ble_eq_true rfl) (Nat.le_of_ble_eq_true rfl) ?_
    exact ⟨congrArg (fun z => some (Value.int z)) (by unfold f_X9_restoreSnapshot; simp only [if_neg hc1]; try first | rfl | contradiction), congrArg hp (by unfold f_X9_restoreSnapshot; simp only [if_neg hc1]; try first | rfl | contradiction)⟩
  · refine go_aload_n 8 dX9_restoreSnapshot_7 rfl rfl ?_
    refine go_iconst 9 (1) dX9_restoreSnapshot_8 rfl (by decide) ?_
    refine g_callV 12 [.int _] [] dX9_restoreSnapshot_9 rfl (ct_fl _ _) rfl sV_X9_restoreSnapshot_132 rfl ly_115 rfl rfl (Nat.le_of_ble_eq_true rfl) (Nat.le_of_ble_eq_true rfl) (Nat.le_of_ble_eq_true rfl) ?_
    refine go_ireturn dX9_restoreSnapshot_12 rfl (by first | rfl | exact bi_nar) (Nat.le_of_ble_eq_true rfl) (Nat.le_of_ble_eq_true rfl) ?_
    exact ⟨congrArg (fun z => some (Value.int z)) (by unfold f_X9_restoreSnapshot; simp only [if_pos hc1]; try first | rfl | contradiction), congrArg hp (by unfold f_X9_restoreSnapshot; simp only [if_pos hc1]; try first | rfl | contradiction)⟩

def bd_cpo12_1 (i : Nat) (p : gS) : gS := (wI p 18 i ((vp_nar .boolean ((rI p 7 i)))))
set_option maxRecDepth 100000 in
set_option maxHeartbeats 1000000 in
theorem lk_cpo12_1 {Q : go_Q}   (s0 : gS)  (hI : ∀ i, i ≤ 24 → True) (kx : Go mX0_copyFrom false Q 0 0 141 [(2, .int (nI 24)), (0, .ref 12), (1, .ref 1)] [] (hp (itr (bd_cpo12_1) 24 s0))) : ∀ i, i ≤ 24 → Go mX0_copyFrom false Q 0 0 117 [(2, .int (nI i)), (0, .ref 12), (1, .ref 1)] [] (hp (itr (bd_cpo12_1) i s0)) := by
  refine g_dn _ (24) (fun i hi ih => ?_)
  have hT := hI i hi
  have ih2 : i < 24 → Go mX0_copyFrom false Q 0 0 117 [(2, .int (nI (i + 1))), (0, .ref 12), (1, .ref 1)] [] (hp ((bd_cpo12_1) i (itr (bd_cpo12_1) i s0))) := ih
  have kx2 : i = 24 → Go mX0_copyFrom false Q 0 0 141 [(2, .int (nI i)), (0, .ref 12), (1, .ref 1)] [] (hp (itr (bd_cpo12_1) i s0)) := by
    rintro rfl
    exact kx
  clear ih kx hI
  revert hT ih2 kx2
  generalize itr (bd_cpo12_1) i s0 = p
  intro hT ih2 kx2
  refine go_iload_n 118 dX0_copyFrom_117 rfl rfl ?_
  refine go_bipush 120 (24) dX0_copyFrom_118 rfl (by decide) ?_
  refine go_icmp_ge 123 141 dX0_copyFrom_120 rfl (by decide) (fun hc1 => ?_) (fun hc1 => ?_)
  · have hv : i = 24 := by
      have h8 := hc1
      rw [show (24 : Int32) = nI 24 from rfl, nI_le2 (by omega) (by omega)] at h8
      omega
    refine go_ls [(2, .int _), (0, .ref 12), (1, .ref 1)] (List.forall_mem_cons.mpr ⟨rfl, List.forall_mem_cons.mpr ⟨rfl, List.forall_mem_cons.mpr ⟨rfl, fun _ h => absurd h List.not_mem_nil⟩⟩⟩) ?_
    exact kx2 hv
  · have hv : i < 24 := by
      have h8 := hc1
      rw [show (24 : Int32) = nI 24 from rfl, nI_le2 (by omega) (by omega)] at h8
      omega
    clear hc1
    have hcl := nI_c (n := i) (by omega)
    refine go_aload_n 124 dX0_copyFrom_123 rfl rfl ?_
    refine g_getR 127 dX0_copyFrom_124 rfl fF_RX0_34 ly_12 rfl ?_
    refine go_iload_n 128 dX0_copyFrom_127 rfl rfl ?_
    refine go_aload_n 129 dX0_copyFrom_128 rfl rfl ?_
    refine g_getR 132 dX0_copyFrom_129 rfl fF_RX0_34 ly_1 rfl ?_
    refine go_iload_n 133 dX0_copyFrom_132 rfl rfl ?_
    refine g_zald2 134 i dX0_copyFrom_133 rfl ly_7 (nI_i (by have := hv; omega) (by omega)) hcl ?_
    refine g_zast2 135 i dX0_copyFrom_134 rfl ly_18 (nI_i (by have := hv; omega) (by omega)) hcl ?_
    refine go_iinc 138 [(2, .int _), (0, .ref 12), (1, .ref 1)] (nI (i + 1)) dX0_copyFrom_135 rfl (Nat.le_of_ble_eq_true rfl) rfl (nI_inc i) rfl ?_
    refine go_goto 117 dX0_copyFrom_138 (by decide) ?_
    refine go_ls [(2, .int _), (0, .ref 12), (1, .ref 1)] (List.forall_mem_cons.mpr ⟨rfl, List.forall_mem_cons.mpr ⟨rfl, List.forall_mem_cons.mpr ⟨rfl, fun _ h => absurd h List.not_mem_nil⟩⟩⟩) ?_
    refine g_st (T := bd_cpo12_1 i p) (by try rfl) (ih2 (by omega))
theorem fr_bd_cpo12_1 {a0 c0 : Nat} (h18 : a0 ≠ 18) (i : Nat) (p : gS) : rI (bd_cpo12_1 i p) a0 c0 = rI p a0 c0 := by
  unfold bd_cpo12_1
  first | (simp only [snd_ite, rI_ite, ite_self, rI_wIk h18, rI_wRk h18]; done) | ((repeat' split) <;> first | rfl | simp only [rI_wIk h18, rI_wRk h18])
theorem fr_lp_cpo12_1 {a0 c0 : Nat} (h18 : a0 ≠ 18)  (n : Nat) (p : gS) : rI (itr (bd_cpo12_1) n p) a0 c0 = rI p a0 c0 := by
  induction n with
  | zero => rfl
  | succ n ih => exact (fr_bd_cpo12_1 h18 _ _).trans ih

def f_copy12_1 (S : gS)  : gS := (itr (bd_cpo12_1) 24 (f_X0_copyRow (f_X0_copyRow (f_X0_copyRow (f_X0_copyRow (f_X0_copyRow (f_X0_copyRow (f_X0_copyRow (f_X0_copyRow (f_X0_copyRow (wI (wI S 12 0 ((rI S 1 0))) 12 1 ((rI S 1 1))) 2 13) 3 14) 4 15) 5 16) 6 17) 8 19) 9 20) 10 21) 11 22))
set_option maxRecDepth 100000 in
set_option maxHeartbeats 1000000 in
theorem ct_copy12_1 (S : gS)   : gF mX0_copyFrom [.ref 12, .ref 1] S none (f_copy12_1 S) := by
  refine go_enter [.ref 12, .ref 1] [(0, .ref 12), (1, .ref 1)] (by decide +kernel) rfl rfl (Nat.le_of_ble_eq_true rfl) rfl ?_
  refine go_aload_n 1 dX0_copyFrom_0 rfl rfl ?_
  refine go_aload_n 2 dX0_copyFrom_1 rfl rfl ?_
  refine g_getI 5 dX0_copyFrom_2 rfl fF_RX0_9 ly_1 rfl ?_
  refine g_putI 8 dX0_copyFrom_5 rfl fF_RX0_9 ly_12 rfl (fun q hq => by cases hq; rfl) rfl rfl ?_
  refine go_aload_n 9 dX0_copyFrom_8 rfl rfl ?_
  refine go_aload_n 10 dX0_copyFrom_9 rfl rfl ?_
  refine g_getI 13 dX0_copyFrom_10 rfl fF_RX0_15 ly_1 rfl ?_
  refine go_topi (rI S 1 1) (rI_wIk (by decide) _ _ _) ?_
  refine g_putI 16 dX0_copyFrom_13 rfl fF_RX0_15 ly_12 rfl (fun q hq => by cases hq; rfl) rfl rfl ?_
  refine go_aload_n 17 dX0_copyFrom_16 rfl rfl ?_
  refine g_getR 20 dX0_copyFrom_17 rfl fF_RX0_18 ly_1 rfl ?_
  refine go_aload_n 21 dX0_copyFrom_20 rfl rfl ?_
  refine g_getR 24 dX0_copyFrom_21 rfl fF_RX0_18 ly_12 rfl ?_
  refine g_callS0 27 [.ref 2, .ref 13] [] dX0_copyFrom_24 rfl (ct_X0_copyRow _ _ _ ly_2 ly_13) rfl sV_X0_copyFrom_57 rfl (Nat.le_of_ble_eq_true rfl) (Nat.le_of_ble_eq_true rfl) (Nat.le_of_ble_eq_true rfl) ?_
  refine go_aload_n 28 dX0_copyFrom_27 rfl rfl ?_
  refine g_getR 31 dX0_copyFrom_28 rfl fF_RX0_22 ly_1 rfl ?_
  refine go_aload_n 32 dX0_copyFrom_31 rfl rfl ?_
  refine g_getR 35 dX0_copyFrom_32 rfl fF_RX0_22 ly_12 rfl ?_
  refine g_callS0 38 [.ref 3, .ref 14] [] dX0_copyFrom_35 rfl (ct_X0_copyRow _ _ _ ly_3 ly_14) rfl sV_X0_copyFrom_57 rfl (Nat.le_of_ble_eq_true rfl) (Nat.le_of_ble_eq_true rfl) (Nat.le_of_ble_eq_true rfl) ?_
  refine go_aload_n 39 dX0_copyFrom_38 rfl rfl ?_
  refine g_getR 42 dX0_copyFrom_39 rfl fF_RX0_25 ly_1 rfl ?_
  refine go_aload_n 43 dX0_copyFrom_42 rfl rfl ?_
  refine g_getR 46 dX0_copyFrom_43 rfl fF_RX0_25 ly_12 rfl ?_
  refine g_callS0 49 [.ref 4, .ref 15] [] dX0_copyFrom_46 rfl (ct_X0_copyRow _ _ _ ly_4 ly_15) rfl sV_X0_copyFrom_57 rfl (Nat.le_of_ble_eq_true rfl) (Nat.le_of_ble_eq_true rfl) (Nat.le_of_ble_eq_true rfl) ?_
  refine go_aload_n 50 dX0_copyFrom_49 rfl rfl ?_
  refine g_getR 53 dX0_copyFrom_50 rfl fF_RX0_28 ly_1 rfl ?_
  refine go_aload_n 54 dX0_copyFrom_53 rfl rfl ?_
  refine g_getR 57 dX0_copyFrom_54 rfl fF_RX0_28 ly_12 rfl ?_
  refine g_callS0 60 [.ref 5, .ref 16] [] dX0_copyFrom_57 rfl (ct_X0_copyRow _ _ _ ly_5 ly_16) rfl sV_X0_copyFrom_57 rfl (Nat.le_of_ble_eq_true rfl) (Nat.le_of_ble_eq_true rfl) (Nat.le_of_ble_eq_true rfl) ?_
  refine go_aload_n 61 dX0_copyFrom_60 rfl rfl ?_
  refine g_getR 64 dX0_copyFrom_61 rfl fF_RX0_31 ly_1 rfl ?_
  refine go_aload_n 65 dX0_copyFrom_64 rfl rfl ?_
  refine g_getR 68 dX0_copyFrom_65 rfl fF_RX0_31 ly_12 rfl ?_
  refine g_callS0 71 [.ref 6, .ref 17] [] dX0_copyFrom_68 rfl (ct_X0_copyRow _ _ _ ly_6 ly_17) rfl sV_X0_copyFrom_57 rfl (Nat.le_of_ble_eq_true rfl) (Nat.le_of_ble_eq_true rfl) (Nat.le_of_ble_eq_true rfl) ?_
  refine go_aload_n 72 dX0_copyFrom_71 rfl rfl ?_
  refine g_getR 75 dX0_copyFrom_72 rfl fF_RX0_38 ly_1 rfl ?_
  refine go_aload_n 76 dX0_copyFrom_75 rfl rfl ?_
  refine g_getR 79 dX0_copyFrom_76 rfl fF_RX0_38 ly_12 rfl ?_
  refine g_callS0 82 [.ref 8, .ref 19] [] dX0_copyFrom_79 rfl (ct_X0_copyRow _ _ _ ly_8 ly_19) rfl sV_X0_copyFrom_57 rfl (Nat.le_of_ble_eq_true rfl) (Nat.le_of_ble_eq_true rfl) (Nat.le_of_ble_eq_true rfl) ?_
  refine go_aload_n 83 dX0_copyFrom_82 rfl rfl ?_
  refine g_getR 86 dX0_copyFrom_83 rfl fF_RX0_41 ly_1 rfl ?_
  refine go_aload_n 87 dX0_copyFrom_86 rfl rfl ?_
  refine g_getR 90 dX0_copyFrom_87 rfl fF_RX0_41 ly_12 rfl ?_
  refine g_callS0 93 [.ref 9, .ref 20] [] dX0_copyFrom_90 rfl (ct_X0_copyRow _ _ _ ly_9 ly_20) rfl sV_X0_copyFrom_57 rfl (Nat.le_of_ble_eq_true rfl) (Nat.le_of_ble_eq_true rfl) (Nat.le_of_ble_eq_true rfl) ?_
  refine go_aload_n 94 dX0_copyFrom_93 rfl rfl ?_
  refine g_getR 97 dX0_copyFrom_94 rfl fF_RX0_44 ly_1 rfl ?_
  refine go_aload_n 98 dX0_copyFrom_97 rfl rfl ?_
  refine g_getR 101 dX0_copyFrom_98 rfl fF_RX0_44 ly_12 rfl ?_
  refine g_callS0 104 [.ref 10, .ref 21] [] dX0_copyFrom_101 rfl (ct_X0_copyRow _ _ _ ly_10 ly_21) rfl sV_X0_copyFrom_57 rfl (Nat.le_of_ble_eq_true rfl) (Nat.le_of_ble_eq_true rfl) (Nat.le_of_ble_eq_true rfl) ?_
  refine go_aload_n 105 dX0_copyFrom_104 rfl rfl ?_
  refine g_getR 108 dX0_copyFrom_105 rfl fF_RX0_47 ly_1 rfl ?_
  refine go_aload_n 109 dX0_copyFrom_108 rfl rfl ?_
  refine g_getR 112 dX0_copyFrom_109 rfl fF_RX0_47 ly_12 rfl ?_
  refine g_callS0 115 [.ref 11, .ref 22] [] dX0_copyFrom_112 rfl (ct_X0_copyRow _ _ _ ly_11 ly_22) rfl sV_X0_copyFrom_57 rfl (Nat.le_of_ble_eq_true rfl) (Nat.le_of_ble_eq_true rfl) (Nat.le_of_ble_eq_true rfl) ?_
  refine go_iconst 116 (0) dX0_copyFrom_115 rfl (by decide) ?_
  refine go_istore_n 117 [(2, .int _), (0, .ref 12), (1, .ref 1)] dX0_copyFrom_116 rfl (Nat.le_of_ble_eq_true rfl) rfl ?_
  refine go_ls [(2, .int _), (0, .ref 12), (1, .ref 1)] (List.forall_mem_cons.mpr ⟨rfl, List.forall_mem_cons.mpr ⟨rfl, List.forall_mem_cons.mpr ⟨rfl, fun _ h => absurd h List.not_mem_nil⟩⟩⟩) ?_
  refine lk_cpo12_1 _ (fun _ _ => trivial) ?_ 0 (Nat.zero_le _)
  refine go_return dX0_copyFrom_141 rfl (Nat.le_of_ble_eq_true rfl) (Nat.le_of_ble_eq_true rfl) ?_
  exact ⟨rfl, congrArg hp (by unfold f_copy12_1; first | done | (dsimp only; done) | rfl)⟩

def bd_cpo23_1 (i : Nat) (p : gS) : gS := (wI p 29 i ((vp_nar .boolean ((rI p 7 i)))))
set_option maxRecDepth 100000 in
set_option maxHeartbeats 1000000 in
theorem lk_cpo23_1 {Q : go_Q}   (s0 : gS)  (hI : ∀ i, i ≤ 24 → True) (kx : Go mX0_copyFrom false Q 0 0 141 [(2, .int (nI 24)), (0, .ref 23), (1, .ref 1)] [] (hp (itr (bd_cpo23_1) 24 s0))) : ∀ i, i ≤ 24 → Go mX0_copyFrom false Q 0 0 117 [(2, .int (nI i)), (0, .ref 23), (1, .ref 1)] [] (hp (itr (bd_cpo23_1) i s0)) := by
  refine g_dn _ (24) (fun i hi ih => ?_)
  have hT := hI i hi
  have ih2 : i < 24 → Go mX0_copyFrom false Q 0 0 117 [(2, .int (nI (i + 1))), (0, .ref 23), (1, .ref 1)] [] (hp ((bd_cpo23_1) i (itr (bd_cpo23_1) i s0))) := ih
  have kx2 : i = 24 → Go mX0_copyFrom false Q 0 0 141 [(2, .int (nI i)), (0, .ref 23), (1, .ref 1)] [] (hp (itr (bd_cpo23_1) i s0)) := by
    rintro rfl
    exact kx
  clear ih kx hI
  revert hT ih2 kx2
  generalize itr (bd_cpo23_1) i s0 = p
  intro hT ih2 kx2
  refine go_iload_n 118 dX0_copyFrom_117 rfl rfl ?_
  refine go_bipush 120 (24) dX0_copyFrom_118 rfl (by decide) ?_
  refine go_icmp_ge 123 141 dX0_copyFrom_120 rfl (by decide) (fun hc1 => ?_) (fun hc1 => ?_)
  · have hv : i = 24 := by
      have h8 := hc1
      rw [show (24 : Int32) = nI 24 from rfl, nI_le2 (by omega) (by omega)] at h8
      omega
    refine go_ls [(2, .int _), (0, .ref 23), (1, .ref 1)] (List.forall_mem_cons.mpr ⟨rfl, List.forall_mem_cons.mpr ⟨rfl, List.forall_mem_cons.mpr ⟨rfl, fun _ h => absurd h List.not_mem_nil⟩⟩⟩) ?_
    exact kx2 hv
  · have hv : i < 24 := by
      have h8 := hc1
      rw [show (24 : Int32) = nI 24 from rfl, nI_le2 (by omega) (by omega)] at h8
      omega
    clear hc1
    have hcl := nI_c (n := i) (by omega)
    refine go_aload_n 124 dX0_copyFrom_123 rfl rfl ?_
    refine g_getR 127 dX0_copyFrom_124 rfl fF_RX0_34 ly_23 rfl ?_
    refine go_iload_n 128 dX0_copyFrom_127 rfl rfl ?_
    refine go_aload_n 129 dX0_copyFrom_128 rfl rfl ?_
    refine g_getR 132 dX0_copyFrom_129 rfl fF_RX0_34 ly_1 rfl ?_
    refine go_iload_n 133 dX0_copyFrom_132 rfl rfl ?_
    refine g_zald2 134 i dX0_copyFrom_133 rfl ly_7 (nI_i (by have := hv; omega) (by omega)) hcl ?_
    refine g_zast2 135 i dX0_copyFrom_134 rfl ly_29 (nI_i (by have := hv; omega) (by omega)) hcl ?_
    refine go_iinc 138 [(2, .int _), (0, .ref 23), (1, .ref 1)] (nI (i + 1)) dX0_copyFrom_135 rfl (Nat.le_of_ble_eq_true rfl) rfl (nI_inc i) rfl ?_
    refine go_goto 117 dX0_copyFrom_138 (by decide) ?_
    refine go_ls [(2, .int _), (0, .ref 23), (1, .ref 1)] (List.forall_mem_cons.mpr ⟨rfl, List.forall_mem_cons.mpr ⟨rfl, List.forall_mem_cons.mpr ⟨rfl, fun _ h => absurd h List.not_mem_nil⟩⟩⟩) ?_
    refine g_st (T := bd_cpo23_1 i p) (by try rfl) (ih2 (by omega))
theorem fr_bd_cpo23_1 {a0 c0 : Nat} (h29 : a0 ≠ 29) (i : Nat) (p : gS) : rI (bd_cpo23_1 i p) a0 c0 = rI p a0 c0 := by
  unfold bd_cpo23_1
  first | (simp only [snd_ite, rI_ite, ite_self, rI_wIk h29, rI_wRk h29]; done) | ((repeat' split) <;> first | rfl | simp only [rI_wIk h29, rI_wRk h29])
theorem fr_lp_cpo23_1 {a0 c0 : Nat} (h29 : a0 ≠ 29)  (n : Nat) (p : gS) : rI (itr (bd_cpo23_1) n p) a0 c0 = rI p a0 c0 := by
  induction n with
  | zero => rfl
  | succ n ih => exact (fr_bd_cpo23_1 h29 _ _).trans ih

def f_copy23_1 (S : gS)  : gS := (itr (bd_cpo23_1) 24 (f_X0_copyRow (f_X0_copyRow (f_X0_copyRow (f_X0_copyRow (f_X0_copyRow (f_X0_copyRow (f_X0_copyRow (f_X0_copyRow (f_X0_copyRow (wI (wI S 23 0 ((rI S 1 0))) 23 1 ((rI S 1 1))) 2 24) 3 25) 4 26) 5 27) 6 28) 8 30) 9 31) 10 32) 11 33))
set_option maxRecDepth 100000 in
set_option maxHeartbeats 1000000 in
theorem ct_copy23_1 (S : gS)   : gF mX0_copyFrom [.ref 23, .ref 1] S none (f_copy23_1 S) := by
  refine go_enter [.ref 23, .ref 1] [(0, .ref 23), (1, .ref 1)] (by decide +kernel) rfl rfl (Nat.le_of_ble_eq_true rfl) rfl ?_
  refine go_aload_n 1 dX0_copyFrom_0 rfl rfl ?_
  refine go_aload_n 2 dX0_copyFrom_1 rfl rfl ?_
  refine g_getI 5 dX0_copyFrom_2 rfl fF_RX0_9 ly_1 rfl ?_
  refine g_putI 8 dX0_copyFrom_5 rfl fF_RX0_9 ly_23 rfl (fun q hq => by cases hq; rfl) rfl rfl ?_
  refine go_aload_n 9 dX0_copyFrom_8 rfl rfl ?_
  refine go_aload_n 10 dX0_copyFrom_9 rfl rfl ?_
  refine g_getI 13 dX0_copyFrom_10 rfl fF_RX0_15 ly_1 rfl ?_
  refine go_topi (rI S 1 1) (rI_wIk (by decide) _ _ _) ?_
  refine g_putI 16 dX0_copyFrom_13 rfl fF_RX0_15 ly_23 rfl (fun q hq => by cases hq; rfl) rfl rfl ?_
  refine go_aload_n 17 dX0_copyFrom_16 rfl rfl ?_
  refine g_getR 20 dX0_copyFrom_17 rfl fF_RX0_18 ly_1 rfl ?_
  refine go_aload_n 21 dX0_copyFrom_20 rfl rfl ?_
  refine g_getR 24 dX0_copyFrom_21 rfl fF_RX0_18 ly_23 rfl ?_
  refine g_callS0 27 [.ref 2, .ref 24] [] dX0_copyFrom_24 rfl (ct_X0_copyRow _ _ _ ly_2 ly_24) rfl sV_X0_copyFrom_57 rfl (Nat.le_of_ble_eq_true rfl) (Nat.le_of_ble_eq_true rfl) (Nat.le_of_ble_eq_true rfl) ?_
  refine go_aload_n 28 dX0_copyFrom_27 rfl rfl ?_
  refine g_getR 31 dX0_copyFrom_28 rfl fF_RX0_22 ly_1 rfl ?_
  refine go_aload_n 32 dX0_copyFrom_31 rfl rfl ?_
  refine g_getR 35 dX0_copyFrom_32 rfl fF_RX0_22 ly_23 rfl ?_
  refine g_callS0 38 [.ref 3, .ref 25] [] dX0_copyFrom_35 rfl (ct_X0_copyRow _ _ _ ly_3 ly_25) rfl sV_X0_copyFrom_57 rfl (Nat.le_of_ble_eq_true rfl) (Nat.le_of_ble_eq_true rfl) (Nat.le_of_ble_eq_true rfl) ?_
  refine go_aload_n 39 dX0_copyFrom_38 rfl rfl ?_
  refine g_getR 42 dX0_copyFrom_39 rfl fF_RX0_25 ly_1 rfl ?_
  refine go_aload_n 43 dX0_copyFrom_42 rfl rfl ?_
  refine g_getR 46 dX0_copyFrom_43 rfl fF_RX0_25 ly_23 rfl ?_
  refine g_callS0 49 [.ref 4, .ref 26] [] dX0_copyFrom_46 rfl (ct_X0_copyRow _ _ _ ly_4 ly_26) rfl sV_X0_copyFrom_57 rfl (Nat.le_of_ble_eq_true rfl) (Nat.le_of_ble_eq_true rfl) (Nat.le_of_ble_eq_true rfl) ?_
  refine go_aload_n 50 dX0_copyFrom_49 rfl rfl ?_
  refine g_getR 53 dX0_copyFrom_50 rfl fF_RX0_28 ly_1 rfl ?_
  refine go_aload_n 54 dX0_copyFrom_53 rfl rfl ?_
  refine g_getR 57 dX0_copyFrom_54 rfl fF_RX0_28 ly_23 rfl ?_
  refine g_callS0 60 [.ref 5, .ref 27] [] dX0_copyFrom_57 rfl (ct_X0_copyRow _ _ _ ly_5 ly_27) rfl sV_X0_copyFrom_57 rfl (Nat.le_of_ble_eq_true rfl) (Nat.le_of_ble_eq_true rfl) (Nat.le_of_ble_eq_true rfl) ?_
  refine go_aload_n 61 dX0_copyFrom_60 rfl rfl ?_
  refine g_getR 64 dX0_copyFrom_61 rfl fF_RX0_31 ly_1 rfl ?_
  refine go_aload_n 65 dX0_copyFrom_64 rfl rfl ?_
  refine g_getR 68 dX0_copyFrom_65 rfl fF_RX0_31 ly_23 rfl ?_
  refine g_callS0 71 [.ref 6, .ref 28] [] dX0_copyFrom_68 rfl (ct_X0_copyRow _ _ _ ly_6 ly_28) rfl sV_X0_copyFrom_57 rfl (Nat.le_of_ble_eq_true rfl) (Nat.le_of_ble_eq_true rfl) (Nat.le_of_ble_eq_true rfl) ?_
  refine go_aload_n 72 dX0_copyFrom_71 rfl rfl ?_
  refine g_getR 75 dX0_copyFrom_72 rfl fF_RX0_38 ly_1 rfl ?_
  refine go_aload_n 76 dX0_copyFrom_75 rfl rfl ?_
  refine g_getR 79 dX0_copyFrom_76 rfl fF_RX0_38 ly_23 rfl ?_
  refine g_callS0 82 [.ref 8, .ref 30] [] dX0_copyFrom_79 rfl (ct_X0_copyRow _ _ _ ly_8 ly_30) rfl sV_X0_copyFrom_57 rfl (Nat.le_of_ble_eq_true rfl) (Nat.le_of_ble_eq_true rfl) (Nat.le_of_ble_eq_true rfl) ?_
  refine go_aload_n 83 dX0_copyFrom_82 rfl rfl ?_
  refine g_getR 86 dX0_copyFrom_83 rfl fF_RX0_41 ly_1 rfl ?_
  refine go_aload_n 87 dX0_copyFrom_86 rfl rfl ?_
  refine g_getR 90 dX0_copyFrom_87 rfl fF_RX0_41 ly_23 rfl ?_
  refine g_callS0 93 [.ref 9, .ref 31] [] dX0_copyFrom_90 rfl (ct_X0_copyRow _ _ _ ly_9 ly_31) rfl sV_X0_copyFrom_57 rfl (Nat.le_of_ble_eq_true rfl) (Nat.le_of_ble_eq_true rfl) (Nat.le_of_ble_eq_true rfl) ?_
  refine go_aload_n 94 dX0_copyFrom_93 rfl rfl ?_
  refine g_getR 97 dX0_copyFrom_94 rfl fF_RX0_44 ly_1 rfl ?_
  refine go_aload_n 98 dX0_copyFrom_97 rfl rfl ?_
  refine g_getR 101 dX0_copyFrom_98 rfl fF_RX0_44 ly_23 rfl ?_
  refine g_callS0 104 [.ref 10, .ref 32] [] dX0_copyFrom_101 rfl (ct_X0_copyRow _ _ _ ly_10 ly_32) rfl sV_X0_copyFrom_57 rfl (Nat.le_of_ble_eq_true rfl) (Nat.le_of_ble_eq_true rfl) (Nat.le_of_ble_eq_true rfl) ?_
  refine go_aload_n 105 dX0_copyFrom_104 rfl rfl ?_
  refine g_getR 108 dX0_copyFrom_105 rfl fF_RX0_47 ly_1 rfl ?_
  refine go_aload_n 109 dX0_copyFrom_108 rfl rfl ?_
  refine g_getR 112 dX0_copyFrom_109 rfl fF_RX0_47 ly_23 rfl ?_
  refine g_callS0 115 [.ref 11, .ref 33] [] dX0_copyFrom_112 rfl (ct_X0_copyRow _ _ _ ly_11 ly_33) rfl sV_X0_copyFrom_57 rfl (Nat.le_of_ble_eq_true rfl) (Nat.le_of_ble_eq_true rfl) (Nat.le_of_ble_eq_true rfl) ?_
  refine go_iconst 116 (0) dX0_copyFrom_115 rfl (by decide) ?_
  refine go_istore_n 117 [(2, .int _), (0, .ref 23), (1, .ref 1)] dX0_copyFrom_116 rfl (Nat.le_of_ble_eq_true rfl) rfl ?_
  refine go_ls [(2, .int _), (0, .ref 23), (1, .ref 1)] (List.forall_mem_cons.mpr ⟨rfl, List.forall_mem_cons.mpr ⟨rfl, List.forall_mem_cons.mpr ⟨rfl, fun _ h => absurd h List.not_mem_nil⟩⟩⟩) ?_
  refine lk_cpo23_1 _ (fun _ _ => trivial) ?_ 0 (Nat.zero_le _)
  refine go_return dX0_copyFrom_141 rfl (Nat.le_of_ble_eq_true rfl) (Nat.le_of_ble_eq_true rfl) ?_
  exact ⟨rfl, congrArg hp (by unfold f_copy23_1; first | done | (dsimp only; done) | rfl)⟩

def bd_cpo1_12 (i : Nat) (p : gS) : gS := (wI p 7 i ((vp_nar .boolean ((rI p 18 i)))))
set_option maxRecDepth 100000 in
set_option maxHeartbeats 1000000 in
theorem lk_cpo1_12 {Q : go_Q}   (s0 : gS)  (hI : ∀ i, i ≤ 24 → True) (kx : Go mX0_copyFrom false Q 0 0 141 [(2, .int (nI 24)), (0, .ref 1), (1, .ref 12)] [] (hp (itr (bd_cpo1_12) 24 s0))) : ∀ i, i ≤ 24 → Go mX0_copyFrom false Q 0 0 117 [(2, .int (nI i)), (0, .ref 1), (1, .ref 12)] [] (hp (itr (bd_cpo1_12) i s0)) := by
  refine g_dn _ (24) (fun i hi ih => ?_)
  have hT := hI i hi
  have ih2 : i < 24 → Go mX0_copyFrom false Q 0 0 117 [(2, .int (nI (i + 1))), (0, .ref 1), (1, .ref 12)] [] (hp ((bd_cpo1_12) i (itr (bd_cpo1_12) i s0))) := ih
  have kx2 : i = 24 → Go mX0_copyFrom false Q 0 0 141 [(2, .int (nI i)), (0, .ref 1), (1, .ref 12)] [] (hp (itr (bd_cpo1_12) i s0)) := by
    rintro rfl
    exact kx
  clear ih kx hI
  revert hT ih2 kx2
  generalize itr (bd_cpo1_12) i s0 = p
  intro hT ih2 kx2
  refine go_iload_n 118 dX0_copyFrom_117 rfl rfl ?_
  refine go_bipush 120 (24) dX0_copyFrom_118 rfl (by decide) ?_
  refine go_icmp_ge 123 141 dX0_copyFrom_120 rfl (by decide) (fun hc1 => ?_) (fun hc1 => ?_)
  · have hv : i = 24 := by
      have h8 := hc1
      rw [show (24 : Int32) = nI 24 from rfl, nI_le2 (by omega) (by omega)] at h8
      omega
    refine go_ls [(2, .int _), (0, .ref 1), (1, .ref 12)] (List.forall_mem_cons.mpr ⟨rfl, List.forall_mem_cons.mpr ⟨rfl, List.forall_mem_cons.mpr ⟨rfl, fun _ h => absurd h List.not_mem_nil⟩⟩⟩) ?_
    exact kx2 hv
  · have hv : i < 24 := by
      have h8 := hc1
      rw [show (24 : Int32) = nI 24 from rfl, nI_le2 (by omega) (by omega)] at h8
      omega
    clear hc1
    have hcl := nI_c (n := i) (by omega)
    refine go_aload_n 124 dX0_copyFrom_123 rfl rfl ?_
    refine g_getR 127 dX0_copyFrom_124 rfl fF_RX0_34 ly_1 rfl ?_
    refine go_iload_n 128 dX0_copyFrom_127 rfl rfl ?_
    refine go_aload_n 129 dX0_copyFrom_128 rfl rfl ?_
    refine g_getR 132 dX0_copyFrom_129 rfl fF_RX0_34 ly_12 rfl ?_
    refine go_iload_n 133 dX0_copyFrom_132 rfl rfl ?_
    refine g_zald2 134 i dX0_copyFrom_133 rfl ly_18 (nI_i (by have := hv; omega) (by omega)) hcl ?_
    refine g_zast2 135 i dX0_copyFrom_134 rfl ly_7 (nI_i (by have := hv; omega) (by omega)) hcl ?_
    refine go_iinc 138 [(2, .int _), (0, .ref 1), (1, .ref 12)] (nI (i + 1)) dX0_copyFrom_135 rfl (Nat.le_of_ble_eq_true rfl) rfl (nI_inc i) rfl ?_
    refine go_goto 117 dX0_copyFrom_138 (by decide) ?_
    refine go_ls [(2, .int _), (0, .ref 1), (1, .ref 12)] (List.forall_mem_cons.mpr ⟨rfl, List.forall_mem_cons.mpr ⟨rfl, List.forall_mem_cons.mpr ⟨rfl, fun _ h => absurd h List.not_mem_nil⟩⟩⟩) ?_
    refine g_st (T := bd_cpo1_12 i p) (by try rfl) (ih2 (by omega))
theorem fr_bd_cpo1_12 {a0 c0 : Nat} (h7 : a0 ≠ 7) (i : Nat) (p : gS) : rI (bd_cpo1_12 i p) a0 c0 = rI p a0 c0 := by
  unfold bd_cpo1_12
  first | (simp only [snd_ite, rI_ite, ite_self, rI_wIk h7, rI_wRk h7]; done) | ((repeat' split) <;> first | rfl | simp only [rI_wIk h7, rI_wRk h7])
theorem fr_lp_cpo1_12 {a0 c0 : Nat} (h7 : a0 ≠ 7)  (n : Nat) (p : gS) : rI (itr (bd_cpo1_12) n p) a0 c0 = rI p a0 c0 := by
  induction n with
  | zero => rfl
  | succ n ih => exact (fr_bd_cpo1_12 h7 _ _).trans ih

def f_copy1_12 (S : gS)  : gS := (itr (bd_cpo1_12) 24 (f_X0_copyRow (f_X0_copyRow (f_X0_copyRow (f_X0_copyRow (f_X0_copyRow (f_X0_copyRow (f_X0_copyRow (f_X0_copyRow (f_X0_copyRow (wI (wI S 1 0 ((rI S 12 0))) 1 1 ((rI S 12 1))) 13 2) 14 3) 15 4) 16 5) 17 6) 19 8) 20 9) 21 10) 22 11))
set_option maxRecDepth 100000 in
set_option maxHeartbeats 1000000 in
theorem ct_copy1_12 (S : gS)   : gF mX0_copyFrom [.ref 1, .ref 12] S none (f_copy1_12 S) := by
  refine go_enter [.ref 1, .ref 12] [(0, .ref 1), (1, .ref 12)] (by decide +kernel) rfl rfl (Nat.le_of_ble_eq_true rfl) rfl ?_
  refine go_aload_n 1 dX0_copyFrom_0 rfl rfl ?_
  refine go_aload_n 2 dX0_copyFrom_1 rfl rfl ?_
  refine g_getI 5 dX0_copyFrom_2 rfl fF_RX0_9 ly_12 rfl ?_
  refine g_putI 8 dX0_copyFrom_5 rfl fF_RX0_9 ly_1 rfl (fun q hq => by cases hq; rfl) rfl rfl ?_
  refine go_aload_n 9 dX0_copyFrom_8 rfl rfl ?_
  refine go_aload_n 10 dX0_copyFrom_9 rfl rfl ?_
  refine g_getI 13 dX0_copyFrom_10 rfl fF_RX0_15 ly_12 rfl ?_
  refine go_topi (rI S 12 1) (rI_wIk (by decide) _ _ _) ?_
  refine g_putI 16 dX0_copyFrom_13 rfl fF_RX0_15 ly_1 rfl (fun q hq => by cases hq; rfl) rfl rfl ?_
  refine go_aload_n 17 dX0_copyFrom_16 rfl rfl ?_
  refine g_getR 20 dX0_copyFrom_17 rfl fF_RX0_18 ly_12 rfl ?_
  refine go_aload_n 21 dX0_copyFrom_20 rfl rfl ?_
  refine g_getR 24 dX0_copyFrom_21 rfl fF_RX0_18 ly_1 rfl ?_
  refine g_callS0 27 [.ref 13, .ref 2] [] dX0_copyFrom_24 rfl (ct_X0_copyRow _ _ _ ly_13 ly_2) rfl sV_X0_copyFrom_57 rfl (Nat.le_of_ble_eq_true rfl) (Nat.le_of_ble_eq_true rfl) (Nat.le_of_ble_eq_true rfl) ?_
  refine go_aload_n 28 dX0_copyFrom_27 rfl rfl ?_
  refine g_getR 31 dX0_copyFrom_28 rfl fF_RX0_22 ly_12 rfl ?_
  refine go_aload_n 32 dX0_copyFrom_31 rfl rfl ?_
  refine g_getR 35 dX0_copyFrom_32 rfl fF_RX0_22 ly_1 rfl ?_
  refine g_callS0 38 [.ref 14, .ref 3] [] dX0_copyFrom_35 rfl (ct_X0_copyRow _ _ _ ly_14 ly_3) rfl sV_X0_copyFrom_57 rfl (Nat.le_of_ble_eq_true rfl) (Nat.le_of_ble_eq_true rfl) (Nat.le_of_ble_eq_true rfl) ?_
  refine go_aload_n 39 dX0_copyFrom_38 rfl rfl ?_
  refine g_getR 42 dX0_copyFrom_39 rfl fF_RX0_25 ly_12 rfl ?_
  refine go_aload_n 43 dX0_copyFrom_42 rfl rfl ?_
  refine g_getR 46 dX0_copyFrom_43 rfl fF_RX0_25 ly_1 rfl ?_
  refine g_callS0 49 [.ref 15, .ref 4] [] dX0_copyFrom_46 rfl (ct_X0_copyRow _ _ _ ly_15 ly_4) rfl sV_X0_copyFrom_57 rfl (Nat.le_of_ble_eq_true rfl) (Nat.le_of_ble_eq_true rfl) (Nat.le_of_ble_eq_true rfl) ?_
  refine go_aload_n 50 dX0_copyFrom_49 rfl rfl ?_
  refine g_getR 53 dX0_copyFrom_50 rfl fF_RX0_28 ly_12 rfl ?_
  refine go_aload_n 54 dX0_copyFrom_53 rfl rfl ?_
  refine g_getR 57 dX0_copyFrom_54 rfl fF_RX0_28 ly_1 rfl ?_
  refine g_callS0 60 [.ref 16, .ref 5] [] dX0_copyFrom_57 rfl (ct_X0_copyRow _ _ _ ly_16 ly_5) rfl sV_X0_copyFrom_57 rfl (Nat.le_of_ble_eq_true rfl) (Nat.le_of_ble_eq_true rfl) (Nat.le_of_ble_eq_true rfl) ?_
  refine go_aload_n 61 dX0_copyFrom_60 rfl rfl ?_
  refine g_getR 64 dX0_copyFrom_61 rfl fF_RX0_31 ly_12 rfl ?_
  refine go_aload_n 65 dX0_copyFrom_64 rfl rfl ?_
  refine g_getR 68 dX0_copyFrom_65 rfl fF_RX0_31 ly_1 rfl ?_
  refine g_callS0 71 [.ref 17, .ref 6] [] dX0_copyFrom_68 rfl (ct_X0_copyRow _ _ _ ly_17 ly_6) rfl sV_X0_copyFrom_57 rfl (Nat.le_of_ble_eq_true rfl) (Nat.le_of_ble_eq_true rfl) (Nat.le_of_ble_eq_true rfl) ?_
  refine go_aload_n 72 dX0_copyFrom_71 rfl rfl ?_
  refine g_getR 75 dX0_copyFrom_72 rfl fF_RX0_38 ly_12 rfl ?_
  refine go_aload_n 76 dX0_copyFrom_75 rfl rfl ?_
  refine g_getR 79 dX0_copyFrom_76 rfl fF_RX0_38 ly_1 rfl ?_
  refine g_callS0 82 [.ref 19, .ref 8] [] dX0_copyFrom_79 rfl (ct_X0_copyRow _ _ _ ly_19 ly_8) rfl sV_X0_copyFrom_57 rfl (Nat.le_of_ble_eq_true rfl) (Nat.le_of_ble_eq_true rfl) (Nat.le_of_ble_eq_true rfl) ?_
  refine go_aload_n 83 dX0_copyFrom_82 rfl rfl ?_
  refine g_getR 86 dX0_copyFrom_83 rfl fF_RX0_41 ly_12 rfl ?_
  refine go_aload_n 87 dX0_copyFrom_86 rfl rfl ?_
  refine g_getR 90 dX0_copyFrom_87 rfl fF_RX0_41 ly_1 rfl ?_
  refine g_callS0 93 [.ref 20, .ref 9] [] dX0_copyFrom_90 rfl (ct_X0_copyRow _ _ _ ly_20 ly_9) rfl sV_X0_copyFrom_57 rfl (Nat.le_of_ble_eq_true rfl) (Nat.le_of_ble_eq_true rfl) (Nat.le_of_ble_eq_true rfl) ?_
  refine go_aload_n 94 dX0_copyFrom_93 rfl rfl ?_
  refine g_getR 97 dX0_copyFrom_94 rfl fF_RX0_44 ly_12 rfl ?_
  refine go_aload_n 98 dX0_copyFrom_97 rfl rfl ?_
  refine g_getR 101 dX0_copyFrom_98 rfl fF_RX0_44 ly_1 rfl ?_
  refine g_callS0 104 [.ref 21, .ref 10] [] dX0_copyFrom_101 rfl (ct_X0_copyRow _ _ _ ly_21 ly_10) rfl sV_X0_copyFrom_57 rfl (Nat.le_of_ble_eq_true rfl) (Nat.le_of_ble_eq_true rfl) (Nat.le_of_ble_eq_true rfl) ?_
  refine go_aload_n 105 dX0_copyFrom_104 rfl rfl ?_
  refine g_getR 108 dX0_copyFrom_105 rfl fF_RX0_47 ly_12 rfl ?_
  refine go_aload_n 109 dX0_copyFrom_108 rfl rfl ?_
  refine g_getR 112 dX0_copyFrom_109 rfl fF_RX0_47 ly_1 rfl ?_
  refine g_callS0 115 [.ref 22, .ref 11] [] dX0_copyFrom_112 rfl (ct_X0_copyRow _ _ _ ly_22 ly_11) rfl sV_X0_copyFrom_57 rfl (Nat.le_of_ble_eq_true rfl) (Nat.le_of_ble_eq_true rfl) (Nat.le_of_ble_eq_true rfl) ?_
  refine go_iconst 116 (0) dX0_copyFrom_115 rfl (by decide) ?_
  refine go_istore_n 117 [(2, .int _), (0, .ref 1), (1, .ref 12)] dX0_copyFrom_116 rfl (Nat.le_of_ble_eq_true rfl) rfl ?_
  refine go_ls [(2, .int _), (0, .ref 1), (1, .ref 12)] (List.forall_mem_cons.mpr ⟨rfl, List.forall_mem_cons.mpr ⟨rfl, List.forall_mem_cons.mpr ⟨rfl, fun _ h => absurd h List.not_mem_nil⟩⟩⟩) ?_
  refine lk_cpo1_12 _ (fun _ _ => trivial) ?_ 0 (Nat.zero_le _)
  refine go_return dX0_copyFrom_141 rfl (Nat.le_of_ble_eq_true rfl) (Nat.le_of_ble_eq_true rfl) ?_
  exact ⟨rfl, congrArg hp (by unfold f_copy1_12; first | done | (dsimp only; done) | rfl)⟩

def bd_cpo1_23 (i : Nat) (p : gS) : gS := (wI p 7 i ((vp_nar .boolean ((rI p 29 i)))))
set_option maxRecDepth 100000 in
set_option maxHeartbeats 1000000 in
theorem lk_cpo1_23 {Q : go_Q}   (s0 : gS)  (hI : ∀ i, i ≤ 24 → True) (kx : Go mX0_copyFrom false Q 0 0 141 [(2, .int (nI 24)), (0, .ref 1), (1, .ref 23)] [] (hp (itr (bd_cpo1_23) 24 s0))) : ∀ i, i ≤ 24 → Go mX0_copyFrom false Q 0 0 117 [(2, .int (nI i)), (0, .ref 1), (1, .ref 23)] [] (hp (itr (bd_cpo1_23) i s0)) := by
  refine g_dn _ (24) (fun i hi ih => ?_)
  have hT := hI i hi
  have ih2 : i < 24 → Go mX0_copyFrom false Q 0 0 117 [(2, .int (nI (i + 1))), (0, .ref 1), (1, .ref 23)] [] (hp ((bd_cpo1_23) i (itr (bd_cpo1_23) i s0))) := ih
  have kx2 : i = 24 → Go mX0_copyFrom false Q 0 0 141 [(2, .int (nI i)), (0, .ref 1), (1, .ref 23)] [] (hp (itr (bd_cpo1_23) i s0)) := by
    rintro rfl
    exact kx
  clear ih kx hI
  revert hT ih2 kx2
  generalize itr (bd_cpo1_23) i s0 = p
  intro hT ih2 kx2
  refine go_iload_n 118 dX0_copyFrom_117 rfl rfl ?_
  refine go_bipush 120 (24) dX0_copyFrom_118 rfl (by decide) ?_
  refine go_icmp_ge 123 141 dX0_copyFrom_120 rfl (by decide) (fun hc1 => ?_) (fun hc1 => ?_)
  · have hv : i = 24 := by
      have h8 := hc1
      rw [show (24 : Int32) = nI 24 from rfl, nI_le2 (by omega) (by omega)] at h8
      omega
    refine go_ls [(2, .int _), (0, .ref 1), (1, .ref 23)] (List.forall_mem_cons.mpr ⟨rfl, List.forall_mem_cons.mpr ⟨rfl, List.forall_mem_cons.mpr ⟨rfl, fun _ h => absurd h List.not_mem_nil⟩⟩⟩) ?_
    exact kx2 hv
  · have hv : i < 24 := by
      have h8 := hc1
      rw [show (24 : Int32) = nI 24 from rfl, nI_le2 (by omega) (by omega)] at h8
      omega
    clear hc1
    have hcl := nI_c (n := i) (by omega)
    refine go_aload_n 124 dX0_copyFrom_123 rfl rfl ?_
    refine g_getR 127 dX0_copyFrom_124 rfl fF_RX0_34 ly_1 rfl ?_
    refine go_iload_n 128 dX0_copyFrom_127 rfl rfl ?_
    refine go_aload_n 129 dX0_copyFrom_128 rfl rfl ?_
    refine g_getR 132 dX0_copyFrom_129 rfl fF_RX0_34 ly_23 rfl ?_
    refine go_iload_n 133 dX0_copyFrom_132 rfl rfl ?_
    refine g_zald2 134 i dX0_copyFrom_133 rfl ly_29 (nI_i (by have := hv; omega) (by omega)) hcl ?_
    refine g_zast2 135 i dX0_copyFrom_134 rfl ly_7 (nI_i (by have := hv; omega) (by omega)) hcl ?_
    refine go_iinc 138 [(2, .int _), (0, .ref 1), (1, .ref 23)] (nI (i + 1)) dX0_copyFrom_135 rfl (Nat.le_of_ble_eq_true rfl) rfl (nI_inc i) rfl ?_
    refine go_goto 117 dX0_copyFrom_138 (by decide) ?_
    refine go_ls [(2, .int _), (0, .ref 1), (1, .ref 23)] (List.forall_mem_cons.mpr ⟨rfl, List.forall_mem_cons.mpr ⟨rfl, List.forall_mem_cons.mpr ⟨rfl, fun _ h => absurd h List.not_mem_nil⟩⟩⟩) ?_
    refine g_st (T := bd_cpo1_23 i p) (by try rfl) (ih2 (by omega))
theorem fr_bd_cpo1_23 {a0 c0 : Nat} (h7 : a0 ≠ 7) (i : Nat) (p : gS) : rI (bd_cpo1_23 i p) a0 c0 = rI p a0 c0 := by
  unfold bd_cpo1_23
  first | (simp only [snd_ite, rI_ite, ite_self, rI_wIk h7, rI_wRk h7]; done) | ((repeat' split) <;> first | rfl | simp only [rI_wIk h7, rI_wRk h7])
theorem fr_lp_cpo1_23 {a0 c0 : Nat} (h7 : a0 ≠ 7)  (n : Nat) (p : gS) : rI (itr (bd_cpo1_23) n p) a0 c0 = rI p a0 c0 := by
  induction n with
  | zero => rfl
  | succ n ih => exact (fr_bd_cpo1_23 h7 _ _).trans ih

def f_copy1_23 (S : gS)  : gS := (itr (bd_cpo1_23) 24 (f_X0_copyRow (f_X0_copyRow (f_X0_copyRow (f_X0_copyRow (f_X0_copyRow (f_X0_copyRow (f_X0_copyRow (f_X0_copyRow (f_X0_copyRow (wI (wI S 1 0 ((rI S 23 0))) 1 1 ((rI S 23 1))) 24 2) 25 3) 26 4) 27 5) 28 6) 30 8) 31 9) 32 10) 33 11))
set_option maxRecDepth 100000 in
set_option maxHeartbeats 1000000 in
theorem ct_copy1_23 (S : gS)   : gF mX0_copyFrom [.ref 1, .ref 23] S none (f_copy1_23 S) := by
  refine go_enter [.ref 1, .ref 23] [(0, .ref 1), (1, .ref 23)] (by decide +kernel) rfl rfl (Nat.le_of_ble_eq_true rfl) rfl ?_
  refine go_aload_n 1 dX0_copyFrom_0 rfl rfl ?_
  refine go_aload_n 2 dX0_copyFrom_1 rfl rfl ?_
  refine g_getI 5 dX0_copyFrom_2 rfl fF_RX0_9 ly_23 rfl ?_
  refine g_putI 8 dX0_copyFrom_5 rfl fF_RX0_9 ly_1 rfl (fun q hq => by cases hq; rfl) rfl rfl ?_
  refine go_aload_n 9 dX0_copyFrom_8 rfl rfl ?_
  refine go_aload_n 10 dX0_copyFrom_9 rfl rfl ?_
  refine g_getI 13 dX0_copyFrom_10 rfl fF_RX0_15 ly_23 rfl ?_
  refine go_topi (rI S 23 1) (rI_wIk (by decide) _ _ _) ?_
  refine g_putI 16 dX0_copyFrom_13 rfl fF_RX0_15 ly_1 rfl (fun q hq => by cases hq; rfl) rfl rfl ?_
  refine go_aload_n 17 dX0_copyFrom_16 rfl rfl ?_
  refine g_getR 20 dX0_copyFrom_17 rfl fF_RX0_18 ly_23 rfl ?_
  refine go_aload_n 21 dX0_copyFrom_20 rfl rfl ?_
  refine g_getR 24 dX0_copyFrom_21 rfl fF_RX0_18 ly_1 rfl ?_
  refine g_callS0 27 [.ref 24, .ref 2] [] dX0_copyFrom_24 rfl (ct_X0_copyRow _ _ _ ly_24 ly_2) rfl sV_X0_copyFrom_57 rfl (Nat.le_of_ble_eq_true rfl) (Nat.le_of_ble_eq_true rfl) (Nat.le_of_ble_eq_true rfl) ?_
  refine go_aload_n 28 dX0_copyFrom_27 rfl rfl ?_
  refine g_getR 31 dX0_copyFrom_28 rfl fF_RX0_22 ly_23 rfl ?_
  refine go_aload_n 32 dX0_copyFrom_31 rfl rfl ?_
  refine g_getR 35 dX0_copyFrom_32 rfl fF_RX0_22 ly_1 rfl ?_
  refine g_callS0 38 [.ref 25, .ref 3] [] dX0_copyFrom_35 rfl (ct_X0_copyRow _ _ _ ly_25 ly_3) rfl sV_X0_copyFrom_57 rfl (Nat.le_of_ble_eq_true rfl) (Nat.le_of_ble_eq_true rfl) (Nat.le_of_ble_eq_true rfl) ?_
  refine go_aload_n 39 dX0_copyFrom_38 rfl rfl ?_
  refine g_getR 42 dX0_copyFrom_39 rfl fF_RX0_25 ly_23 rfl ?_
  refine go_aload_n 43 dX0_copyFrom_42 rfl rfl ?_
  refine g_getR 46 dX0_copyFrom_43 rfl fF_RX0_25 ly_1 rfl ?_
  refine g_callS0 49 [.ref 26, .ref 4] [] dX0_copyFrom_46 rfl (ct_X0_copyRow _ _ _ ly_26 ly_4) rfl sV_X0_copyFrom_57 rfl (Nat.le_of_ble_eq_true rfl) (Nat.le_of_ble_eq_true rfl) (Nat.le_of_ble_eq_true rfl) ?_
  refine go_aload_n 50 dX0_copyFrom_49 rfl rfl ?_
  refine g_getR 53 dX0_copyFrom_50 rfl fF_RX0_28 ly_23 rfl ?_
  refine go_aload_n 54 dX0_copyFrom_53 rfl rfl ?_
  refine g_getR 57 dX0_copyFrom_54 rfl fF_RX0_28 ly_1 rfl ?_
  refine g_callS0 60 [.ref 27, .ref 5] [] dX0_copyFrom_57 rfl (ct_X0_copyRow _ _ _ ly_27 ly_5) rfl sV_X0_copyFrom_57 rfl (Nat.le_of_ble_eq_true rfl) (Nat.le_of_ble_eq_true rfl) (Nat.le_of_ble_eq_true rfl) ?_
  refine go_aload_n 61 dX0_copyFrom_60 rfl rfl ?_
  refine g_getR 64 dX0_copyFrom_61 rfl fF_RX0_31 ly_23 rfl ?_
  refine go_aload_n 65 dX0_copyFrom_64 rfl rfl ?_
  refine g_getR 68 dX0_copyFrom_65 rfl fF_RX0_31 ly_1 rfl ?_
  refine g_callS0 71 [.ref 28, .ref 6] [] dX0_copyFrom_68 rfl (ct_X0_copyRow _ _ _ ly_28 ly_6) rfl sV_X0_copyFrom_57 rfl (Nat.le_of_ble_eq_true rfl) (Nat.le_of_ble_eq_true rfl) (Nat.le_of_ble_eq_true rfl) ?_
  refine go_aload_n 72 dX0_copyFrom_71 rfl rfl ?_
  refine g_getR 75 dX0_copyFrom_72 rfl fF_RX0_38 ly_23 rfl ?_
  refine go_aload_n 76 dX0_copyFrom_75 rfl rfl ?_
  refine g_getR 79 dX0_copyFrom_76 rfl fF_RX0_38 ly_1 rfl ?_
  refine g_callS0 82 [.ref 30, .ref 8] [] dX0_copyFrom_79 rfl (ct_X0_copyRow _ _ _ ly_30 ly_8) rfl sV_X0_copyFrom_57 rfl (Nat.le_of_ble_eq_true rfl) (Nat.le_of_ble_eq_true rfl) (Nat.le_of_ble_eq_true rfl) ?_
  refine go_aload_n 83 dX0_copyFrom_82 rfl rfl ?_
  refine g_getR 86 dX0_copyFrom_83 rfl fF_RX0_41 ly_23 rfl ?_
  refine go_aload_n 87 dX0_copyFrom_86 rfl rfl ?_
  refine g_getR 90 dX0_copyFrom_87 rfl fF_RX0_41 ly_1 rfl ?_
  refine g_callS0 93 [.ref 31, .ref 9] [] dX0_copyFrom_90 rfl (ct_X0_copyRow _ _ _ ly_31 ly_9) rfl sV_X0_copyFrom_57 rfl (Nat.le_of_ble_eq_true rfl) (Nat.le_of_ble_eq_true rfl) (Nat.le_of_ble_eq_true rfl) ?_
  refine go_aload_n 94 dX0_copyFrom_93 rfl rfl ?_
  refine g_getR 97 dX0_copyFrom_94 rfl fF_RX0_44 ly_23 rfl ?_
  refine go_aload_n 98 dX0_copyFrom_97 rfl rfl ?_
  refine g_getR 101 dX0_copyFrom_98 rfl fF_RX0_44 ly_1 rfl ?_
  refine g_callS0 104 [.ref 32, .ref 10] [] dX0_copyFrom_101 rfl (ct_X0_copyRow _ _ _ ly_32 ly_10) rfl sV_X0_copyFrom_57 rfl (Nat.le_of_ble_eq_true rfl) (Nat.le_of_ble_eq_true rfl) (Nat.le_of_ble_eq_true rfl) ?_
  refine go_aload_n 105 dX0_copyFrom_104 rfl rfl ?_
  refine g_getR 108 dX0_copyFrom_105 rfl fF_RX0_47 ly_23 rfl ?_
  refine go_aload_n 109 dX0_copyFrom_108 rfl rfl ?_
  refine g_getR 112 dX0_copyFrom_109 rfl fF_RX0_47 ly_1 rfl ?_
  refine g_callS0 115 [.ref 33, .ref 11] [] dX0_copyFrom_112 rfl (ct_X0_copyRow _ _ _ ly_33 ly_11) rfl sV_X0_copyFrom_57 rfl (Nat.le_of_ble_eq_true rfl) (Nat.le_of_ble_eq_true rfl) (Nat.le_of_ble_eq_true rfl) ?_
  refine go_iconst 116 (0) dX0_copyFrom_115 rfl (by decide) ?_
  refine go_istore_n 117 [(2, .int _), (0, .ref 1), (1, .ref 23)] dX0_copyFrom_116 rfl (Nat.le_of_ble_eq_true rfl) rfl ?_
  refine go_ls [(2, .int _), (0, .ref 1), (1, .ref 23)] (List.forall_mem_cons.mpr ⟨rfl, List.forall_mem_cons.mpr ⟨rfl, List.forall_mem_cons.mpr ⟨rfl, fun _ h => absurd h List.not_mem_nil⟩⟩⟩) ?_
  refine lk_cpo1_23 _ (fun _ _ => trivial) ?_ 0 (Nat.zero_le _)
  refine go_return dX0_copyFrom_141 rfl (Nat.le_of_ble_eq_true rfl) (Nat.le_of_ble_eq_true rfl) ?_
  exact ⟨rfl, congrArg hp (by unfold f_copy1_23; first | done | (dsimp only; done) | rfl)⟩

