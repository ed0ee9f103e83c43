-- needs 
def bd_rini (i : Nat) (p : gS) : gS := (if (rI (wI p 37 i ((rI p 3 i))) 2 i) = 0 then (wI (wI p 37 i ((rI p 3 i))) 38 i ((rI (wI p 37 i ((rI p 3 i))) 4 i))) else (wI (wI p 37 i ((rI p 3 i))) 38 i ((rI (wI p 37 i ((rI p 3 i))) 3 i))))
set_option maxRecDepth 100000 in
set_option maxHeartbeats 1000000 in
theorem lk_rini {Q : go_Q}  (n : Nat) (s0 : gS)  (hI : ∀ i, i ≤ n → okC (itr (bd_rini) i s0) n) (kx : Go mX4_find false Q 0 0 58 [(2, .int (nI n)), (0, .ref 36), (1, .ref 1)] [] (hp (itr (bd_rini) n s0))) : ∀ i, i ≤ n → Go mX4_find false Q 0 0 2 [(2, .int (nI i)), (0, .ref 36), (1, .ref 1)] [] (hp (itr (bd_rini) i s0)) := by
  refine g_dn _ (n) (fun i hi ih => ?_)
  have hT := hI i hi
  have ih2 : i < n → Go mX4_find false Q 0 0 2 [(2, .int (nI (i + 1))), (0, .ref 36), (1, .ref 1)] [] (hp ((bd_rini) i (itr (bd_rini) i s0))) := ih
  have kx2 : i = n → Go mX4_find false Q 0 0 58 [(2, .int (nI i)), (0, .ref 36), (1, .ref 1)] [] (hp (itr (bd_rini) i s0)) := by
    rintro rfl
    exact kx
  clear ih kx hI
  revert hT ih2 kx2
  generalize itr (bd_rini) i s0 = p
  intro hT ih2 kx2
  have h24 := hT.2.1
  refine go_iload_n 3 dX4_find_2 rfl rfl ?_
  refine go_aload_n 4 dX4_find_3 rfl rfl ?_
  refine g_getI 7 dX4_find_4 rfl fF_RX4_25 ly_1 rfl ?_
  refine go_icmp_ge 10 58 dX4_find_7 rfl (by decide) (fun hc1 => ?_) (fun hc1 => ?_)
  · have hv : i = n := by
      have h8 := hc1
      rw [hT.1, nI_le2 (by omega) (by omega)] at h8
      omega
    refine go_ls [(2, .int _), (0, .ref 36), (1, .ref 1)] (List.forall_mem_cons.mpr ⟨rfl, List.forall_mem_cons.mpr ⟨rfl, List.forall_mem_cons.mpr ⟨rfl, fun _ h => absurd h List.not_mem_nil⟩⟩⟩) ?_
    exact kx2 hv
  · have hv : i < n := by
      have h8 := hc1
      rw [hT.1, nI_le2 (by omega) (by omega)] at h8
      omega
    clear hc1
    have hcl := nI_c (n := i) (by omega)
    refine go_aload_n 11 dX4_find_10 rfl rfl ?_
    refine g_getR 14 dX4_find_11 rfl fF_RX4_9 ly_36 rfl ?_
    refine go_iload_n 15 dX4_find_14 rfl rfl ?_
    refine go_aload_n 16 dX4_find_15 rfl rfl ?_
    refine g_getR 19 dX4_find_16 rfl fF_RX4_30 ly_1 rfl ?_
    refine go_iload_n 20 dX4_find_19 rfl rfl ?_
    refine g_iald2 21 i dX4_find_20 rfl ly_3 (nI_i (by have := hv; omega) (by omega)) hcl ?_
    refine g_iast2 22 i dX4_find_21 rfl ly_37 (nI_i (by have := hv; omega) (by omega)) hcl ?_
    refine go_aload_n 23 dX4_find_22 rfl rfl ?_
    refine g_getR 26 dX4_find_23 rfl fF_RX4_15 ly_36 rfl ?_
    refine go_iload_n 27 dX4_find_26 rfl rfl ?_
    refine go_aload_n 28 dX4_find_27 rfl rfl ?_
    refine g_getR 31 dX4_find_28 rfl fF_RX4_33 ly_1 rfl ?_
    refine go_iload_n 32 dX4_find_31 rfl rfl ?_
    refine g_iald2 33 i dX4_find_32 rfl ly_2 (nI_i (by have := hv; omega) (by omega)) hcl ?_
    refine go_if_ne 36 45 dX4_find_33 rfl (by decide) (fun hc2 => ?_) (fun hc2 => ?_)
    · refine go_aload_n 46 dX4_find_45 rfl rfl ?_
      refine g_getR 49 dX4_find_46 rfl fF_RX4_30 ly_1 rfl ?_
      refine go_iload_n 50 dX4_find_49 rfl rfl ?_
      refine g_iald2 51 i dX4_find_50 rfl ly_3 (nI_i (by have := hv; omega) (by omega)) hcl ?_
      refine g_iast2 52 i dX4_find_51 rfl ly_38 (nI_i (by have := hv; omega) (by omega)) hcl ?_
      refine go_iinc 55 [(2, .int _), (0, .ref 36), (1, .ref 1)] (nI (i + 1)) dX4_find_52 rfl (Nat.le_of_ble_eq_true rfl) rfl (nI_inc i) rfl ?_
      refine go_goto 2 dX4_find_55 (by decide) ?_
      refine go_ls [(2, .int _), (0, .ref 36), (1, .ref 1)] (List.forall_mem_cons.mpr ⟨rfl, List.forall_mem_cons.mpr ⟨rfl, List.forall_mem_cons.mpr ⟨rfl, fun _ h => absurd h List.not_mem_nil⟩⟩⟩) ?_
      refine g_st (T := bd_rini i p) (by unfold bd_rini; simp only [if_neg hc2]; try first | rfl | contradiction) (ih2 (by omega))
    · refine go_aload_n 37 dX4_find_36 rfl rfl ?_
      refine g_getR 40 dX4_find_37 rfl fF_RX4_36 ly_1 rfl ?_
      refine go_iload_n 41 dX4_find_40 rfl rfl ?_
      refine g_iald2 42 i dX4_find_41 rfl ly_4 (nI_i (by have := hv; omega) (by omega)) hcl ?_
      refine go_goto 51 dX4_find_42 (by decide) ?_
      refine g_iast2 52 i dX4_find_51 rfl ly_38 (nI_i (by have := hv; omega) (by omega)) hcl ?_
      refine go_iinc 55 [(2, .int _), (0, .ref 36), (1, .ref 1)] (nI (i + 1)) dX4_find_52 rfl (Nat.le_of_ble_eq_true rfl) rfl (nI_inc i) rfl ?_
      refine go_goto 2 dX4_find_55 (by decide) ?_
      refine go_ls [(2, .int _), (0, .ref 36), (1, .ref 1)] (List.forall_mem_cons.mpr ⟨rfl, List.forall_mem_cons.mpr ⟨rfl, List.forall_mem_cons.mpr ⟨rfl, fun _ h => absurd h List.not_mem_nil⟩⟩⟩) ?_
      refine g_st (T := bd_rini i p) (by unfold bd_rini; simp only [if_pos hc2]; try first | rfl | contradiction) (ih2 (by omega))
theorem fr_bd_rini {a0 c0 : Nat} (h37 : a0 ≠ 37) (h38 : a0 ≠ 38) (i : Nat) (p : gS) : rI (bd_rini i p) a0 c0 = rI p a0 c0 := by
  unfold bd_rini
  first | (simp only [snd_ite, rI_ite, ite_self, rI_wIk h37, rI_wRk h37, rI_wIk h38, rI_wRk h38]; done) | ((repeat' split) <;> first | rfl | simp only [rI_wIk h37, rI_wRk h37, rI_wIk h38, rI_wRk h38])
theorem fr_lp_rini {a0 c0 : Nat} (h37 : a0 ≠ 37) (h38 : a0 ≠ 38)  (n : Nat) (p : gS) : rI (itr (bd_rini) n p) a0 c0 = rI p a0 c0 := by
  induction n with
  | zero => rfl
  | succ n ih => exact (fr_bd_rini h37 h38 _ _).trans ih

def bd_rone (i : Nat) (p : gS) : gS := (f_X4_findOne p i)
set_option maxRecDepth 100000 in
set_option maxHeartbeats 1000000 in
theorem lk_rone {Q : go_Q}  (n : Nat) (b9 : Int32) (s0 : gS)  (hI : ∀ i, i ≤ n → okC (itr (bd_rone) i s0) n) (kx : Go mX4_find false Q 0 0 110 [(3, .int (nI n)), (2, .int b9), (0, .ref 36), (1, .ref 1)] [] (hp (itr (bd_rone) n s0))) : ∀ i, i ≤ n → Go mX4_find false Q 0 0 90 [(3, .int (nI i)), (2, .int b9), (0, .ref 36), (1, .ref 1)] [] (hp (itr (bd_rone) i s0)) := by
  refine g_dn _ (n) (fun i hi ih => ?_)
  have hT := hI i hi
  have ih2 : i < n → Go mX4_find false Q 0 0 90 [(3, .int (nI (i + 1))), (2, .int b9), (0, .ref 36), (1, .ref 1)] [] (hp ((bd_rone) i (itr (bd_rone) i s0))) := ih
  have kx2 : i = n → Go mX4_find false Q 0 0 110 [(3, .int (nI i)), (2, .int b9), (0, .ref 36), (1, .ref 1)] [] (hp (itr (bd_rone) i s0)) := by
    rintro rfl
    exact kx
  clear ih kx hI
  revert hT ih2 kx2
  generalize itr (bd_rone) i s0 = p
  intro hT ih2 kx2
  have h24 := hT.2.1
  refine go_iload_n 91 dX4_find_90 rfl rfl ?_
  refine go_aload_n 92 dX4_find_91 rfl rfl ?_
  refine g_getI 95 dX4_find_92 rfl fF_RX4_25 ly_1 rfl ?_
  refine go_icmp_ge 98 110 dX4_find_95 rfl (by decide) (fun hc1 => ?_) (fun hc1 => ?_)
  · have hv : i = n := by
      have h8 := hc1
      rw [hT.1, nI_le2 (by omega) (by omega)] at h8
      omega
    refine go_ls [(3, .int _), (2, .int _), (0, .ref 36), (1, .ref 1)] (List.forall_mem_cons.mpr ⟨rfl, List.forall_mem_cons.mpr ⟨rfl, List.forall_mem_cons.mpr ⟨rfl, List.forall_mem_cons.mpr ⟨rfl, fun _ h => absurd h List.not_mem_nil⟩⟩⟩⟩) ?_
    exact kx2 hv
  · have hv : i < n := by
      have h8 := hc1
      rw [hT.1, nI_le2 (by omega) (by omega)] at h8
      omega
    clear hc1
    have hcl := nI_c (n := i) (by omega)
    refine go_aload_n 99 dX4_find_98 rfl rfl ?_
    refine go_aload_n 100 dX4_find_99 rfl rfl ?_
    refine go_iload_n 101 dX4_find_100 rfl rfl ?_
    refine g_callV0 104 [.ref 1, .int _] [] dX4_find_101 rfl (ct_X4_findOne _ _ n hT hv) rfl sV_X4_find_40 rfl ly_36 rfl rfl (Nat.le_of_ble_eq_true rfl) (Nat.le_of_ble_eq_true rfl) (Nat.le_of_ble_eq_true rfl) ?_
    refine go_iinc 107 [(3, .int _), (2, .int _), (0, .ref 36), (1, .ref 1)] (nI (i + 1)) dX4_find_104 rfl (Nat.le_of_ble_eq_true rfl) rfl (nI_inc i) rfl ?_
    refine go_goto 90 dX4_find_107 (by decide) ?_
    refine go_ls [(3, .int _), (2, .int _), (0, .ref 36), (1, .ref 1)] (List.forall_mem_cons.mpr ⟨rfl, List.forall_mem_cons.mpr ⟨rfl, List.forall_mem_cons.mpr ⟨rfl, List.forall_mem_cons.mpr ⟨rfl, fun _ h => absurd h List.not_mem_nil⟩⟩⟩⟩) ?_
    refine g_st (T := bd_rone i p) (by try rfl) (ih2 (by omega))
theorem fr_bd_rone {a0 c0 : Nat} (h37 : a0 ≠ 37) (h38 : a0 ≠ 38) (i : Nat) (p : gS) : rI (bd_rone i p) a0 c0 = rI p a0 c0 := by
  unfold bd_rone
  first | (simp only [snd_ite, rI_ite, ite_self, rI_wIk h37, rI_wRk h37, rI_wIk h38, rI_wRk h38, fr_f_X4_findOne h37 h38]; done) | ((repeat' split) <;> first | rfl | simp only [rI_wIk h37, rI_wRk h37, rI_wIk h38, rI_wRk h38, fr_f_X4_findOne h37 h38] | (apply fr_f_X4_findOne <;> assumption))
theorem fr_lp_rone {a0 c0 : Nat} (h37 : a0 ≠ 37) (h38 : a0 ≠ 38)  (n : Nat) (p : gS) : rI (itr (bd_rone) n p) a0 c0 = rI p a0 c0 := by
  induction n with
  | zero => rfl
  | succ n ih => exact (fr_bd_rone h37 h38 _ _).trans ih

def bd_rjoin (i : Nat) (p : Int32 × gS) : Int32 × gS := (if (rI p.2 2 i) = 2 then (if (f_X4_join p.2 ((nI i)) ((rI p.2 6 i))).1 = 0 then (p.1, (f_X4_join p.2 ((nI i)) ((rI p.2 6 i))).2) else (1, (f_X4_join p.2 ((nI i)) ((rI p.2 6 i))).2)) else (p.1, p.2))
set_option maxRecDepth 100000 in
set_option maxHeartbeats 1000000 in
theorem lk_rjoin {Q : go_Q}  (n : Nat) (s0 : Int32 × gS)  (hI : ∀ i, i ≤ n → okC (itr (bd_rjoin) i s0).2 n) (kx : Go mX4_find false Q 0 0 154 [(2, .int (itr (bd_rjoin) n s0).1), (3, .int (nI n)), (0, .ref 36), (1, .ref 1)] [] (hp (itr (bd_rjoin) n s0).2)) : ∀ i, i ≤ n → Go mX4_find false Q 0 0 114 [(2, .int (itr (bd_rjoin) i s0).1), (3, .int (nI i)), (0, .ref 36), (1, .ref 1)] [] (hp (itr (bd_rjoin) i s0).2) := by
  refine g_dn _ (n) (fun i hi ih => ?_)
  have hT := hI i hi
  have ih2 : i < n → Go mX4_find false Q 0 0 114 [(2, .int ((bd_rjoin) i (itr (bd_rjoin) i s0)).1), (3, .int (nI (i + 1))), (0, .ref 36), (1, .ref 1)] [] (hp ((bd_rjoin) i (itr (bd_rjoin) i s0)).2) := ih
  have kx2 : i = n → Go mX4_find false Q 0 0 154 [(2, .int (itr (bd_rjoin) i s0).1), (3, .int (nI i)), (0, .ref 36), (1, .ref 1)] [] (hp (itr (bd_rjoin) i s0).2) := by
    rintro rfl
    exact kx
  clear ih kx hI
  revert hT ih2 kx2
  generalize itr (bd_rjoin) i s0 = p
  intro hT ih2 kx2
  have h24 := hT.2.1
  refine go_iload_n 115 dX4_find_114 rfl rfl ?_
  refine go_aload_n 116 dX4_find_115 rfl rfl ?_
  refine g_getI 119 dX4_find_116 rfl fF_RX4_25 ly_1 rfl ?_
  refine go_icmp_ge 122 154 dX4_find_119 rfl (by decide) (fun hc1 => ?_) (fun hc1 => ?_)
  · have hv : i = n := by
      have h8 := hc1
      rw [hT.1, nI_le2 (by omega) (by omega)] at h8
      omega
    refine go_ls [(2, .int _), (3, .int _), (0, .ref 36), (1, .ref 1)] (List.forall_mem_cons.mpr ⟨rfl, List.forall_mem_cons.mpr ⟨rfl, List.forall_mem_cons.mpr ⟨rfl, List.forall_mem_cons.mpr ⟨rfl, fun _ h => absurd h List.not_mem_nil⟩⟩⟩⟩) ?_
    exact kx2 hv
  · have hv : i < n := by
      have h8 := hc1
      rw [hT.1, nI_le2 (by omega) (by omega)] at h8
      omega
    clear hc1
    have hcl := nI_c (n := i) (by omega)
    refine go_aload_n 123 dX4_find_122 rfl rfl ?_
    refine g_getR 126 dX4_find_123 rfl fF_RX4_33 ly_1 rfl ?_
    refine go_iload_n 127 dX4_find_126 rfl rfl ?_
    refine g_iald2 128 i dX4_find_127 rfl ly_2 (nI_i (by have := hv; omega) (by omega)) hcl ?_
    refine go_iconst 129 (2) dX4_find_128 rfl (by decide) ?_
    refine go_icmp_ne 132 148 dX4_find_129 rfl (by decide) (fun hc2 => ?_) (fun hc2 => ?_)
    · refine go_iinc 151 [(3, .int _), (2, .int _), (0, .ref 36), (1, .ref 1)] (nI (i + 1)) dX4_find_148 rfl (Nat.le_of_ble_eq_true rfl) rfl (nI_inc i) rfl ?_
      refine go_goto 114 dX4_find_151 (by decide) ?_
      refine go_ls [(2, .int _), (3, .int _), (0, .ref 36), (1, .ref 1)] (List.forall_mem_cons.mpr ⟨rfl, List.forall_mem_cons.mpr ⟨rfl, List.forall_mem_cons.mpr ⟨rfl, List.forall_mem_cons.mpr ⟨rfl, fun _ h => absurd h List.not_mem_nil⟩⟩⟩⟩) ?_
      refine g_l1 (a' := (bd_rjoin i p).1) (by unfold bd_rjoin; simp only [if_neg hc2]; try first | rfl | contradiction) ?_
      refine g_st (T := (bd_rjoin i p).2) (by unfold bd_rjoin; simp only [if_neg hc2]; try first | rfl | contradiction) (ih2 (by omega))
    · refine go_aload_n 133 dX4_find_132 rfl rfl ?_
      refine go_iload_n 134 dX4_find_133 rfl rfl ?_
      refine go_aload_n 135 dX4_find_134 rfl rfl ?_
      refine g_getR 138 dX4_find_135 rfl fF_RX4_44 ly_1 rfl ?_
      refine go_iload_n 139 dX4_find_138 rfl rfl ?_
      refine g_iald2 140 i dX4_find_139 rfl ly_6 (nI_i (by have := hv; omega) (by omega)) hcl ?_
      refine g_callV 143 [.int _, .int _] [] dX4_find_140 rfl (ct_X4_join _ _ _ (nI_i (by have := hv; omega) (by omega)) (okC.nx hT hv)) rfl sV_X4_find_47 rfl ly_36 rfl rfl (Nat.le_of_ble_eq_true rfl) (Nat.le_of_ble_eq_true rfl) (Nat.le_of_ble_eq_true rfl) ?_
      refine go_if_eq 146 148 dX4_find_143 rfl (by decide) (fun hc3 => ?_) (fun hc3 => ?_)
      · refine go_iinc 151 [(3, .int _), (2, .int _), (0, .ref 36), (1, .ref 1)] (nI (i + 1)) dX4_find_148 rfl (Nat.le_of_ble_eq_true rfl) rfl (nI_inc i) rfl ?_
        refine go_goto 114 dX4_find_151 (by decide) ?_
        refine go_ls [(2, .int _), (3, .int _), (0, .ref 36), (1, .ref 1)] (List.forall_mem_cons.mpr ⟨rfl, List.forall_mem_cons.mpr ⟨rfl, List.forall_mem_cons.mpr ⟨rfl, List.forall_mem_cons.mpr ⟨rfl, fun _ h => absurd h List.not_mem_nil⟩⟩⟩⟩) ?_
        refine g_l1 (a' := (bd_rjoin i p).1) (by unfold bd_rjoin; simp only [if_pos hc2, if_pos hc3]; try first | rfl | contradiction) ?_
        refine g_st (T := (bd_rjoin i p).2) (by unfold bd_rjoin; simp only [if_pos hc2, if_pos hc3]; try first | rfl | contradiction) (ih2 (by omega))
      · refine go_iconst 147 (1) dX4_find_146 rfl (by decide) ?_
        refine go_istore_n 148 [(2, .int _), (3, .int _), (0, .ref 36), (1, .ref 1)] dX4_find_147 rfl (Nat.le_of_ble_eq_true rfl) rfl ?_
        refine go_iinc 151 [(3, .int _), (2, .int _), (0, .ref 36), (1, .ref 1)] (nI (i + 1)) dX4_find_148 rfl (Nat.le_of_ble_eq_true rfl) rfl (nI_inc i) rfl ?_
        refine go_goto 114 dX4_find_151 (by decide) ?_
        refine go_ls [(2, .int _), (3, .int _), (0, .ref 36), (1, .ref 1)] (List.forall_mem_cons.mpr ⟨rfl, List.forall_mem_cons.mpr ⟨rfl, List.forall_mem_cons.mpr ⟨rfl, List.forall_mem_cons.mpr ⟨rfl, fun _ h => absurd h List.not_mem_nil⟩⟩⟩⟩) ?_
        refine g_l1 (a' := (bd_rjoin i p).1) (by unfold bd_rjoin; simp only [if_pos hc2, if_neg hc3]; try first | rfl | contradiction) ?_
        refine g_st (T := (bd_rjoin i p).2) (by unfold bd_rjoin; simp only [if_pos hc2, if_neg hc3]; try first | rfl | contradiction) (ih2 (by omega))
theorem fr_bd_rjoin {a0 c0 : Nat} (h37 : a0 ≠ 37) (h38 : a0 ≠ 38) (i : Nat) (p : Int32 × gS) : rI (bd_rjoin i p).2 a0 c0 = rI p.2 a0 c0 := by
  unfold bd_rjoin
  first | (simp only [snd_ite, rI_ite, ite_self, rI_wIk h37, rI_wRk h37, rI_wIk h38, rI_wRk h38, fr_f_X4_join h37 h38]; done) | ((repeat' split) <;> first | rfl | simp only [rI_wIk h37, rI_wRk h37, rI_wIk h38, rI_wRk h38, fr_f_X4_join h37 h38] | (apply fr_f_X4_join <;> assumption))
theorem fr_lp_rjoin {a0 c0 : Nat} (h37 : a0 ≠ 37) (h38 : a0 ≠ 38)  (n : Nat) (p : Int32 × gS) : rI (itr (bd_rjoin) n p).2 a0 c0 = rI p.2 a0 c0 := by
  induction n with
  | zero => rfl
  | succ n ih => exact (fr_bd_rjoin h37 h38 _ _).trans ih

def bd_rwid (i : Nat) (p : gS) : gS := (wI p 39 i ((f_X4_widthOf p ((nI i)))))
set_option maxRecDepth 100000 in
set_option maxHeartbeats 1000000 in
theorem lk_rwid {Q : go_Q}  (n : Nat) (b9 : Int32) (s0 : gS)  (hI : ∀ i, i ≤ n → okC (itr (bd_rwid) i s0) n) (kx : Go mX4_find false Q 0 0 184 [(3, .int (nI n)), (2, .int b9), (0, .ref 36), (1, .ref 1)] [] (hp (itr (bd_rwid) n s0))) : ∀ i, i ≤ n → Go mX4_find false Q 0 0 159 [(3, .int (nI i)), (2, .int b9), (0, .ref 36), (1, .ref 1)] [] (hp (itr (bd_rwid) i s0)) := by
  refine g_dn _ (n) (fun i hi ih => ?_)
  have hT := hI i hi
  have ih2 : i < n → Go mX4_find false Q 0 0 159 [(3, .int (nI (i + 1))), (2, .int b9), (0, .ref 36), (1, .ref 1)] [] (hp ((bd_rwid) i (itr (bd_rwid) i s0))) := ih
  have kx2 : i = n → Go mX4_find false Q 0 0 184 [(3, .int (nI i)), (2, .int b9), (0, .ref 36), (1, .ref 1)] [] (hp (itr (bd_rwid) i s0)) := by
    rintro rfl
    exact kx
  clear ih kx hI
  revert hT ih2 kx2
  generalize itr (bd_rwid) i s0 = p
  intro hT ih2 kx2
  have h24 := hT.2.1
  refine go_iload_n 160 dX4_find_159 rfl rfl ?_
  refine go_aload_n 161 dX4_find_160 rfl rfl ?_
  refine g_getI 164 dX4_find_161 rfl fF_RX4_25 ly_1 rfl ?_
  refine go_icmp_ge 167 184 dX4_find_164 rfl (by decide) (fun hc1 => ?_) (fun hc1 => ?_)
  · have hv : i = n := by
      have h8 := hc1
      rw [hT.1, nI_le2 (by omega) (by omega)] at h8
      omega
    refine go_ls [(3, .int _), (2, .int _), (0, .ref 36), (1, .ref 1)] (List.forall_mem_cons.mpr ⟨rfl, List.forall_mem_cons.mpr ⟨rfl, List.forall_mem_cons.mpr ⟨rfl, List.forall_mem_cons.mpr ⟨rfl, fun _ h => absurd h List.not_mem_nil⟩⟩⟩⟩) ?_
    exact kx2 hv
  · have hv : i < n := by
      have h8 := hc1
      rw [hT.1, nI_le2 (by omega) (by omega)] at h8
      omega
    clear hc1
    have hcl := nI_c (n := i) (by omega)
    refine go_aload_n 168 dX4_find_167 rfl rfl ?_
    refine g_getR 171 dX4_find_168 rfl fF_RX4_18 ly_36 rfl ?_
    refine go_iload_n 172 dX4_find_171 rfl rfl ?_
    refine go_aload_n 173 dX4_find_172 rfl rfl ?_
    refine go_iload_n 174 dX4_find_173 rfl rfl ?_
    refine g_callV 177 [.int _] [.int _, .ref 39] dX4_find_174 rfl (ct_X4_widthOf _ _ (nI_i (by have := hv; omega) (by omega))) rfl sV_X4_find_51 rfl ly_36 rfl rfl (Nat.le_of_ble_eq_true rfl) (Nat.le_of_ble_eq_true rfl) (Nat.le_of_ble_eq_true rfl) ?_
    refine g_iast2 178 i dX4_find_177 rfl ly_39 (nI_i (by have := hv; omega) (by omega)) hcl ?_
    refine go_iinc 181 [(3, .int _), (2, .int _), (0, .ref 36), (1, .ref 1)] (nI (i + 1)) dX4_find_178 rfl (Nat.le_of_ble_eq_true rfl) rfl (nI_inc i) rfl ?_
    refine go_goto 159 dX4_find_181 (by decide) ?_
    refine go_ls [(3, .int _), (2, .int _), (0, .ref 36), (1, .ref 1)] (List.forall_mem_cons.mpr ⟨rfl, List.forall_mem_cons.mpr ⟨rfl, List.forall_mem_cons.mpr ⟨rfl, List.forall_mem_cons.mpr ⟨rfl, fun _ h => absurd h List.not_mem_nil⟩⟩⟩⟩) ?_
    refine g_st (T := bd_rwid i p) (by try rfl) (ih2 (by omega))
theorem fr_bd_rwid {a0 c0 : Nat} (h39 : a0 ≠ 39) (i : Nat) (p : gS) : rI (bd_rwid i p) a0 c0 = rI p a0 c0 := by
  unfold bd_rwid
  first | (simp only [snd_ite, rI_ite, ite_self, rI_wIk h39, rI_wRk h39]; done) | ((repeat' split) <;> first | rfl | simp only [rI_wIk h39, rI_wRk h39])
theorem fr_lp_rwid {a0 c0 : Nat} (h39 : a0 ≠ 39)  (n : Nat) (p : gS) : rI (itr (bd_rwid) n p) a0 c0 = rI p a0 c0 := by
  induction n with
  | zero => rfl
  | succ n ih => exact (fr_bd_rwid h39 _ _).trans ih

/-- the rounds -/
def rdC (n : Nat) (S : gS) : Int32 × gS := itr bd_rjoin n (0, itr bd_rone n (wI S 36 3 (rI S 36 3 + 1)))
def rcS (S : gS) (n : Nat) : Nat → gS
  | 0 => S
  | k + 1 => (rdC n (rcS S n k)).2
def rcM (S : gS) (n : Nat) : Nat → Int32
  | 0 => 1
  | k + 1 => (rdC n (rcS S n k)).1
def rcEnd (S : gS) (n K : Nat) : Prop := (∀ k, k ≤ K → rcM S n k ≠ 0) ∧ rcM S n (K + 1) = 0 ∧ K < 90000
theorem fr_rdC {a0 c0 : Nat} (h363 : ¬ (a0 = 36 ∧ c0 = 3)) (h37 : a0 ≠ 37) (h38 : a0 ≠ 38) (n : Nat) (S : gS) : rI (rdC n S).2 a0 c0 = rI S a0 c0 := by
  unfold rdC
  rw [fr_lp_rjoin h37 h38, fr_lp_rone h37 h38, rI_wIc h363]
theorem rdC_rc (n : Nat) (S : gS) : rI (rdC n S).2 36 3 = rI S 36 3 + 1 := by
  unfold rdC
  rw [fr_lp_rjoin (by decide) (by decide), fr_lp_rone (by decide) (by decide), rI_wI, if_pos ⟨rfl, rfl⟩]
theorem fr_rcS {a0 c0 : Nat} (h36_3 : ¬ (a0 = 36 ∧ c0 = 3)) (h37 : a0 ≠ 37) (h38 : a0 ≠ 38) (S : gS) (n k : Nat) : rI (rcS S n k) a0 c0 = rI S a0 c0 := by
  induction k with
  | zero => rfl
  | succ k ih => exact (fr_rdC h36_3 h37 h38 n _).trans ih
theorem rcS_rc (S : gS) (n : Nat) (h0 : rI S 36 3 = 0) (k : Nat) : rI (rcS S n k) 36 3 = nI k := by
  induction k with
  | zero => exact h0
  | succ k ih =>
    show rI (rdC n (rcS S n k)).2 36 3 = _
    rw [rdC_rc, ih]
    exact nI_1 k
theorem rcS_ok {S : gS} {n : Nat} (ho : okC S n) (k : Nat) : okC (rcS S n k) n := okC.of ho (fun a c h => fr_rcS (by omega) (by omega) (by omega) S n k)
