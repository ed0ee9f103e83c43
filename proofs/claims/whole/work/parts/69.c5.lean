-- needs 
theorem rc_bnd {i : Nat} (h : i < 90001) : ¬ (100000 : Int32) ≤ nI i := by
  rw [ile, nI_toInt (by omega)]
  show ¬ (100000 : Int) ≤ (i : Int)
  omega
set_option maxRecDepth 100000 in
set_option maxHeartbeats 1000000 in
theorem lk_rwh {Q : go_Q} (S : gS) (n : Nat) (ho : okC S n) (h0 : rI S 36 3 = 0) (K : Nat) (hK : rcEnd S n K) (kx : Go mX4_find false Q 0 0 157 [(2, .int (rcM S n (K + 1))), (0, .ref 36), (1, .ref 1)] [] (hp (rcS S n (K + 1)))) : ∀ i, i ≤ K + 1 → Go mX4_find false Q 0 0 65 [(2, .int (rcM S n i)), (0, .ref 36), (1, .ref 1)] [] (hp (rcS S n i)) := by
  refine g_dn _ (K + 1) (fun i hi ih => ?_)
  have h24 := ho.2.1
  refine go_iload_n 66 dX4_find_65 rfl rfl ?_
  refine go_if_eq 69 157 dX4_find_66 rfl (by decide) (fun hc1 => ?_) (fun hc1 => ?_)
  · first
      | (have hv : i = K + 1 := by
           rcases Nat.lt_or_ge K i with q | q
           · omega
           · exact absurd hc1 (hK.1 i q)
         subst hv
         exact kx)
      | (have h7 := hc2
         rw [rcS_rc S n h0 i] at h7
         have h6 := hK.2.2
         exact absurd h7 (rc_bnd (by omega)))
  · have hv : i ≤ K := by
      rcases Nat.lt_or_ge K i with q | q
      · have e9 : i = K + 1 := by omega
        subst e9
        exact absurd hK.2.1 hc1
      · exact q
    have hoK : okC (wI (rcS S n i) 36 3 (rI (rcS S n i) 36 3 + 1)) n := okC.of (rcS_ok ho i) (fun a c h => rI_wIc (by omega) _ _)
    refine go_aload_n 70 dX4_find_69 rfl rfl ?_
    refine g_getI 73 dX4_find_70 rfl fF_RX4_21 ly_36 rfl ?_
    refine go_ldc 75 (100000) dX4_find_73 rfl wK_RX4_39 ?_
    refine go_icmp_ge 78 157 dX4_find_75 rfl (by decide) (fun hc2 => ?_) (fun hc2 => ?_)
    · first
        | (have hv : i = K + 1 := by
             rcases Nat.lt_or_ge K i with q | q
             · omega
             · exact absurd hc1 (hK.1 i q)
           subst hv
           exact kx)
        | (have h7 := hc2
           rw [rcS_rc S n h0 i] at h7
           have h6 := hK.2.2
           exact absurd h7 (rc_bnd (by omega)))
    · refine go_aload_n 79 dX4_find_78 rfl rfl ?_
      refine go_dup 80 dX4_find_79 rfl rfl ?_
      refine g_getI 83 dX4_find_80 rfl fF_RX4_21 ly_36 rfl ?_
      refine go_iconst 84 (1) dX4_find_83 rfl (by decide) ?_
      refine go_iadd 85 dX4_find_84 rfl ?_
      refine g_putI 88 dX4_find_85 rfl fF_RX4_21 ly_36 rfl (fun q hq => by cases hq; rfl) rfl rfl ?_
      refine go_iconst 89 (0) dX4_find_88 rfl (by decide) ?_
      refine go_istore_n 90 [(3, .int _), (2, .int _), (0, .ref 36), (1, .ref 1)] dX4_find_89 rfl (Nat.le_of_ble_eq_true rfl) rfl ?_
      refine go_ls [(3, .int _), (2, .int _), (0, .ref 36), (1, .ref 1)] (List.forall_mem_cons.mpr ⟨rfl, List.forall_mem_cons.mpr ⟨rfl, List.forall_mem_cons.mpr ⟨rfl, List.forall_mem_cons.mpr ⟨rfl, fun _ h => absurd h List.not_mem_nil⟩⟩⟩⟩) ?_
      refine lk_rone n _ _ (fun i2 h2 => okC.of hoK (fun a c h => fr_lp_rone (by omega) (by omega) i2 _)) ?_ 0 (Nat.zero_le _)
      refine go_iconst 111 (0) dX4_find_110 rfl (by decide) ?_
      refine go_istore_n 112 [(2, .int _), (3, .int _), (0, .ref 36), (1, .ref 1)] dX4_find_111 rfl (Nat.le_of_ble_eq_true rfl) rfl ?_
      refine go_iconst 113 (0) dX4_find_112 rfl (by decide) ?_
      refine go_istore_n 114 [(3, .int _), (2, .int _), (0, .ref 36), (1, .ref 1)] dX4_find_113 rfl (Nat.le_of_ble_eq_true rfl) rfl ?_
      refine go_ls [(2, .int _), (3, .int _), (0, .ref 36), (1, .ref 1)] (List.forall_mem_cons.mpr ⟨rfl, List.forall_mem_cons.mpr ⟨rfl, List.forall_mem_cons.mpr ⟨rfl, List.forall_mem_cons.mpr ⟨rfl, fun _ h => absurd h List.not_mem_nil⟩⟩⟩⟩) ?_
      refine lk_rjoin n (0, _) (fun i2 h2 => okC.of hoK (fun a c h => (fr_lp_rjoin (by omega) (by omega) i2 _).trans (fr_lp_rone (by omega) (by omega) n _))) ?_ 0 (Nat.zero_le _)
      refine go_goto 65 dX4_find_154 (by decide) ?_
      refine go_ls [(2, .int _), (0, .ref 36), (1, .ref 1)] (List.forall_mem_cons.mpr ⟨rfl, List.forall_mem_cons.mpr ⟨rfl, List.forall_mem_cons.mpr ⟨rfl, fun _ h => absurd h List.not_mem_nil⟩⟩⟩) ?_
      exact ih (by omega)

def f_X4_find (S : gS) (n K : Nat) : gS := (itr (bd_rwid) n (rcS (wI (itr (bd_rini) n S) 36 3 0) n (K + 1)))
set_option maxRecDepth 100000 in
set_option maxHeartbeats 1000000 in
theorem ct_X4_find (S : gS) (n K : Nat) (ho : okC S n) (hK : rcEnd (wI (itr (bd_rini) n S) 36 3 0) n K) : gF mX4_find [.ref 36, .ref 1] S none (f_X4_find S n K) := by
  have h24 := ho.2.1
  refine go_enter [.ref 36, .ref 1] [(0, .ref 36), (1, .ref 1)] (by decide +kernel) rfl rfl (Nat.le_of_ble_eq_true rfl) rfl ?_
  refine go_iconst 1 (0) dX4_find_0 rfl (by decide) ?_
  refine go_istore_n 2 [(2, .int _), (0, .ref 36), (1, .ref 1)] dX4_find_1 rfl (Nat.le_of_ble_eq_true rfl) rfl ?_
  refine go_ls [(2, .int _), (0, .ref 36), (1, .ref 1)] (List.forall_mem_cons.mpr ⟨rfl, List.forall_mem_cons.mpr ⟨rfl, List.forall_mem_cons.mpr ⟨rfl, fun _ h => absurd h List.not_mem_nil⟩⟩⟩) ?_
  refine lk_rini n _ (fun i hi => okC.of ho (fun a c h => fr_lp_rini (by omega) (by omega) i _)) ?_ 0 (Nat.zero_le _)
  refine go_aload_n 59 dX4_find_58 rfl rfl ?_
  refine go_iconst 60 (0) dX4_find_59 rfl (by decide) ?_
  refine g_putI 63 dX4_find_60 rfl fF_RX4_21 ly_36 rfl (fun q hq => by cases hq; rfl) rfl rfl ?_
  refine go_iconst 64 (1) dX4_find_63 rfl (by decide) ?_
  refine go_istore_n 65 [(2, .int _), (0, .ref 36), (1, .ref 1)] dX4_find_64 rfl (Nat.le_of_ble_eq_true rfl) rfl ?_
  refine go_ls [(2, .int _), (0, .ref 36), (1, .ref 1)] (List.forall_mem_cons.mpr ⟨rfl, List.forall_mem_cons.mpr ⟨rfl, List.forall_mem_cons.mpr ⟨rfl, fun _ h => absurd h List.not_mem_nil⟩⟩⟩) ?_
  refine lk_rwh _ n (okC.of ho (fun a c h => (rI_wIc (by omega) _ _).trans (fr_lp_rini (by omega) (by omega) n _))) (by rw [rI_wI, if_pos ⟨rfl, rfl⟩]) K hK ?_ 0 (Nat.zero_le _)
  refine go_iconst 158 (0) dX4_find_157 rfl (by decide) ?_
  refine go_istore_n 159 [(3, .int _), (2, .int _), (0, .ref 36), (1, .ref 1)] dX4_find_158 rfl (Nat.le_of_ble_eq_true rfl) rfl ?_
  refine go_ls [(3, .int _), (2, .int _), (0, .ref 36), (1, .ref 1)] (List.forall_mem_cons.mpr ⟨rfl, List.forall_mem_cons.mpr ⟨rfl, List.forall_mem_cons.mpr ⟨rfl, List.forall_mem_cons.mpr ⟨rfl, fun _ h => absurd h List.not_mem_nil⟩⟩⟩⟩) ?_
  refine lk_rwid n _ _ (fun i hi => okC.of ho (fun a c h => (fr_lp_rwid (by omega) i _).trans ((fr_rcS (by omega) (by omega) (by omega) _ _ _).trans ((rI_wIc (by omega) _ _).trans (fr_lp_rini (by omega) (by omega) n _))))) ?_ 0 (Nat.zero_le _)
  refine go_return dX4_find_184 rfl (Nat.le_of_ble_eq_true rfl) (Nat.le_of_ble_eq_true rfl) ?_
  exact ⟨rfl, congrArg hp rfl⟩
theorem fr_f_X4_find {a0 c0 : Nat} (h36_3 : ¬ (a0 = 36 ∧ c0 = 3)) (h37 : a0 ≠ 37) (h38 : a0 ≠ 38) (h39 : a0 ≠ 39) (S : gS) (n K : Nat) : rI (f_X4_find S n K) a0 c0 = rI S a0 c0 := by
  unfold f_X4_find
  first | (simp only [snd_ite, rI_ite, ite_self, rI_wIc h36_3, rI_wIk h37, rI_wRk h37, rI_wIk h38, rI_wRk h38, rI_wIk h39, rI_wRk h39, fr_lp_rini h37 h38, fr_lp_rwid h39, fr_rcS h36_3 h37 h38]; done) | ((repeat' split) <;> first | rfl | simp only [rI_wIc h36_3, rI_wIk h37, rI_wRk h37, rI_wIk h38, rI_wRk h38, rI_wIk h39, rI_wRk h39, fr_lp_rini h37 h38, fr_lp_rwid h39, fr_rcS h36_3 h37 h38] | (apply fr_rcS <;> assumption))

