set_option maxRecDepth 100000 in
set_option maxHeartbeats 4000000 in
theorem lk_fr2 {Q : go_Q} (S : gS) (n : Nat) (ho : okR S n) (kx : Go mX9_findRanges false Q 0 0 42 [(1, .int (nI n)), (0, .ref 115)] [] (hp (iniF S (n)))) : ∀ i, i ≤ n → Go mX9_findRanges false Q 0 0 2 [(1, .int (nI i)), (0, .ref 115)] [] (hp (iniF S i)) := by
  refine g_dn _ (n) (fun i hi ih => ?_)
  have h24 := ho.2.1
  have hcl := nI_c (n := i) (by omega)
  refine go_iload_n 3 dX9_findRanges_2 rfl rfl ?_
  refine go_aload_n 4 dX9_findRanges_3 rfl rfl ?_
  refine g_getI 7 dX9_findRanges_4 rfl fF_RX9_102 ly_115 rfl ?_
  refine go_icmp_ge 10 42 dX9_findRanges_7 rfl (by decide) (fun hc1 => ?_) (fun hc1 => ?_)
  · have hv : i = n := by
      have h8 := hc1
      rw [show rI (iniF S i) 115 10 = nI n from ho.1, nI_le2 (by omega) (by omega)] at h8
      omega
    subst hv
    exact kx
  · have hv : i < n := by
      have h8 := hc1
      rw [show rI (iniF S i) 115 10 = nI n from ho.1, nI_le2 (by omega) (by omega)] at h8
      omega
    refine go_aload_n 11 dX9_findRanges_10 rfl rfl ?_
    refine g_getR 14 dX9_findRanges_11 rfl fF_RX9_37 ly_115 rfl ?_
    refine go_iload_n 15 dX9_findRanges_14 rfl rfl ?_
    refine go_aload_n 16 dX9_findRanges_15 rfl rfl ?_
    refine g_getR 19 dX9_findRanges_16 rfl fF_RX9_13 ly_115 rfl ?_
    refine go_iload_n 20 dX9_findRanges_19 rfl rfl ?_
    refine g_iald 21 dX9_findRanges_20 rfl ly_117 (nI_i (by have := hv; omega) (by omega)) ?_
    refine go_i2l 22 dX9_findRanges_21 rfl ?_
    refine g_last 23 dX9_findRanges_22 rfl ly_125 (nI_i (by have := hv; omega) (by omega)) ?_
    refine go_aload_n 24 dX9_findRanges_23 rfl rfl ?_
    refine g_getR 27 dX9_findRanges_24 rfl fF_RX9_41 ly_115 rfl ?_
    refine go_iload_n 28 dX9_findRanges_27 rfl rfl ?_
    refine go_aload_n 29 dX9_findRanges_28 rfl rfl ?_
    refine g_getR 32 dX9_findRanges_29 rfl fF_RX9_13 ly_115 rfl ?_
    refine go_iload_n 33 dX9_findRanges_32 rfl rfl ?_
    refine g_iald 34 dX9_findRanges_33 rfl ly_117 (nI_i (by have := hv; omega) (by omega)) ?_
    refine go_i2l 35 dX9_findRanges_34 rfl ?_
    refine g_last 36 dX9_findRanges_35 rfl ly_126 (nI_i (by have := hv; omega) (by omega)) ?_
    refine go_iinc 39 [(1, .int _), (0, .ref 115)] (nI (i + 1)) dX9_findRanges_36 rfl (Nat.le_of_ble_eq_true rfl) rfl (nI_inc i) rfl ?_
    refine go_goto 2 dX9_findRanges_39 (by decide) ?_
    refine g_st ?_ (ih (by omega))
    rw [hcl]
    exact iniF_s S i

set_option maxRecDepth 100000 in
set_option maxHeartbeats 4000000 in
theorem lk_fr67 {Q : go_Q} (S : gS) (n : Nat) (ho : okR S n) (kx : Go mX9_findRanges false Q 0 0 96 [(2, .int (nI n)), (1, .int 0), (0, .ref 115)] [] (hp (ps1 S (n)))) : ∀ i, i ≤ n → Go mX9_findRanges false Q 0 0 67 [(2, .int (nI i)), (1, .int 0), (0, .ref 115)] [] (hp (ps1 S i)) := by
  refine g_dn _ (n) (fun i hi ih => ?_)
  have h24 := ho.2.1
  have hcl := nI_c (n := i) (by omega)
  refine go_iload_n 68 dX9_findRanges_67 rfl rfl ?_
  refine go_aload_n 69 dX9_findRanges_68 rfl rfl ?_
  refine g_getI 72 dX9_findRanges_69 rfl fF_RX9_102 ly_115 rfl ?_
  refine go_icmp_ge 75 96 dX9_findRanges_72 rfl (by decide) (fun hc1 => ?_) (fun hc1 => ?_)
  · have hv : i = n := by
      have h8 := hc1
      rw [show rI (ps1 S i) 115 10 = nI n from (rI_ps1 S i 115 10).trans ho.1, nI_le2 (by omega) (by omega)] at h8
      omega
    subst hv
    exact kx
  · have hv : i < n := by
      have h8 := hc1
      rw [show rI (ps1 S i) 115 10 = nI n from (rI_ps1 S i 115 10).trans ho.1, nI_le2 (by omega) (by omega)] at h8
      omega
    refine go_aload_n 76 dX9_findRanges_75 rfl rfl ?_
    refine g_getR 79 dX9_findRanges_76 rfl fF_RX9_7 ly_115 rfl ?_
    refine go_iload_n 80 dX9_findRanges_79 rfl rfl ?_
    refine g_iald 81 dX9_findRanges_80 rfl ly_116 (nI_i (by have := hv; omega) (by omega)) ?_
    refine go_iconst 82 (2) dX9_findRanges_81 rfl (by decide) ?_
    refine go_icmp_eq 85 90 dX9_findRanges_82 rfl (by decide) (fun hc2 => ?_) (fun hc2 => ?_)
    · refine go_iinc 93 [(2, .int _), (1, .int _), (0, .ref 115)] (nI (i + 1)) dX9_findRanges_90 rfl (Nat.le_of_ble_eq_true rfl) rfl (nI_inc i) rfl ?_
      refine go_goto 67 dX9_findRanges_93 (by decide) ?_
      refine g_st ?_ (ih (by omega))
      rw [hcl] at *
      show _ = f1 i (ps1 S i)
      unfold f1
      first | rw [if_pos hc2] | rw [if_neg hc2]
    · refine go_aload_n 86 dX9_findRanges_85 rfl rfl ?_
      refine go_iload_n 87 dX9_findRanges_86 rfl rfl ?_
      refine g_callV0 90 [.int _] [] dX9_findRanges_87 rfl (ct_X9_findsRange _ _ (nI_i (by have := hv; omega) (by omega)) (by rw [hcl]; exact okS_of (ho.2.2 i (by omega)).1 (fun k hk => rI_ps1 S i k i)) (by have h7 := hc2; rw [hcl] at h7 ⊢; exact h7)) rfl sV_X9_findRanges_207 rfl ly_115 rfl rfl (Nat.le_of_ble_eq_true rfl) (Nat.le_of_ble_eq_true rfl) (Nat.le_of_ble_eq_true rfl) ?_
      refine go_iinc 93 [(2, .int _), (1, .int _), (0, .ref 115)] (nI (i + 1)) dX9_findRanges_90 rfl (Nat.le_of_ble_eq_true rfl) rfl (nI_inc i) rfl ?_
      refine go_goto 67 dX9_findRanges_93 (by decide) ?_
      refine g_st ?_ (ih (by omega))
      rw [hcl] at *
      show _ = f1 i (ps1 S i)
      unfold f1
      first | rw [if_pos hc2] | rw [if_neg hc2]

set_option maxRecDepth 100000 in
set_option maxHeartbeats 4000000 in
theorem lk_fr98 {Q : go_Q} (S : gS) (n : Nat) (ho : okR S n) (kx : Go mX9_findRanges false Q 0 0 132 [(2, .int (nI n)), (1, .int (ps2 S n).1), (0, .ref 115)] [] (hp ((fun i => (ps2 S i).2) (n)))) : ∀ i, i ≤ n → Go mX9_findRanges false Q 0 0 98 [(2, .int (nI i)), (1, .int (ps2 S i).1), (0, .ref 115)] [] (hp ((fun i => (ps2 S i).2) i)) := by
  refine g_dn _ (n) (fun i hi ih => ?_)
  have h24 := ho.2.1
  have hcl := nI_c (n := i) (by omega)
  refine go_iload_n 99 dX9_findRanges_98 rfl rfl ?_
  refine go_aload_n 100 dX9_findRanges_99 rfl rfl ?_
  refine g_getI 103 dX9_findRanges_100 rfl fF_RX9_102 ly_115 rfl ?_
  refine go_icmp_ge 106 132 dX9_findRanges_103 rfl (by decide) (fun hc1 => ?_) (fun hc1 => ?_)
  · have hv : i = n := by
      have h8 := hc1
      rw [show rI (ps2 S i).2 115 10 = nI n from (rI_ps2 S i 115 10).trans ho.1, nI_le2 (by omega) (by omega)] at h8
      omega
    subst hv
    exact kx
  · have hv : i < n := by
      have h8 := hc1
      rw [show rI (ps2 S i).2 115 10 = nI n from (rI_ps2 S i 115 10).trans ho.1, nI_le2 (by omega) (by omega)] at h8
      omega
    refine go_aload_n 107 dX9_findRanges_106 rfl rfl ?_
    refine g_getR 110 dX9_findRanges_107 rfl fF_RX9_7 ly_115 rfl ?_
    refine go_iload_n 111 dX9_findRanges_110 rfl rfl ?_
    refine g_iald 112 dX9_findRanges_111 rfl ly_116 (nI_i (by have := hv; omega) (by omega)) ?_
    refine go_iconst 113 (2) dX9_findRanges_112 rfl (by decide) ?_
    refine go_icmp_ne 116 126 dX9_findRanges_113 rfl (by decide) (fun hc2 => ?_) (fun hc2 => ?_)
    · refine go_iinc 129 [(2, .int _), (1, .int _), (0, .ref 115)] (nI (i + 1)) dX9_findRanges_126 rfl (Nat.le_of_ble_eq_true rfl) rfl (nI_inc i) rfl ?_
      refine go_goto 98 dX9_findRanges_129 (by decide) ?_
      have h6 : Go mX9_findRanges false Q 0 0 98 [(2, .int (nI (i + 1))), (1, .int (f2 i (ps2 S i)).1), (0, .ref 115)] [] (hp (f2 i (ps2 S i)).2) := ih (by omega)
      rw [hcl] at *
      first
        | (rw [f2_n hc2] at h6; exact h6)
        | (rw [f2_t hc2 (bi1.mp hc3)] at h6; exact h6)
        | (rw [f2_f hc2 (bi0.mp hc3)] at h6; exact h6)
    · refine go_aload_n 117 dX9_findRanges_116 rfl rfl ?_
      refine go_iload_n 118 dX9_findRanges_117 rfl rfl ?_
      refine g_callV 121 [.int _] [] dX9_findRanges_118 rfl (ct_X9_widens _ _ (nI_i (by have := hv; omega) (by omega)) (by have h7 := hc2; rw [hcl] at h7 ⊢; rw [rI_ps2] at h7 ⊢; exact (ho.2.2 i (by omega)).2 h7)) rfl sV_X9_findRanges_211 rfl ly_115 rfl rfl (Nat.le_of_ble_eq_true rfl) (Nat.le_of_ble_eq_true rfl) (Nat.le_of_ble_eq_true rfl) ?_
      refine go_if_eq 124 126 dX9_findRanges_121 rfl (by decide) (fun hc3 => ?_) (fun hc3 => ?_)
      · refine go_iinc 129 [(2, .int _), (1, .int _), (0, .ref 115)] (nI (i + 1)) dX9_findRanges_126 rfl (Nat.le_of_ble_eq_true rfl) rfl (nI_inc i) rfl ?_
        refine go_goto 98 dX9_findRanges_129 (by decide) ?_
        have h6 : Go mX9_findRanges false Q 0 0 98 [(2, .int (nI (i + 1))), (1, .int (f2 i (ps2 S i)).1), (0, .ref 115)] [] (hp (f2 i (ps2 S i)).2) := ih (by omega)
        rw [hcl] at *
        first
          | (rw [f2_n hc2] at h6; exact h6)
          | (rw [f2_t hc2 (bi1.mp hc3)] at h6; exact h6)
          | (rw [f2_f hc2 (bi0.mp hc3)] at h6; exact h6)
      · refine go_iconst 125 (1) dX9_findRanges_124 rfl (by decide) ?_
        refine go_istore_n 126 [(1, .int _), (2, .int _), (0, .ref 115)] dX9_findRanges_125 rfl (Nat.le_of_ble_eq_true rfl) rfl ?_
        refine go_iinc 129 [(2, .int _), (1, .int _), (0, .ref 115)] (nI (i + 1)) dX9_findRanges_126 rfl (Nat.le_of_ble_eq_true rfl) rfl (nI_inc i) rfl ?_
        refine go_goto 98 dX9_findRanges_129 (by decide) ?_
        have h6 : Go mX9_findRanges false Q 0 0 98 [(2, .int (nI (i + 1))), (1, .int (f2 i (ps2 S i)).1), (0, .ref 115)] [] (hp (f2 i (ps2 S i)).2) := ih (by omega)
        rw [hcl] at *
        first
          | (rw [f2_n hc2] at h6; exact h6)
          | (rw [f2_t hc2 (bi1.mp hc3)] at h6; exact h6)
          | (rw [f2_f hc2 (bi0.mp hc3)] at h6; exact h6)

set_option maxRecDepth 100000 in
set_option maxHeartbeats 4000000 in
theorem lp_fr49 (S : gS) (n : Nat) (ho : okR S n) (K : Nat) (hK : rnEnd (wI (iniF S n) 115 14 0) n K) : ∀ i, i ≤ K + 1 → Go mX9_findRanges false (go_Qm mX9_findRanges false (fun v9 h9 => v9 = none ∧ h9 = hp (rnS (wI (iniF S n) 115 14 0) n (K + 1))) go_no) 0 0 49 [(1, .int (rnM (wI (iniF S n) 115 14 0) n i)), (0, .ref 115)] [] (hp (rnS (wI (iniF S n) 115 14 0) n i)) := by
  refine g_dn _ (K + 1) (fun i hi ih => ?_)
  have h24 := ho.2.1
  refine go_iload_n 50 dX9_findRanges_49 rfl rfl ?_
  refine go_if_eq 53 135 dX9_findRanges_50 rfl (by decide) (fun hc1 => ?_) (fun hc1 => ?_)
  · refine go_return dX9_findRanges_135 rfl (Nat.le_of_ble_eq_true rfl) (Nat.le_of_ble_eq_true rfl) ?_
    have hv : i = K + 1 := by
      rcases Nat.lt_or_ge K i with q | q
      · omega
      · exact absurd hc1 (hK.1 i q)
    subst hv
    exact ⟨rfl, rfl⟩
  · have hv : i ≤ K := by
      rcases Nat.lt_or_ge K i with q | q
      · have e9 : i = K + 1 := by omega
        subst e9
        exact absurd hK.2 hc1
      · exact q
    have hoK : okR (wI (rnS (wI (iniF S n) 115 14 0) n i) 115 14 (rI (rnS (wI (iniF S n) 115 14 0) n i) 115 14 + 1)) n := okR_of ho (by rw [rI_wI, if_neg (by decide), rI_rnS _ _ _ _ _ (by decide)]; rfl) (fun k j hk => by rw [rI_wI, if_neg (by omega), rI_rnS _ _ _ _ _ (by omega), rI_wI, if_neg (by omega)]; rfl)
    refine go_aload_n 54 dX9_findRanges_53 rfl rfl ?_
    refine go_dup 55 dX9_findRanges_54 rfl rfl ?_
    refine g_getI 58 dX9_findRanges_55 rfl fF_RX9_204 ly_115 rfl ?_
    refine go_iconst 59 (1) dX9_findRanges_58 rfl (by decide) ?_
    refine go_iadd 60 dX9_findRanges_59 rfl ?_
    refine g_putI 63 dX9_findRanges_60 rfl fF_RX9_204 ly_115 rfl (fun q hq => by cases hq; rfl) rfl rfl ?_
    refine go_iconst 64 (0) dX9_findRanges_63 rfl (by decide) ?_
    refine go_istore_n 65 [(1, .int _), (0, .ref 115)] dX9_findRanges_64 rfl (Nat.le_of_ble_eq_true rfl) rfl ?_
    refine go_iconst 66 (0) dX9_findRanges_65 rfl (by decide) ?_
    refine go_istore_n 67 [(2, .int _), (1, .int _), (0, .ref 115)] dX9_findRanges_66 rfl (Nat.le_of_ble_eq_true rfl) rfl ?_
    refine go_ls [(2, .int _), (1, .int _), (0, .ref 115)] (List.forall_mem_cons.mpr ⟨rfl, List.forall_mem_cons.mpr ⟨rfl, List.forall_mem_cons.mpr ⟨rfl, fun _ h => absurd h List.not_mem_nil⟩⟩⟩) ?_
    refine lk_fr67 _ n hoK ?_ 0 (Nat.zero_le _)
    refine go_iconst 97 (0) dX9_findRanges_96 rfl (by decide) ?_
    refine go_istore_n 98 [(2, .int _), (1, .int _), (0, .ref 115)] dX9_findRanges_97 rfl (Nat.le_of_ble_eq_true rfl) rfl ?_
    refine go_ls [(2, .int _), (1, .int _), (0, .ref 115)] (List.forall_mem_cons.mpr ⟨rfl, List.forall_mem_cons.mpr ⟨rfl, List.forall_mem_cons.mpr ⟨rfl, fun _ h => absurd h List.not_mem_nil⟩⟩⟩) ?_
    refine lk_fr98 _ n (okR_of hoK (rI_ps1 _ _ _ _) (fun k j _ => rI_ps1 _ _ _ _)) ?_ 0 (Nat.zero_le _)
    refine go_goto 49 dX9_findRanges_132 (by decide) ?_
    refine go_ls [(1, .int _), (0, .ref 115)] (List.forall_mem_cons.mpr ⟨rfl, List.forall_mem_cons.mpr ⟨rfl, fun _ h => absurd h List.not_mem_nil⟩⟩) ?_
    exact ih (by omega)

set_option maxRecDepth 100000 in
set_option maxHeartbeats 4000000 in
theorem ct_X9_findRanges (S : gS) (n : Nat) (ho : okR S n) (K : Nat) (hK : rnEnd (wI (iniF S n) 115 14 0) n K) : gF mX9_findRanges [.ref 115] S none (rnS (wI (iniF S n) 115 14 0) n (K + 1)) := by
  refine go_enter [.ref 115] [(0, .ref 115)] (by decide +kernel) rfl rfl (Nat.le_of_ble_eq_true rfl) rfl ?_
  refine go_iconst 1 (0) dX9_findRanges_0 rfl (by decide) ?_
  refine go_istore_n 2 [(1, .int _), (0, .ref 115)] dX9_findRanges_1 rfl (Nat.le_of_ble_eq_true rfl) rfl ?_
  refine go_ls [(1, .int _), (0, .ref 115)] (List.forall_mem_cons.mpr ⟨rfl, List.forall_mem_cons.mpr ⟨rfl, fun _ h => absurd h List.not_mem_nil⟩⟩) ?_
  refine g_st (iniF_0 S).symm ?_
  refine lk_fr2 S n ho ?_ 0 (Nat.zero_le _)
  refine go_aload_n 43 dX9_findRanges_42 rfl rfl ?_
  refine go_iconst 44 (0) dX9_findRanges_43 rfl (by decide) ?_
  refine g_putI 47 dX9_findRanges_44 rfl fF_RX9_204 ly_115 rfl (fun q hq => by cases hq; rfl) rfl rfl ?_
  refine go_iconst 48 (1) dX9_findRanges_47 rfl (by decide) ?_
  refine go_istore_n 49 [(1, .int _), (0, .ref 115)] dX9_findRanges_48 rfl (Nat.le_of_ble_eq_true rfl) rfl ?_
  refine go_ls [(1, .int _), (0, .ref 115)] (List.forall_mem_cons.mpr ⟨rfl, List.forall_mem_cons.mpr ⟨rfl, fun _ h => absurd h List.not_mem_nil⟩⟩) ?_
  exact lp_fr49 S n ho K hK 0 (Nat.zero_le _)
