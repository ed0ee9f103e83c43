/-- the code that a call of add is answered with: 0, or why it is refused -/
def addK (n : Nat) (kind a c d : Int32) : Int32 := if ¬ ((0 : Int64) ≤ kind.toInt64 ∧ kind.toInt64 ≤ 12) ∨ ¬ bcF kind a c < 0 then 1 else if ¬ bsF (nI n) kind a c d < 0 then 2 else if n = 24 then 3 else 0
theorem vin_of {s : Int32} {n : Nat} (h : 0 ≤ s ∧ s < nI n) (h24 : n ≤ 24) : vp_in s 24 := by
  obtain ⟨h1, h2⟩ := h
  rw [vp_in_iff]
  rw [ile] at h1
  rw [il, nI_toInt (by omega)] at h2
  simp at h1
  omega
theorem nI_ofInt {s : Int32} {n : Nat} (h : 0 ≤ s ∧ s < nI n) (h24 : n ≤ 24) : ∃ i, i < n ∧ s = nI i ∧ s.toNatClampNeg = i := by
  obtain ⟨j, hj, rfl⟩ := vp_in_of (vin_of h h24) (by omega)
  refine ⟨j, ?_, rfl, nI_c (by omega)⟩
  have h2 := h.2
  rw [nI_lt2 (by omega) (by omega)] at h2
  exact h2
set_option maxRecDepth 100000 in
set_option maxHeartbeats 4000000 in
theorem ct_X9_add (S : gS) (kind a c d : Int32) (n : Nat) (hn : rI S 115 10 = nI n) (h24 : n ≤ 24) : gF mX9_add [.ref 115, .int kind, .int a, .int c, .int d] S (some (.int (if addK n kind a c d = 0 then nI n else 0))) (if addK n kind a c d = 0 then rsF (adF (wI S 115 0 0) kind a c d) (n + 1) else wI S 115 0 (addK n kind a c d)) := by
  refine go_enter [.ref 115, .int kind, .int a, .int c, .int d] [(0, .ref 115), (1, .int kind), (2, .int a), (3, .int c), (4, .int d)] (by decide +kernel) rfl rfl (Nat.le_of_ble_eq_true rfl) rfl ?_
  refine go_iload_n 1 dX9_add_0 rfl rfl ?_
  refine go_i2l 2 dX9_add_1 rfl ?_
  refine go_lconst 3 (0) dX9_add_2 rfl (by decide) ?_
  refine go_ldc2 6 (12) dX9_add_3 rfl wK_RX9_126 ?_
  refine g_callS 9 [.long _, .long _, .long _] [] dX9_add_6 rfl (ct_X9_isBetween _ _ _ _) rfl sV_X9_add_109 rfl (Nat.le_of_ble_eq_true rfl) (Nat.le_of_ble_eq_true rfl) (Nat.le_of_ble_eq_true rfl) ?_
  refine go_if_eq 12 21 dX9_add_9 rfl (by decide) (fun hc1 => ?_) (fun hc1 => ?_)
  · refine go_aload_n 22 dX9_add_21 rfl rfl ?_
    refine go_iconst 23 (1) dX9_add_22 rfl (by decide) ?_
    refine g_callV 26 [.int _] [] dX9_add_23 rfl (ct_X9_fails _ _) rfl sV_X9_add_132 rfl ly_115 rfl rfl (Nat.le_of_ble_eq_true rfl) (Nat.le_of_ble_eq_true rfl) (Nat.le_of_ble_eq_true rfl) ?_
    refine go_ireturn dX9_add_26 rfl (by first | rfl | exact bi_nar) (Nat.le_of_ble_eq_true rfl) (Nat.le_of_ble_eq_true rfl) ?_
    have hk : addK n kind a c d = 1 := by
      simp only [bi0, bi1, Classical.not_not] at *
      simp_all [addK, -Int32.not_le, -Int32.not_lt, -Int64.not_le, -Int64.not_lt]
    rw [hk]
    exact ⟨rfl, rfl⟩
  · refine go_iload_n 13 dX9_add_12 rfl rfl ?_
    refine go_iload_n 14 dX9_add_13 rfl rfl ?_
    refine go_iload_n 15 dX9_add_14 rfl rfl ?_
    refine g_callS 18 [.int _, .int _, .int _] [] dX9_add_15 rfl (ct_X9_badConstant _ _ _ _) rfl sV_X9_add_128 rfl (Nat.le_of_ble_eq_true rfl) (Nat.le_of_ble_eq_true rfl) (Nat.le_of_ble_eq_true rfl) ?_
    refine go_if_lt 21 27 dX9_add_18 rfl (by decide) (fun hc2 => ?_) (fun hc2 => ?_)
    · refine go_aload_n 28 dX9_add_27 rfl rfl ?_
      refine go_iload_n 29 dX9_add_28 rfl rfl ?_
      refine go_iload_n 30 dX9_add_29 rfl rfl ?_
      refine go_iload_n 31 dX9_add_30 rfl rfl ?_
      refine go_iload 33 dX9_add_31 rfl rfl ?_
      refine g_callV 36 [.int _, .int _, .int _, .int _] [] dX9_add_33 rfl (ct_X9_badSignal _ _ _ _ _) rfl sV_X9_add_136 rfl ly_115 rfl rfl (Nat.le_of_ble_eq_true rfl) (Nat.le_of_ble_eq_true rfl) (Nat.le_of_ble_eq_true rfl) ?_
      refine go_if_lt 39 45 dX9_add_36 rfl (by decide) (fun hc3 => ?_) (fun hc3 => ?_)
      · refine go_aload_n 46 dX9_add_45 rfl rfl ?_
        refine g_getI 49 dX9_add_46 rfl fF_RX9_102 ly_115 rfl ?_
        refine go_bipush 51 (24) dX9_add_49 rfl (by decide) ?_
        refine go_icmp_ne 54 60 dX9_add_51 rfl (by decide) (fun hc4 => ?_) (fun hc4 => ?_)
        · have hne : ¬ n = 24 := fun q => by subst q; exact absurd hn hc4
          have hvn : vp_in (rI S 115 10) 24 := by rw [hn]; exact nI_i (by omega) (by omega)
          have hk : addK n kind a c d = 0 := by
            simp only [bi0, bi1, Classical.not_not] at *
            rw [hn] at hc3
            simp_all [addK, -Int32.not_le, -Int32.not_lt, -Int64.not_le, -Int64.not_lt]
          rw [if_pos hk, if_pos hk]
          refine go_aload_n 61 dX9_add_60 rfl rfl ?_
          refine go_iconst 62 (0) dX9_add_61 rfl (by decide) ?_
          refine g_putI 65 dX9_add_62 rfl fF_RX9_98 ly_115 rfl (fun q hq => by cases hq; rfl) rfl rfl ?_
          refine go_aload_n 66 dX9_add_65 rfl rfl ?_
          refine go_iload_n 67 dX9_add_66 rfl rfl ?_
          refine go_iload_n 68 dX9_add_67 rfl rfl ?_
          refine go_iload_n 69 dX9_add_68 rfl rfl ?_
          refine go_iload 71 dX9_add_69 rfl rfl ?_
          refine g_callV0 74 [.int _, .int _, .int _, .int _] [] dX9_add_71 rfl (ct_X9_adds _ _ _ _ _ hvn) rfl sV_X9_add_140 rfl ly_115 rfl rfl (Nat.le_of_ble_eq_true rfl) (Nat.le_of_ble_eq_true rfl) (Nat.le_of_ble_eq_true rfl) ?_
          refine go_aload_n 75 dX9_add_74 rfl rfl ?_
          refine g_callV0 78 [] [] dX9_add_75 rfl (ct_X9_restarts _ (n + 1) (by show rI S 115 10 + 1 = _; rw [hn, nI_1]) (by omega)) rfl sV_X9_add_144 rfl ly_115 rfl rfl (Nat.le_of_ble_eq_true rfl) (Nat.le_of_ble_eq_true rfl) (Nat.le_of_ble_eq_true rfl) ?_
          refine go_aload_n 79 dX9_add_78 rfl rfl ?_
          refine g_getI 82 dX9_add_79 rfl fF_RX9_102 ly_115 rfl ?_
          refine go_iconst 83 (1) dX9_add_82 rfl (by decide) ?_
          refine go_isub 84 dX9_add_83 rfl ?_
          refine go_ireturn dX9_add_84 rfl (by first | rfl | exact bi_nar) (Nat.le_of_ble_eq_true rfl) (Nat.le_of_ble_eq_true rfl) ?_
          refine ⟨?_, rfl⟩
          show some (Value.int (rI S 115 10 + 1 - 1)) = _
          rw [hn, nI_1, nI_pred]
        · refine go_aload_n 55 dX9_add_54 rfl rfl ?_
          refine go_iconst 56 (3) dX9_add_55 rfl (by decide) ?_
          refine g_callV 59 [.int _] [] dX9_add_56 rfl (ct_X9_fails _ _) rfl sV_X9_add_132 rfl ly_115 rfl rfl (Nat.le_of_ble_eq_true rfl) (Nat.le_of_ble_eq_true rfl) (Nat.le_of_ble_eq_true rfl) ?_
          refine go_ireturn dX9_add_59 rfl (by first | rfl | exact bi_nar) (Nat.le_of_ble_eq_true rfl) (Nat.le_of_ble_eq_true rfl) ?_
          have hk : addK n kind a c d = 3 := by
            simp only [bi0, bi1, Classical.not_not] at *
            have hn24 : n = 24 := by
              have h9 : nI n = nI 24 := hn.symm.trans hc4
              exact (nI_eq (by omega) (by omega)).mp h9
            simp_all [addK, -Int32.not_le, -Int32.not_lt, -Int64.not_le, -Int64.not_lt]
          rw [hk]
          exact ⟨rfl, rfl⟩
      · refine go_aload_n 40 dX9_add_39 rfl rfl ?_
        refine go_iconst 41 (2) dX9_add_40 rfl (by decide) ?_
        refine g_callV 44 [.int _] [] dX9_add_41 rfl (ct_X9_fails _ _) rfl sV_X9_add_132 rfl ly_115 rfl rfl (Nat.le_of_ble_eq_true rfl) (Nat.le_of_ble_eq_true rfl) (Nat.le_of_ble_eq_true rfl) ?_
        refine go_ireturn dX9_add_44 rfl (by first | rfl | exact bi_nar) (Nat.le_of_ble_eq_true rfl) (Nat.le_of_ble_eq_true rfl) ?_
        have hk : addK n kind a c d = 2 := by
          simp only [bi0, bi1, Classical.not_not] at *
          simp_all [addK, -Int32.not_le, -Int32.not_lt, -Int64.not_le, -Int64.not_lt]
        rw [hk]
        exact ⟨rfl, rfl⟩
    · refine go_aload_n 22 dX9_add_21 rfl rfl ?_
      refine go_iconst 23 (1) dX9_add_22 rfl (by decide) ?_
      refine g_callV 26 [.int _] [] dX9_add_23 rfl (ct_X9_fails _ _) rfl sV_X9_add_132 rfl ly_115 rfl rfl (Nat.le_of_ble_eq_true rfl) (Nat.le_of_ble_eq_true rfl) (Nat.le_of_ble_eq_true rfl) ?_
      refine go_ireturn dX9_add_26 rfl (by first | rfl | exact bi_nar) (Nat.le_of_ble_eq_true rfl) (Nat.le_of_ble_eq_true rfl) ?_
      have hk : addK n kind a c d = 1 := by
        simp only [bi0, bi1, Classical.not_not] at *
        simp_all [addK, -Int32.not_le, -Int32.not_lt, -Int64.not_le, -Int64.not_lt]
      rw [hk]
      exact ⟨rfl, rfl⟩

def rlF (S : gS) (m i : Nat) : gS := wR (wI (wI S 115 0 0) 115 10 (nI m)) 120 (fun c => if c < i ∧ rI S 120 c = nI m then nI c else rI S 120 c)
set_option maxRecDepth 100000 in
set_option maxHeartbeats 4000000 in
theorem lp_X9_removeLast (S : gS) (m : Nat) (h24 : m ≤ 23) : ∀ i, i ≤ m → Go mX9_removeLast false (go_Qm mX9_removeLast false (fun v h => v = (some (.int (rI S 116 m))) ∧ h = hp (rsF (rlF S m m) m)) go_no) 0 0 30 [(1, .int (nI i)), (0, .ref 115)] [] (hp (rlF S m i)) := by
  refine g_dn _ m (fun i hi ih => ?_)
  have hcl := nI_c (n := i) (by omega)
  refine go_iload_n 31 dX9_removeLast_30 rfl rfl ?_
  refine go_aload_n 32 dX9_removeLast_31 rfl rfl ?_
  refine g_getI 35 dX9_removeLast_32 rfl fF_RX9_102 ly_115 rfl ?_
  refine go_icmp_ge 38 73 dX9_removeLast_35 rfl (by decide) (fun hc1 => ?_) (fun hc1 => ?_)
  · have hv : i = m := by
      have h9 : nI m ≤ nI i := hc1
      rw [nI_le2 (by omega) (by omega)] at h9
      omega
    subst hv
    refine go_aload_n 74 dX9_removeLast_73 rfl rfl ?_
    refine g_callV0 77 [] [] dX9_removeLast_74 rfl (ct_X9_restarts _ i rfl (by omega)) rfl sV_X9_removeLast_144 rfl ly_115 rfl rfl (Nat.le_of_ble_eq_true rfl) (Nat.le_of_ble_eq_true rfl) (Nat.le_of_ble_eq_true rfl) ?_
    refine go_aload_n 78 dX9_removeLast_77 rfl rfl ?_
    refine g_getR 81 dX9_removeLast_78 rfl fF_RX9_7 ly_115 rfl ?_
    refine go_aload_n 82 dX9_removeLast_81 rfl rfl ?_
    refine g_getI 85 dX9_removeLast_82 rfl fF_RX9_102 ly_115 rfl ?_
    refine g_iald 86 dX9_removeLast_85 rfl ly_116 (by show vp_in (nI i) 24; exact nI_i (by omega) (by omega)) ?_
    refine go_ireturn dX9_removeLast_86 rfl (by first | rfl | exact bi_nar) (Nat.le_of_ble_eq_true rfl) (Nat.le_of_ble_eq_true rfl) ?_
    refine ⟨?_, rfl⟩
    show some (Value.int (rI S 116 (nI i).toNatClampNeg)) = _
    rw [hcl]
  · have hv : i < m := by
      have h9 : ¬ nI m ≤ nI i := hc1
      rw [nI_le2 (by omega) (by omega)] at h9
      omega
    refine go_aload_n 39 dX9_removeLast_38 rfl rfl ?_
    refine g_getR 42 dX9_removeLast_39 rfl fF_RX9_22 ly_115 rfl ?_
    refine go_iload_n 43 dX9_removeLast_42 rfl rfl ?_
    refine go_aload_n 44 dX9_removeLast_43 rfl rfl ?_
    refine g_getR 47 dX9_removeLast_44 rfl fF_RX9_22 ly_115 rfl ?_
    refine go_iload_n 48 dX9_removeLast_47 rfl rfl ?_
    refine g_iald 49 dX9_removeLast_48 rfl ly_120 (nI_i (by have := hv; omega) (by omega)) ?_
    refine go_aload_n 50 dX9_removeLast_49 rfl rfl ?_
    refine g_getI 53 dX9_removeLast_50 rfl fF_RX9_102 ly_115 rfl ?_
    refine go_icmp_ne 56 60 dX9_removeLast_53 rfl (by decide) (fun hc2 => ?_) (fun hc2 => ?_)
    · refine go_aload_n 61 dX9_removeLast_60 rfl rfl ?_
      refine g_getR 64 dX9_removeLast_61 rfl fF_RX9_22 ly_115 rfl ?_
      refine go_iload_n 65 dX9_removeLast_64 rfl rfl ?_
      refine g_iald 66 dX9_removeLast_65 rfl ly_120 (nI_i (by have := hv; omega) (by omega)) ?_
      refine g_iast 67 dX9_removeLast_66 rfl ly_120 (nI_i (by have := hv; omega) (by omega)) ?_
      refine go_iinc 70 [(1, .int _), (0, .ref 115)] (nI (i + 1)) dX9_removeLast_67 rfl (Nat.le_of_ble_eq_true rfl) rfl (nI_inc i) rfl ?_
      refine go_goto 30 dX9_removeLast_70 (by decide) ?_
      refine g_st ?_ (ih (by omega))
      clear ih
      simp [rlF, rI_wI, rI_wR, hcl] at hc2
      unfold rlF
      rw [wIR, hcl]
      refine wR_eq (fun c => ?_)
      by_cases hci : c = i
      · subst hci
        simp [rI_wI, rI_wR, hcl, hc2]
      · have hl1 : c < i + 1 ↔ c < i := by omega
        simp [hci, hl1]
    · refine go_iload_n 57 dX9_removeLast_56 rfl rfl ?_
      refine go_goto 66 dX9_removeLast_57 (by decide) ?_
      refine g_iast 67 dX9_removeLast_66 rfl ly_120 (nI_i (by have := hv; omega) (by omega)) ?_
      refine go_iinc 70 [(1, .int _), (0, .ref 115)] (nI (i + 1)) dX9_removeLast_67 rfl (Nat.le_of_ble_eq_true rfl) rfl (nI_inc i) rfl ?_
      refine go_goto 30 dX9_removeLast_70 (by decide) ?_
      refine g_st ?_ (ih (by omega))
      clear ih
      simp [rlF, rI_wI, rI_wR, hcl] at hc2
      unfold rlF
      rw [wIR, hcl]
      refine wR_eq (fun c => ?_)
      by_cases hci : c = i
      · subst hci
        simp [rI_wI, rI_wR, hcl, hc2]
      · have hl1 : c < i + 1 ↔ c < i := by omega
        simp [hci, hl1]

set_option maxRecDepth 100000 in
set_option maxHeartbeats 4000000 in
theorem ct_X9_removeLast (S : gS) (n : Nat) (hn : rI S 115 10 = nI n) (h24 : n ≤ 24) : gF mX9_removeLast [.ref 115] S (some (.int (if n = 0 then 0 else rI S 116 (n - 1)))) (if n = 0 then wI S 115 0 1 else rsF (rlF S (n - 1) (n - 1)) (n - 1)) := by
  refine go_enter [.ref 115] [(0, .ref 115)] (by decide +kernel) rfl rfl (Nat.le_of_ble_eq_true rfl) rfl ?_
  refine go_aload_n 1 dX9_removeLast_0 rfl rfl ?_
  refine g_getI 4 dX9_removeLast_1 rfl fF_RX9_102 ly_115 rfl ?_
  refine go_if_ne 7 13 dX9_removeLast_4 rfl (by decide) (fun hc1 => ?_) (fun hc1 => ?_)
  · have hz : ¬ n = 0 := fun q => by subst q; exact hc1 hn
    obtain ⟨m, rfl⟩ : ∃ m, n = m + 1 := ⟨n - 1, by omega⟩
    rw [if_neg hz, if_neg hz, Nat.add_sub_cancel]
    refine go_aload_n 14 dX9_removeLast_13 rfl rfl ?_
    refine go_iconst 15 (0) dX9_removeLast_14 rfl (by decide) ?_
    refine g_putI 18 dX9_removeLast_15 rfl fF_RX9_98 ly_115 rfl (fun q hq => by cases hq; rfl) rfl rfl ?_
    refine go_aload_n 19 dX9_removeLast_18 rfl rfl ?_
    refine go_dup 20 dX9_removeLast_19 rfl rfl ?_
    refine g_getI 23 dX9_removeLast_20 rfl fF_RX9_102 ly_115 rfl ?_
    refine go_iconst 24 (1) dX9_removeLast_23 rfl (by decide) ?_
    refine go_isub 25 dX9_removeLast_24 rfl ?_
    refine g_putI 28 dX9_removeLast_25 rfl fF_RX9_102 ly_115 rfl (fun q hq => by cases hq; rfl) rfl rfl ?_
    refine go_iconst 29 (0) dX9_removeLast_28 rfl (by decide) ?_
    refine go_istore_n 30 [(1, .int _), (0, .ref 115)] dX9_removeLast_29 rfl (Nat.le_of_ble_eq_true rfl) rfl ?_
    refine g_st ?_ (lp_X9_removeLast S m (by omega) 0 (Nat.zero_le _))
    have e9 : rI S 115 10 - 1 = nI m := by rw [hn, nI_pred]
    show wI (wI S 115 0 0) 115 10 (rI S 115 10 - 1) = _
    rw [e9]
    unfold rlF
    refine gS_ext (fun a c => ?_) (fun a c => ?_) (fun a c => ?_)
    · simp only [rI_wI, rI_wR, rI_wL, rI_wD, rL_wI, rL_wR, rL_wL, rL_wD, rD_wI, rD_wR, rD_wL, rD_wD, *] <;> (try rfl) <;> (repeat' split) <;> simp_all <;> (try omega)
    · rfl
    · rfl
  · refine go_aload_n 8 dX9_removeLast_7 rfl rfl ?_
    refine go_iconst 9 (1) dX9_removeLast_8 rfl (by decide) ?_
    refine g_callV 12 [.int _] [] dX9_removeLast_9 rfl (ct_X9_fails _ _) rfl sV_X9_removeLast_132 rfl ly_115 rfl rfl (Nat.le_of_ble_eq_true rfl) (Nat.le_of_ble_eq_true rfl) (Nat.le_of_ble_eq_true rfl) ?_
    refine go_ireturn dX9_removeLast_12 rfl (by first | rfl | exact bi_nar) (Nat.le_of_ble_eq_true rfl) (Nat.le_of_ble_eq_true rfl) ?_
    have hz : n = 0 := by
      have h9 : nI n = nI 0 := hn.symm.trans hc1
      exact (nI_eq (by omega) (by omega)).mp h9
    rw [if_pos hz, if_pos hz]
    exact ⟨rfl, rfl⟩

set_option maxRecDepth 100000 in
set_option maxHeartbeats 4000000 in
theorem ct_X9_clear (S : gS) (n : Nat) (hn : rI S 115 10 = nI n) (h24 : n ≤ 24) : gF mX9_clear [.ref 115] S (some (.int (nI n))) (rsF (wI (wI S 115 0 0) 115 10 0) 0) := by
  refine go_enter [.ref 115] [(0, .ref 115)] (by decide +kernel) rfl rfl (Nat.le_of_ble_eq_true rfl) rfl ?_
  refine go_aload_n 1 dX9_clear_0 rfl rfl ?_
  refine go_iconst 2 (0) dX9_clear_1 rfl (by decide) ?_
  refine g_putI 5 dX9_clear_2 rfl fF_RX9_98 ly_115 rfl (fun q hq => by cases hq; rfl) rfl rfl ?_
  refine go_aload_n 6 dX9_clear_5 rfl rfl ?_
  refine g_getI 9 dX9_clear_6 rfl fF_RX9_102 ly_115 rfl ?_
  refine go_istore_n 10 [(1, .int _), (0, .ref 115)] dX9_clear_9 rfl (Nat.le_of_ble_eq_true rfl) rfl ?_
  refine go_aload_n 11 dX9_clear_10 rfl rfl ?_
  refine go_iconst 12 (0) dX9_clear_11 rfl (by decide) ?_
  refine g_putI 15 dX9_clear_12 rfl fF_RX9_102 ly_115 rfl (fun q hq => by cases hq; rfl) rfl rfl ?_
  refine go_aload_n 16 dX9_clear_15 rfl rfl ?_
  refine g_callV0 19 [] [] dX9_clear_16 rfl (ct_X9_restarts _ 0 rfl (by omega)) rfl sV_X9_clear_144 rfl ly_115 rfl rfl (Nat.le_of_ble_eq_true rfl) (Nat.le_of_ble_eq_true rfl) (Nat.le_of_ble_eq_true rfl) ?_
  refine go_iload_n 20 dX9_clear_19 rfl rfl ?_
  refine go_ireturn dX9_clear_20 rfl (by first | rfl | exact bi_nar) (Nat.le_of_ble_eq_true rfl) (Nat.le_of_ble_eq_true rfl) ?_
  refine ⟨?_, rfl⟩
  show some (Value.int (rI S 115 10)) = _
  rw [hn]

def snK (S : gS) (n : Nat) (r t : Int32) : Int32 := if ¬ (sgn (nI n) r ∧ sgn (nI n) t) then 1 else if rI S 116 r.toNatClampNeg = 2 then 0 else 2
set_option maxRecDepth 100000 in
set_option maxHeartbeats 4000000 in
theorem ct_X9_setNext (S : gS) (r t : Int32) (n : Nat) (hn : rI S 115 10 = nI n) (h24 : n ≤ 24) : gF mX9_setNext [.ref 115, .int r, .int t] S (some (.int (if snK S n r t = 0 then rI S 120 r.toNatClampNeg else 0))) (if snK S n r t = 0 then rsF (wI (wI S 115 0 0) 120 r.toNatClampNeg t) n else wI S 115 0 (snK S n r t)) := by
  refine go_enter [.ref 115, .int r, .int t] [(0, .ref 115), (1, .int r), (2, .int t)] (by decide +kernel) rfl rfl (Nat.le_of_ble_eq_true rfl) rfl ?_
  refine go_aload_n 1 dX9_setNext_0 rfl rfl ?_
  refine go_iload_n 2 dX9_setNext_1 rfl rfl ?_
  refine g_callV 5 [.int _] [] dX9_setNext_2 rfl (ct_X9_isSignal _ _) rfl sV_X9_setNext_123 rfl ly_115 rfl rfl (Nat.le_of_ble_eq_true rfl) (Nat.le_of_ble_eq_true rfl) (Nat.le_of_ble_eq_true rfl) ?_
  refine go_if_eq 8 16 dX9_setNext_5 rfl (by decide) (fun hc1 => ?_) (fun hc1 => ?_)
  · refine go_aload_n 17 dX9_setNext_16 rfl rfl ?_
    refine go_iconst 18 (1) dX9_setNext_17 rfl (by decide) ?_
    refine g_callV 21 [.int _] [] dX9_setNext_18 rfl (ct_X9_fails _ _) rfl sV_X9_setNext_132 rfl ly_115 rfl rfl (Nat.le_of_ble_eq_true rfl) (Nat.le_of_ble_eq_true rfl) (Nat.le_of_ble_eq_true rfl) ?_
    refine go_ireturn dX9_setNext_21 rfl (by first | rfl | exact bi_nar) (Nat.le_of_ble_eq_true rfl) (Nat.le_of_ble_eq_true rfl) ?_
    have hk : snK S n r t = 1 := by
      simp only [bi0, bi1, Classical.not_not] at *
      simp_all [snK, sgn, -Int32.not_le, -Int32.not_lt, -Int64.not_le, -Int64.not_lt]
    rw [hk]
    exact ⟨rfl, rfl⟩
  · refine go_aload_n 9 dX9_setNext_8 rfl rfl ?_
    refine go_iload_n 10 dX9_setNext_9 rfl rfl ?_
    refine g_callV 13 [.int _] [] dX9_setNext_10 rfl (ct_X9_isSignal _ _) rfl sV_X9_setNext_123 rfl ly_115 rfl rfl (Nat.le_of_ble_eq_true rfl) (Nat.le_of_ble_eq_true rfl) (Nat.le_of_ble_eq_true rfl) ?_
    refine go_if_ne 16 22 dX9_setNext_13 rfl (by decide) (fun hc2 => ?_) (fun hc2 => ?_)
    · have hr : vp_in r 24 := by
        simp only [bi0, bi1, Classical.not_not] at *
        rw [hn] at hc1
        exact vin_of hc1 h24
      refine go_aload_n 23 dX9_setNext_22 rfl rfl ?_
      refine g_getR 26 dX9_setNext_23 rfl fF_RX9_7 ly_115 rfl ?_
      refine go_iload_n 27 dX9_setNext_26 rfl rfl ?_
      refine g_iald 28 dX9_setNext_27 rfl ly_116 hr ?_
      refine go_iconst 29 (2) dX9_setNext_28 rfl (by decide) ?_
      refine go_icmp_eq 32 38 dX9_setNext_29 rfl (by decide) (fun hc3 => ?_) (fun hc3 => ?_)
      · have hk : snK S n r t = 0 := by
          simp only [bi0, bi1, Classical.not_not] at *
          rw [hn] at hc1 hc2
          simp_all [snK, sgn, -Int32.not_le, -Int32.not_lt, -Int64.not_le, -Int64.not_lt]
        rw [if_pos hk, if_pos hk]
        refine go_aload_n 39 dX9_setNext_38 rfl rfl ?_
        refine go_iconst 40 (0) dX9_setNext_39 rfl (by decide) ?_
        refine g_putI 43 dX9_setNext_40 rfl fF_RX9_98 ly_115 rfl (fun q hq => by cases hq; rfl) rfl rfl ?_
        refine go_aload_n 44 dX9_setNext_43 rfl rfl ?_
        refine g_getR 47 dX9_setNext_44 rfl fF_RX9_22 ly_115 rfl ?_
        refine go_iload_n 48 dX9_setNext_47 rfl rfl ?_
        refine g_iald 49 dX9_setNext_48 rfl ly_120 hr ?_
        refine go_istore_n 50 [(3, .int _), (0, .ref 115), (1, .int _), (2, .int _)] dX9_setNext_49 rfl (Nat.le_of_ble_eq_true rfl) rfl ?_
        refine go_aload_n 51 dX9_setNext_50 rfl rfl ?_
        refine g_getR 54 dX9_setNext_51 rfl fF_RX9_22 ly_115 rfl ?_
        refine go_iload_n 55 dX9_setNext_54 rfl rfl ?_
        refine go_iload_n 56 dX9_setNext_55 rfl rfl ?_
        refine g_iast 57 dX9_setNext_56 rfl ly_120 hr ?_
        refine go_aload_n 58 dX9_setNext_57 rfl rfl ?_
        refine g_callV0 61 [] [] dX9_setNext_58 rfl (ct_X9_restarts _ n hn h24) rfl sV_X9_setNext_144 rfl ly_115 rfl rfl (Nat.le_of_ble_eq_true rfl) (Nat.le_of_ble_eq_true rfl) (Nat.le_of_ble_eq_true rfl) ?_
        refine go_iload_n 62 dX9_setNext_61 rfl rfl ?_
        refine go_ireturn dX9_setNext_62 rfl (by first | rfl | exact bi_nar) (Nat.le_of_ble_eq_true rfl) (Nat.le_of_ble_eq_true rfl) ?_
        exact ⟨rfl, rfl⟩
      · refine go_aload_n 33 dX9_setNext_32 rfl rfl ?_
        refine go_iconst 34 (2) dX9_setNext_33 rfl (by decide) ?_
        refine g_callV 37 [.int _] [] dX9_setNext_34 rfl (ct_X9_fails _ _) rfl sV_X9_setNext_132 rfl ly_115 rfl rfl (Nat.le_of_ble_eq_true rfl) (Nat.le_of_ble_eq_true rfl) (Nat.le_of_ble_eq_true rfl) ?_
        refine go_ireturn dX9_setNext_37 rfl (by first | rfl | exact bi_nar) (Nat.le_of_ble_eq_true rfl) (Nat.le_of_ble_eq_true rfl) ?_
        have hk : snK S n r t = 2 := by
          simp only [bi0, bi1, Classical.not_not] at *
          simp_all [snK, sgn, -Int32.not_le, -Int32.not_lt, -Int64.not_le, -Int64.not_lt]
        rw [hk]
        exact ⟨rfl, rfl⟩
    · refine go_aload_n 17 dX9_setNext_16 rfl rfl ?_
      refine go_iconst 18 (1) dX9_setNext_17 rfl (by decide) ?_
      refine g_callV 21 [.int _] [] dX9_setNext_18 rfl (ct_X9_fails _ _) rfl sV_X9_setNext_132 rfl ly_115 rfl rfl (Nat.le_of_ble_eq_true rfl) (Nat.le_of_ble_eq_true rfl) (Nat.le_of_ble_eq_true rfl) ?_
      refine go_ireturn dX9_setNext_21 rfl (by first | rfl | exact bi_nar) (Nat.le_of_ble_eq_true rfl) (Nat.le_of_ble_eq_true rfl) ?_
      have hk : snK S n r t = 1 := by
        simp only [bi0, bi1, Classical.not_not] at *
        simp_all [snK, sgn, -Int32.not_le, -Int32.not_lt, -Int64.not_le, -Int64.not_lt]
      rw [hk]
      exact ⟨rfl, rfl⟩

set_option maxRecDepth 100000 in
set_option maxHeartbeats 4000000 in
theorem ct_X9_setOutput (S : gS) (r p : Int32) (n : Nat) (hn : rI S 115 10 = nI n) (h24 : n ≤ 24) : gF mX9_setOutput [.ref 115, .int r, .int p] S (some (.int (if sgn (nI n) r then bi (rI S 121 r.toNatClampNeg = 1) else 0))) (if sgn (nI n) r then rsF (wI (wI S 115 0 0) 121 r.toNatClampNeg (if p = 0 then 0 else 1)) n else wI S 115 0 1) := by
  refine go_enter [.ref 115, .int r, .int p] [(0, .ref 115), (1, .int r), (2, .int p)] (by decide +kernel) rfl rfl (Nat.le_of_ble_eq_true rfl) rfl ?_
  refine go_aload_n 1 dX9_setOutput_0 rfl rfl ?_
  refine go_iload_n 2 dX9_setOutput_1 rfl rfl ?_
  refine g_callV 5 [.int _] [] dX9_setOutput_2 rfl (ct_X9_isSignal _ _) rfl sV_X9_setOutput_123 rfl ly_115 rfl rfl (Nat.le_of_ble_eq_true rfl) (Nat.le_of_ble_eq_true rfl) (Nat.le_of_ble_eq_true rfl) ?_
  refine go_if_ne 8 14 dX9_setOutput_5 rfl (by decide) (fun hc1 => ?_) (fun hc1 => ?_)
  · have hs : sgn (nI n) r := by
      simp only [bi0, bi1, Classical.not_not] at *
      rw [hn] at hc1
      exact hc1
    have hr : vp_in r 24 := vin_of hs h24
    rw [if_pos hs, if_pos hs]
    refine go_aload_n 15 dX9_setOutput_14 rfl rfl ?_
    refine go_iconst 16 (0) dX9_setOutput_15 rfl (by decide) ?_
    refine g_putI 19 dX9_setOutput_16 rfl fF_RX9_98 ly_115 rfl (fun q hq => by cases hq; rfl) rfl rfl ?_
    refine go_aload_n 20 dX9_setOutput_19 rfl rfl ?_
    refine g_getR 23 dX9_setOutput_20 rfl fF_RX9_25 ly_115 rfl ?_
    refine go_iload_n 24 dX9_setOutput_23 rfl rfl ?_
    refine g_iald 25 dX9_setOutput_24 rfl ly_121 hr ?_
    refine go_iconst 26 (1) dX9_setOutput_25 rfl (by decide) ?_
    refine go_icmp_ne 29 33 dX9_setOutput_26 rfl (by decide) (fun hc2 => ?_) (fun hc2 => ?_)
    · refine go_iconst 34 (0) dX9_setOutput_33 rfl (by decide) ?_
      refine go_istore_n 35 [(3, .int _), (0, .ref 115), (1, .int _), (2, .int _)] dX9_setOutput_34 rfl (Nat.le_of_ble_eq_true rfl) rfl ?_
      refine go_aload_n 36 dX9_setOutput_35 rfl rfl ?_
      refine g_getR 39 dX9_setOutput_36 rfl fF_RX9_25 ly_115 rfl ?_
      refine go_iload_n 40 dX9_setOutput_39 rfl rfl ?_
      refine go_iload_n 41 dX9_setOutput_40 rfl rfl ?_
      refine go_if_eq 44 48 dX9_setOutput_41 rfl (by decide) (fun hc3 => ?_) (fun hc3 => ?_)
      · refine go_iconst 49 (0) dX9_setOutput_48 rfl (by decide) ?_
        refine g_iast 50 dX9_setOutput_49 rfl ly_121 hr ?_
        refine go_aload_n 51 dX9_setOutput_50 rfl rfl ?_
        refine g_callV0 54 [] [] dX9_setOutput_51 rfl (ct_X9_restarts _ n hn h24) rfl sV_X9_setOutput_144 rfl ly_115 rfl rfl (Nat.le_of_ble_eq_true rfl) (Nat.le_of_ble_eq_true rfl) (Nat.le_of_ble_eq_true rfl) ?_
        refine go_iload_n 55 dX9_setOutput_54 rfl rfl ?_
        refine go_ireturn dX9_setOutput_55 rfl (by first | rfl | exact bi_nar) (Nat.le_of_ble_eq_true rfl) (Nat.le_of_ble_eq_true rfl) ?_
        simp [rI_wI] at hc2
        refine ⟨?_, ?_⟩ <;> simp_all [bi]
      · refine go_iconst 45 (1) dX9_setOutput_44 rfl (by decide) ?_
        refine go_goto 49 dX9_setOutput_45 (by decide) ?_
        refine g_iast 50 dX9_setOutput_49 rfl ly_121 hr ?_
        refine go_aload_n 51 dX9_setOutput_50 rfl rfl ?_
        refine g_callV0 54 [] [] dX9_setOutput_51 rfl (ct_X9_restarts _ n hn h24) rfl sV_X9_setOutput_144 rfl ly_115 rfl rfl (Nat.le_of_ble_eq_true rfl) (Nat.le_of_ble_eq_true rfl) (Nat.le_of_ble_eq_true rfl) ?_
        refine go_iload_n 55 dX9_setOutput_54 rfl rfl ?_
        refine go_ireturn dX9_setOutput_55 rfl (by first | rfl | exact bi_nar) (Nat.le_of_ble_eq_true rfl) (Nat.le_of_ble_eq_true rfl) ?_
        simp [rI_wI] at hc2
        refine ⟨?_, ?_⟩ <;> simp_all [bi]
    · refine go_iconst 30 (1) dX9_setOutput_29 rfl (by decide) ?_
      refine go_goto 34 dX9_setOutput_30 (by decide) ?_
      refine go_istore_n 35 [(3, .int _), (0, .ref 115), (1, .int _), (2, .int _)] dX9_setOutput_34 rfl (Nat.le_of_ble_eq_true rfl) rfl ?_
      refine go_aload_n 36 dX9_setOutput_35 rfl rfl ?_
      refine g_getR 39 dX9_setOutput_36 rfl fF_RX9_25 ly_115 rfl ?_
      refine go_iload_n 40 dX9_setOutput_39 rfl rfl ?_
      refine go_iload_n 41 dX9_setOutput_40 rfl rfl ?_
      refine go_if_eq 44 48 dX9_setOutput_41 rfl (by decide) (fun hc4 => ?_) (fun hc4 => ?_)
      · refine go_iconst 49 (0) dX9_setOutput_48 rfl (by decide) ?_
        refine g_iast 50 dX9_setOutput_49 rfl ly_121 hr ?_
        refine go_aload_n 51 dX9_setOutput_50 rfl rfl ?_
        refine g_callV0 54 [] [] dX9_setOutput_51 rfl (ct_X9_restarts _ n hn h24) rfl sV_X9_setOutput_144 rfl ly_115 rfl rfl (Nat.le_of_ble_eq_true rfl) (Nat.le_of_ble_eq_true rfl) (Nat.le_of_ble_eq_true rfl) ?_
        refine go_iload_n 55 dX9_setOutput_54 rfl rfl ?_
        refine go_ireturn dX9_setOutput_55 rfl (by first | rfl | exact bi_nar) (Nat.le_of_ble_eq_true rfl) (Nat.le_of_ble_eq_true rfl) ?_
        simp [rI_wI] at hc2
        refine ⟨?_, ?_⟩ <;> simp_all [bi]
      · refine go_iconst 45 (1) dX9_setOutput_44 rfl (by decide) ?_
        refine go_goto 49 dX9_setOutput_45 (by decide) ?_
        refine g_iast 50 dX9_setOutput_49 rfl ly_121 hr ?_
        refine go_aload_n 51 dX9_setOutput_50 rfl rfl ?_
        refine g_callV0 54 [] [] dX9_setOutput_51 rfl (ct_X9_restarts _ n hn h24) rfl sV_X9_setOutput_144 rfl ly_115 rfl rfl (Nat.le_of_ble_eq_true rfl) (Nat.le_of_ble_eq_true rfl) (Nat.le_of_ble_eq_true rfl) ?_
        refine go_iload_n 55 dX9_setOutput_54 rfl rfl ?_
        refine go_ireturn dX9_setOutput_55 rfl (by first | rfl | exact bi_nar) (Nat.le_of_ble_eq_true rfl) (Nat.le_of_ble_eq_true rfl) ?_
        simp [rI_wI] at hc2
        refine ⟨?_, ?_⟩ <;> simp_all [bi]
  · refine go_aload_n 9 dX9_setOutput_8 rfl rfl ?_
    refine go_iconst 10 (1) dX9_setOutput_9 rfl (by decide) ?_
    refine g_callV 13 [.int _] [] dX9_setOutput_10 rfl (ct_X9_refuses _ _) rfl sV_X9_setOutput_147 rfl ly_115 rfl rfl (Nat.le_of_ble_eq_true rfl) (Nat.le_of_ble_eq_true rfl) (Nat.le_of_ble_eq_true rfl) ?_
    refine go_ireturn dX9_setOutput_13 rfl (by first | rfl | exact bi_nar) (Nat.le_of_ble_eq_true rfl) (Nat.le_of_ble_eq_true rfl) ?_
    have hs : ¬ sgn (nI n) r := by
      simp only [bi0, bi1, Classical.not_not] at *
      rw [hn] at hc1
      exact hc1
    rw [if_neg hs, if_neg hs]
    exact ⟨rfl, rfl⟩

set_option maxRecDepth 100000 in
set_option maxHeartbeats 4000000 in
theorem ct_X9_setPhase (S : gS) (r p : Int32) (n : Nat) (hn : rI S 115 10 = nI n) (h24 : n ≤ 24) : gF mX9_setPhase [.ref 115, .int r, .int p] S (some (.int (if sgn (nI n) r ∧ ((0 : Int64) ≤ p.toInt64 ∧ p.toInt64 ≤ 3) then rI S 122 r.toNatClampNeg else 0))) (if ¬ sgn (nI n) r then wI S 115 0 1 else if ¬ ((0 : Int64) ≤ p.toInt64 ∧ p.toInt64 ≤ 3) then wI S 115 0 2 else wI (wI S 115 0 0) 122 r.toNatClampNeg p) := by
  refine go_enter [.ref 115, .int r, .int p] [(0, .ref 115), (1, .int r), (2, .int p)] (by decide +kernel) rfl rfl (Nat.le_of_ble_eq_true rfl) rfl ?_
  refine go_aload_n 1 dX9_setPhase_0 rfl rfl ?_
  refine go_iload_n 2 dX9_setPhase_1 rfl rfl ?_
  refine g_callV 5 [.int _] [] dX9_setPhase_2 rfl (ct_X9_isSignal _ _) rfl sV_X9_setPhase_123 rfl ly_115 rfl rfl (Nat.le_of_ble_eq_true rfl) (Nat.le_of_ble_eq_true rfl) (Nat.le_of_ble_eq_true rfl) ?_
  refine go_if_ne 8 14 dX9_setPhase_5 rfl (by decide) (fun hc1 => ?_) (fun hc1 => ?_)
  · refine go_iload_n 15 dX9_setPhase_14 rfl rfl ?_
    refine go_i2l 16 dX9_setPhase_15 rfl ?_
    refine go_lconst 17 (0) dX9_setPhase_16 rfl (by decide) ?_
    refine go_ldc2 20 (3) dX9_setPhase_17 rfl wK_RX9_150 ?_
    refine g_callS 23 [.long _, .long _, .long _] [] dX9_setPhase_20 rfl (ct_X9_isBetween _ _ _ _) rfl sV_X9_setPhase_109 rfl (Nat.le_of_ble_eq_true rfl) (Nat.le_of_ble_eq_true rfl) (Nat.le_of_ble_eq_true rfl) ?_
    refine go_if_ne 26 32 dX9_setPhase_23 rfl (by decide) (fun hc2 => ?_) (fun hc2 => ?_)
    · refine go_aload_n 33 dX9_setPhase_32 rfl rfl ?_
      refine go_iconst 34 (0) dX9_setPhase_33 rfl (by decide) ?_
      refine g_putI 37 dX9_setPhase_34 rfl fF_RX9_98 ly_115 rfl (fun q hq => by cases hq; rfl) rfl rfl ?_
      refine go_aload_n 38 dX9_setPhase_37 rfl rfl ?_
      refine g_getR 41 dX9_setPhase_38 rfl fF_RX9_28 ly_115 rfl ?_
      refine go_iload_n 42 dX9_setPhase_41 rfl rfl ?_
      refine g_iald 43 dX9_setPhase_42 rfl ly_122 (by simp only [bi0, bi1, Classical.not_not] at *; rw [hn] at hc1; exact vin_of hc1 h24) ?_
      refine go_istore_n 44 [(3, .int _), (0, .ref 115), (1, .int _), (2, .int _)] dX9_setPhase_43 rfl (Nat.le_of_ble_eq_true rfl) rfl ?_
      refine go_aload_n 45 dX9_setPhase_44 rfl rfl ?_
      refine g_getR 48 dX9_setPhase_45 rfl fF_RX9_28 ly_115 rfl ?_
      refine go_iload_n 49 dX9_setPhase_48 rfl rfl ?_
      refine go_iload_n 50 dX9_setPhase_49 rfl rfl ?_
      refine g_iast 51 dX9_setPhase_50 rfl ly_122 (by simp only [bi0, bi1, Classical.not_not] at *; rw [hn] at hc1; exact vin_of hc1 h24) ?_
      refine go_iload_n 52 dX9_setPhase_51 rfl rfl ?_
      refine go_ireturn dX9_setPhase_52 rfl (by first | rfl | exact bi_nar) (Nat.le_of_ble_eq_true rfl) (Nat.le_of_ble_eq_true rfl) ?_
      simp only [bi0, bi1, Classical.not_not] at *
      rw [hn] at hc1
      simp_all [sgn, -Int32.not_le, -Int32.not_lt, -Int64.not_le, -Int64.not_lt]
      (try exact ⟨rfl, rfl⟩)
      (try rfl)
    · refine go_aload_n 27 dX9_setPhase_26 rfl rfl ?_
      refine go_iconst 28 (2) dX9_setPhase_27 rfl (by decide) ?_
      refine g_callV 31 [.int _] [] dX9_setPhase_28 rfl (ct_X9_fails _ _) rfl sV_X9_setPhase_132 rfl ly_115 rfl rfl (Nat.le_of_ble_eq_true rfl) (Nat.le_of_ble_eq_true rfl) (Nat.le_of_ble_eq_true rfl) ?_
      refine go_ireturn dX9_setPhase_31 rfl (by first | rfl | exact bi_nar) (Nat.le_of_ble_eq_true rfl) (Nat.le_of_ble_eq_true rfl) ?_
      simp only [bi0, bi1, Classical.not_not] at *
      rw [hn] at hc1
      simp_all [sgn, -Int32.not_le, -Int32.not_lt, -Int64.not_le, -Int64.not_lt]
      (try exact ⟨rfl, rfl⟩)
      (try rfl)
  · refine go_aload_n 9 dX9_setPhase_8 rfl rfl ?_
    refine go_iconst 10 (1) dX9_setPhase_9 rfl (by decide) ?_
    refine g_callV 13 [.int _] [] dX9_setPhase_10 rfl (ct_X9_fails _ _) rfl sV_X9_setPhase_132 rfl ly_115 rfl rfl (Nat.le_of_ble_eq_true rfl) (Nat.le_of_ble_eq_true rfl) (Nat.le_of_ble_eq_true rfl) ?_
    refine go_ireturn dX9_setPhase_13 rfl (by first | rfl | exact bi_nar) (Nat.le_of_ble_eq_true rfl) (Nat.le_of_ble_eq_true rfl) ?_
    simp only [bi0, bi1, Classical.not_not] at *
    rw [hn] at hc1
    simp_all [sgn, -Int32.not_le, -Int32.not_lt, -Int64.not_le, -Int64.not_lt]
    (try exact ⟨rfl, rfl⟩)
    (try rfl)
