-- needs 50.units 51.m10 57.units2 58.m14 59.exec3 52.exec 54.exec2
set_option maxRecDepth 100000 in
set_option maxHeartbeats 1000000 in
theorem tk_to16 {Q : go_Q} (U : gS) (w : Int32) (s : Nat) (hs : s < 24) (v : Int32) (ha : rI U 116 s = 11 → vp_in (rI U 117 s) 24 ∧ vp_in (rI U 118 s) 24) (kx : Go mX9_totalOf false Q 0 0 28 [(2, .int (t0F U w s v)), (3, .int (nI s)), (1, .int w), (0, .ref 115)] [] (hp U)) : Go mX9_totalOf false Q 0 0 16 [(2, .int v), (3, .int (nI s)), (1, .int w), (0, .ref 115)] [] (hp U) := by
  have hcl := nI_c (n := s) (by omega)
  refine go_iload_n 17 dX9_totalOf_16 rfl rfl ?_
  refine go_if_ne 20 28 dX9_totalOf_17 rfl (by decide) (fun hc1 => ?_) (fun hc1 => ?_)
  · refine go_ls [(2, .int _), (3, .int (nI s)), (1, .int w), (0, .ref 115)] (List.forall_mem_cons.mpr ⟨rfl, List.forall_mem_cons.mpr ⟨rfl, List.forall_mem_cons.mpr ⟨rfl, List.forall_mem_cons.mpr ⟨rfl, fun _ h => absurd h List.not_mem_nil⟩⟩⟩⟩) ?_
    refine g_l1 ?_ kx
    unfold t0F
    (try rw [hcl] at *)
    first | (rw [if_neg hc1]; done) | (rw [if_pos hc1]; done) | (rw [if_pos hc1, if_pos hc2]; done) | (rw [if_pos hc1, if_neg hc2]; done)
  · refine go_iload_n 21 dX9_totalOf_20 rfl rfl ?_
    refine go_aload_n 22 dX9_totalOf_21 rfl rfl ?_
    refine go_iload_n 23 dX9_totalOf_22 rfl rfl ?_
    refine g_callV 26 [.int _] [.int _] dX9_totalOf_23 rfl (ct_X9_costOf _ _ (nI_i hs (by omega)) (by rw [hcl]; exact ha)) rfl sV_X9_totalOf_253 rfl ly_115 rfl rfl (Nat.le_of_ble_eq_true rfl) (Nat.le_of_ble_eq_true rfl) (Nat.le_of_ble_eq_true rfl) ?_
    refine go_iadd 27 dX9_totalOf_26 rfl ?_
    refine go_istore_n 28 [(2, .int _), (3, .int _), (1, .int _), (0, .ref 115)] dX9_totalOf_27 rfl (Nat.le_of_ble_eq_true rfl) rfl ?_
    refine go_ls [(2, .int _), (3, .int (nI s)), (1, .int w), (0, .ref 115)] (List.forall_mem_cons.mpr ⟨rfl, List.forall_mem_cons.mpr ⟨rfl, List.forall_mem_cons.mpr ⟨rfl, List.forall_mem_cons.mpr ⟨rfl, fun _ h => absurd h List.not_mem_nil⟩⟩⟩⟩) ?_
    refine g_l1 ?_ kx
    unfold t0F
    (try rw [hcl] at *)
    first | (rw [if_neg hc1]; done) | (rw [if_pos hc1]; done) | (rw [if_pos hc1, if_pos hc2]; done) | (rw [if_pos hc1, if_neg hc2]; done)

set_option maxRecDepth 100000 in
set_option maxHeartbeats 1000000 in
theorem tk_to28 {Q : go_Q} (U : gS) (w : Int32) (s : Nat) (hs : s < 24) (v : Int32) (ha : rI U 116 s = 11 → vp_in (rI U 117 s) 24 ∧ vp_in (rI U 118 s) 24) (kx : Go mX9_totalOf false Q 0 0 63 [(2, .int (t1F U w s v)), (3, .int (nI s)), (1, .int w), (0, .ref 115)] [] (hp U)) : Go mX9_totalOf false Q 0 0 28 [(2, .int v), (3, .int (nI s)), (1, .int w), (0, .ref 115)] [] (hp U) := by
  have hcl := nI_c (n := s) (by omega)
  refine go_iload_n 29 dX9_totalOf_28 rfl rfl ?_
  refine go_iconst 30 (1) dX9_totalOf_29 rfl (by decide) ?_
  refine go_icmp_ne 33 63 dX9_totalOf_30 rfl (by decide) (fun hc1 => ?_) (fun hc1 => ?_)
  · refine go_ls [(2, .int _), (3, .int (nI s)), (1, .int w), (0, .ref 115)] (List.forall_mem_cons.mpr ⟨rfl, List.forall_mem_cons.mpr ⟨rfl, List.forall_mem_cons.mpr ⟨rfl, List.forall_mem_cons.mpr ⟨rfl, fun _ h => absurd h List.not_mem_nil⟩⟩⟩⟩) ?_
    refine g_l1 ?_ kx
    unfold t1F
    (try rw [hcl] at *)
    first | (rw [if_neg hc1]; done) | (rw [if_pos hc1]; done) | (rw [if_pos hc1, if_pos hc2]; done) | (rw [if_pos hc1, if_neg hc2]; done)
  · refine go_iload_n 34 dX9_totalOf_33 rfl rfl ?_
    refine go_aload_n 35 dX9_totalOf_34 rfl rfl ?_
    refine g_getR 38 dX9_totalOf_35 rfl fF_RX9_7 ly_115 rfl ?_
    refine go_iload_n 39 dX9_totalOf_38 rfl rfl ?_
    refine g_iald 40 dX9_totalOf_39 rfl ly_116 (nI_i hs (by omega)) ?_
    refine go_bipush 42 (11) dX9_totalOf_40 rfl (by decide) ?_
    refine go_icmp_ne 45 50 dX9_totalOf_42 rfl (by decide) (fun hc2 => ?_) (fun hc2 => ?_)
    · refine go_aload_n 51 dX9_totalOf_50 rfl rfl ?_
      refine g_getR 54 dX9_totalOf_51 rfl fF_RX9_7 ly_115 rfl ?_
      refine go_iload_n 55 dX9_totalOf_54 rfl rfl ?_
      refine g_iald 56 dX9_totalOf_55 rfl ly_116 (nI_i hs (by omega)) ?_
      refine go_bipush 58 (32) dX9_totalOf_56 rfl (by decide) ?_
      refine g_callS 61 [.int _, .int _] [.int _] dX9_totalOf_58 rfl (ct_X9_costBy _ _ _) rfl sV_X9_totalOf_249 rfl (Nat.le_of_ble_eq_true rfl) (Nat.le_of_ble_eq_true rfl) (Nat.le_of_ble_eq_true rfl) ?_
      refine go_iadd 62 dX9_totalOf_61 rfl ?_
      refine go_istore_n 63 [(2, .int _), (3, .int _), (1, .int _), (0, .ref 115)] dX9_totalOf_62 rfl (Nat.le_of_ble_eq_true rfl) rfl ?_
      refine go_ls [(2, .int _), (3, .int (nI s)), (1, .int w), (0, .ref 115)] (List.forall_mem_cons.mpr ⟨rfl, List.forall_mem_cons.mpr ⟨rfl, List.forall_mem_cons.mpr ⟨rfl, List.forall_mem_cons.mpr ⟨rfl, fun _ h => absurd h List.not_mem_nil⟩⟩⟩⟩) ?_
      refine g_l1 ?_ kx
      unfold t1F
      (try rw [hcl] at *)
      first | (rw [if_neg hc1]; done) | (rw [if_pos hc1]; done) | (rw [if_pos hc1, if_pos hc2]; done) | (rw [if_pos hc1, if_neg hc2]; done)
    · refine go_bipush 47 (32) dX9_totalOf_45 rfl (by decide) ?_
      refine go_goto 61 dX9_totalOf_47 (by decide) ?_
      refine go_iadd 62 dX9_totalOf_61 rfl ?_
      refine go_istore_n 63 [(2, .int _), (3, .int _), (1, .int _), (0, .ref 115)] dX9_totalOf_62 rfl (Nat.le_of_ble_eq_true rfl) rfl ?_
      refine go_ls [(2, .int _), (3, .int (nI s)), (1, .int w), (0, .ref 115)] (List.forall_mem_cons.mpr ⟨rfl, List.forall_mem_cons.mpr ⟨rfl, List.forall_mem_cons.mpr ⟨rfl, List.forall_mem_cons.mpr ⟨rfl, fun _ h => absurd h List.not_mem_nil⟩⟩⟩⟩) ?_
      refine g_l1 ?_ kx
      unfold t1F
      (try rw [hcl] at *)
      first | (rw [if_neg hc1]; done) | (rw [if_pos hc1]; done) | (rw [if_pos hc1, if_pos hc2]; done) | (rw [if_pos hc1, if_neg hc2]; done)

set_option maxRecDepth 100000 in
set_option maxHeartbeats 1000000 in
theorem tk_to63 {Q : go_Q} (U : gS) (w : Int32) (s : Nat) (hs : s < 24) (v : Int32) (ha : rI U 116 s = 11 → vp_in (rI U 117 s) 24 ∧ vp_in (rI U 118 s) 24) (kx : Go mX9_totalOf false Q 0 0 89 [(2, .int (t2F U w s v)), (3, .int (nI s)), (1, .int w), (0, .ref 115)] [] (hp U)) : Go mX9_totalOf false Q 0 0 63 [(2, .int v), (3, .int (nI s)), (1, .int w), (0, .ref 115)] [] (hp U) := by
  have hcl := nI_c (n := s) (by omega)
  refine go_iload_n 64 dX9_totalOf_63 rfl rfl ?_
  refine go_iconst 65 (2) dX9_totalOf_64 rfl (by decide) ?_
  refine go_icmp_ne 68 89 dX9_totalOf_65 rfl (by decide) (fun hc1 => ?_) (fun hc1 => ?_)
  · refine go_ls [(2, .int _), (3, .int (nI s)), (1, .int w), (0, .ref 115)] (List.forall_mem_cons.mpr ⟨rfl, List.forall_mem_cons.mpr ⟨rfl, List.forall_mem_cons.mpr ⟨rfl, List.forall_mem_cons.mpr ⟨rfl, fun _ h => absurd h List.not_mem_nil⟩⟩⟩⟩) ?_
    refine g_l1 ?_ kx
    unfold t2F
    (try rw [hcl] at *)
    first | (rw [if_neg hc1]; done) | (rw [if_pos hc1]; done) | (rw [if_pos hc1, if_pos hc2]; done) | (rw [if_pos hc1, if_neg hc2]; done)
  · refine go_iload_n 69 dX9_totalOf_68 rfl rfl ?_
    refine go_aload_n 70 dX9_totalOf_69 rfl rfl ?_
    refine g_getR 73 dX9_totalOf_70 rfl fF_RX9_65 ly_115 rfl ?_
    refine go_iload_n 74 dX9_totalOf_73 rfl rfl ?_
    refine g_iald 75 dX9_totalOf_74 rfl ly_134 (nI_i hs (by omega)) ?_
    refine go_if_ge 78 86 dX9_totalOf_75 rfl (by decide) (fun hc2 => ?_) (fun hc2 => ?_)
    · refine go_iconst 87 (0) dX9_totalOf_86 rfl (by decide) ?_
      refine go_iadd 88 dX9_totalOf_87 rfl ?_
      refine go_istore_n 89 [(2, .int _), (3, .int _), (1, .int _), (0, .ref 115)] dX9_totalOf_88 rfl (Nat.le_of_ble_eq_true rfl) rfl ?_
      refine go_ls [(2, .int _), (3, .int (nI s)), (1, .int w), (0, .ref 115)] (List.forall_mem_cons.mpr ⟨rfl, List.forall_mem_cons.mpr ⟨rfl, List.forall_mem_cons.mpr ⟨rfl, List.forall_mem_cons.mpr ⟨rfl, fun _ h => absurd h List.not_mem_nil⟩⟩⟩⟩) ?_
      refine g_l1 ?_ kx
      unfold t2F
      (try rw [hcl] at *)
      first | (rw [if_neg hc1]; done) | (rw [if_pos hc1]; done) | (rw [if_pos hc1, if_pos hc2]; done) | (rw [if_pos hc1, if_neg hc2]; done)
    · refine go_aload_n 79 dX9_totalOf_78 rfl rfl ?_
      refine go_iload_n 80 dX9_totalOf_79 rfl rfl ?_
      refine g_callV 83 [.int _] [.int _] dX9_totalOf_80 rfl (ct_X9_costOf _ _ (nI_i hs (by omega)) (by rw [hcl]; exact ha)) rfl sV_X9_totalOf_253 rfl ly_115 rfl rfl (Nat.le_of_ble_eq_true rfl) (Nat.le_of_ble_eq_true rfl) (Nat.le_of_ble_eq_true rfl) ?_
      refine go_goto 87 dX9_totalOf_83 (by decide) ?_
      refine go_iadd 88 dX9_totalOf_87 rfl ?_
      refine go_istore_n 89 [(2, .int _), (3, .int _), (1, .int _), (0, .ref 115)] dX9_totalOf_88 rfl (Nat.le_of_ble_eq_true rfl) rfl ?_
      refine go_ls [(2, .int _), (3, .int (nI s)), (1, .int w), (0, .ref 115)] (List.forall_mem_cons.mpr ⟨rfl, List.forall_mem_cons.mpr ⟨rfl, List.forall_mem_cons.mpr ⟨rfl, List.forall_mem_cons.mpr ⟨rfl, fun _ h => absurd h List.not_mem_nil⟩⟩⟩⟩) ?_
      refine g_l1 ?_ kx
      unfold t2F
      (try rw [hcl] at *)
      first | (rw [if_neg hc1]; done) | (rw [if_pos hc1]; done) | (rw [if_pos hc1, if_pos hc2]; done) | (rw [if_pos hc1, if_neg hc2]; done)

set_option maxRecDepth 100000 in
set_option maxHeartbeats 1000000 in
theorem tk_to89 {Q : go_Q} (U : gS) (w : Int32) (s : Nat) (hs : s < 24) (v : Int32) (ha : rI U 116 s = 11 → vp_in (rI U 117 s) 24 ∧ vp_in (rI U 118 s) 24) (kx : Go mX9_totalOf false Q 0 0 102 [(2, .int (t3F U w s v)), (3, .int (nI s)), (1, .int w), (0, .ref 115)] [] (hp U)) : Go mX9_totalOf false Q 0 0 89 [(2, .int v), (3, .int (nI s)), (1, .int w), (0, .ref 115)] [] (hp U) := by
  have hcl := nI_c (n := s) (by omega)
  refine go_iload_n 90 dX9_totalOf_89 rfl rfl ?_
  refine go_iconst 91 (3) dX9_totalOf_90 rfl (by decide) ?_
  refine go_icmp_ne 94 102 dX9_totalOf_91 rfl (by decide) (fun hc1 => ?_) (fun hc1 => ?_)
  · refine go_ls [(2, .int _), (3, .int (nI s)), (1, .int w), (0, .ref 115)] (List.forall_mem_cons.mpr ⟨rfl, List.forall_mem_cons.mpr ⟨rfl, List.forall_mem_cons.mpr ⟨rfl, List.forall_mem_cons.mpr ⟨rfl, fun _ h => absurd h List.not_mem_nil⟩⟩⟩⟩) ?_
    refine g_l1 ?_ kx
    unfold t3F
    (try rw [hcl] at *)
    first | (rw [if_neg hc1]; done) | (rw [if_pos hc1]; done) | (rw [if_pos hc1, if_pos hc2]; done) | (rw [if_pos hc1, if_neg hc2]; done)
  · refine go_iload_n 95 dX9_totalOf_94 rfl rfl ?_
    refine go_aload_n 96 dX9_totalOf_95 rfl rfl ?_
    refine go_iload_n 97 dX9_totalOf_96 rfl rfl ?_
    refine g_callV 100 [.int _] [.int _] dX9_totalOf_97 rfl (ct_X9_widthOf _ _ (nI_i hs (by omega))) rfl sV_X9_totalOf_240 rfl ly_115 rfl rfl (Nat.le_of_ble_eq_true rfl) (Nat.le_of_ble_eq_true rfl) (Nat.le_of_ble_eq_true rfl) ?_
    refine go_iadd 101 dX9_totalOf_100 rfl ?_
    refine go_istore_n 102 [(2, .int _), (3, .int _), (1, .int _), (0, .ref 115)] dX9_totalOf_101 rfl (Nat.le_of_ble_eq_true rfl) rfl ?_
    refine go_ls [(2, .int _), (3, .int (nI s)), (1, .int w), (0, .ref 115)] (List.forall_mem_cons.mpr ⟨rfl, List.forall_mem_cons.mpr ⟨rfl, List.forall_mem_cons.mpr ⟨rfl, List.forall_mem_cons.mpr ⟨rfl, fun _ h => absurd h List.not_mem_nil⟩⟩⟩⟩) ?_
    refine g_l1 ?_ kx
    unfold t3F
    (try rw [hcl] at *)
    first | (rw [if_neg hc1]; done) | (rw [if_pos hc1]; done) | (rw [if_pos hc1, if_pos hc2]; done) | (rw [if_pos hc1, if_neg hc2]; done)

set_option maxRecDepth 100000 in
set_option maxHeartbeats 1000000 in
theorem tk_to102 {Q : go_Q} (U : gS) (w : Int32) (s : Nat) (hs : s < 24) (v : Int32) (ha : rI U 116 s = 11 → vp_in (rI U 117 s) 24 ∧ vp_in (rI U 118 s) 24) (kx : Go mX9_totalOf false Q 0 0 123 [(2, .int (t4F U w s v)), (3, .int (nI s)), (1, .int w), (0, .ref 115)] [] (hp U)) : Go mX9_totalOf false Q 0 0 102 [(2, .int v), (3, .int (nI s)), (1, .int w), (0, .ref 115)] [] (hp U) := by
  have hcl := nI_c (n := s) (by omega)
  refine go_iload_n 103 dX9_totalOf_102 rfl rfl ?_
  refine go_iconst 104 (4) dX9_totalOf_103 rfl (by decide) ?_
  refine go_icmp_ne 107 123 dX9_totalOf_104 rfl (by decide) (fun hc1 => ?_) (fun hc1 => ?_)
  · refine go_ls [(2, .int _), (3, .int (nI s)), (1, .int w), (0, .ref 115)] (List.forall_mem_cons.mpr ⟨rfl, List.forall_mem_cons.mpr ⟨rfl, List.forall_mem_cons.mpr ⟨rfl, List.forall_mem_cons.mpr ⟨rfl, fun _ h => absurd h List.not_mem_nil⟩⟩⟩⟩) ?_
    refine g_l1 ?_ kx
    unfold t4F
    (try rw [hcl] at *)
    first | (rw [if_neg hc1]; done) | (rw [if_pos hc1]; done) | (rw [if_pos hc1, if_pos hc2]; done) | (rw [if_pos hc1, if_neg hc2]; done)
  · refine go_iload_n 108 dX9_totalOf_107 rfl rfl ?_
    refine go_aload_n 109 dX9_totalOf_108 rfl rfl ?_
    refine go_iload_n 110 dX9_totalOf_109 rfl rfl ?_
    refine g_callV 113 [.int _] [.int _] dX9_totalOf_110 rfl (ct_X9_widthOf _ _ (nI_i hs (by omega))) rfl sV_X9_totalOf_240 rfl ly_115 rfl rfl (Nat.le_of_ble_eq_true rfl) (Nat.le_of_ble_eq_true rfl) (Nat.le_of_ble_eq_true rfl) ?_
    refine go_if_ne 116 120 dX9_totalOf_113 rfl (by decide) (fun hc2 => ?_) (fun hc2 => ?_)
    · refine go_iconst 121 (0) dX9_totalOf_120 rfl (by decide) ?_
      refine go_iadd 122 dX9_totalOf_121 rfl ?_
      refine go_istore_n 123 [(2, .int _), (3, .int _), (1, .int _), (0, .ref 115)] dX9_totalOf_122 rfl (Nat.le_of_ble_eq_true rfl) rfl ?_
      refine go_ls [(2, .int _), (3, .int (nI s)), (1, .int w), (0, .ref 115)] (List.forall_mem_cons.mpr ⟨rfl, List.forall_mem_cons.mpr ⟨rfl, List.forall_mem_cons.mpr ⟨rfl, List.forall_mem_cons.mpr ⟨rfl, fun _ h => absurd h List.not_mem_nil⟩⟩⟩⟩) ?_
      refine g_l1 ?_ kx
      unfold t4F
      (try rw [hcl] at *)
      first | (rw [if_neg hc1]; done) | (rw [if_pos hc1]; done) | (rw [if_pos hc1, if_pos hc2]; done) | (rw [if_pos hc1, if_neg hc2]; done)
    · refine go_iconst 117 (1) dX9_totalOf_116 rfl (by decide) ?_
      refine go_goto 121 dX9_totalOf_117 (by decide) ?_
      refine go_iadd 122 dX9_totalOf_121 rfl ?_
      refine go_istore_n 123 [(2, .int _), (3, .int _), (1, .int _), (0, .ref 115)] dX9_totalOf_122 rfl (Nat.le_of_ble_eq_true rfl) rfl ?_
      refine go_ls [(2, .int _), (3, .int (nI s)), (1, .int w), (0, .ref 115)] (List.forall_mem_cons.mpr ⟨rfl, List.forall_mem_cons.mpr ⟨rfl, List.forall_mem_cons.mpr ⟨rfl, List.forall_mem_cons.mpr ⟨rfl, fun _ h => absurd h List.not_mem_nil⟩⟩⟩⟩) ?_
      refine g_l1 ?_ kx
      unfold t4F
      (try rw [hcl] at *)
      first | (rw [if_neg hc1]; done) | (rw [if_pos hc1]; done) | (rw [if_pos hc1, if_pos hc2]; done) | (rw [if_pos hc1, if_neg hc2]; done)

set_option maxRecDepth 100000 in
set_option maxHeartbeats 1000000 in
theorem lk_to8 {Q : go_Q} (U : gS) (w : Int32) (n : Nat) (ho : okR U n) (kx : Go mX9_totalOf false Q 0 0 129 [(2, .int (tsN U w n)), (3, .int (nI n)), (1, .int w), (0, .ref 115)] [] (hp ((fun _ => U) (n)))) : ∀ i, i ≤ n → Go mX9_totalOf false Q 0 0 8 [(2, .int (tsN U w i)), (3, .int (nI i)), (1, .int w), (0, .ref 115)] [] (hp ((fun _ => U) i)) := by
  refine g_dn _ (n) (fun i hi ih => ?_)
  have h24 := ho.2.1
  have hcl := nI_c (n := i) (by omega)
  refine go_iload_n 9 dX9_totalOf_8 rfl rfl ?_
  refine go_aload_n 10 dX9_totalOf_9 rfl rfl ?_
  refine g_getI 13 dX9_totalOf_10 rfl fF_RX9_102 ly_115 rfl ?_
  refine go_icmp_ge 16 129 dX9_totalOf_13 rfl (by decide) (fun hc1 => ?_) (fun hc1 => ?_)
  · have hv : i = n := by
      have h8 := hc1
      rw [show rI U 115 10 = nI n from ho.1, nI_le2 (by omega) (by omega)] at h8
      omega
    subst hv
    refine go_ls [(2, .int _), (3, .int _), (1, .int w), (0, .ref 115)] (List.forall_mem_cons.mpr ⟨rfl, List.forall_mem_cons.mpr ⟨rfl, List.forall_mem_cons.mpr ⟨rfl, List.forall_mem_cons.mpr ⟨rfl, fun _ h => absurd h List.not_mem_nil⟩⟩⟩⟩) ?_
    exact kx
  · have hv : i < n := by
      have h8 := hc1
      rw [show rI U 115 10 = nI n from ho.1, nI_le2 (by omega) (by omega)] at h8
      omega
    refine tk_to16 U w i (by omega) _ (fun q => ⟨(ho.2.2 i (by omega)).1.1 (by rw [q]; decide), (ho.2.2 i (by omega)).1.2.1 (by rw [q]; decide) (by rw [q]; decide) (by rw [q]; decide)⟩) ?_
    refine tk_to28 U w i (by omega) _ (fun q => ⟨(ho.2.2 i (by omega)).1.1 (by rw [q]; decide), (ho.2.2 i (by omega)).1.2.1 (by rw [q]; decide) (by rw [q]; decide) (by rw [q]; decide)⟩) ?_
    refine tk_to63 U w i (by omega) _ (fun q => ⟨(ho.2.2 i (by omega)).1.1 (by rw [q]; decide), (ho.2.2 i (by omega)).1.2.1 (by rw [q]; decide) (by rw [q]; decide) (by rw [q]; decide)⟩) ?_
    refine tk_to89 U w i (by omega) _ (fun q => ⟨(ho.2.2 i (by omega)).1.1 (by rw [q]; decide), (ho.2.2 i (by omega)).1.2.1 (by rw [q]; decide) (by rw [q]; decide) (by rw [q]; decide)⟩) ?_
    refine tk_to102 U w i (by omega) _ (fun q => ⟨(ho.2.2 i (by omega)).1.1 (by rw [q]; decide), (ho.2.2 i (by omega)).1.2.1 (by rw [q]; decide) (by rw [q]; decide) (by rw [q]; decide)⟩) ?_
    refine go_iinc 126 [(3, .int _), (2, .int _), (1, .int _), (0, .ref 115)] (nI (i + 1)) dX9_totalOf_123 rfl (Nat.le_of_ble_eq_true rfl) rfl (nI_inc i) rfl ?_
    refine go_goto 8 dX9_totalOf_126 (by decide) ?_
    refine go_ls [(2, .int _), (3, .int _), (1, .int w), (0, .ref 115)] (List.forall_mem_cons.mpr ⟨rfl, List.forall_mem_cons.mpr ⟨rfl, List.forall_mem_cons.mpr ⟨rfl, List.forall_mem_cons.mpr ⟨rfl, fun _ h => absurd h List.not_mem_nil⟩⟩⟩⟩) ?_
    exact ih (by omega)

set_option maxRecDepth 100000 in
set_option maxHeartbeats 1000000 in
theorem lp_to131 (U : gS) (w v : Int32) (m : Nat) (hm : rI U 115 26 = nI m) (h24 : m ≤ 24) (hw : w = 2) : ∀ i, i ≤ m → Go mX9_totalOf false (go_Qm mX9_totalOf false (fun v9 h9 => v9 = (some (.int (tuN U v m))) ∧ h9 = hp U) go_no) 0 0 131 [(2, .int (tuN U v i)), (3, .int (nI i)), (1, .int w), (0, .ref 115)] [] (hp ((fun _ => U) i)) := by
  refine g_dn _ (m) (fun i hi ih => ?_)
  have hcl := nI_c (n := i) (by omega)
  refine go_iload_n 132 dX9_totalOf_131 rfl rfl ?_
  refine go_aload_n 133 dX9_totalOf_132 rfl rfl ?_
  refine g_getI 136 dX9_totalOf_133 rfl fF_RX9_259 ly_115 rfl ?_
  refine go_icmp_ge 139 174 dX9_totalOf_136 rfl (by decide) (fun hc1 => ?_) (fun hc1 => ?_)
  · have hv : i = m := by
      have h8 := hc1
      rw [show rI U 115 26 = nI m from hm, nI_le2 (by omega) (by omega)] at h8
      omega
    subst hv
    refine go_iload_n 175 dX9_totalOf_174 rfl rfl ?_
    refine go_ireturn dX9_totalOf_175 rfl (by first | rfl | exact bi_nar) (Nat.le_of_ble_eq_true rfl) (Nat.le_of_ble_eq_true rfl) ?_
    exact ⟨rfl, rfl⟩
  · have hv : i < m := by
      have h8 := hc1
      rw [show rI U 115 26 = nI m from hm, nI_le2 (by omega) (by omega)] at h8
      omega
    refine go_iload_n 140 dX9_totalOf_139 rfl rfl ?_
    refine go_iconst 141 (2) dX9_totalOf_140 rfl (by decide) ?_
    refine go_icmp_ne 144 174 dX9_totalOf_141 rfl (by decide) (fun hc2 => ?_) (fun hc2 => ?_)
    · exact absurd hw hc2
    · refine go_iload_n 145 dX9_totalOf_144 rfl rfl ?_
      refine go_aload_n 146 dX9_totalOf_145 rfl rfl ?_
      refine g_getR 149 dX9_totalOf_146 rfl fF_RX9_50 ly_115 rfl ?_
      refine go_iload_n 150 dX9_totalOf_149 rfl rfl ?_
      refine g_iald 151 dX9_totalOf_150 rfl ly_129 (nI_i (by have := hv; omega) (by omega)) ?_
      refine go_aload_n 152 dX9_totalOf_151 rfl rfl ?_
      refine g_getR 155 dX9_totalOf_152 rfl fF_RX9_53 ly_115 rfl ?_
      refine go_iload_n 156 dX9_totalOf_155 rfl rfl ?_
      refine g_iald 157 dX9_totalOf_156 rfl ly_130 (nI_i (by have := hv; omega) (by omega)) ?_
      refine go_aload_n 158 dX9_totalOf_157 rfl rfl ?_
      refine g_getR 161 dX9_totalOf_158 rfl fF_RX9_56 ly_115 rfl ?_
      refine go_iload_n 162 dX9_totalOf_161 rfl rfl ?_
      refine g_iald 163 dX9_totalOf_162 rfl ly_131 (nI_i (by have := hv; omega) (by omega)) ?_
      refine g_callS 166 [.int _, .int _, .int _] [.int _] dX9_totalOf_163 rfl (ct_X9_unitCost _ _ _ _) rfl sV_X9_totalOf_256 rfl (Nat.le_of_ble_eq_true rfl) (Nat.le_of_ble_eq_true rfl) (Nat.le_of_ble_eq_true rfl) ?_
      refine go_iadd 167 dX9_totalOf_166 rfl ?_
      refine go_topi (tuN U v (i + 1)) (by rw [hcl]; rfl) ?_
      refine go_istore_n 168 [(2, .int _), (3, .int _), (1, .int _), (0, .ref 115)] dX9_totalOf_167 rfl (Nat.le_of_ble_eq_true rfl) rfl ?_
      refine go_iinc 171 [(3, .int _), (2, .int _), (1, .int _), (0, .ref 115)] (nI (i + 1)) dX9_totalOf_168 rfl (Nat.le_of_ble_eq_true rfl) rfl (nI_inc i) rfl ?_
      refine go_goto 131 dX9_totalOf_171 (by decide) ?_
      refine go_ls [(2, .int _), (3, .int _), (1, .int w), (0, .ref 115)] (List.forall_mem_cons.mpr ⟨rfl, List.forall_mem_cons.mpr ⟨rfl, List.forall_mem_cons.mpr ⟨rfl, List.forall_mem_cons.mpr ⟨rfl, fun _ h => absurd h List.not_mem_nil⟩⟩⟩⟩) ?_
      exact ih (by omega)

set_option maxRecDepth 100000 in
set_option maxHeartbeats 1000000 in
theorem tl_to131n (U : gS) (w v : Int32) (m : Nat) (hm : rI U 115 26 = nI m) (h24 : m ≤ 24) (hw : ¬ w = 2) : Go mX9_totalOf false (go_Qm mX9_totalOf false (fun v9 h9 => v9 = (some (.int v)) ∧ h9 = hp U) go_no) 0 0 131 [(2, .int v), (3, .int 0), (1, .int w), (0, .ref 115)] [] (hp U) := by
  refine go_iload_n 132 dX9_totalOf_131 rfl rfl ?_
  refine go_aload_n 133 dX9_totalOf_132 rfl rfl ?_
  refine g_getI 136 dX9_totalOf_133 rfl fF_RX9_259 ly_115 rfl ?_
  refine go_icmp_ge 139 174 dX9_totalOf_136 rfl (by decide) (fun hc1 => ?_) (fun hc1 => ?_)
  · refine go_iload_n 175 dX9_totalOf_174 rfl rfl ?_
    refine go_ireturn dX9_totalOf_175 rfl (by first | rfl | exact bi_nar) (Nat.le_of_ble_eq_true rfl) (Nat.le_of_ble_eq_true rfl) ?_
    exact ⟨rfl, rfl⟩
  · refine go_iload_n 140 dX9_totalOf_139 rfl rfl ?_
    refine go_iconst 141 (2) dX9_totalOf_140 rfl (by decide) ?_
    refine go_icmp_ne 144 174 dX9_totalOf_141 rfl (by decide) (fun hc2 => ?_) (fun hc2 => ?_)
    · refine go_iload_n 175 dX9_totalOf_174 rfl rfl ?_
      refine go_ireturn dX9_totalOf_175 rfl (by first | rfl | exact bi_nar) (Nat.le_of_ble_eq_true rfl) (Nat.le_of_ble_eq_true rfl) ?_
      exact ⟨rfl, rfl⟩
    · exact absurd hc2 hw

set_option maxRecDepth 100000 in
set_option maxHeartbeats 1000000 in
theorem ct_X9_totalOf (S U : gS) (w : Int32) (n m : Nat) (hF : gF mX9_findUnits [.ref 115] S none U) (ho : okR U n) (hm : rI U 115 26 = nI m) (h24 : m ≤ 24) : gF mX9_totalOf [.ref 115, .int w] S (some (.int (toN U n m w))) U := by
  refine go_enter [.ref 115, .int w] [(0, .ref 115), (1, .int w)] (by decide +kernel) rfl rfl (Nat.le_of_ble_eq_true rfl) rfl ?_
  refine go_aload_n 1 dX9_totalOf_0 rfl rfl ?_
  refine g_callV0 4 [] [] dX9_totalOf_1 rfl hF rfl sV_X9_totalOf_269 rfl ly_115 rfl rfl (Nat.le_of_ble_eq_true rfl) (Nat.le_of_ble_eq_true rfl) (Nat.le_of_ble_eq_true rfl) ?_
  refine go_iconst 5 (0) dX9_totalOf_4 rfl (by decide) ?_
  refine go_istore_n 6 [(2, .int _), (0, .ref 115), (1, .int _)] dX9_totalOf_5 rfl (Nat.le_of_ble_eq_true rfl) rfl ?_
  refine go_iconst 7 (0) dX9_totalOf_6 rfl (by decide) ?_
  refine go_istore_n 8 [(3, .int _), (2, .int _), (0, .ref 115), (1, .int _)] dX9_totalOf_7 rfl (Nat.le_of_ble_eq_true rfl) rfl ?_
  refine go_ls [(2, .int _), (3, .int _), (1, .int w), (0, .ref 115)] (List.forall_mem_cons.mpr ⟨rfl, List.forall_mem_cons.mpr ⟨rfl, List.forall_mem_cons.mpr ⟨rfl, List.forall_mem_cons.mpr ⟨rfl, fun _ h => absurd h List.not_mem_nil⟩⟩⟩⟩) ?_
  refine lk_to8 U w n ho ?_ 0 (Nat.zero_le _)
  refine go_iconst 130 (0) dX9_totalOf_129 rfl (by decide) ?_
  refine go_istore_n 131 [(3, .int _), (2, .int _), (1, .int _), (0, .ref 115)] dX9_totalOf_130 rfl (Nat.le_of_ble_eq_true rfl) rfl ?_
  refine go_ls [(2, .int _), (3, .int _), (1, .int w), (0, .ref 115)] (List.forall_mem_cons.mpr ⟨rfl, List.forall_mem_cons.mpr ⟨rfl, List.forall_mem_cons.mpr ⟨rfl, List.forall_mem_cons.mpr ⟨rfl, fun _ h => absurd h List.not_mem_nil⟩⟩⟩⟩) ?_
  unfold toN
  by_cases hw : w = 2
  · rw [if_pos hw]
    exact lp_to131 U w _ m hm h24 hw 0 (Nat.zero_le _)
  · rw [if_neg hw]
    exact tl_to131n U w _ m hm h24 hw

set_option maxRecDepth 100000 in
set_option maxHeartbeats 1000000 in
theorem ct_X9_total (S U : gS) (w v : Int32) (hF : b04 w → gF mX9_totalOf [.ref 115, .int w] (wI S 115 0 0) (some (.int v)) U) : gF mX9_total [.ref 115, .int w] S (some (.int (if b04 w then v else 0))) (if b04 w then U else wI S 115 0 1) := by
  refine go_enter [.ref 115, .int w] [(0, .ref 115), (1, .int w)] (by decide +kernel) rfl rfl (Nat.le_of_ble_eq_true rfl) rfl ?_
  refine go_iload_n 1 dX9_total_0 rfl rfl ?_
  refine go_i2l 2 dX9_total_1 rfl ?_
  refine go_lconst 3 (0) dX9_total_2 rfl (by decide) ?_
  refine go_ldc2 6 (4) dX9_total_3 rfl wK_RX9_272 ?_
  refine g_callS 9 [.long _, .long _, .long _] [] dX9_total_6 rfl (ct_X9_isBetween _ _ _ _) rfl sV_X9_total_109 rfl (Nat.le_of_ble_eq_true rfl) (Nat.le_of_ble_eq_true rfl) (Nat.le_of_ble_eq_true rfl) ?_
  refine go_if_ne 12 18 dX9_total_9 rfl (by decide) (fun hc1 => ?_) (fun hc1 => ?_)
  · have hb : b04 w := bi1.mp hc1
    rw [if_pos hb, if_pos hb]
    refine go_aload_n 19 dX9_total_18 rfl rfl ?_
    refine go_iconst 20 (0) dX9_total_19 rfl (by decide) ?_
    refine g_putI 23 dX9_total_20 rfl fF_RX9_98 ly_115 rfl (fun q hq => by cases hq; rfl) rfl rfl ?_
    refine go_aload_n 24 dX9_total_23 rfl rfl ?_
    refine go_iload_n 25 dX9_total_24 rfl rfl ?_
    refine g_callV 28 [.int _] [] dX9_total_25 rfl (hF hb) rfl sV_X9_total_274 rfl ly_115 rfl rfl (Nat.le_of_ble_eq_true rfl) (Nat.le_of_ble_eq_true rfl) (Nat.le_of_ble_eq_true rfl) ?_
    refine go_ireturn dX9_total_28 rfl (by first | rfl | exact bi_nar) (Nat.le_of_ble_eq_true rfl) (Nat.le_of_ble_eq_true rfl) ?_
    exact ⟨rfl, rfl⟩
  · refine go_aload_n 13 dX9_total_12 rfl rfl ?_
    refine go_iconst 14 (1) dX9_total_13 rfl (by decide) ?_
    refine g_callV 17 [.int _] [] dX9_total_14 rfl (ct_X9_fails _ _) rfl sV_X9_total_132 rfl ly_115 rfl rfl (Nat.le_of_ble_eq_true rfl) (Nat.le_of_ble_eq_true rfl) (Nat.le_of_ble_eq_true rfl) ?_
    refine go_ireturn dX9_total_17 rfl (by first | rfl | exact bi_nar) (Nat.le_of_ble_eq_true rfl) (Nat.le_of_ble_eq_true rfl) ?_
    have hb : ¬ b04 w := bi0.mp hc1
    rw [if_neg hb, if_neg hb]
    exact ⟨rfl, rfl⟩

set_option maxRecDepth 100000 in
set_option maxHeartbeats 1000000 in
theorem ct_X9_share_z (S U : gS) (a : Int32) (ha : a = 0) (hF : gF mX9_totalOf [.ref 115, .int 1] S (some (.int a)) U) : gF mX9_share [.ref 115] S (some (.double FP.dconst0)) (wI U 115 0 1) := by
  refine go_enter [.ref 115] [(0, .ref 115)] (by decide +kernel) rfl rfl (Nat.le_of_ble_eq_true rfl) rfl ?_
  refine go_aload_n 1 dX9_share_0 rfl rfl ?_
  refine go_iconst 2 (1) dX9_share_1 rfl (by decide) ?_
  refine g_callV 5 [.int _] [] dX9_share_2 rfl hF rfl sV_X9_share_274 rfl ly_115 rfl rfl (Nat.le_of_ble_eq_true rfl) (Nat.le_of_ble_eq_true rfl) (Nat.le_of_ble_eq_true rfl) ?_
  refine go_istore_n 6 [(1, .int _), (0, .ref 115)] dX9_share_5 rfl (Nat.le_of_ble_eq_true rfl) rfl ?_
  refine go_aload_n 7 dX9_share_6 rfl rfl ?_
  refine go_iload_n 8 dX9_share_7 rfl rfl ?_
  refine go_if_ne 11 15 dX9_share_8 rfl (by decide) (fun hc1 => ?_) (fun hc1 => ?_)
  · exact absurd ha hc1
  · refine go_iconst 12 (1) dX9_share_11 rfl (by decide) ?_
    refine go_goto 16 dX9_share_12 (by decide) ?_
    refine g_putI 19 dX9_share_16 rfl fF_RX9_98 ly_115 rfl (fun q hq => by cases hq; rfl) rfl rfl ?_
    refine go_iload_n 20 dX9_share_19 rfl rfl ?_
    refine go_if_ne 23 27 dX9_share_20 rfl (by decide) (fun hc2 => ?_) (fun hc2 => ?_)
    · exact absurd ha hc2
    · refine go_dconst0 24 dX9_share_23 rfl ?_
      refine go_goto 36 dX9_share_24 (by decide) ?_
      refine go_dreturn dX9_share_36 rfl (Nat.le_of_ble_eq_true rfl) (Nat.le_of_ble_eq_true rfl) ?_
      exact ⟨rfl, rfl⟩

set_option maxRecDepth 100000 in
set_option maxHeartbeats 1000000 in
theorem ct_X9_share (S U V : gS) (a c : Int32) (ha : ¬ a = 0) (hF : gF mX9_totalOf [.ref 115, .int 1] S (some (.int a)) U) (hG : gF mX9_totalOf [.ref 115, .int 0] (wI U 115 0 0) (some (.int c)) V) (hne : vf_n64 (FP.ddiv (FP.i2d c) (FP.i2d a))) : gF mX9_share [.ref 115] S (some (.double (FP.ddiv (FP.i2d c) (FP.i2d a)))) V := by
  refine go_enter [.ref 115] [(0, .ref 115)] (by decide +kernel) rfl rfl (Nat.le_of_ble_eq_true rfl) rfl ?_
  refine go_aload_n 1 dX9_share_0 rfl rfl ?_
  refine go_iconst 2 (1) dX9_share_1 rfl (by decide) ?_
  refine g_callV 5 [.int _] [] dX9_share_2 rfl hF rfl sV_X9_share_274 rfl ly_115 rfl rfl (Nat.le_of_ble_eq_true rfl) (Nat.le_of_ble_eq_true rfl) (Nat.le_of_ble_eq_true rfl) ?_
  refine go_istore_n 6 [(1, .int _), (0, .ref 115)] dX9_share_5 rfl (Nat.le_of_ble_eq_true rfl) rfl ?_
  refine go_aload_n 7 dX9_share_6 rfl rfl ?_
  refine go_iload_n 8 dX9_share_7 rfl rfl ?_
  refine go_if_ne 11 15 dX9_share_8 rfl (by decide) (fun hc1 => ?_) (fun hc1 => ?_)
  · refine go_iconst 16 (0) dX9_share_15 rfl (by decide) ?_
    refine g_putI 19 dX9_share_16 rfl fF_RX9_98 ly_115 rfl (fun q hq => by cases hq; rfl) rfl rfl ?_
    refine go_iload_n 20 dX9_share_19 rfl rfl ?_
    refine go_if_ne 23 27 dX9_share_20 rfl (by decide) (fun hc2 => ?_) (fun hc2 => ?_)
    · refine go_aload_n 28 dX9_share_27 rfl rfl ?_
      refine go_iconst 29 (0) dX9_share_28 rfl (by decide) ?_
      refine g_callV 32 [.int _] [] dX9_share_29 rfl hG rfl sV_X9_share_274 rfl ly_115 rfl rfl (Nat.le_of_ble_eq_true rfl) (Nat.le_of_ble_eq_true rfl) (Nat.le_of_ble_eq_true rfl) ?_
      refine go_i2d 33 dX9_share_32 rfl ?_
      refine go_iload_n 34 dX9_share_33 rfl rfl ?_
      refine go_i2d 35 dX9_share_34 rfl ?_
      refine go_ddiv 36 dX9_share_35 rfl hne ?_
      refine go_dreturn dX9_share_36 rfl (Nat.le_of_ble_eq_true rfl) (Nat.le_of_ble_eq_true rfl) ?_
      exact ⟨rfl, rfl⟩
    · exact absurd hc2 ha
  · exact absurd hc1 ha

set_option maxRecDepth 100000 in
set_option maxHeartbeats 1000000 in
theorem ct_X9_units (S U : gS) (hF : gF mX9_findUnits [.ref 115] (wI S 115 0 0) none U) : gF mX9_units [.ref 115] S (some (.int (rI U 115 26))) U := by
  refine go_enter [.ref 115] [(0, .ref 115)] (by decide +kernel) rfl rfl (Nat.le_of_ble_eq_true rfl) rfl ?_
  refine go_aload_n 1 dX9_units_0 rfl rfl ?_
  refine go_iconst 2 (0) dX9_units_1 rfl (by decide) ?_
  refine g_putI 5 dX9_units_2 rfl fF_RX9_98 ly_115 rfl (fun q hq => by cases hq; rfl) rfl rfl ?_
  refine go_aload_n 6 dX9_units_5 rfl rfl ?_
  refine g_callV0 9 [] [] dX9_units_6 rfl hF rfl sV_X9_units_269 rfl ly_115 rfl rfl (Nat.le_of_ble_eq_true rfl) (Nat.le_of_ble_eq_true rfl) (Nat.le_of_ble_eq_true rfl) ?_
  refine go_aload_n 10 dX9_units_9 rfl rfl ?_
  refine g_getI 13 dX9_units_10 rfl fF_RX9_259 ly_115 rfl ?_
  refine go_ireturn dX9_units_13 rfl (by first | rfl | exact bi_nar) (Nat.le_of_ble_eq_true rfl) (Nat.le_of_ble_eq_true rfl) ?_
  exact ⟨rfl, rfl⟩

set_option maxRecDepth 100000 in
set_option maxHeartbeats 1000000 in
theorem ct_X9_unitOf (S U : gS) (r : Int32) (n : Nat) (hn : rI S 115 10 = nI n) (h24 : n ≤ 24) (hF : sgn (nI n) r → gF mX9_findUnits [.ref 115] S none U) : gF mX9_unitOf [.ref 115, .int r] S (some (.int (if sgn (nI n) r ∧ 0 ≤ rI U 134 r.toNatClampNeg then rI U 134 r.toNatClampNeg else 0))) (if ¬ sgn (nI n) r then wI S 115 0 1 else if 0 ≤ rI U 134 r.toNatClampNeg then wI U 115 0 0 else wI U 115 0 2) := by
  refine go_enter [.ref 115, .int r] [(0, .ref 115), (1, .int r)] (by decide +kernel) rfl rfl (Nat.le_of_ble_eq_true rfl) rfl ?_
  refine go_aload_n 1 dX9_unitOf_0 rfl rfl ?_
  refine go_iload_n 2 dX9_unitOf_1 rfl rfl ?_
  refine g_callV 5 [.int _] [] dX9_unitOf_2 rfl (ct_X9_isSignal _ _) rfl sV_X9_unitOf_123 rfl ly_115 rfl rfl (Nat.le_of_ble_eq_true rfl) (Nat.le_of_ble_eq_true rfl) (Nat.le_of_ble_eq_true rfl) ?_
  refine go_if_ne 8 14 dX9_unitOf_5 rfl (by decide) (fun hc1 => ?_) (fun hc1 => ?_)
  · have hs : sgn (nI n) r := by
      have h8 := bi1.mp hc1
      rw [hn] at h8
      exact h8
    have hr : vp_in r 24 := vin_of hs h24
    rw [if_neg (Classical.not_not.mpr hs)]
    refine go_aload_n 15 dX9_unitOf_14 rfl rfl ?_
    refine g_callV0 18 [] [] dX9_unitOf_15 rfl (hF hs) rfl sV_X9_unitOf_269 rfl ly_115 rfl rfl (Nat.le_of_ble_eq_true rfl) (Nat.le_of_ble_eq_true rfl) (Nat.le_of_ble_eq_true rfl) ?_
    refine go_aload_n 19 dX9_unitOf_18 rfl rfl ?_
    refine g_getR 22 dX9_unitOf_19 rfl fF_RX9_65 ly_115 rfl ?_
    refine go_iload_n 23 dX9_unitOf_22 rfl rfl ?_
    refine g_iald 24 dX9_unitOf_23 rfl ly_134 hr ?_
    refine go_if_ge 27 33 dX9_unitOf_24 rfl (by decide) (fun hc2 => ?_) (fun hc2 => ?_)
    · refine go_aload_n 34 dX9_unitOf_33 rfl rfl ?_
      refine go_iconst 35 (0) dX9_unitOf_34 rfl (by decide) ?_
      refine g_putI 38 dX9_unitOf_35 rfl fF_RX9_98 ly_115 rfl (fun q hq => by cases hq; rfl) rfl rfl ?_
      refine go_aload_n 39 dX9_unitOf_38 rfl rfl ?_
      refine g_getR 42 dX9_unitOf_39 rfl fF_RX9_65 ly_115 rfl ?_
      refine go_iload_n 43 dX9_unitOf_42 rfl rfl ?_
      refine g_iald 44 dX9_unitOf_43 rfl ly_134 hr ?_
      refine go_ireturn dX9_unitOf_44 rfl (by first | rfl | exact bi_nar) (Nat.le_of_ble_eq_true rfl) (Nat.le_of_ble_eq_true rfl) ?_
      rw [if_pos hc2, if_pos ⟨hs, hc2⟩]
      exact ⟨rfl, rfl⟩
    · refine go_aload_n 28 dX9_unitOf_27 rfl rfl ?_
      refine go_iconst 29 (2) dX9_unitOf_28 rfl (by decide) ?_
      refine g_callV 32 [.int _] [] dX9_unitOf_29 rfl (ct_X9_fails _ _) rfl sV_X9_unitOf_132 rfl ly_115 rfl rfl (Nat.le_of_ble_eq_true rfl) (Nat.le_of_ble_eq_true rfl) (Nat.le_of_ble_eq_true rfl) ?_
      refine go_ireturn dX9_unitOf_32 rfl (by first | rfl | exact bi_nar) (Nat.le_of_ble_eq_true rfl) (Nat.le_of_ble_eq_true rfl) ?_
      rw [if_neg hc2, if_neg (fun q => hc2 q.2)]
      exact ⟨rfl, rfl⟩
  · refine go_aload_n 9 dX9_unitOf_8 rfl rfl ?_
    refine go_iconst 10 (1) dX9_unitOf_9 rfl (by decide) ?_
    refine g_callV 13 [.int _] [] dX9_unitOf_10 rfl (ct_X9_fails _ _) rfl sV_X9_unitOf_132 rfl ly_115 rfl rfl (Nat.le_of_ble_eq_true rfl) (Nat.le_of_ble_eq_true rfl) (Nat.le_of_ble_eq_true rfl) ?_
    refine go_ireturn dX9_unitOf_13 rfl (by first | rfl | exact bi_nar) (Nat.le_of_ble_eq_true rfl) (Nat.le_of_ble_eq_true rfl) ?_
    have hs : ¬ sgn (nI n) r := by
      have h8 := bi0.mp hc1
      rw [hn] at h8
      exact h8
    rw [if_pos hs, if_neg (fun q => hs q.1)]
    exact ⟨rfl, rfl⟩

theorem b04_4 {w : Int32} (h : b04 w) {tg : List (Int32 × Nat)} (htg : tg.map (fun q => q.1) = [0, 1, 2, 3]) (hd : ∀ q ∈ tg, w ≠ q.1) : w = 4 := by
  have hd2 : ∀ x ∈ tg.map (fun q => q.1), w ≠ x := by
    intro x hx
    obtain ⟨q, hq, rfl⟩ := List.mem_map.mp hx
    exact hd q hq
  rw [htg] at hd2
  simp only [List.mem_cons, List.not_mem_nil, or_false, forall_eq_or_imp, forall_eq] at hd2
  obtain ⟨h1, h2⟩ := h
  rw [show (0 : Int64) = (0 : Int32).toInt64 from rfl, w_le] at h1
  rw [show (4 : Int64) = (4 : Int32).toInt64 from rfl, w_le] at h2
  simp only [ne_eq, ieq, ile] at *
  simp at *
  omega
/-- a number of a unit, as it is tested -/
theorem b0m {r : Int32} {m : Nat} (h24 : m ≤ 24) : ((0 : Int64) ≤ r.toInt64 ∧ r.toInt64 ≤ (nI m).toInt64 - 1) ↔ sgn (nI m) r := by
  have h1 : (nI m).toInt = m := nI_toInt (by omega)
  have h2 : ((nI m).toInt64 - 1).toInt = m - 1 := by
    rw [show (nI m).toInt64 = Int64.ofInt m from ?_, show (1 : Int64) = Int64.ofInt 1 from rfl, ← Int64.ofInt_sub]
    · exact j_of (by omega) (by omega)
    · apply Int64.toInt_inj.mp
      rw [Int32.toInt_toInt64, h1, j_of (by omega) (by omega)]
  unfold sgn
  rw [jle, jle, h2, ile, il, h1, Int32.toInt_toInt64]
  simp
  omega
def utF (U : gS) (w : Int32) (u : Nat) : Int32 := if w = 0 then rI U 129 u else if w = 1 then rI U 130 u else if w = 2 then ucF (rI U 129 u) (rI U 130 u) (rI U 131 u) else if w = 3 then rI U 131 u else rI U 132 u
set_option maxRecDepth 100000 in
set_option maxHeartbeats 1000000 in
theorem ct_X9_unit (S U : gS) (r w : Int32) (m : Nat) (hF : gF mX9_findUnits [.ref 115] S none U) (hm : rI U 115 26 = nI m) (h24 : m ≤ 24) : gF mX9_unit [.ref 115, .int r, .int w] S (some (.int (if sgn (nI m) r ∧ b04 w then utF U w r.toNatClampNeg else 0))) (if ¬ sgn (nI m) r then wI U 115 0 1 else if ¬ b04 w then wI U 115 0 2 else wI U 115 0 0) := by
  refine go_enter [.ref 115, .int r, .int w] [(0, .ref 115), (1, .int r), (2, .int w)] (by decide +kernel) rfl rfl (Nat.le_of_ble_eq_true rfl) rfl ?_
  refine go_aload_n 1 dX9_unit_0 rfl rfl ?_
  refine g_callV0 4 [] [] dX9_unit_1 rfl hF rfl sV_X9_unit_269 rfl ly_115 rfl rfl (Nat.le_of_ble_eq_true rfl) (Nat.le_of_ble_eq_true rfl) (Nat.le_of_ble_eq_true rfl) ?_
  refine go_iload_n 5 dX9_unit_4 rfl rfl ?_
  refine go_i2l 6 dX9_unit_5 rfl ?_
  refine go_lconst 7 (0) dX9_unit_6 rfl (by decide) ?_
  refine go_aload_n 8 dX9_unit_7 rfl rfl ?_
  refine g_getI 11 dX9_unit_8 rfl fF_RX9_259 ly_115 rfl ?_
  refine go_i2l 12 dX9_unit_11 rfl ?_
  refine go_lconst 13 (1) dX9_unit_12 rfl (by decide) ?_
  refine go_lsub 14 dX9_unit_13 rfl ?_
  refine g_callS 17 [.long _, .long _, .long _] [] dX9_unit_14 rfl (ct_X9_isBetween _ _ _ _) rfl sV_X9_unit_109 rfl (Nat.le_of_ble_eq_true rfl) (Nat.le_of_ble_eq_true rfl) (Nat.le_of_ble_eq_true rfl) ?_
  refine go_if_ne 20 26 dX9_unit_17 rfl (by decide) (fun hc1 => ?_) (fun hc1 => ?_)
  · refine go_iload_n 27 dX9_unit_26 rfl rfl ?_
    refine go_i2l 28 dX9_unit_27 rfl ?_
    refine go_lconst 29 (0) dX9_unit_28 rfl (by decide) ?_
    refine go_ldc2 32 (4) dX9_unit_29 rfl wK_RX9_272 ?_
    refine g_callS 35 [.long _, .long _, .long _] [] dX9_unit_32 rfl (ct_X9_isBetween _ _ _ _) rfl sV_X9_unit_109 rfl (Nat.le_of_ble_eq_true rfl) (Nat.le_of_ble_eq_true rfl) (Nat.le_of_ble_eq_true rfl) ?_
    refine go_if_ne 38 44 dX9_unit_35 rfl (by decide) (fun hc2 => ?_) (fun hc2 => ?_)
    · have hs : sgn (nI m) r := by
        have h8 := bi1.mp hc1
        rw [hm] at h8
        exact (b0m h24).mp h8
      have hb : b04 w := bi1.mp hc2
      have hr : vp_in r 24 := vin_of hs h24
      rw [if_pos (⟨hs, hb⟩ : sgn (nI m) r ∧ b04 w), if_neg (Classical.not_not.mpr hs), if_neg (Classical.not_not.mpr hb)]
      clear hc1 hc2
      refine go_aload_n 45 dX9_unit_44 rfl rfl ?_
      refine go_iconst 46 (0) dX9_unit_45 rfl (by decide) ?_
      refine g_putI 49 dX9_unit_46 rfl fF_RX9_98 ly_115 rfl (fun q hq => by cases hq; rfl) rfl rfl ?_
      refine go_iload_n 50 dX9_unit_49 rfl rfl ?_
      refine go_tableS [(0, 80), (1, 87), (2, 94), (3, 116)] 123 dX9_unit_50 rfl rfl (by decide) (by decide) rfl (by decide) (List.forall_mem_cons.mpr ⟨fun hc3 => ?_, List.forall_mem_cons.mpr ⟨fun hc3 => ?_, List.forall_mem_cons.mpr ⟨fun hc3 => ?_, List.forall_mem_cons.mpr ⟨fun hc3 => ?_, fun _ h => absurd h List.not_mem_nil⟩⟩⟩⟩) (fun hc3 => ?_)
      · refine go_aload_n 81 dX9_unit_80 rfl rfl ?_
        refine g_getR 84 dX9_unit_81 rfl fF_RX9_50 ly_115 rfl ?_
        refine go_iload_n 85 dX9_unit_84 rfl rfl ?_
        refine g_iald 86 dX9_unit_85 rfl ly_129 hr ?_
        refine go_ireturn dX9_unit_86 rfl (by first | rfl | exact bi_nar) (Nat.le_of_ble_eq_true rfl) (Nat.le_of_ble_eq_true rfl) ?_
        rw [hc3]
        exact ⟨rfl, rfl⟩
      · refine go_aload_n 88 dX9_unit_87 rfl rfl ?_
        refine g_getR 91 dX9_unit_88 rfl fF_RX9_53 ly_115 rfl ?_
        refine go_iload_n 92 dX9_unit_91 rfl rfl ?_
        refine g_iald 93 dX9_unit_92 rfl ly_130 hr ?_
        refine go_ireturn dX9_unit_93 rfl (by first | rfl | exact bi_nar) (Nat.le_of_ble_eq_true rfl) (Nat.le_of_ble_eq_true rfl) ?_
        rw [hc3]
        exact ⟨rfl, rfl⟩
      · refine go_aload_n 95 dX9_unit_94 rfl rfl ?_
        refine g_getR 98 dX9_unit_95 rfl fF_RX9_50 ly_115 rfl ?_
        refine go_iload_n 99 dX9_unit_98 rfl rfl ?_
        refine g_iald 100 dX9_unit_99 rfl ly_129 hr ?_
        refine go_aload_n 101 dX9_unit_100 rfl rfl ?_
        refine g_getR 104 dX9_unit_101 rfl fF_RX9_53 ly_115 rfl ?_
        refine go_iload_n 105 dX9_unit_104 rfl rfl ?_
        refine g_iald 106 dX9_unit_105 rfl ly_130 hr ?_
        refine go_aload_n 107 dX9_unit_106 rfl rfl ?_
        refine g_getR 110 dX9_unit_107 rfl fF_RX9_56 ly_115 rfl ?_
        refine go_iload_n 111 dX9_unit_110 rfl rfl ?_
        refine g_iald 112 dX9_unit_111 rfl ly_131 hr ?_
        refine g_callS 115 [.int _, .int _, .int _] [] dX9_unit_112 rfl (ct_X9_unitCost _ _ _ _) rfl sV_X9_unit_256 rfl (Nat.le_of_ble_eq_true rfl) (Nat.le_of_ble_eq_true rfl) (Nat.le_of_ble_eq_true rfl) ?_
        refine go_ireturn dX9_unit_115 rfl (by first | rfl | exact bi_nar) (Nat.le_of_ble_eq_true rfl) (Nat.le_of_ble_eq_true rfl) ?_
        rw [hc3]
        exact ⟨rfl, rfl⟩
      · refine go_aload_n 117 dX9_unit_116 rfl rfl ?_
        refine g_getR 120 dX9_unit_117 rfl fF_RX9_56 ly_115 rfl ?_
        refine go_iload_n 121 dX9_unit_120 rfl rfl ?_
        refine g_iald 122 dX9_unit_121 rfl ly_131 hr ?_
        refine go_ireturn dX9_unit_122 rfl (by first | rfl | exact bi_nar) (Nat.le_of_ble_eq_true rfl) (Nat.le_of_ble_eq_true rfl) ?_
        rw [hc3]
        exact ⟨rfl, rfl⟩
      · have hc3 : w = 4 := b04_4 hb rfl hc3
        refine go_aload_n 124 dX9_unit_123 rfl rfl ?_
        refine g_getR 127 dX9_unit_124 rfl fF_RX9_59 ly_115 rfl ?_
        refine go_iload_n 128 dX9_unit_127 rfl rfl ?_
        refine g_iald 129 dX9_unit_128 rfl ly_132 hr ?_
        refine go_ireturn dX9_unit_129 rfl (by first | rfl | exact bi_nar) (Nat.le_of_ble_eq_true rfl) (Nat.le_of_ble_eq_true rfl) ?_
        rw [hc3]
        exact ⟨rfl, rfl⟩
    · refine go_aload_n 39 dX9_unit_38 rfl rfl ?_
      refine go_iconst 40 (2) dX9_unit_39 rfl (by decide) ?_
      refine g_callV 43 [.int _] [] dX9_unit_40 rfl (ct_X9_fails _ _) rfl sV_X9_unit_132 rfl ly_115 rfl rfl (Nat.le_of_ble_eq_true rfl) (Nat.le_of_ble_eq_true rfl) (Nat.le_of_ble_eq_true rfl) ?_
      refine go_ireturn dX9_unit_43 rfl (by first | rfl | exact bi_nar) (Nat.le_of_ble_eq_true rfl) (Nat.le_of_ble_eq_true rfl) ?_
      have hs : sgn (nI m) r := by
        have h8 := bi1.mp hc1
        rw [hm] at h8
        exact (b0m h24).mp h8
      have hb : ¬ b04 w := bi0.mp hc2
      rw [if_neg (Classical.not_not.mpr hs), if_pos hb, if_neg (fun q => hb q.2)]
      exact ⟨rfl, rfl⟩
  · refine go_aload_n 21 dX9_unit_20 rfl rfl ?_
    refine go_iconst 22 (1) dX9_unit_21 rfl (by decide) ?_
    refine g_callV 25 [.int _] [] dX9_unit_22 rfl (ct_X9_fails _ _) rfl sV_X9_unit_132 rfl ly_115 rfl rfl (Nat.le_of_ble_eq_true rfl) (Nat.le_of_ble_eq_true rfl) (Nat.le_of_ble_eq_true rfl) ?_
    refine go_ireturn dX9_unit_25 rfl (by first | rfl | exact bi_nar) (Nat.le_of_ble_eq_true rfl) (Nat.le_of_ble_eq_true rfl) ?_
    have hs : ¬ sgn (nI m) r := by
      have h8 := bi0.mp hc1
      rw [hm] at h8
      exact fun q => h8 ((b0m h24).mpr q)
    rw [if_pos hs, if_neg (fun q => hs q.1)]
    exact ⟨rfl, rfl⟩

