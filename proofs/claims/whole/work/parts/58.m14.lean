-- needs 50.units 51.m10 57.units2
set_option maxRecDepth 100000 in
set_option maxHeartbeats 1000000 in
theorem lk_fu61 {Q : go_Q} (T : gS) (k m : Nat) (hk : k < 24) (hm : rI T 115 26 = nI m) (h24 : m ≤ 24) (kx : Go mX9_findUnits false Q 0 0 129 [(2, .int (bsN T k m)), (3, .int (nI m)), (1, .int (nI k)), (0, .ref 115)] [] (hp ((fun _ => T) (m)))) : ∀ i, i ≤ m → Go mX9_findUnits false Q 0 0 61 [(2, .int (bsN T k i)), (3, .int (nI i)), (1, .int (nI k)), (0, .ref 115)] [] (hp ((fun _ => T) i)) := by
  refine g_dn _ (m) (fun i hi ih => ?_)
  have hcl := nI_c (n := i) (by omega)
  have hck := nI_c (n := k) (by omega)
  refine go_iload_n 62 dX9_findUnits_61 rfl rfl ?_
  refine go_aload_n 63 dX9_findUnits_62 rfl rfl ?_
  refine g_getI 66 dX9_findUnits_63 rfl fF_RX9_259 ly_115 rfl ?_
  refine go_icmp_ge 69 129 dX9_findUnits_66 rfl (by decide) (fun hc1 => ?_) (fun hc1 => ?_)
  · have hv : i = m := by
      have h8 := hc1
      rw [hm, nI_le2 (by omega) (by omega)] at h8
      omega
    subst hv
    refine go_ls [(2, .int _), (3, .int _), (1, .int (nI k)), (0, .ref 115)] (List.forall_mem_cons.mpr ⟨rfl, List.forall_mem_cons.mpr ⟨rfl, List.forall_mem_cons.mpr ⟨rfl, List.forall_mem_cons.mpr ⟨rfl, fun _ h => absurd h List.not_mem_nil⟩⟩⟩⟩) ?_
    exact kx
  · have hv : i < m := by
      have h8 := hc1
      rw [hm, nI_le2 (by omega) (by omega)] at h8
      omega
    refine go_aload_n 70 dX9_findUnits_69 rfl rfl ?_
    refine g_getR 73 dX9_findUnits_70 rfl fF_RX9_50 ly_115 rfl ?_
    refine go_iload_n 74 dX9_findUnits_73 rfl rfl ?_
    refine g_iald 75 dX9_findUnits_74 rfl ly_129 (nI_i (by have := hv; omega) (by omega)) ?_
    refine go_aload_n 76 dX9_findUnits_75 rfl rfl ?_
    refine g_getR 79 dX9_findUnits_76 rfl fF_RX9_7 ly_115 rfl ?_
    refine go_iload_n 80 dX9_findUnits_79 rfl rfl ?_
    refine g_iald 81 dX9_findUnits_80 rfl ly_116 (nI_i hk (by omega)) ?_
    refine go_icmp_ne 84 123 dX9_findUnits_81 rfl (by decide) (fun hc2 => ?_) (fun hc2 => ?_)
    · refine go_iinc 126 [(3, .int _), (2, .int _), (1, .int _), (0, .ref 115)] (nI (i + 1)) dX9_findUnits_123 rfl (Nat.le_of_ble_eq_true rfl) rfl (nI_inc i) rfl ?_
      refine go_goto 61 dX9_findUnits_126 (by decide) ?_
      refine go_ls [(2, .int _), (3, .int _), (1, .int (nI k)), (0, .ref 115)] (List.forall_mem_cons.mpr ⟨rfl, List.forall_mem_cons.mpr ⟨rfl, List.forall_mem_cons.mpr ⟨rfl, List.forall_mem_cons.mpr ⟨rfl, fun _ h => absurd h List.not_mem_nil⟩⟩⟩⟩) ?_
      have h6 := ih (by omega)
      clear ih
      refine g_l1 ?_ h6
      clear h6
      rw [hcl, hck] at *
      rw [bsN_s]
      unfold bs1
      first
        | (rw [if_neg (fun q => hc2 q.1)]; done)
        | (rw [if_neg (fun q => hc3 q.2.1)]; done)
        | (rw [if_pos ⟨hc2, hc3, Or.inl hc4⟩]; done)
        | (rw [if_pos ⟨hc2, hc3, Or.inr hc5⟩]; done)
        | (rw [if_neg (fun q => q.2.2.elim hc4 (fun z => z hc5))]; done)
    · refine go_aload_n 85 dX9_findUnits_84 rfl rfl ?_
      refine g_getR 88 dX9_findUnits_85 rfl fF_RX9_62 ly_115 rfl ?_
      refine go_iload_n 89 dX9_findUnits_88 rfl rfl ?_
      refine g_iald 90 dX9_findUnits_89 rfl ly_133 (nI_i (by have := hv; omega) (by omega)) ?_
      refine go_aload_n 91 dX9_findUnits_90 rfl rfl ?_
      refine g_getR 94 dX9_findUnits_91 rfl fF_RX9_28 ly_115 rfl ?_
      refine go_iload_n 95 dX9_findUnits_94 rfl rfl ?_
      refine g_iald 96 dX9_findUnits_95 rfl ly_122 (nI_i hk (by omega)) ?_
      refine go_ishr 97 dX9_findUnits_96 rfl ?_
      refine go_iconst 98 (1) dX9_findUnits_97 rfl (by decide) ?_
      refine go_iand 99 dX9_findUnits_98 rfl ?_
      refine go_if_ne 102 123 dX9_findUnits_99 rfl (by decide) (fun hc3 => ?_) (fun hc3 => ?_)
      · refine go_iinc 126 [(3, .int _), (2, .int _), (1, .int _), (0, .ref 115)] (nI (i + 1)) dX9_findUnits_123 rfl (Nat.le_of_ble_eq_true rfl) rfl (nI_inc i) rfl ?_
        refine go_goto 61 dX9_findUnits_126 (by decide) ?_
        refine go_ls [(2, .int _), (3, .int _), (1, .int (nI k)), (0, .ref 115)] (List.forall_mem_cons.mpr ⟨rfl, List.forall_mem_cons.mpr ⟨rfl, List.forall_mem_cons.mpr ⟨rfl, List.forall_mem_cons.mpr ⟨rfl, fun _ h => absurd h List.not_mem_nil⟩⟩⟩⟩) ?_
        have h6 := ih (by omega)
        clear ih
        refine g_l1 ?_ h6
        clear h6
        rw [hcl, hck] at *
        rw [bsN_s]
        unfold bs1
        first
          | (rw [if_neg (fun q => hc2 q.1)]; done)
          | (rw [if_neg (fun q => hc3 q.2.1)]; done)
          | (rw [if_pos ⟨hc2, hc3, Or.inl hc4⟩]; done)
          | (rw [if_pos ⟨hc2, hc3, Or.inr hc5⟩]; done)
          | (rw [if_neg (fun q => q.2.2.elim hc4 (fun z => z hc5))]; done)
      · refine go_iload_n 103 dX9_findUnits_102 rfl rfl ?_
        refine go_if_lt 106 121 dX9_findUnits_103 rfl (by decide) (fun hc4 => ?_) (fun hc4 => ?_)
        · refine go_iload_n 122 dX9_findUnits_121 rfl rfl ?_
          refine go_istore_n 123 [(2, .int _), (3, .int _), (1, .int _), (0, .ref 115)] dX9_findUnits_122 rfl (Nat.le_of_ble_eq_true rfl) rfl ?_
          refine go_iinc 126 [(3, .int _), (2, .int _), (1, .int _), (0, .ref 115)] (nI (i + 1)) dX9_findUnits_123 rfl (Nat.le_of_ble_eq_true rfl) rfl (nI_inc i) rfl ?_
          refine go_goto 61 dX9_findUnits_126 (by decide) ?_
          refine go_ls [(2, .int _), (3, .int _), (1, .int (nI k)), (0, .ref 115)] (List.forall_mem_cons.mpr ⟨rfl, List.forall_mem_cons.mpr ⟨rfl, List.forall_mem_cons.mpr ⟨rfl, List.forall_mem_cons.mpr ⟨rfl, fun _ h => absurd h List.not_mem_nil⟩⟩⟩⟩) ?_
          have h6 := ih (by omega)
          clear ih
          refine g_l1 ?_ h6
          clear h6
          rw [hcl, hck] at *
          rw [bsN_s]
          unfold bs1
          first
            | (rw [if_neg (fun q => hc2 q.1)]; done)
            | (rw [if_neg (fun q => hc3 q.2.1)]; done)
            | (rw [if_pos ⟨hc2, hc3, Or.inl hc4⟩]; done)
            | (rw [if_pos ⟨hc2, hc3, Or.inr hc5⟩]; done)
            | (rw [if_neg (fun q => q.2.2.elim hc4 (fun z => z hc5))]; done)
        · refine go_aload_n 107 dX9_findUnits_106 rfl rfl ?_
          refine go_iload_n 108 dX9_findUnits_107 rfl rfl ?_
          refine go_iload_n 109 dX9_findUnits_108 rfl rfl ?_
          refine g_callV 112 [.int _, .int _] [] dX9_findUnits_109 rfl (ct_X9_growth _ _ _ (nI_i (by have := hv; omega) (by omega)) (nI_i hk (by omega))) rfl sV_X9_findUnits_262 rfl ly_115 rfl rfl (Nat.le_of_ble_eq_true rfl) (Nat.le_of_ble_eq_true rfl) (Nat.le_of_ble_eq_true rfl) ?_
          refine go_aload_n 113 dX9_findUnits_112 rfl rfl ?_
          refine go_iload_n 114 dX9_findUnits_113 rfl rfl ?_
          refine go_iload_n 115 dX9_findUnits_114 rfl rfl ?_
          refine g_callV 118 [.int _, .int _] [.int _] dX9_findUnits_115 rfl (ct_X9_growth _ _ _ (bsN_in (by assumption) (by omega)) (nI_i hk (by omega))) rfl sV_X9_findUnits_262 rfl ly_115 rfl rfl (Nat.le_of_ble_eq_true rfl) (Nat.le_of_ble_eq_true rfl) (Nat.le_of_ble_eq_true rfl) ?_
          refine go_icmp_ge 121 123 dX9_findUnits_118 rfl (by decide) (fun hc5 => ?_) (fun hc5 => ?_)
          · refine go_iinc 126 [(3, .int _), (2, .int _), (1, .int _), (0, .ref 115)] (nI (i + 1)) dX9_findUnits_123 rfl (Nat.le_of_ble_eq_true rfl) rfl (nI_inc i) rfl ?_
            refine go_goto 61 dX9_findUnits_126 (by decide) ?_
            refine go_ls [(2, .int _), (3, .int _), (1, .int (nI k)), (0, .ref 115)] (List.forall_mem_cons.mpr ⟨rfl, List.forall_mem_cons.mpr ⟨rfl, List.forall_mem_cons.mpr ⟨rfl, List.forall_mem_cons.mpr ⟨rfl, fun _ h => absurd h List.not_mem_nil⟩⟩⟩⟩) ?_
            have h6 := ih (by omega)
            clear ih
            refine g_l1 ?_ h6
            clear h6
            rw [hcl, hck] at *
            rw [bsN_s]
            unfold bs1
            first
              | (rw [if_neg (fun q => hc2 q.1)]; done)
              | (rw [if_neg (fun q => hc3 q.2.1)]; done)
              | (rw [if_pos ⟨hc2, hc3, Or.inl hc4⟩]; done)
              | (rw [if_pos ⟨hc2, hc3, Or.inr hc5⟩]; done)
              | (rw [if_neg (fun q => q.2.2.elim hc4 (fun z => z hc5))]; done)
          · refine go_iload_n 122 dX9_findUnits_121 rfl rfl ?_
            refine go_istore_n 123 [(2, .int _), (3, .int _), (1, .int _), (0, .ref 115)] dX9_findUnits_122 rfl (Nat.le_of_ble_eq_true rfl) rfl ?_
            refine go_iinc 126 [(3, .int _), (2, .int _), (1, .int _), (0, .ref 115)] (nI (i + 1)) dX9_findUnits_123 rfl (Nat.le_of_ble_eq_true rfl) rfl (nI_inc i) rfl ?_
            refine go_goto 61 dX9_findUnits_126 (by decide) ?_
            refine go_ls [(2, .int _), (3, .int _), (1, .int (nI k)), (0, .ref 115)] (List.forall_mem_cons.mpr ⟨rfl, List.forall_mem_cons.mpr ⟨rfl, List.forall_mem_cons.mpr ⟨rfl, List.forall_mem_cons.mpr ⟨rfl, fun _ h => absurd h List.not_mem_nil⟩⟩⟩⟩) ?_
            have h6 := ih (by omega)
            clear ih
            refine g_l1 ?_ h6
            clear h6
            rw [hcl, hck] at *
            rw [bsN_s]
            unfold bs1
            first
              | (rw [if_neg (fun q => hc2 q.1)]; done)
              | (rw [if_neg (fun q => hc3 q.2.1)]; done)
              | (rw [if_pos ⟨hc2, hc3, Or.inl hc4⟩]; done)
              | (rw [if_pos ⟨hc2, hc3, Or.inr hc5⟩]; done)
              | (rw [if_neg (fun q => q.2.2.elim hc4 (fun z => z hc5))]; done)

set_option maxRecDepth 100000 in
set_option maxHeartbeats 1000000 in
theorem lp_fu11 (S : gS) (n : Nat) (ho : okR S n) : ∀ i, i ≤ n → Go mX9_findUnits false (go_Qm mX9_findUnits false (fun v9 h9 => v9 = none ∧ h9 = hp (unF S n)) go_no) 0 0 11 [(1, .int (nI i)), (0, .ref 115)] [] (hp (unF S i)) := by
  refine g_dn _ (n) (fun i hi ih => ?_)
  have h24 := ho.2.1
  have hcl := nI_c (n := i) (by omega)
  obtain ⟨m, hm1, hm⟩ := unM S i
  have hmc := nI_c (n := m) (by omega)
  refine go_iload_n 12 dX9_findUnits_11 rfl rfl ?_
  refine go_aload_n 13 dX9_findUnits_12 rfl rfl ?_
  refine g_getI 16 dX9_findUnits_13 rfl fF_RX9_102 ly_115 rfl ?_
  refine go_icmp_ge 19 214 dX9_findUnits_16 rfl (by decide) (fun hc1 => ?_) (fun hc1 => ?_)
  · refine go_return dX9_findUnits_214 rfl (Nat.le_of_ble_eq_true rfl) (Nat.le_of_ble_eq_true rfl) ?_
    have hv : i = n := by
      have h8 := hc1
      rw [show rI (unF S i) 115 10 = nI n from (rI_unF S i 115 10 (by decide) (by decide)).trans ho.1, nI_le2 (by omega) (by omega)] at h8
      omega
    subst hv
    exact ⟨rfl, rfl⟩
  · have hv : i < n := by
      have h8 := hc1
      rw [show rI (unF S i) 115 10 = nI n from (rI_unF S i 115 10 (by decide) (by decide)).trans ho.1, nI_le2 (by omega) (by omega)] at h8
      omega
    have hvm : vp_in (rI (unF S i) 115 26) 24 := by rw [hm]; exact nI_i (by omega) (by omega)
    refine go_aload_n 20 dX9_findUnits_19 rfl rfl ?_
    refine g_getR 23 dX9_findUnits_20 rfl fF_RX9_65 ly_115 rfl ?_
    refine go_iload_n 24 dX9_findUnits_23 rfl rfl ?_
    refine go_iconst 25 (-1) dX9_findUnits_24 rfl (by decide) ?_
    refine g_iast 26 dX9_findUnits_25 rfl ly_134 (nI_i (by have := hv; omega) (by omega)) ?_
    refine go_aload_n 27 dX9_findUnits_26 rfl rfl ?_
    refine g_getR 30 dX9_findUnits_27 rfl fF_RX9_7 ly_115 rfl ?_
    refine go_iload_n 31 dX9_findUnits_30 rfl rfl ?_
    refine g_iald 32 dX9_findUnits_31 rfl ly_116 (nI_i (by have := hv; omega) (by omega)) ?_
    refine go_iconst 33 (3) dX9_findUnits_32 rfl (by decide) ?_
    refine go_icmp_lt 36 208 dX9_findUnits_33 rfl (by decide) (fun hc2 => ?_) (fun hc2 => ?_)
    · refine go_iinc 211 [(1, .int _), (0, .ref 115)] (nI (i + 1)) dX9_findUnits_208 rfl (Nat.le_of_ble_eq_true rfl) rfl (nI_inc i) rfl ?_
      refine go_goto 11 dX9_findUnits_211 (by decide) ?_
      refine go_ls [(1, .int _), (0, .ref 115)] (List.forall_mem_cons.mpr ⟨rfl, List.forall_mem_cons.mpr ⟨rfl, fun _ h => absurd h List.not_mem_nil⟩⟩) ?_
      have h6 := ih (by omega)
      clear ih
      refine g_st ?_ h6
      clear h6
      rw [hcl] at *
      first
        | (have h7 : rI (wI (unF S i) 134 i (-1)) 116 i < 3 := hc2; exact un1_a (Or.inl h7))
        | (have h7 : 5 < rI (wI (unF S i) 134 i (-1)) 116 i := hc3; exact un1_a (Or.inr (Or.inl h7)))
        | (have h7 := hp9; exact un1_a h7)
        | (have h7 := hw; exact un1_n hnp h7)
        | (have h7 := hnw; exact un1_o hnp (h7.2 hc5 hc6))
    · refine go_aload_n 37 dX9_findUnits_36 rfl rfl ?_
      refine g_getR 40 dX9_findUnits_37 rfl fF_RX9_7 ly_115 rfl ?_
      refine go_iload_n 41 dX9_findUnits_40 rfl rfl ?_
      refine g_iald 42 dX9_findUnits_41 rfl ly_116 (nI_i (by have := hv; omega) (by omega)) ?_
      refine go_iconst 43 (5) dX9_findUnits_42 rfl (by decide) ?_
      refine go_icmp_gt 46 208 dX9_findUnits_43 rfl (by decide) (fun hc3 => ?_) (fun hc3 => ?_)
      · refine go_iinc 211 [(1, .int _), (0, .ref 115)] (nI (i + 1)) dX9_findUnits_208 rfl (Nat.le_of_ble_eq_true rfl) rfl (nI_inc i) rfl ?_
        refine go_goto 11 dX9_findUnits_211 (by decide) ?_
        refine go_ls [(1, .int _), (0, .ref 115)] (List.forall_mem_cons.mpr ⟨rfl, List.forall_mem_cons.mpr ⟨rfl, fun _ h => absurd h List.not_mem_nil⟩⟩) ?_
        have h6 := ih (by omega)
        clear ih
        refine g_st ?_ h6
        clear h6
        rw [hcl] at *
        first
          | (have h7 : rI (wI (unF S i) 134 i (-1)) 116 i < 3 := hc2; exact un1_a (Or.inl h7))
          | (have h7 : 5 < rI (wI (unF S i) 134 i (-1)) 116 i := hc3; exact un1_a (Or.inr (Or.inl h7)))
          | (have h7 := hp9; exact un1_a h7)
          | (have h7 := hw; exact un1_n hnp h7)
          | (have h7 := hnw; exact un1_o hnp (h7.2 hc5 hc6))
      · refine go_aload_n 47 dX9_findUnits_46 rfl rfl ?_
        refine go_iload_n 48 dX9_findUnits_47 rfl rfl ?_
        refine g_callV 51 [.int _] [] dX9_findUnits_48 rfl (ct_X9_widthOf _ _ (nI_i (by have := hv; omega) (by omega))) rfl sV_X9_findUnits_240 rfl ly_115 rfl rfl (Nat.le_of_ble_eq_true rfl) (Nat.le_of_ble_eq_true rfl) (Nat.le_of_ble_eq_true rfl) ?_
        refine go_if_ne 54 57 dX9_findUnits_51 rfl (by decide) (fun hc4 => ?_) (fun hc4 => ?_)
        · refine go_iconst 58 (-1) dX9_findUnits_57 rfl (by decide) ?_
          refine go_istore_n 59 [(2, .int _), (1, .int _), (0, .ref 115)] dX9_findUnits_58 rfl (Nat.le_of_ble_eq_true rfl) rfl ?_
          refine go_iconst 60 (0) dX9_findUnits_59 rfl (by decide) ?_
          refine go_istore_n 61 [(3, .int _), (2, .int _), (1, .int _), (0, .ref 115)] dX9_findUnits_60 rfl (Nat.le_of_ble_eq_true rfl) rfl ?_
          refine go_ls [(2, .int _), (3, .int _), (1, .int (nI i)), (0, .ref 115)] (List.forall_mem_cons.mpr ⟨rfl, List.forall_mem_cons.mpr ⟨rfl, List.forall_mem_cons.mpr ⟨rfl, List.forall_mem_cons.mpr ⟨rfl, fun _ h => absurd h List.not_mem_nil⟩⟩⟩⟩) ?_
          refine g_st (T := (wI (unF S i) 134 i (-1))) (by rw [hcl]) ?_
          refine lk_fu61 (wI (unF S i) 134 i (-1)) i m (by omega) hm (by omega) ?_ 0 (Nat.zero_le _)
          refine g_l1 (a' := unB (wI (unF S i) 134 i (-1)) i) (by show _ = bsN (wI (unF S i) 134 i (-1)) i (rI (unF S i) 115 26).toNatClampNeg; rw [hm, hmc]) ?_
          have hnp : ¬ unP (wI (unF S i) 134 i (-1)) i := by
            rw [hcl] at hc2 hc3 hc4
            intro q
            rcases q with q | q | q
            · exact hc2 q
            · exact hc3 q
            · exact hc4 q
          refine go_iload_n 130 dX9_findUnits_129 rfl rfl ?_
          refine go_if_lt 133 147 dX9_findUnits_130 rfl (by decide) (fun hc5 => ?_) (fun hc5 => ?_)
          · have hw : unW (wI (unF S i) 134 i (-1)) i := by
              rw [hcl] at *
              first
                | exact Or.inl hc5
                | exact Or.inr hc6
            refine go_aload_n 148 dX9_findUnits_147 rfl rfl ?_
            refine g_getI 151 dX9_findUnits_148 rfl fF_RX9_259 ly_115 rfl ?_
            refine go_istore_n 152 [(2, .int _), (3, .int _), (1, .int _), (0, .ref 115)] dX9_findUnits_151 rfl (Nat.le_of_ble_eq_true rfl) rfl ?_
            refine go_aload_n 153 dX9_findUnits_152 rfl rfl ?_
            refine g_getR 156 dX9_findUnits_153 rfl fF_RX9_50 ly_115 rfl ?_
            refine go_iload_n 157 dX9_findUnits_156 rfl rfl ?_
            refine go_aload_n 158 dX9_findUnits_157 rfl rfl ?_
            refine g_getR 161 dX9_findUnits_158 rfl fF_RX9_7 ly_115 rfl ?_
            refine go_iload_n 162 dX9_findUnits_161 rfl rfl ?_
            refine g_iald 163 dX9_findUnits_162 rfl ly_116 (nI_i (by have := hv; omega) (by omega)) ?_
            refine g_iast 164 dX9_findUnits_163 rfl ly_129 hvm ?_
            refine go_aload_n 165 dX9_findUnits_164 rfl rfl ?_
            refine g_getR 168 dX9_findUnits_165 rfl fF_RX9_53 ly_115 rfl ?_
            refine go_iload_n 169 dX9_findUnits_168 rfl rfl ?_
            refine go_iconst 170 (0) dX9_findUnits_169 rfl (by decide) ?_
            refine g_iast 171 dX9_findUnits_170 rfl ly_130 hvm ?_
            refine go_aload_n 172 dX9_findUnits_171 rfl rfl ?_
            refine g_getR 175 dX9_findUnits_172 rfl fF_RX9_56 ly_115 rfl ?_
            refine go_iload_n 176 dX9_findUnits_175 rfl rfl ?_
            refine go_iconst 177 (0) dX9_findUnits_176 rfl (by decide) ?_
            refine g_iast 178 dX9_findUnits_177 rfl ly_131 hvm ?_
            refine go_aload_n 179 dX9_findUnits_178 rfl rfl ?_
            refine g_getR 182 dX9_findUnits_179 rfl fF_RX9_59 ly_115 rfl ?_
            refine go_iload_n 183 dX9_findUnits_182 rfl rfl ?_
            refine go_iload_n 184 dX9_findUnits_183 rfl rfl ?_
            refine g_iast 185 dX9_findUnits_184 rfl ly_132 hvm ?_
            refine go_aload_n 186 dX9_findUnits_185 rfl rfl ?_
            refine g_getR 189 dX9_findUnits_186 rfl fF_RX9_62 ly_115 rfl ?_
            refine go_iload_n 190 dX9_findUnits_189 rfl rfl ?_
            refine go_iconst 191 (0) dX9_findUnits_190 rfl (by decide) ?_
            refine g_iast 192 dX9_findUnits_191 rfl ly_133 hvm ?_
            refine go_aload_n 193 dX9_findUnits_192 rfl rfl ?_
            refine go_dup 194 dX9_findUnits_193 rfl rfl ?_
            refine g_getI 197 dX9_findUnits_194 rfl fF_RX9_259 ly_115 rfl ?_
            refine go_iconst 198 (1) dX9_findUnits_197 rfl (by decide) ?_
            refine go_iadd 199 dX9_findUnits_198 rfl ?_
            refine g_putI 202 dX9_findUnits_199 rfl fF_RX9_259 ly_115 rfl (fun q hq => by cases hq; rfl) rfl rfl ?_
            have hnw : 1 = 1 ∧ (¬ unB (wI (unF S i) 134 i (-1)) i < 0 → grF (wI (unF S i) 134 i (-1)) (unB (wI (unF S i) 134 i (-1)) i).toNatClampNeg i < coF (wI (unF S i) 134 i (-1)) i → ¬ unW (wI (unF S i) 134 i (-1)) i) := ⟨rfl, fun q1 q2 q => q.elim q1 (fun z => z q2)⟩
            refine go_aload_n 203 dX9_findUnits_202 rfl rfl ?_
            refine go_iload_n 204 dX9_findUnits_203 rfl rfl ?_
            refine go_iload_n 205 dX9_findUnits_204 rfl rfl ?_
            refine g_callV0 208 [.int _, .int _] [] dX9_findUnits_205 rfl (ct_X9_joins _ _ _ (by first | exact hvm | exact bsN_in (by assumption) (by show (rI (unF S i) 115 26).toNatClampNeg ≤ 24; rw [hm, hmc]; omega)) (nI_i (by have := hv; omega) (by omega))) rfl sV_X9_findUnits_265 rfl ly_115 rfl rfl (Nat.le_of_ble_eq_true rfl) (Nat.le_of_ble_eq_true rfl) (Nat.le_of_ble_eq_true rfl) ?_
            refine go_iinc 211 [(1, .int _), (2, .int _), (3, .int _), (0, .ref 115)] (nI (i + 1)) dX9_findUnits_208 rfl (Nat.le_of_ble_eq_true rfl) rfl (nI_inc i) rfl ?_
            refine go_goto 11 dX9_findUnits_211 (by decide) ?_
            refine go_ls [(1, .int _), (0, .ref 115)] (List.forall_mem_cons.mpr ⟨rfl, List.forall_mem_cons.mpr ⟨rfl, fun _ h => absurd h List.not_mem_nil⟩⟩) ?_
            have h6 := ih (by omega)
            clear ih
            refine g_st ?_ h6
            clear h6
            rw [hcl] at *
            first
              | (have h7 : rI (wI (unF S i) 134 i (-1)) 116 i < 3 := hc2; exact un1_a (Or.inl h7))
              | (have h7 : 5 < rI (wI (unF S i) 134 i (-1)) 116 i := hc3; exact un1_a (Or.inr (Or.inl h7)))
              | (have h7 := hp9; exact un1_a h7)
              | (have h7 := hw; exact un1_n hnp h7)
              | (have h7 := hnw; exact un1_o hnp (h7.2 hc5 hc6))
          · refine go_aload_n 134 dX9_findUnits_133 rfl rfl ?_
            refine go_iload_n 135 dX9_findUnits_134 rfl rfl ?_
            refine go_iload_n 136 dX9_findUnits_135 rfl rfl ?_
            refine g_callV 139 [.int _, .int _] [] dX9_findUnits_136 rfl (ct_X9_growth _ _ _ (bsN_in (by assumption) (by show (rI (unF S i) 115 26).toNatClampNeg ≤ 24; rw [hm, hmc]; omega)) (nI_i (by have := hv; omega) (by omega))) rfl sV_X9_findUnits_262 rfl ly_115 rfl rfl (Nat.le_of_ble_eq_true rfl) (Nat.le_of_ble_eq_true rfl) (Nat.le_of_ble_eq_true rfl) ?_
            refine go_aload_n 140 dX9_findUnits_139 rfl rfl ?_
            refine go_iload_n 141 dX9_findUnits_140 rfl rfl ?_
            refine g_callV 144 [.int _] [.int _] dX9_findUnits_141 rfl (ct_X9_costOf _ _ (nI_i (by have := hv; omega) (by omega)) (fun q => by exfalso; rw [hcl] at q; have q2 : rI (unF S i) 116 i = 11 := q; have q3 := hc3; rw [hcl] at q3; apply q3; show (5 : Int32) < rI (unF S i) 116 i; rw [q2]; decide)) rfl sV_X9_findUnits_253 rfl ly_115 rfl rfl (Nat.le_of_ble_eq_true rfl) (Nat.le_of_ble_eq_true rfl) (Nat.le_of_ble_eq_true rfl) ?_
            refine go_icmp_lt 147 202 dX9_findUnits_144 rfl (by decide) (fun hc6 => ?_) (fun hc6 => ?_)
            · have hnw : 1 = 1 ∧ (¬ unB (wI (unF S i) 134 i (-1)) i < 0 → grF (wI (unF S i) 134 i (-1)) (unB (wI (unF S i) 134 i (-1)) i).toNatClampNeg i < coF (wI (unF S i) 134 i (-1)) i → ¬ unW (wI (unF S i) 134 i (-1)) i) := ⟨rfl, fun q1 q2 q => q.elim q1 (fun z => z q2)⟩
              refine go_aload_n 203 dX9_findUnits_202 rfl rfl ?_
              refine go_iload_n 204 dX9_findUnits_203 rfl rfl ?_
              refine go_iload_n 205 dX9_findUnits_204 rfl rfl ?_
              refine g_callV0 208 [.int _, .int _] [] dX9_findUnits_205 rfl (ct_X9_joins _ _ _ (by first | exact hvm | exact bsN_in (by assumption) (by show (rI (unF S i) 115 26).toNatClampNeg ≤ 24; rw [hm, hmc]; omega)) (nI_i (by have := hv; omega) (by omega))) rfl sV_X9_findUnits_265 rfl ly_115 rfl rfl (Nat.le_of_ble_eq_true rfl) (Nat.le_of_ble_eq_true rfl) (Nat.le_of_ble_eq_true rfl) ?_
              refine go_iinc 211 [(1, .int _), (2, .int _), (3, .int _), (0, .ref 115)] (nI (i + 1)) dX9_findUnits_208 rfl (Nat.le_of_ble_eq_true rfl) rfl (nI_inc i) rfl ?_
              refine go_goto 11 dX9_findUnits_211 (by decide) ?_
              refine go_ls [(1, .int _), (0, .ref 115)] (List.forall_mem_cons.mpr ⟨rfl, List.forall_mem_cons.mpr ⟨rfl, fun _ h => absurd h List.not_mem_nil⟩⟩) ?_
              have h6 := ih (by omega)
              clear ih
              refine g_st ?_ h6
              clear h6
              rw [hcl] at *
              first
                | (have h7 : rI (wI (unF S i) 134 i (-1)) 116 i < 3 := hc2; exact un1_a (Or.inl h7))
                | (have h7 : 5 < rI (wI (unF S i) 134 i (-1)) 116 i := hc3; exact un1_a (Or.inr (Or.inl h7)))
                | (have h7 := hp9; exact un1_a h7)
                | (have h7 := hw; exact un1_n hnp h7)
                | (have h7 := hnw; exact un1_o hnp (h7.2 hc5 hc6))
            · have hw : unW (wI (unF S i) 134 i (-1)) i := by
                rw [hcl] at *
                first
                  | exact Or.inl hc5
                  | exact Or.inr hc6
              refine go_aload_n 148 dX9_findUnits_147 rfl rfl ?_
              refine g_getI 151 dX9_findUnits_148 rfl fF_RX9_259 ly_115 rfl ?_
              refine go_istore_n 152 [(2, .int _), (3, .int _), (1, .int _), (0, .ref 115)] dX9_findUnits_151 rfl (Nat.le_of_ble_eq_true rfl) rfl ?_
              refine go_aload_n 153 dX9_findUnits_152 rfl rfl ?_
              refine g_getR 156 dX9_findUnits_153 rfl fF_RX9_50 ly_115 rfl ?_
              refine go_iload_n 157 dX9_findUnits_156 rfl rfl ?_
              refine go_aload_n 158 dX9_findUnits_157 rfl rfl ?_
              refine g_getR 161 dX9_findUnits_158 rfl fF_RX9_7 ly_115 rfl ?_
              refine go_iload_n 162 dX9_findUnits_161 rfl rfl ?_
              refine g_iald 163 dX9_findUnits_162 rfl ly_116 (nI_i (by have := hv; omega) (by omega)) ?_
              refine g_iast 164 dX9_findUnits_163 rfl ly_129 hvm ?_
              refine go_aload_n 165 dX9_findUnits_164 rfl rfl ?_
              refine g_getR 168 dX9_findUnits_165 rfl fF_RX9_53 ly_115 rfl ?_
              refine go_iload_n 169 dX9_findUnits_168 rfl rfl ?_
              refine go_iconst 170 (0) dX9_findUnits_169 rfl (by decide) ?_
              refine g_iast 171 dX9_findUnits_170 rfl ly_130 hvm ?_
              refine go_aload_n 172 dX9_findUnits_171 rfl rfl ?_
              refine g_getR 175 dX9_findUnits_172 rfl fF_RX9_56 ly_115 rfl ?_
              refine go_iload_n 176 dX9_findUnits_175 rfl rfl ?_
              refine go_iconst 177 (0) dX9_findUnits_176 rfl (by decide) ?_
              refine g_iast 178 dX9_findUnits_177 rfl ly_131 hvm ?_
              refine go_aload_n 179 dX9_findUnits_178 rfl rfl ?_
              refine g_getR 182 dX9_findUnits_179 rfl fF_RX9_59 ly_115 rfl ?_
              refine go_iload_n 183 dX9_findUnits_182 rfl rfl ?_
              refine go_iload_n 184 dX9_findUnits_183 rfl rfl ?_
              refine g_iast 185 dX9_findUnits_184 rfl ly_132 hvm ?_
              refine go_aload_n 186 dX9_findUnits_185 rfl rfl ?_
              refine g_getR 189 dX9_findUnits_186 rfl fF_RX9_62 ly_115 rfl ?_
              refine go_iload_n 190 dX9_findUnits_189 rfl rfl ?_
              refine go_iconst 191 (0) dX9_findUnits_190 rfl (by decide) ?_
              refine g_iast 192 dX9_findUnits_191 rfl ly_133 hvm ?_
              refine go_aload_n 193 dX9_findUnits_192 rfl rfl ?_
              refine go_dup 194 dX9_findUnits_193 rfl rfl ?_
              refine g_getI 197 dX9_findUnits_194 rfl fF_RX9_259 ly_115 rfl ?_
              refine go_iconst 198 (1) dX9_findUnits_197 rfl (by decide) ?_
              refine go_iadd 199 dX9_findUnits_198 rfl ?_
              refine g_putI 202 dX9_findUnits_199 rfl fF_RX9_259 ly_115 rfl (fun q hq => by cases hq; rfl) rfl rfl ?_
              have hnw : 1 = 1 ∧ (¬ unB (wI (unF S i) 134 i (-1)) i < 0 → grF (wI (unF S i) 134 i (-1)) (unB (wI (unF S i) 134 i (-1)) i).toNatClampNeg i < coF (wI (unF S i) 134 i (-1)) i → ¬ unW (wI (unF S i) 134 i (-1)) i) := ⟨rfl, fun q1 q2 q => q.elim q1 (fun z => z q2)⟩
              refine go_aload_n 203 dX9_findUnits_202 rfl rfl ?_
              refine go_iload_n 204 dX9_findUnits_203 rfl rfl ?_
              refine go_iload_n 205 dX9_findUnits_204 rfl rfl ?_
              refine g_callV0 208 [.int _, .int _] [] dX9_findUnits_205 rfl (ct_X9_joins _ _ _ (by first | exact hvm | exact bsN_in (by assumption) (by show (rI (unF S i) 115 26).toNatClampNeg ≤ 24; rw [hm, hmc]; omega)) (nI_i (by have := hv; omega) (by omega))) rfl sV_X9_findUnits_265 rfl ly_115 rfl rfl (Nat.le_of_ble_eq_true rfl) (Nat.le_of_ble_eq_true rfl) (Nat.le_of_ble_eq_true rfl) ?_
              refine go_iinc 211 [(1, .int _), (2, .int _), (3, .int _), (0, .ref 115)] (nI (i + 1)) dX9_findUnits_208 rfl (Nat.le_of_ble_eq_true rfl) rfl (nI_inc i) rfl ?_
              refine go_goto 11 dX9_findUnits_211 (by decide) ?_
              refine go_ls [(1, .int _), (0, .ref 115)] (List.forall_mem_cons.mpr ⟨rfl, List.forall_mem_cons.mpr ⟨rfl, fun _ h => absurd h List.not_mem_nil⟩⟩) ?_
              have h6 := ih (by omega)
              clear ih
              refine g_st ?_ h6
              clear h6
              rw [hcl] at *
              first
                | (have h7 : rI (wI (unF S i) 134 i (-1)) 116 i < 3 := hc2; exact un1_a (Or.inl h7))
                | (have h7 : 5 < rI (wI (unF S i) 134 i (-1)) 116 i := hc3; exact un1_a (Or.inr (Or.inl h7)))
                | (have h7 := hp9; exact un1_a h7)
                | (have h7 := hw; exact un1_n hnp h7)
                | (have h7 := hnw; exact un1_o hnp (h7.2 hc5 hc6))
        · have hp9 : unP (wI (unF S i) 134 i (-1)) i := Or.inr (Or.inr (by rw [hcl] at hc4; exact hc4))
          refine go_goto 208 dX9_findUnits_54 (by decide) ?_
          refine go_iinc 211 [(1, .int _), (0, .ref 115)] (nI (i + 1)) dX9_findUnits_208 rfl (Nat.le_of_ble_eq_true rfl) rfl (nI_inc i) rfl ?_
          refine go_goto 11 dX9_findUnits_211 (by decide) ?_
          refine go_ls [(1, .int _), (0, .ref 115)] (List.forall_mem_cons.mpr ⟨rfl, List.forall_mem_cons.mpr ⟨rfl, fun _ h => absurd h List.not_mem_nil⟩⟩) ?_
          have h6 := ih (by omega)
          clear ih
          refine g_st ?_ h6
          clear h6
          rw [hcl] at *
          first
            | (have h7 : rI (wI (unF S i) 134 i (-1)) 116 i < 3 := hc2; exact un1_a (Or.inl h7))
            | (have h7 : 5 < rI (wI (unF S i) 134 i (-1)) 116 i := hc3; exact un1_a (Or.inr (Or.inl h7)))
            | (have h7 := hp9; exact un1_a h7)
            | (have h7 := hw; exact un1_n hnp h7)
            | (have h7 := hnw; exact un1_o hnp (h7.2 hc5 hc6))

set_option maxRecDepth 100000 in
set_option maxHeartbeats 1000000 in
theorem ct_X9_findUnits (S T : gS) (n : Nat) (hR : gF mX9_refreshes [.ref 115] S none T) (ho : okR T n) : gF mX9_findUnits [.ref 115] S none (unF T n) := by
  refine go_enter [.ref 115] [(0, .ref 115)] (by decide +kernel) rfl rfl (Nat.le_of_ble_eq_true rfl) rfl ?_
  refine go_aload_n 1 dX9_findUnits_0 rfl rfl ?_
  refine g_callV0 4 [] [] dX9_findUnits_1 rfl hR rfl sV_X9_findUnits_243 rfl ly_115 rfl rfl (Nat.le_of_ble_eq_true rfl) (Nat.le_of_ble_eq_true rfl) (Nat.le_of_ble_eq_true rfl) ?_
  refine go_aload_n 5 dX9_findUnits_4 rfl rfl ?_
  refine go_iconst 6 (0) dX9_findUnits_5 rfl (by decide) ?_
  refine g_putI 9 dX9_findUnits_6 rfl fF_RX9_259 ly_115 rfl (fun q hq => by cases hq; rfl) rfl rfl ?_
  refine go_iconst 10 (0) dX9_findUnits_9 rfl (by decide) ?_
  refine go_istore_n 11 [(1, .int _), (0, .ref 115)] dX9_findUnits_10 rfl (Nat.le_of_ble_eq_true rfl) rfl ?_
  refine go_ls [(1, .int _), (0, .ref 115)] (List.forall_mem_cons.mpr ⟨rfl, List.forall_mem_cons.mpr ⟨rfl, fun _ h => absurd h List.not_mem_nil⟩⟩) ?_
  exact lp_fu11 T n ho 0 (Nat.zero_le _)

