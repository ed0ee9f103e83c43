-- needs 50.units 51.m10 52.exec 53.m11 54.exec2 55.m12 57.units2 59.exec3
set_option maxRecDepth 100000 in
set_option maxHeartbeats 1000000 in
theorem ct_X9_refreshes_f (S : gS) (hf : ¬ rI S 115 15 = 0) : gF mX9_refreshes [.ref 115] S none S := by
  refine go_enter [.ref 115] [(0, .ref 115)] (by decide +kernel) rfl rfl (Nat.le_of_ble_eq_true rfl) rfl ?_
  refine go_aload_n 1 dX9_refreshes_0 rfl rfl ?_
  refine g_getI 4 dX9_refreshes_1 rfl fF_RX9_227 ly_115 rfl ?_
  refine go_if_eq 7 8 dX9_refreshes_4 rfl (by decide) (fun hc1 => ?_) (fun hc1 => ?_)
  · exact absurd hc1 hf
  · refine go_return dX9_refreshes_7 rfl (Nat.le_of_ble_eq_true rfl) (Nat.le_of_ble_eq_true rfl) ?_
    exact ⟨rfl, rfl⟩

set_option maxRecDepth 100000 in
set_option maxHeartbeats 1000000 in
theorem lk_to7 {Q : go_Q} (E : gS) (b : Int32) (n : Nat) (ho : okR E n) (kx : Go mX9_takesOver false Q 0 0 52 [(2, .int (nI n)), (1, .int b), (0, .ref 115)] [] (hp (tkF E (n)))) : ∀ i, i ≤ n → Go mX9_takesOver false Q 0 0 7 [(2, .int (nI i)), (1, .int b), (0, .ref 115)] [] (hp (tkF E i)) := by
  refine g_dn _ (n) (fun i hi ih => ?_)
  have h24 := ho.2.1
  have hcl := nI_c (n := i) (by omega)
  refine go_iload_n 8 dX9_takesOver_7 rfl rfl ?_
  refine go_aload_n 9 dX9_takesOver_8 rfl rfl ?_
  refine g_getI 12 dX9_takesOver_9 rfl fF_RX9_102 ly_115 rfl ?_
  refine go_icmp_ge 15 52 dX9_takesOver_12 rfl (by decide) (fun hc1 => ?_) (fun hc1 => ?_)
  · have hv : i = n := by
      have h8 := hc1
      rw [show rI (tkF E i) 115 10 = nI n from (rI_tkF E i 115 10 (by decide)).trans ho.1, nI_le2 (by omega) (by omega)] at h8
      omega
    subst hv
    refine go_ls [(2, .int _), (1, .int b), (0, .ref 115)] (List.forall_mem_cons.mpr ⟨rfl, List.forall_mem_cons.mpr ⟨rfl, List.forall_mem_cons.mpr ⟨rfl, fun _ h => absurd h List.not_mem_nil⟩⟩⟩) ?_
    exact kx
  · have hv : i < n := by
      have h8 := hc1
      rw [show rI (tkF E i) 115 10 = nI n from (rI_tkF E i 115 10 (by decide)).trans ho.1, nI_le2 (by omega) (by omega)] at h8
      omega
    refine go_aload_n 16 dX9_takesOver_15 rfl rfl ?_
    refine g_getR 19 dX9_takesOver_16 rfl fF_RX9_71 ly_115 rfl ?_
    refine go_iload_n 20 dX9_takesOver_19 rfl rfl ?_
    refine go_aload_n 21 dX9_takesOver_20 rfl rfl ?_
    refine g_getR 24 dX9_takesOver_21 rfl fF_RX9_7 ly_115 rfl ?_
    refine go_iload_n 25 dX9_takesOver_24 rfl rfl ?_
    refine g_iald 26 dX9_takesOver_25 rfl ly_116 (nI_i (by have := hv; omega) (by omega)) ?_
    refine go_iconst 27 (2) dX9_takesOver_26 rfl (by decide) ?_
    refine go_icmp_ne 30 44 dX9_takesOver_27 rfl (by decide) (fun hc2 => ?_) (fun hc2 => ?_)
    · refine go_iconst 45 (0) dX9_takesOver_44 rfl (by decide) ?_
      refine go_topi (if rI E 116 i = 2 then rI E 135 (rI E 120 i).toNatClampNeg else 0) (by rw [hcl] at *; first | (have h7 : rI E 116 i = 2 := hc2; rw [if_pos h7]; rfl) | (have h7 : ¬ rI E 116 i = 2 := hc2; rw [if_neg h7])) ?_
      refine g_iast 46 dX9_takesOver_45 rfl ly_136 (nI_i (by have := hv; omega) (by omega)) ?_
      refine go_iinc 49 [(2, .int _), (1, .int _), (0, .ref 115)] (nI (i + 1)) dX9_takesOver_46 rfl (Nat.le_of_ble_eq_true rfl) rfl (nI_inc i) rfl ?_
      refine go_goto 7 dX9_takesOver_49 (by decide) ?_
      refine go_ls [(2, .int _), (1, .int b), (0, .ref 115)] (List.forall_mem_cons.mpr ⟨rfl, List.forall_mem_cons.mpr ⟨rfl, List.forall_mem_cons.mpr ⟨rfl, fun _ h => absurd h List.not_mem_nil⟩⟩⟩) ?_
      refine g_st ?_ (ih (by omega))
      rw [hcl]
      exact tkF_s E i
    · refine go_aload_n 31 dX9_takesOver_30 rfl rfl ?_
      refine g_getR 34 dX9_takesOver_31 rfl fF_RX9_68 ly_115 rfl ?_
      refine go_aload_n 35 dX9_takesOver_34 rfl rfl ?_
      refine g_getR 38 dX9_takesOver_35 rfl fF_RX9_22 ly_115 rfl ?_
      refine go_iload_n 39 dX9_takesOver_38 rfl rfl ?_
      refine g_iald 40 dX9_takesOver_39 rfl ly_120 (nI_i (by have := hv; omega) (by omega)) ?_
      refine g_iald 41 dX9_takesOver_40 rfl ly_135 (by rw [hcl] at *; have h7 : rI E 116 i = 2 := hc2; exact (ho.2.2 i (by omega)).2 h7) ?_
      refine go_goto 45 dX9_takesOver_41 (by decide) ?_
      refine go_topi (if rI E 116 i = 2 then rI E 135 (rI E 120 i).toNatClampNeg else 0) (by rw [hcl] at *; first | (have h7 : rI E 116 i = 2 := hc2; rw [if_pos h7]; rfl) | (have h7 : ¬ rI E 116 i = 2 := hc2; rw [if_neg h7])) ?_
      refine g_iast 46 dX9_takesOver_45 rfl ly_136 (nI_i (by have := hv; omega) (by omega)) ?_
      refine go_iinc 49 [(2, .int _), (1, .int _), (0, .ref 115)] (nI (i + 1)) dX9_takesOver_46 rfl (Nat.le_of_ble_eq_true rfl) rfl (nI_inc i) rfl ?_
      refine go_goto 7 dX9_takesOver_49 (by decide) ?_
      refine go_ls [(2, .int _), (1, .int b), (0, .ref 115)] (List.forall_mem_cons.mpr ⟨rfl, List.forall_mem_cons.mpr ⟨rfl, List.forall_mem_cons.mpr ⟨rfl, fun _ h => absurd h List.not_mem_nil⟩⟩⟩) ?_
      refine g_st ?_ (ih (by omega))
      rw [hcl]
      exact tkF_s E i

set_option maxRecDepth 100000 in
set_option maxHeartbeats 1000000 in
theorem lk_to54 {Q : go_Q} (E : gS) (b : Int32) (n : Nat) (ho : okR E n) (kx : Go mX9_takesOver false Q 0 0 117 [(2, .int (nI n)), (1, .int b), (0, .ref 115)] [] (hp (hlF E b (n)))) : ∀ i, i ≤ n → Go mX9_takesOver false Q 0 0 54 [(2, .int (nI i)), (1, .int b), (0, .ref 115)] [] (hp (hlF E b i)) := by
  refine g_dn _ (n) (fun i hi ih => ?_)
  have h24 := ho.2.1
  have hcl := nI_c (n := i) (by omega)
  refine go_iload_n 55 dX9_takesOver_54 rfl rfl ?_
  refine go_aload_n 56 dX9_takesOver_55 rfl rfl ?_
  refine g_getI 59 dX9_takesOver_56 rfl fF_RX9_102 ly_115 rfl ?_
  refine go_icmp_ge 62 117 dX9_takesOver_59 rfl (by decide) (fun hc1 => ?_) (fun hc1 => ?_)
  · have hv : i = n := by
      have h8 := hc1
      rw [show rI (hlF E b i) 115 10 = nI n from (rI_hlF E b i 115 10 (by decide) (by decide)).trans ho.1, nI_le2 (by omega) (by omega)] at h8
      omega
    subst hv
    refine go_ls [(2, .int _), (1, .int b), (0, .ref 115)] (List.forall_mem_cons.mpr ⟨rfl, List.forall_mem_cons.mpr ⟨rfl, List.forall_mem_cons.mpr ⟨rfl, fun _ h => absurd h List.not_mem_nil⟩⟩⟩) ?_
    exact kx
  · have hv : i < n := by
      have h8 := hc1
      rw [show rI (hlF E b i) 115 10 = nI n from (rI_hlF E b i 115 10 (by decide) (by decide)).trans ho.1, nI_le2 (by omega) (by omega)] at h8
      omega
    refine go_aload_n 63 dX9_takesOver_62 rfl rfl ?_
    refine g_getR 66 dX9_takesOver_63 rfl fF_RX9_7 ly_115 rfl ?_
    refine go_iload_n 67 dX9_takesOver_66 rfl rfl ?_
    refine g_iald 68 dX9_takesOver_67 rfl ly_116 (nI_i (by have := hv; omega) (by omega)) ?_
    refine go_iconst 69 (2) dX9_takesOver_68 rfl (by decide) ?_
    refine go_icmp_eq 72 75 dX9_takesOver_69 rfl (by decide) (fun hc2 => ?_) (fun hc2 => ?_)
    · refine go_iload_n 76 dX9_takesOver_75 rfl rfl ?_
      refine go_if_eq 79 99 dX9_takesOver_76 rfl (by decide) (fun hc3 => ?_) (fun hc3 => ?_)
      · refine go_aload_n 100 dX9_takesOver_99 rfl rfl ?_
        refine g_getR 103 dX9_takesOver_100 rfl fF_RX9_31 ly_115 rfl ?_
        refine go_iload_n 104 dX9_takesOver_103 rfl rfl ?_
        refine go_aload_n 105 dX9_takesOver_104 rfl rfl ?_
        refine g_getR 108 dX9_takesOver_105 rfl fF_RX9_71 ly_115 rfl ?_
        refine go_iload_n 109 dX9_takesOver_108 rfl rfl ?_
        refine g_iald 110 dX9_takesOver_109 rfl ly_136 (nI_i (by have := hv; omega) (by omega)) ?_
        refine g_iast 111 dX9_takesOver_110 rfl ly_123 (nI_i (by have := hv; omega) (by omega)) ?_
        refine go_iinc 114 [(2, .int _), (1, .int _), (0, .ref 115)] (nI (i + 1)) dX9_takesOver_111 rfl (Nat.le_of_ble_eq_true rfl) rfl (nI_inc i) rfl ?_
        refine go_goto 54 dX9_takesOver_114 (by decide) ?_
        refine go_ls [(2, .int _), (1, .int b), (0, .ref 115)] (List.forall_mem_cons.mpr ⟨rfl, List.forall_mem_cons.mpr ⟨rfl, List.forall_mem_cons.mpr ⟨rfl, fun _ h => absurd h List.not_mem_nil⟩⟩⟩) ?_
        refine g_st ?_ (ih (by omega))
        rw [hcl] at *
        show _ = h1F b i (hlF E b i)
        unfold h1F
        first | rw [if_neg hc2] | (rw [if_pos hc2, if_pos hc3]) | (rw [if_pos hc2, if_neg hc3])
      · refine go_aload_n 80 dX9_takesOver_79 rfl rfl ?_
        refine g_getR 83 dX9_takesOver_80 rfl fF_RX9_34 ly_115 rfl ?_
        refine go_iload_n 84 dX9_takesOver_83 rfl rfl ?_
        refine go_aload_n 85 dX9_takesOver_84 rfl rfl ?_
        refine go_iload_n 86 dX9_takesOver_85 rfl rfl ?_
        refine go_aload_n 87 dX9_takesOver_86 rfl rfl ?_
        refine g_getR 90 dX9_takesOver_87 rfl fF_RX9_71 ly_115 rfl ?_
        refine go_iload_n 91 dX9_takesOver_90 rfl rfl ?_
        refine g_iald 92 dX9_takesOver_91 rfl ly_136 (nI_i (by have := hv; omega) (by omega)) ?_
        refine g_callV 95 [.int _, .int _] [.int _, .ref 124] dX9_takesOver_92 rfl (ct_X9_narrowed _ _ _ (nI_i (by have := hv; omega) (by omega))) rfl sV_X9_takesOver_280 rfl ly_115 rfl rfl (Nat.le_of_ble_eq_true rfl) (Nat.le_of_ble_eq_true rfl) (Nat.le_of_ble_eq_true rfl) ?_
        refine g_iast 96 dX9_takesOver_95 rfl ly_124 (nI_i (by have := hv; omega) (by omega)) ?_
        refine go_goto 111 dX9_takesOver_96 (by decide) ?_
        refine go_iinc 114 [(2, .int _), (1, .int _), (0, .ref 115)] (nI (i + 1)) dX9_takesOver_111 rfl (Nat.le_of_ble_eq_true rfl) rfl (nI_inc i) rfl ?_
        refine go_goto 54 dX9_takesOver_114 (by decide) ?_
        refine go_ls [(2, .int _), (1, .int b), (0, .ref 115)] (List.forall_mem_cons.mpr ⟨rfl, List.forall_mem_cons.mpr ⟨rfl, List.forall_mem_cons.mpr ⟨rfl, fun _ h => absurd h List.not_mem_nil⟩⟩⟩) ?_
        refine g_st ?_ (ih (by omega))
        rw [hcl] at *
        show _ = h1F b i (hlF E b i)
        unfold h1F
        first | rw [if_neg hc2] | (rw [if_pos hc2, if_pos hc3]) | (rw [if_pos hc2, if_neg hc3])
    · refine go_goto 111 dX9_takesOver_72 (by decide) ?_
      refine go_iinc 114 [(2, .int _), (1, .int _), (0, .ref 115)] (nI (i + 1)) dX9_takesOver_111 rfl (Nat.le_of_ble_eq_true rfl) rfl (nI_inc i) rfl ?_
      refine go_goto 54 dX9_takesOver_114 (by decide) ?_
      refine go_ls [(2, .int _), (1, .int b), (0, .ref 115)] (List.forall_mem_cons.mpr ⟨rfl, List.forall_mem_cons.mpr ⟨rfl, List.forall_mem_cons.mpr ⟨rfl, fun _ h => absurd h List.not_mem_nil⟩⟩⟩) ?_
      refine g_st ?_ (ih (by omega))
      rw [hcl] at *
      show _ = h1F b i (hlF E b i)
      unfold h1F
      first | rw [if_neg hc2] | (rw [if_pos hc2, if_pos hc3]) | (rw [if_pos hc2, if_neg hc3])

set_option maxRecDepth 100000 in
set_option maxHeartbeats 1000000 in
theorem ct_X9_takesOver (S T : gS) (b : Int32) (n : Nat) (hR : gF mX9_refreshes [.ref 115] S none T) (ho : okR T n) : gF mX9_takesOver [.ref 115, .int b] S none (toF T b n) := by
  refine go_enter [.ref 115, .int b] [(0, .ref 115), (1, .int b)] (by decide +kernel) rfl rfl (Nat.le_of_ble_eq_true rfl) rfl ?_
  refine go_aload_n 1 dX9_takesOver_0 rfl rfl ?_
  refine go_iload_n 2 dX9_takesOver_1 rfl rfl ?_
  refine g_callV0 5 [.int _] [] dX9_takesOver_2 rfl (ct_X9_evaluates _ T _ n hR ho) rfl sV_X9_takesOver_286 rfl ly_115 rfl rfl (Nat.le_of_ble_eq_true rfl) (Nat.le_of_ble_eq_true rfl) (Nat.le_of_ble_eq_true rfl) ?_
  refine go_iconst 6 (0) dX9_takesOver_5 rfl (by decide) ?_
  refine go_istore_n 7 [(2, .int _), (0, .ref 115), (1, .int _)] dX9_takesOver_6 rfl (Nat.le_of_ble_eq_true rfl) rfl ?_
  refine go_ls [(2, .int _), (1, .int b), (0, .ref 115)] (List.forall_mem_cons.mpr ⟨rfl, List.forall_mem_cons.mpr ⟨rfl, List.forall_mem_cons.mpr ⟨rfl, fun _ h => absurd h List.not_mem_nil⟩⟩⟩) ?_
  refine g_st (tkF_0 (evF T b n)).symm ?_
  refine lk_to7 (evF T b n) b n (okR_evF ho) ?_ 0 (Nat.zero_le _)
  refine go_iconst 53 (0) dX9_takesOver_52 rfl (by decide) ?_
  refine go_istore_n 54 [(2, .int _), (1, .int _), (0, .ref 115)] dX9_takesOver_53 rfl (Nat.le_of_ble_eq_true rfl) rfl ?_
  refine go_ls [(2, .int _), (1, .int b), (0, .ref 115)] (List.forall_mem_cons.mpr ⟨rfl, List.forall_mem_cons.mpr ⟨rfl, List.forall_mem_cons.mpr ⟨rfl, fun _ h => absurd h List.not_mem_nil⟩⟩⟩) ?_
  refine lk_to54 (tkF (evF T b n) n) b n (okR_ofN (okR_evF ho) (rI_tkF _ _ _ _ (by decide)) (fun a c h1 h2 => rI_tkF _ _ _ _ (by omega))) ?_ 0 (Nat.zero_le _)
  refine go_return dX9_takesOver_117 rfl (Nat.le_of_ble_eq_true rfl) (Nat.le_of_ble_eq_true rfl) ?_
  exact ⟨rfl, rfl⟩

set_option maxRecDepth 100000 in
set_option maxHeartbeats 1000000 in
theorem ct_X9_value (S : gS) (r b : Int32) (n : Nat) (hn : rI S 115 10 = nI n) (h24 : n ≤ 24) (T : gS) (hR : gF mX9_refreshes [.ref 115] (wI S 115 0 0) none T) (ho : okR T n) : gF mX9_value [.ref 115, .int r, .int b] S (some (.int (if sgn (nI n) r then rI (evF T b n) 135 r.toNatClampNeg else 0))) (if sgn (nI n) r then evF T b n else wI S 115 0 1) := by
  refine go_enter [.ref 115, .int r, .int b] [(0, .ref 115), (1, .int r), (2, .int b)] (by decide +kernel) rfl rfl (Nat.le_of_ble_eq_true rfl) rfl ?_
  refine go_aload_n 1 dX9_value_0 rfl rfl ?_
  refine go_iload_n 2 dX9_value_1 rfl rfl ?_
  refine g_callV 5 [.int _] [] dX9_value_2 rfl (ct_X9_isSignal _ _) rfl sV_X9_value_123 rfl ly_115 rfl rfl (Nat.le_of_ble_eq_true rfl) (Nat.le_of_ble_eq_true rfl) (Nat.le_of_ble_eq_true rfl) ?_
  refine go_if_ne 8 14 dX9_value_5 rfl (by decide) (fun hc1 => ?_) (fun hc1 => ?_)
  · have hs : sgn (nI n) r := by
      simp only [bi0, bi1, Classical.not_not] at *
      rw [hn] at hc1
      exact hc1
    have hr : vp_in r 24 := vin_of hs h24
    rw [if_pos hs, if_pos hs]
    refine go_aload_n 15 dX9_value_14 rfl rfl ?_
    refine go_iconst 16 (0) dX9_value_15 rfl (by decide) ?_
    refine g_putI 19 dX9_value_16 rfl fF_RX9_98 ly_115 rfl (fun q hq => by cases hq; rfl) rfl rfl ?_
    refine go_aload_n 20 dX9_value_19 rfl rfl ?_
    refine go_iload_n 21 dX9_value_20 rfl rfl ?_
    refine g_callV0 24 [.int _] [] dX9_value_21 rfl (ct_X9_evaluates _ T _ n hR ho) rfl sV_X9_value_286 rfl ly_115 rfl rfl (Nat.le_of_ble_eq_true rfl) (Nat.le_of_ble_eq_true rfl) (Nat.le_of_ble_eq_true rfl) ?_
    refine go_aload_n 25 dX9_value_24 rfl rfl ?_
    refine g_getR 28 dX9_value_25 rfl fF_RX9_68 ly_115 rfl ?_
    refine go_iload_n 29 dX9_value_28 rfl rfl ?_
    refine g_iald 30 dX9_value_29 rfl ly_135 hr ?_
    refine go_ireturn dX9_value_30 rfl (by first | rfl | exact bi_nar) (Nat.le_of_ble_eq_true rfl) (Nat.le_of_ble_eq_true rfl) ?_
    exact ⟨rfl, rfl⟩
  · refine go_aload_n 9 dX9_value_8 rfl rfl ?_
    refine go_iconst 10 (1) dX9_value_9 rfl (by decide) ?_
    refine g_callV 13 [.int _] [] dX9_value_10 rfl (ct_X9_fails _ _) rfl sV_X9_value_132 rfl ly_115 rfl rfl (Nat.le_of_ble_eq_true rfl) (Nat.le_of_ble_eq_true rfl) (Nat.le_of_ble_eq_true rfl) ?_
    refine go_ireturn dX9_value_13 rfl (by first | rfl | exact bi_nar) (Nat.le_of_ble_eq_true rfl) (Nat.le_of_ble_eq_true rfl) ?_
    have hs : ¬ sgn (nI n) r := by
      simp only [bi0, bi1, Classical.not_not] at *
      rw [hn] at hc1
      exact hc1
    rw [if_neg hs, if_neg hs]
    exact ⟨rfl, rfl⟩

set_option maxRecDepth 100000 in
set_option maxHeartbeats 1000000 in
theorem ct_X9_restart (S : gS) (n : Nat) (hn : rI S 115 10 = nI n) (h24 : n ≤ 24) : gF mX9_restart [.ref 115] S (some (.int (rI S 115 11))) (rsF (wI S 115 0 0) n) := by
  refine go_enter [.ref 115] [(0, .ref 115)] (by decide +kernel) rfl rfl (Nat.le_of_ble_eq_true rfl) rfl ?_
  refine go_aload_n 1 dX9_restart_0 rfl rfl ?_
  refine go_iconst 2 (0) dX9_restart_1 rfl (by decide) ?_
  refine g_putI 5 dX9_restart_2 rfl fF_RX9_98 ly_115 rfl (fun q hq => by cases hq; rfl) rfl rfl ?_
  refine go_aload_n 6 dX9_restart_5 rfl rfl ?_
  refine g_getI 9 dX9_restart_6 rfl fF_RX9_283 ly_115 rfl ?_
  refine go_istore_n 10 [(1, .int _), (0, .ref 115)] dX9_restart_9 rfl (Nat.le_of_ble_eq_true rfl) rfl ?_
  refine go_aload_n 11 dX9_restart_10 rfl rfl ?_
  refine g_callV0 14 [] [] dX9_restart_11 rfl (ct_X9_restarts _ n hn h24) rfl sV_X9_restart_144 rfl ly_115 rfl rfl (Nat.le_of_ble_eq_true rfl) (Nat.le_of_ble_eq_true rfl) (Nat.le_of_ble_eq_true rfl) ?_
  refine go_iload_n 15 dX9_restart_14 rfl rfl ?_
  refine go_ireturn dX9_restart_15 rfl (by first | rfl | exact bi_nar) (Nat.le_of_ble_eq_true rfl) (Nat.le_of_ble_eq_true rfl) ?_
  exact ⟨rfl, rfl⟩

set_option maxRecDepth 100000 in
set_option maxHeartbeats 1000000 in
theorem ct_X9_setInput (S : gS) (r v : Int32) (n : Nat) (hn : rI S 115 10 = nI n) (h24 : n ≤ 24) : gF mX9_setInput [.ref 115, .int r, .int v] S (some (.int (if siK S n r v = 0 then rI S 123 r.toNatClampNeg else 0))) (if siK S n r v = 0 then wI (wI S 115 0 0) 123 r.toNatClampNeg v else wI S 115 0 (siK S n r v)) := by
  refine go_enter [.ref 115, .int r, .int v] [(0, .ref 115), (1, .int r), (2, .int v)] (by decide +kernel) rfl rfl (Nat.le_of_ble_eq_true rfl) rfl ?_
  refine go_aload_n 1 dX9_setInput_0 rfl rfl ?_
  refine go_iload_n 2 dX9_setInput_1 rfl rfl ?_
  refine g_callV 5 [.int _] [] dX9_setInput_2 rfl (ct_X9_isSignal _ _) rfl sV_X9_setInput_123 rfl ly_115 rfl rfl (Nat.le_of_ble_eq_true rfl) (Nat.le_of_ble_eq_true rfl) (Nat.le_of_ble_eq_true rfl) ?_
  refine go_if_ne 8 14 dX9_setInput_5 rfl (by decide) (fun hc1 => ?_) (fun hc1 => ?_)
  · have hs : sgn (nI n) r := by
      have h8 := bi1.mp hc1
      rw [hn] at h8
      exact h8
    have hr : vp_in r 24 := vin_of hs h24
    refine go_aload_n 15 dX9_setInput_14 rfl rfl ?_
    refine g_getR 18 dX9_setInput_15 rfl fF_RX9_7 ly_115 rfl ?_
    refine go_iload_n 19 dX9_setInput_18 rfl rfl ?_
    refine g_iald 20 dX9_setInput_19 rfl ly_116 hr ?_
    refine go_if_eq 23 29 dX9_setInput_20 rfl (by decide) (fun hc2 => ?_) (fun hc2 => ?_)
    · refine go_iload_n 30 dX9_setInput_29 rfl rfl ?_
      refine go_i2l 31 dX9_setInput_30 rfl ?_
      refine go_aload_n 32 dX9_setInput_31 rfl rfl ?_
      refine g_getR 35 dX9_setInput_32 rfl fF_RX9_13 ly_115 rfl ?_
      refine go_iload_n 36 dX9_setInput_35 rfl rfl ?_
      refine g_iald 37 dX9_setInput_36 rfl ly_117 hr ?_
      refine go_i2l 38 dX9_setInput_37 rfl ?_
      refine go_aload_n 39 dX9_setInput_38 rfl rfl ?_
      refine g_getR 42 dX9_setInput_39 rfl fF_RX9_16 ly_115 rfl ?_
      refine go_iload_n 43 dX9_setInput_42 rfl rfl ?_
      refine g_iald 44 dX9_setInput_43 rfl ly_118 hr ?_
      refine go_i2l 45 dX9_setInput_44 rfl ?_
      refine g_callS 48 [.long _, .long _, .long _] [] dX9_setInput_45 rfl (ct_X9_isBetween _ _ _ _) rfl sV_X9_setInput_109 rfl (Nat.le_of_ble_eq_true rfl) (Nat.le_of_ble_eq_true rfl) (Nat.le_of_ble_eq_true rfl) ?_
      refine go_if_ne 51 57 dX9_setInput_48 rfl (by decide) (fun hc3 => ?_) (fun hc3 => ?_)
      · have hk : siK S n r v = 0 := by
          unfold siK
          rw [if_neg (Classical.not_not.mpr hs), if_neg (Classical.not_not.mpr hc2), if_neg (Classical.not_not.mpr (bi1.mp hc3))]
        rw [if_pos hk, if_pos hk]
        refine go_aload_n 58 dX9_setInput_57 rfl rfl ?_
        refine go_iconst 59 (0) dX9_setInput_58 rfl (by decide) ?_
        refine g_putI 62 dX9_setInput_59 rfl fF_RX9_98 ly_115 rfl (fun q hq => by cases hq; rfl) rfl rfl ?_
        refine go_aload_n 63 dX9_setInput_62 rfl rfl ?_
        refine g_getR 66 dX9_setInput_63 rfl fF_RX9_31 ly_115 rfl ?_
        refine go_iload_n 67 dX9_setInput_66 rfl rfl ?_
        refine g_iald 68 dX9_setInput_67 rfl ly_123 hr ?_
        refine go_istore_n 69 [(3, .int _), (0, .ref 115), (1, .int _), (2, .int _)] dX9_setInput_68 rfl (Nat.le_of_ble_eq_true rfl) rfl ?_
        refine go_aload_n 70 dX9_setInput_69 rfl rfl ?_
        refine g_getR 73 dX9_setInput_70 rfl fF_RX9_31 ly_115 rfl ?_
        refine go_iload_n 74 dX9_setInput_73 rfl rfl ?_
        refine go_iload_n 75 dX9_setInput_74 rfl rfl ?_
        refine g_iast 76 dX9_setInput_75 rfl ly_123 hr ?_
        refine go_iload_n 77 dX9_setInput_76 rfl rfl ?_
        refine go_ireturn dX9_setInput_77 rfl (by first | rfl | exact bi_nar) (Nat.le_of_ble_eq_true rfl) (Nat.le_of_ble_eq_true rfl) ?_
        exact ⟨rfl, rfl⟩
      · refine go_aload_n 52 dX9_setInput_51 rfl rfl ?_
        refine go_iconst 53 (3) dX9_setInput_52 rfl (by decide) ?_
        refine g_callV 56 [.int _] [] dX9_setInput_53 rfl (ct_X9_fails _ _) rfl sV_X9_setInput_132 rfl ly_115 rfl rfl (Nat.le_of_ble_eq_true rfl) (Nat.le_of_ble_eq_true rfl) (Nat.le_of_ble_eq_true rfl) ?_
        refine go_ireturn dX9_setInput_56 rfl (by first | rfl | exact bi_nar) (Nat.le_of_ble_eq_true rfl) (Nat.le_of_ble_eq_true rfl) ?_
        have hk : siK S n r v = 3 := by
          unfold siK
          rw [if_neg (Classical.not_not.mpr hs), if_neg (Classical.not_not.mpr hc2), if_pos (bi0.mp hc3)]
        rw [hk]
        exact ⟨rfl, rfl⟩
    · refine go_aload_n 24 dX9_setInput_23 rfl rfl ?_
      refine go_iconst 25 (2) dX9_setInput_24 rfl (by decide) ?_
      refine g_callV 28 [.int _] [] dX9_setInput_25 rfl (ct_X9_fails _ _) rfl sV_X9_setInput_132 rfl ly_115 rfl rfl (Nat.le_of_ble_eq_true rfl) (Nat.le_of_ble_eq_true rfl) (Nat.le_of_ble_eq_true rfl) ?_
      refine go_ireturn dX9_setInput_28 rfl (by first | rfl | exact bi_nar) (Nat.le_of_ble_eq_true rfl) (Nat.le_of_ble_eq_true rfl) ?_
      have hk : siK S n r v = 2 := by
        unfold siK
        rw [if_neg (Classical.not_not.mpr hs), if_pos hc2]
      rw [hk]
      exact ⟨rfl, rfl⟩
  · refine go_aload_n 9 dX9_setInput_8 rfl rfl ?_
    refine go_iconst 10 (1) dX9_setInput_9 rfl (by decide) ?_
    refine g_callV 13 [.int _] [] dX9_setInput_10 rfl (ct_X9_fails _ _) rfl sV_X9_setInput_132 rfl ly_115 rfl rfl (Nat.le_of_ble_eq_true rfl) (Nat.le_of_ble_eq_true rfl) (Nat.le_of_ble_eq_true rfl) ?_
    refine go_ireturn dX9_setInput_13 rfl (by first | rfl | exact bi_nar) (Nat.le_of_ble_eq_true rfl) (Nat.le_of_ble_eq_true rfl) ?_
    have hs : ¬ sgn (nI n) r := by
      have h8 := bi0.mp hc1
      rw [hn] at h8
      exact h8
    have hk : siK S n r v = 1 := by
      unfold siK
      rw [if_pos hs]
    rw [hk]
    exact ⟨rfl, rfl⟩

set_option maxRecDepth 100000 in
set_option maxHeartbeats 1000000 in
theorem lk_ru25 {Q : go_Q} (S0 T : gS) (n c : Nat) (hR : gF mX9_refreshes [.ref 115] S0 none T) (ho : okR T n) (hf : ¬ rI T 115 15 = 0) (hc : c ≤ 200) (kx : Go mX9_run false Q 0 0 46 [(2, .int (nI c)), (1, .int (nI c)), (0, .ref 115)] [] (hp ((fun i => if i = 0 then S0 else rcF T n i) (c)))) : ∀ i, i ≤ c → Go mX9_run false Q 0 0 25 [(2, .int (nI i)), (1, .int (nI c)), (0, .ref 115)] [] (hp ((fun i => if i = 0 then S0 else rcF T n i) i)) := by
  refine g_dn _ (c) (fun i hi ih => ?_)
  have hRi : gF mX9_refreshes [.ref 115] (if i = 0 then S0 else rcF T n i) none (rcF T n i) := by
    by_cases hz : i = 0
    · subst hz
      rw [if_pos rfl]
      exact hR
    · rw [if_neg hz]
      exact ct_X9_refreshes_f _ (by rw [rI_rcF _ _ _ _ _ (by decide) (by decide) (by decide) (by decide)]; exact hf)
  refine go_iload_n 26 dX9_run_25 rfl rfl ?_
  refine go_iload_n 27 dX9_run_26 rfl rfl ?_
  refine go_icmp_ge 30 46 dX9_run_27 rfl (by decide) (fun hc1 => ?_) (fun hc1 => ?_)
  · have hv : i = c := by
      have h8 := hc1
      rw [nI_le2 (by omega) (by omega)] at h8
      omega
    subst hv
    refine go_ls [(2, .int _), (1, .int _), (0, .ref 115)] (List.forall_mem_cons.mpr ⟨rfl, List.forall_mem_cons.mpr ⟨rfl, List.forall_mem_cons.mpr ⟨rfl, fun _ h => absurd h List.not_mem_nil⟩⟩⟩) ?_
    exact kx
  · have hv : i < c := by
      have h8 := hc1
      rw [nI_le2 (by omega) (by omega)] at h8
      omega
    refine go_aload_n 31 dX9_run_30 rfl rfl ?_
    refine go_iconst 32 (0) dX9_run_31 rfl (by decide) ?_
    refine g_callV0 35 [.int _] [] dX9_run_32 rfl (ct_X9_takesOver _ _ _ n hRi (okR_rcF ho)) rfl sV_X9_run_292 rfl ly_115 rfl rfl (Nat.le_of_ble_eq_true rfl) (Nat.le_of_ble_eq_true rfl) (Nat.le_of_ble_eq_true rfl) ?_
    refine go_aload_n 36 dX9_run_35 rfl rfl ?_
    refine go_iconst 37 (1) dX9_run_36 rfl (by decide) ?_
    refine g_callV0 40 [.int _] [] dX9_run_37 rfl (ct_X9_takesOver _ _ _ n (ct_X9_refreshes_f (toF (rcF T n i) 0 n) (by rw [rI_toF _ _ _ _ _ (by decide) (by decide) (by decide) (by decide), rI_rcF _ _ _ _ _ (by decide) (by decide) (by decide) (by decide)]; exact hf)) (okR_toF (okR_rcF ho))) rfl sV_X9_run_292 rfl ly_115 rfl rfl (Nat.le_of_ble_eq_true rfl) (Nat.le_of_ble_eq_true rfl) (Nat.le_of_ble_eq_true rfl) ?_
    refine go_iinc 43 [(2, .int _), (1, .int _), (0, .ref 115)] (nI (i + 1)) dX9_run_40 rfl (Nat.le_of_ble_eq_true rfl) rfl (nI_inc i) rfl ?_
    refine go_goto 25 dX9_run_43 (by decide) ?_
    refine go_ls [(2, .int _), (1, .int (nI c)), (0, .ref 115)] (List.forall_mem_cons.mpr ⟨rfl, List.forall_mem_cons.mpr ⟨rfl, List.forall_mem_cons.mpr ⟨rfl, fun _ h => absurd h List.not_mem_nil⟩⟩⟩) ?_
    refine g_st ?_ (ih (by omega))
    show _ = if i + 1 = 0 then S0 else rcF T n (i + 1)
    rw [if_neg (by omega)]
    rfl

set_option maxRecDepth 100000 in
set_option maxHeartbeats 1000000 in
theorem lk_ru63 {Q : go_Q} (E : gS) (n c : Nat) (ho : okR E n) (kx : Go mX9_run false Q 0 0 89 [(2, .int (nI n)), (1, .int (nI c)), (0, .ref 115)] [] (hp (tcF E (n)))) : ∀ i, i ≤ n → Go mX9_run false Q 0 0 63 [(2, .int (nI i)), (1, .int (nI c)), (0, .ref 115)] [] (hp (tcF E i)) := by
  refine g_dn _ (n) (fun i hi ih => ?_)
  have h24 := ho.2.1
  have hcl := nI_c (n := i) (by omega)
  refine go_iload_n 64 dX9_run_63 rfl rfl ?_
  refine go_aload_n 65 dX9_run_64 rfl rfl ?_
  refine g_getI 68 dX9_run_65 rfl fF_RX9_102 ly_115 rfl ?_
  refine go_icmp_ge 71 89 dX9_run_68 rfl (by decide) (fun hc1 => ?_) (fun hc1 => ?_)
  · have hv : i = n := by
      have h8 := hc1
      rw [show rI (tcF E i) 115 10 = nI n from (rI_tcF E i 115 10 (by decide)).trans ho.1, nI_le2 (by omega) (by omega)] at h8
      omega
    subst hv
    refine go_ls [(2, .int _), (1, .int (nI c)), (0, .ref 115)] (List.forall_mem_cons.mpr ⟨rfl, List.forall_mem_cons.mpr ⟨rfl, List.forall_mem_cons.mpr ⟨rfl, fun _ h => absurd h List.not_mem_nil⟩⟩⟩) ?_
    exact kx
  · have hv : i < n := by
      have h8 := hc1
      rw [show rI (tcF E i) 115 10 = nI n from (rI_tcF E i 115 10 (by decide)).trans ho.1, nI_le2 (by omega) (by omega)] at h8
      omega
    refine go_aload_n 72 dX9_run_71 rfl rfl ?_
    refine g_getR 75 dX9_run_72 rfl fF_RX9_71 ly_115 rfl ?_
    refine go_iload_n 76 dX9_run_75 rfl rfl ?_
    refine go_aload_n 77 dX9_run_76 rfl rfl ?_
    refine g_getR 80 dX9_run_77 rfl fF_RX9_68 ly_115 rfl ?_
    refine go_iload_n 81 dX9_run_80 rfl rfl ?_
    refine g_iald 82 dX9_run_81 rfl ly_135 (nI_i (by have := hv; omega) (by omega)) ?_
    refine g_iast 83 dX9_run_82 rfl ly_136 (nI_i (by have := hv; omega) (by omega)) ?_
    refine go_iinc 86 [(2, .int _), (1, .int _), (0, .ref 115)] (nI (i + 1)) dX9_run_83 rfl (Nat.le_of_ble_eq_true rfl) rfl (nI_inc i) rfl ?_
    refine go_goto 63 dX9_run_86 (by decide) ?_
    refine go_ls [(2, .int _), (1, .int (nI c)), (0, .ref 115)] (List.forall_mem_cons.mpr ⟨rfl, List.forall_mem_cons.mpr ⟨rfl, List.forall_mem_cons.mpr ⟨rfl, fun _ h => absurd h List.not_mem_nil⟩⟩⟩) ?_
    refine g_st ?_ (ih (by omega))
    rw [hcl]
    exact tcF_s E i

set_option maxRecDepth 100000 in
set_option maxHeartbeats 1000000 in
theorem lp_ru98 (E : gS) (n c : Nat) (ho : okR E n) : ∀ i, i ≤ n → Go mX9_run false (go_Qm mX9_run false (fun v9 h9 => v9 = (some (.int (dfN E n))) ∧ h9 = hp E) go_no) 0 0 98 [(2, .int (dfN E i)), (3, .int (nI i)), (1, .int (nI c)), (0, .ref 115)] [] (hp ((fun _ => E) i)) := by
  refine g_dn _ (n) (fun i hi ih => ?_)
  have h24 := ho.2.1
  have hcl := nI_c (n := i) (by omega)
  refine go_iload_n 99 dX9_run_98 rfl rfl ?_
  refine go_aload_n 100 dX9_run_99 rfl rfl ?_
  refine g_getI 103 dX9_run_100 rfl fF_RX9_102 ly_115 rfl ?_
  refine go_icmp_ge 106 145 dX9_run_103 rfl (by decide) (fun hc1 => ?_) (fun hc1 => ?_)
  · refine go_iload_n 146 dX9_run_145 rfl rfl ?_
    refine go_ireturn dX9_run_146 rfl (by first | rfl | exact bi_nar) (Nat.le_of_ble_eq_true rfl) (Nat.le_of_ble_eq_true rfl) ?_
    have hv : i = n := by
      have h8 := hc1
      rw [show rI E 115 10 = nI n from ho.1, nI_le2 (by omega) (by omega)] at h8
      omega
    subst hv
    exact ⟨rfl, rfl⟩
  · have hv : i < n := by
      have h8 := hc1
      rw [show rI E 115 10 = nI n from ho.1, nI_le2 (by omega) (by omega)] at h8
      omega
    refine go_iload_n 107 dX9_run_106 rfl rfl ?_
    refine go_aload_n 108 dX9_run_107 rfl rfl ?_
    refine g_getR 111 dX9_run_108 rfl fF_RX9_25 ly_115 rfl ?_
    refine go_iload_n 112 dX9_run_111 rfl rfl ?_
    refine g_iald 113 dX9_run_112 rfl ly_121 (nI_i (by have := hv; omega) (by omega)) ?_
    refine go_iconst 114 (1) dX9_run_113 rfl (by decide) ?_
    refine go_icmp_ne 117 136 dX9_run_114 rfl (by decide) (fun hc2 => ?_) (fun hc2 => ?_)
    · refine go_iconst 137 (0) dX9_run_136 rfl (by decide) ?_
      refine go_topi (if rI E 121 i = 1 ∧ ¬ rI E 136 i = rI E 135 i then 1 else 0) (by rw [hcl] at *; first | (rw [if_neg (fun q => hc2 q.1)]; done) | (rw [if_neg (fun q => q.2 hc3)]; done) | (rw [if_pos ⟨hc2, hc3⟩]; done)) ?_
      refine go_iadd 138 dX9_run_137 rfl ?_
      refine go_istore_n 139 [(2, .int _), (3, .int _), (1, .int _), (0, .ref 115)] dX9_run_138 rfl (Nat.le_of_ble_eq_true rfl) rfl ?_
      refine go_iinc 142 [(3, .int _), (2, .int _), (1, .int _), (0, .ref 115)] (nI (i + 1)) dX9_run_139 rfl (Nat.le_of_ble_eq_true rfl) rfl (nI_inc i) rfl ?_
      refine go_goto 98 dX9_run_142 (by decide) ?_
      refine go_ls [(2, .int _), (3, .int _), (1, .int (nI c)), (0, .ref 115)] (List.forall_mem_cons.mpr ⟨rfl, List.forall_mem_cons.mpr ⟨rfl, List.forall_mem_cons.mpr ⟨rfl, List.forall_mem_cons.mpr ⟨rfl, fun _ h => absurd h List.not_mem_nil⟩⟩⟩⟩) ?_
      exact ih (by omega)
    · refine go_aload_n 118 dX9_run_117 rfl rfl ?_
      refine g_getR 121 dX9_run_118 rfl fF_RX9_71 ly_115 rfl ?_
      refine go_iload_n 122 dX9_run_121 rfl rfl ?_
      refine g_iald 123 dX9_run_122 rfl ly_136 (nI_i (by have := hv; omega) (by omega)) ?_
      refine go_aload_n 124 dX9_run_123 rfl rfl ?_
      refine g_getR 127 dX9_run_124 rfl fF_RX9_68 ly_115 rfl ?_
      refine go_iload_n 128 dX9_run_127 rfl rfl ?_
      refine g_iald 129 dX9_run_128 rfl ly_135 (nI_i (by have := hv; omega) (by omega)) ?_
      refine go_icmp_eq 132 136 dX9_run_129 rfl (by decide) (fun hc3 => ?_) (fun hc3 => ?_)
      · refine go_iconst 137 (0) dX9_run_136 rfl (by decide) ?_
        refine go_topi (if rI E 121 i = 1 ∧ ¬ rI E 136 i = rI E 135 i then 1 else 0) (by rw [hcl] at *; first | (rw [if_neg (fun q => hc2 q.1)]; done) | (rw [if_neg (fun q => q.2 hc3)]; done) | (rw [if_pos ⟨hc2, hc3⟩]; done)) ?_
        refine go_iadd 138 dX9_run_137 rfl ?_
        refine go_istore_n 139 [(2, .int _), (3, .int _), (1, .int _), (0, .ref 115)] dX9_run_138 rfl (Nat.le_of_ble_eq_true rfl) rfl ?_
        refine go_iinc 142 [(3, .int _), (2, .int _), (1, .int _), (0, .ref 115)] (nI (i + 1)) dX9_run_139 rfl (Nat.le_of_ble_eq_true rfl) rfl (nI_inc i) rfl ?_
        refine go_goto 98 dX9_run_142 (by decide) ?_
        refine go_ls [(2, .int _), (3, .int _), (1, .int (nI c)), (0, .ref 115)] (List.forall_mem_cons.mpr ⟨rfl, List.forall_mem_cons.mpr ⟨rfl, List.forall_mem_cons.mpr ⟨rfl, List.forall_mem_cons.mpr ⟨rfl, fun _ h => absurd h List.not_mem_nil⟩⟩⟩⟩) ?_
        exact ih (by omega)
      · refine go_iconst 133 (1) dX9_run_132 rfl (by decide) ?_
        refine go_goto 137 dX9_run_133 (by decide) ?_
        refine go_topi (if rI E 121 i = 1 ∧ ¬ rI E 136 i = rI E 135 i then 1 else 0) (by rw [hcl] at *; first | (rw [if_neg (fun q => hc2 q.1)]; done) | (rw [if_neg (fun q => q.2 hc3)]; done) | (rw [if_pos ⟨hc2, hc3⟩]; done)) ?_
        refine go_iadd 138 dX9_run_137 rfl ?_
        refine go_istore_n 139 [(2, .int _), (3, .int _), (1, .int _), (0, .ref 115)] dX9_run_138 rfl (Nat.le_of_ble_eq_true rfl) rfl ?_
        refine go_iinc 142 [(3, .int _), (2, .int _), (1, .int _), (0, .ref 115)] (nI (i + 1)) dX9_run_139 rfl (Nat.le_of_ble_eq_true rfl) rfl (nI_inc i) rfl ?_
        refine go_goto 98 dX9_run_142 (by decide) ?_
        refine go_ls [(2, .int _), (3, .int _), (1, .int (nI c)), (0, .ref 115)] (List.forall_mem_cons.mpr ⟨rfl, List.forall_mem_cons.mpr ⟨rfl, List.forall_mem_cons.mpr ⟨rfl, List.forall_mem_cons.mpr ⟨rfl, fun _ h => absurd h List.not_mem_nil⟩⟩⟩⟩) ?_
        exact ih (by omega)

set_option maxRecDepth 100000 in
set_option maxHeartbeats 1000000 in
theorem ct_X9_run (S T : gS) (p : Int32) (n : Nat) (hR : gF mX9_refreshes [.ref 115] (wI S 115 0 0) none T) (ho : okR T n) (hf : ¬ rI T 115 15 = 0) : gF mX9_run [.ref 115, .int p] S (some (.int (if b200 p then dfN (ruF T n p.toNatClampNeg) n else 0))) (if b200 p then ruF T n p.toNatClampNeg else wI S 115 0 1) := by
  refine go_enter [.ref 115, .int p] [(0, .ref 115), (1, .int p)] (by decide +kernel) rfl rfl (Nat.le_of_ble_eq_true rfl) rfl ?_
  refine go_iload_n 1 dX9_run_0 rfl rfl ?_
  refine go_i2l 2 dX9_run_1 rfl ?_
  refine go_lconst 3 (1) dX9_run_2 rfl (by decide) ?_
  refine go_ldc2 6 (200) dX9_run_3 rfl wK_RX9_290 ?_
  refine g_callS 9 [.long _, .long _, .long _] [] dX9_run_6 rfl (ct_X9_isBetween _ _ _ _) rfl sV_X9_run_109 rfl (Nat.le_of_ble_eq_true rfl) (Nat.le_of_ble_eq_true rfl) (Nat.le_of_ble_eq_true rfl) ?_
  refine go_if_ne 12 18 dX9_run_9 rfl (by decide) (fun hc1 => ?_) (fun hc1 => ?_)
  · have hb : b200 p := bi1.mp hc1
    rw [if_pos hb, if_pos hb]
    clear hc1
    obtain ⟨c, hc, hc2, rfl, hpc⟩ := b200_n hb
    rw [hpc]
    refine go_aload_n 19 dX9_run_18 rfl rfl ?_
    refine go_iconst 20 (0) dX9_run_19 rfl (by decide) ?_
    refine g_putI 23 dX9_run_20 rfl fF_RX9_98 ly_115 rfl (fun q hq => by cases hq; rfl) rfl rfl ?_
    refine go_iconst 24 (0) dX9_run_23 rfl (by decide) ?_
    refine go_istore_n 25 [(2, .int _), (0, .ref 115), (1, .int _)] dX9_run_24 rfl (Nat.le_of_ble_eq_true rfl) rfl ?_
    refine go_ls [(2, .int _), (1, .int (nI c)), (0, .ref 115)] (List.forall_mem_cons.mpr ⟨rfl, List.forall_mem_cons.mpr ⟨rfl, List.forall_mem_cons.mpr ⟨rfl, fun _ h => absurd h List.not_mem_nil⟩⟩⟩) ?_
    refine lk_ru25 (wI S 115 0 0) T n c hR ho hf hc2 ?_ 0 (Nat.zero_le _)
    refine g_st (T := rcF T n c) (if_neg (by omega)) ?_
    refine go_aload_n 47 dX9_run_46 rfl rfl ?_
    refine go_dup 48 dX9_run_47 rfl rfl ?_
    refine g_getI 51 dX9_run_48 rfl fF_RX9_283 ly_115 rfl ?_
    refine go_iload_n 52 dX9_run_51 rfl rfl ?_
    refine go_iadd 53 dX9_run_52 rfl ?_
    refine g_putI 56 dX9_run_53 rfl fF_RX9_283 ly_115 rfl (fun q hq => by cases hq; rfl) rfl rfl ?_
    refine go_aload_n 57 dX9_run_56 rfl rfl ?_
    refine go_iconst 58 (0) dX9_run_57 rfl (by decide) ?_
    refine g_callV0 61 [.int _] [] dX9_run_58 rfl (ct_X9_evaluates _ _ _ n (ct_X9_refreshes_f _ (by rw [rI_wI, if_neg (by decide), rI_rcF _ _ _ _ _ (by decide) (by decide) (by decide) (by decide)]; exact hf)) (okR_ofN (okR_rcF (k := c) ho) (by rw [rI_wI, if_neg (by decide)]) (fun a c h1 h2 => by rw [rI_wI, if_neg (by omega)]))) rfl sV_X9_run_286 rfl ly_115 rfl rfl (Nat.le_of_ble_eq_true rfl) (Nat.le_of_ble_eq_true rfl) (Nat.le_of_ble_eq_true rfl) ?_
    refine go_iconst 62 (0) dX9_run_61 rfl (by decide) ?_
    refine go_istore_n 63 [(2, .int _), (1, .int _), (0, .ref 115)] dX9_run_62 rfl (Nat.le_of_ble_eq_true rfl) rfl ?_
    refine go_ls [(2, .int _), (1, .int (nI c)), (0, .ref 115)] (List.forall_mem_cons.mpr ⟨rfl, List.forall_mem_cons.mpr ⟨rfl, List.forall_mem_cons.mpr ⟨rfl, fun _ h => absurd h List.not_mem_nil⟩⟩⟩) ?_
    have hoE := okR_evF (b := 0) (k := n) (okR_ofN (T := wI (rcF T n c) 115 11 (rI (rcF T n c) 115 11 + nI c)) (okR_rcF (k := c) ho) (by rw [rI_wI, if_neg (by decide)]) (fun a c h1 h2 => by rw [rI_wI, if_neg (by omega)]))
    refine g_st (tcF_0 _).symm ?_
    refine lk_ru63 _ n c hoE ?_ 0 (Nat.zero_le _)
    refine go_aload_n 90 dX9_run_89 rfl rfl ?_
    refine go_iconst 91 (1) dX9_run_90 rfl (by decide) ?_
    refine g_callV0 94 [.int _] [] dX9_run_91 rfl (ct_X9_evaluates _ _ _ n (ct_X9_refreshes_f _ (by rw [rI_tcF _ _ _ _ (by decide), rI_evF _ _ _ _ _ (by decide), rI_wI, if_neg (by decide), rI_rcF _ _ _ _ _ (by decide) (by decide) (by decide) (by decide)]; exact hf)) (okR_tcF hoE)) rfl sV_X9_run_286 rfl ly_115 rfl rfl (Nat.le_of_ble_eq_true rfl) (Nat.le_of_ble_eq_true rfl) (Nat.le_of_ble_eq_true rfl) ?_
    refine go_iconst 95 (0) dX9_run_94 rfl (by decide) ?_
    refine go_istore_n 96 [(2, .int _), (1, .int _), (0, .ref 115)] dX9_run_95 rfl (Nat.le_of_ble_eq_true rfl) rfl ?_
    refine go_iconst 97 (0) dX9_run_96 rfl (by decide) ?_
    refine go_istore_n 98 [(3, .int _), (2, .int _), (1, .int _), (0, .ref 115)] dX9_run_97 rfl (Nat.le_of_ble_eq_true rfl) rfl ?_
    refine go_ls [(2, .int _), (3, .int _), (1, .int (nI c)), (0, .ref 115)] (List.forall_mem_cons.mpr ⟨rfl, List.forall_mem_cons.mpr ⟨rfl, List.forall_mem_cons.mpr ⟨rfl, List.forall_mem_cons.mpr ⟨rfl, fun _ h => absurd h List.not_mem_nil⟩⟩⟩⟩) ?_
    exact lp_ru98 (ruF T n c) n c (okR_evF (okR_tcF hoE)) 0 (Nat.zero_le _)
  · refine go_aload_n 13 dX9_run_12 rfl rfl ?_
    refine go_iconst 14 (1) dX9_run_13 rfl (by decide) ?_
    refine g_callV 17 [.int _] [] dX9_run_14 rfl (ct_X9_fails _ _) rfl sV_X9_run_132 rfl ly_115 rfl rfl (Nat.le_of_ble_eq_true rfl) (Nat.le_of_ble_eq_true rfl) (Nat.le_of_ble_eq_true rfl) ?_
    refine go_ireturn dX9_run_17 rfl (by first | rfl | exact bi_nar) (Nat.le_of_ble_eq_true rfl) (Nat.le_of_ble_eq_true rfl) ?_
    have hb : ¬ b200 p := bi0.mp hc1
    rw [if_neg hb, if_neg hb]
    exact ⟨rfl, rfl⟩

