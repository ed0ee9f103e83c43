-- needs 50.units 52.exec 51.m10 53.m11
theorem okS_of2 {S T : gS} {j : Nat} (h : okS S j) (e : ∀ k, 116 ≤ k → k ≤ 119 → rI T k j = rI S k j) : okS T j := by
  unfold okS
  rw [e 116 (by decide) (by decide), e 117 (by decide) (by decide), e 118 (by decide) (by decide), e 119 (by decide) (by decide)]
  exact h
set_option maxRecDepth 100000 in
set_option maxHeartbeats 4000000 in
theorem lk_ev6 {Q : go_Q} (S : gS) (b : Int32) (n : Nat) (ho : okR S n) (kx : Go mX9_evaluates false Q 0 0 96 [(2, .int (nI n)), (1, .int b), (0, .ref 115)] [] (hp (evF S b (n)))) : ∀ i, i ≤ n → Go mX9_evaluates false Q 0 0 6 [(2, .int (nI i)), (1, .int b), (0, .ref 115)] [] (hp (evF S b i)) := by
  refine g_dn _ (n) (fun i hi ih => ?_)
  have h24 := ho.2.1
  have hcl := nI_c (n := i) (by omega)
  refine go_iload_n 7 dX9_evaluates_6 rfl rfl ?_
  refine go_aload_n 8 dX9_evaluates_7 rfl rfl ?_
  refine g_getI 11 dX9_evaluates_8 rfl fF_RX9_102 ly_115 rfl ?_
  refine go_icmp_ge 14 96 dX9_evaluates_11 rfl (by decide) (fun hc1 => ?_) (fun hc1 => ?_)
  · have hv : i = n := by
      have h8 := hc1
      rw [show rI (evF S b i) 115 10 = nI n from (rI_evF S b i 115 10 (by decide)).trans ho.1, nI_le2 (by omega) (by omega)] at h8
      omega
    subst hv
    refine go_ls [(2, .int _), (1, .int b), (0, .ref 115)] (List.forall_mem_cons.mpr ⟨rfl, List.forall_mem_cons.mpr ⟨rfl, List.forall_mem_cons.mpr ⟨rfl, fun _ h => absurd h List.not_mem_nil⟩⟩⟩) ?_
    exact kx
  · have hv : i < n := by
      have h8 := hc1
      rw [show rI (evF S b i) 115 10 = nI n from (rI_evF S b i 115 10 (by decide)).trans ho.1, nI_le2 (by omega) (by omega)] at h8
      omega
    refine go_aload_n 15 dX9_evaluates_14 rfl rfl ?_
    refine g_getR 18 dX9_evaluates_15 rfl fF_RX9_7 ly_115 rfl ?_
    refine go_iload_n 19 dX9_evaluates_18 rfl rfl ?_
    refine g_iald 20 dX9_evaluates_19 rfl ly_116 (nI_i (by have := hv; omega) (by omega)) ?_
    refine go_if_ne 23 32 dX9_evaluates_20 rfl (by decide) (fun hc2 => ?_) (fun hc2 => ?_)
    · refine go_aload_n 33 dX9_evaluates_32 rfl rfl ?_
      refine g_getR 36 dX9_evaluates_33 rfl fF_RX9_7 ly_115 rfl ?_
      refine go_iload_n 37 dX9_evaluates_36 rfl rfl ?_
      refine g_iald 38 dX9_evaluates_37 rfl ly_116 (nI_i (by have := hv; omega) (by omega)) ?_
      refine go_iconst 39 (2) dX9_evaluates_38 rfl (by decide) ?_
      refine go_icmp_ne 42 64 dX9_evaluates_39 rfl (by decide) (fun hc3 => ?_) (fun hc3 => ?_)
      · refine go_aload_n 65 dX9_evaluates_64 rfl rfl ?_
        refine go_iload_n 66 dX9_evaluates_65 rfl rfl ?_
        refine g_callV 69 [.int _] [] dX9_evaluates_66 rfl (ct_X9_computed _ _ (nI_i (by have := hv; omega) (by omega)) (by rw [hcl]; exact okS_of2 (ho.2.2 i (by omega)).1 (fun k h1 h2 => rI_evF S b i k i (by omega))) (by rw [hcl] at *; assumption) (by rw [hcl] at *; assumption)) rfl sV_X9_evaluates_277 rfl ly_115 rfl rfl (Nat.le_of_ble_eq_true rfl) (Nat.le_of_ble_eq_true rfl) (Nat.le_of_ble_eq_true rfl) ?_
        refine go_topi (evI (evF S b i) i b) (by unfold evI; rw [hcl] at *; simp_all) ?_
        refine go_istore_n 70 [(3, .int _), (2, .int _), (1, .int _), (0, .ref 115)] dX9_evaluates_69 rfl (Nat.le_of_ble_eq_true rfl) rfl ?_
        refine go_aload_n 71 dX9_evaluates_70 rfl rfl ?_
        refine g_getR 74 dX9_evaluates_71 rfl fF_RX9_68 ly_115 rfl ?_
        refine go_iload_n 75 dX9_evaluates_74 rfl rfl ?_
        refine go_iload_n 76 dX9_evaluates_75 rfl rfl ?_
        refine go_if_eq 79 88 dX9_evaluates_76 rfl (by decide) (fun hc4 => ?_) (fun hc4 => ?_)
        · refine go_iload_n 89 dX9_evaluates_88 rfl rfl ?_
          refine go_topi (if b = 0 then evI (evF S b i) i b else naF (evF S b i) i (evI (evF S b i) i b)) (by rw [hcl] at *; simp_all) ?_
          refine g_iast 90 dX9_evaluates_89 rfl ly_135 (nI_i (by have := hv; omega) (by omega)) ?_
          refine go_iinc 93 [(2, .int _), (3, .int _), (1, .int _), (0, .ref 115)] (nI (i + 1)) dX9_evaluates_90 rfl (Nat.le_of_ble_eq_true rfl) rfl (nI_inc i) rfl ?_
          refine go_goto 6 dX9_evaluates_93 (by decide) ?_
          refine go_ls [(2, .int _), (1, .int b), (0, .ref 115)] (List.forall_mem_cons.mpr ⟨rfl, List.forall_mem_cons.mpr ⟨rfl, List.forall_mem_cons.mpr ⟨rfl, fun _ h => absurd h List.not_mem_nil⟩⟩⟩) ?_
          refine g_st ?_ (ih (by omega))
          rw [hcl]
          rfl
        · refine go_aload_n 80 dX9_evaluates_79 rfl rfl ?_
          refine go_iload_n 81 dX9_evaluates_80 rfl rfl ?_
          refine go_iload_n 82 dX9_evaluates_81 rfl rfl ?_
          refine g_callV 85 [.int _, .int _] [.int _, .ref 135] dX9_evaluates_82 rfl (ct_X9_narrowed _ _ _ (nI_i (by have := hv; omega) (by omega))) rfl sV_X9_evaluates_280 rfl ly_115 rfl rfl (Nat.le_of_ble_eq_true rfl) (Nat.le_of_ble_eq_true rfl) (Nat.le_of_ble_eq_true rfl) ?_
          refine go_goto 89 dX9_evaluates_85 (by decide) ?_
          refine go_topi (if b = 0 then evI (evF S b i) i b else naF (evF S b i) i (evI (evF S b i) i b)) (by rw [hcl] at *; simp_all) ?_
          refine g_iast 90 dX9_evaluates_89 rfl ly_135 (nI_i (by have := hv; omega) (by omega)) ?_
          refine go_iinc 93 [(2, .int _), (3, .int _), (1, .int _), (0, .ref 115)] (nI (i + 1)) dX9_evaluates_90 rfl (Nat.le_of_ble_eq_true rfl) rfl (nI_inc i) rfl ?_
          refine go_goto 6 dX9_evaluates_93 (by decide) ?_
          refine go_ls [(2, .int _), (1, .int b), (0, .ref 115)] (List.forall_mem_cons.mpr ⟨rfl, List.forall_mem_cons.mpr ⟨rfl, List.forall_mem_cons.mpr ⟨rfl, fun _ h => absurd h List.not_mem_nil⟩⟩⟩) ?_
          refine g_st ?_ (ih (by omega))
          rw [hcl]
          rfl
      · refine go_iload_n 43 dX9_evaluates_42 rfl rfl ?_
        refine go_if_eq 46 55 dX9_evaluates_43 rfl (by decide) (fun hc5 => ?_) (fun hc5 => ?_)
        · refine go_aload_n 56 dX9_evaluates_55 rfl rfl ?_
          refine g_getR 59 dX9_evaluates_56 rfl fF_RX9_31 ly_115 rfl ?_
          refine go_iload_n 60 dX9_evaluates_59 rfl rfl ?_
          refine g_iald 61 dX9_evaluates_60 rfl ly_123 (nI_i (by have := hv; omega) (by omega)) ?_
          refine go_goto 69 dX9_evaluates_61 (by decide) ?_
          refine go_topi (evI (evF S b i) i b) (by unfold evI; rw [hcl] at *; simp_all) ?_
          refine go_istore_n 70 [(3, .int _), (2, .int _), (1, .int _), (0, .ref 115)] dX9_evaluates_69 rfl (Nat.le_of_ble_eq_true rfl) rfl ?_
          refine go_aload_n 71 dX9_evaluates_70 rfl rfl ?_
          refine g_getR 74 dX9_evaluates_71 rfl fF_RX9_68 ly_115 rfl ?_
          refine go_iload_n 75 dX9_evaluates_74 rfl rfl ?_
          refine go_iload_n 76 dX9_evaluates_75 rfl rfl ?_
          refine go_if_eq 79 88 dX9_evaluates_76 rfl (by decide) (fun hc6 => ?_) (fun hc6 => ?_)
          · refine go_iload_n 89 dX9_evaluates_88 rfl rfl ?_
            refine go_topi (if b = 0 then evI (evF S b i) i b else naF (evF S b i) i (evI (evF S b i) i b)) (by rw [hcl] at *; simp_all) ?_
            refine g_iast 90 dX9_evaluates_89 rfl ly_135 (nI_i (by have := hv; omega) (by omega)) ?_
            refine go_iinc 93 [(2, .int _), (3, .int _), (1, .int _), (0, .ref 115)] (nI (i + 1)) dX9_evaluates_90 rfl (Nat.le_of_ble_eq_true rfl) rfl (nI_inc i) rfl ?_
            refine go_goto 6 dX9_evaluates_93 (by decide) ?_
            refine go_ls [(2, .int _), (1, .int b), (0, .ref 115)] (List.forall_mem_cons.mpr ⟨rfl, List.forall_mem_cons.mpr ⟨rfl, List.forall_mem_cons.mpr ⟨rfl, fun _ h => absurd h List.not_mem_nil⟩⟩⟩) ?_
            refine g_st ?_ (ih (by omega))
            rw [hcl]
            rfl
          · refine go_aload_n 80 dX9_evaluates_79 rfl rfl ?_
            refine go_iload_n 81 dX9_evaluates_80 rfl rfl ?_
            refine go_iload_n 82 dX9_evaluates_81 rfl rfl ?_
            refine g_callV 85 [.int _, .int _] [.int _, .ref 135] dX9_evaluates_82 rfl (ct_X9_narrowed _ _ _ (nI_i (by have := hv; omega) (by omega))) rfl sV_X9_evaluates_280 rfl ly_115 rfl rfl (Nat.le_of_ble_eq_true rfl) (Nat.le_of_ble_eq_true rfl) (Nat.le_of_ble_eq_true rfl) ?_
            refine go_goto 89 dX9_evaluates_85 (by decide) ?_
            refine go_topi (if b = 0 then evI (evF S b i) i b else naF (evF S b i) i (evI (evF S b i) i b)) (by rw [hcl] at *; simp_all) ?_
            refine g_iast 90 dX9_evaluates_89 rfl ly_135 (nI_i (by have := hv; omega) (by omega)) ?_
            refine go_iinc 93 [(2, .int _), (3, .int _), (1, .int _), (0, .ref 115)] (nI (i + 1)) dX9_evaluates_90 rfl (Nat.le_of_ble_eq_true rfl) rfl (nI_inc i) rfl ?_
            refine go_goto 6 dX9_evaluates_93 (by decide) ?_
            refine go_ls [(2, .int _), (1, .int b), (0, .ref 115)] (List.forall_mem_cons.mpr ⟨rfl, List.forall_mem_cons.mpr ⟨rfl, List.forall_mem_cons.mpr ⟨rfl, fun _ h => absurd h List.not_mem_nil⟩⟩⟩) ?_
            refine g_st ?_ (ih (by omega))
            rw [hcl]
            rfl
        · refine go_aload_n 47 dX9_evaluates_46 rfl rfl ?_
          refine g_getR 50 dX9_evaluates_47 rfl fF_RX9_34 ly_115 rfl ?_
          refine go_iload_n 51 dX9_evaluates_50 rfl rfl ?_
          refine g_iald 52 dX9_evaluates_51 rfl ly_124 (nI_i (by have := hv; omega) (by omega)) ?_
          refine go_goto 69 dX9_evaluates_52 (by decide) ?_
          refine go_topi (evI (evF S b i) i b) (by unfold evI; rw [hcl] at *; simp_all) ?_
          refine go_istore_n 70 [(3, .int _), (2, .int _), (1, .int _), (0, .ref 115)] dX9_evaluates_69 rfl (Nat.le_of_ble_eq_true rfl) rfl ?_
          refine go_aload_n 71 dX9_evaluates_70 rfl rfl ?_
          refine g_getR 74 dX9_evaluates_71 rfl fF_RX9_68 ly_115 rfl ?_
          refine go_iload_n 75 dX9_evaluates_74 rfl rfl ?_
          refine go_iload_n 76 dX9_evaluates_75 rfl rfl ?_
          refine go_if_eq 79 88 dX9_evaluates_76 rfl (by decide) (fun hc7 => ?_) (fun hc7 => ?_)
          · refine go_iload_n 89 dX9_evaluates_88 rfl rfl ?_
            refine go_topi (if b = 0 then evI (evF S b i) i b else naF (evF S b i) i (evI (evF S b i) i b)) (by rw [hcl] at *; simp_all) ?_
            refine g_iast 90 dX9_evaluates_89 rfl ly_135 (nI_i (by have := hv; omega) (by omega)) ?_
            refine go_iinc 93 [(2, .int _), (3, .int _), (1, .int _), (0, .ref 115)] (nI (i + 1)) dX9_evaluates_90 rfl (Nat.le_of_ble_eq_true rfl) rfl (nI_inc i) rfl ?_
            refine go_goto 6 dX9_evaluates_93 (by decide) ?_
            refine go_ls [(2, .int _), (1, .int b), (0, .ref 115)] (List.forall_mem_cons.mpr ⟨rfl, List.forall_mem_cons.mpr ⟨rfl, List.forall_mem_cons.mpr ⟨rfl, fun _ h => absurd h List.not_mem_nil⟩⟩⟩) ?_
            refine g_st ?_ (ih (by omega))
            rw [hcl]
            rfl
          · refine go_aload_n 80 dX9_evaluates_79 rfl rfl ?_
            refine go_iload_n 81 dX9_evaluates_80 rfl rfl ?_
            refine go_iload_n 82 dX9_evaluates_81 rfl rfl ?_
            refine g_callV 85 [.int _, .int _] [.int _, .ref 135] dX9_evaluates_82 rfl (ct_X9_narrowed _ _ _ (nI_i (by have := hv; omega) (by omega))) rfl sV_X9_evaluates_280 rfl ly_115 rfl rfl (Nat.le_of_ble_eq_true rfl) (Nat.le_of_ble_eq_true rfl) (Nat.le_of_ble_eq_true rfl) ?_
            refine go_goto 89 dX9_evaluates_85 (by decide) ?_
            refine go_topi (if b = 0 then evI (evF S b i) i b else naF (evF S b i) i (evI (evF S b i) i b)) (by rw [hcl] at *; simp_all) ?_
            refine g_iast 90 dX9_evaluates_89 rfl ly_135 (nI_i (by have := hv; omega) (by omega)) ?_
            refine go_iinc 93 [(2, .int _), (3, .int _), (1, .int _), (0, .ref 115)] (nI (i + 1)) dX9_evaluates_90 rfl (Nat.le_of_ble_eq_true rfl) rfl (nI_inc i) rfl ?_
            refine go_goto 6 dX9_evaluates_93 (by decide) ?_
            refine go_ls [(2, .int _), (1, .int b), (0, .ref 115)] (List.forall_mem_cons.mpr ⟨rfl, List.forall_mem_cons.mpr ⟨rfl, List.forall_mem_cons.mpr ⟨rfl, fun _ h => absurd h List.not_mem_nil⟩⟩⟩) ?_
            refine g_st ?_ (ih (by omega))
            rw [hcl]
            rfl
    · refine go_aload_n 24 dX9_evaluates_23 rfl rfl ?_
      refine g_getR 27 dX9_evaluates_24 rfl fF_RX9_31 ly_115 rfl ?_
      refine go_iload_n 28 dX9_evaluates_27 rfl rfl ?_
      refine g_iald 29 dX9_evaluates_28 rfl ly_123 (nI_i (by have := hv; omega) (by omega)) ?_
      refine go_goto 69 dX9_evaluates_29 (by decide) ?_
      refine go_topi (evI (evF S b i) i b) (by unfold evI; rw [hcl] at *; simp_all) ?_
      refine go_istore_n 70 [(3, .int _), (2, .int _), (1, .int _), (0, .ref 115)] dX9_evaluates_69 rfl (Nat.le_of_ble_eq_true rfl) rfl ?_
      refine go_aload_n 71 dX9_evaluates_70 rfl rfl ?_
      refine g_getR 74 dX9_evaluates_71 rfl fF_RX9_68 ly_115 rfl ?_
      refine go_iload_n 75 dX9_evaluates_74 rfl rfl ?_
      refine go_iload_n 76 dX9_evaluates_75 rfl rfl ?_
      refine go_if_eq 79 88 dX9_evaluates_76 rfl (by decide) (fun hc8 => ?_) (fun hc8 => ?_)
      · refine go_iload_n 89 dX9_evaluates_88 rfl rfl ?_
        refine go_topi (if b = 0 then evI (evF S b i) i b else naF (evF S b i) i (evI (evF S b i) i b)) (by rw [hcl] at *; simp_all) ?_
        refine g_iast 90 dX9_evaluates_89 rfl ly_135 (nI_i (by have := hv; omega) (by omega)) ?_
        refine go_iinc 93 [(2, .int _), (3, .int _), (1, .int _), (0, .ref 115)] (nI (i + 1)) dX9_evaluates_90 rfl (Nat.le_of_ble_eq_true rfl) rfl (nI_inc i) rfl ?_
        refine go_goto 6 dX9_evaluates_93 (by decide) ?_
        refine go_ls [(2, .int _), (1, .int b), (0, .ref 115)] (List.forall_mem_cons.mpr ⟨rfl, List.forall_mem_cons.mpr ⟨rfl, List.forall_mem_cons.mpr ⟨rfl, fun _ h => absurd h List.not_mem_nil⟩⟩⟩) ?_
        refine g_st ?_ (ih (by omega))
        rw [hcl]
        rfl
      · refine go_aload_n 80 dX9_evaluates_79 rfl rfl ?_
        refine go_iload_n 81 dX9_evaluates_80 rfl rfl ?_
        refine go_iload_n 82 dX9_evaluates_81 rfl rfl ?_
        refine g_callV 85 [.int _, .int _] [.int _, .ref 135] dX9_evaluates_82 rfl (ct_X9_narrowed _ _ _ (nI_i (by have := hv; omega) (by omega))) rfl sV_X9_evaluates_280 rfl ly_115 rfl rfl (Nat.le_of_ble_eq_true rfl) (Nat.le_of_ble_eq_true rfl) (Nat.le_of_ble_eq_true rfl) ?_
        refine go_goto 89 dX9_evaluates_85 (by decide) ?_
        refine go_topi (if b = 0 then evI (evF S b i) i b else naF (evF S b i) i (evI (evF S b i) i b)) (by rw [hcl] at *; simp_all) ?_
        refine g_iast 90 dX9_evaluates_89 rfl ly_135 (nI_i (by have := hv; omega) (by omega)) ?_
        refine go_iinc 93 [(2, .int _), (3, .int _), (1, .int _), (0, .ref 115)] (nI (i + 1)) dX9_evaluates_90 rfl (Nat.le_of_ble_eq_true rfl) rfl (nI_inc i) rfl ?_
        refine go_goto 6 dX9_evaluates_93 (by decide) ?_
        refine go_ls [(2, .int _), (1, .int b), (0, .ref 115)] (List.forall_mem_cons.mpr ⟨rfl, List.forall_mem_cons.mpr ⟨rfl, List.forall_mem_cons.mpr ⟨rfl, fun _ h => absurd h List.not_mem_nil⟩⟩⟩) ?_
        refine g_st ?_ (ih (by omega))
        rw [hcl]
        rfl

set_option maxRecDepth 100000 in
set_option maxHeartbeats 4000000 in
theorem ct_X9_evaluates (S T : gS) (b : Int32) (n : Nat) (hR : gF mX9_refreshes [.ref 115] S none T) (ho : okR T n) : gF mX9_evaluates [.ref 115, .int b] S none (evF T b n) := by
  refine go_enter [.ref 115, .int b] [(0, .ref 115), (1, .int b)] (by decide +kernel) rfl rfl (Nat.le_of_ble_eq_true rfl) rfl ?_
  refine go_aload_n 1 dX9_evaluates_0 rfl rfl ?_
  refine g_callV0 4 [] [] dX9_evaluates_1 rfl hR rfl sV_X9_evaluates_243 rfl ly_115 rfl rfl (Nat.le_of_ble_eq_true rfl) (Nat.le_of_ble_eq_true rfl) (Nat.le_of_ble_eq_true rfl) ?_
  refine go_iconst 5 (0) dX9_evaluates_4 rfl (by decide) ?_
  refine go_istore_n 6 [(2, .int _), (0, .ref 115), (1, .int _)] dX9_evaluates_5 rfl (Nat.le_of_ble_eq_true rfl) rfl ?_
  refine go_ls [(2, .int _), (1, .int b), (0, .ref 115)] (List.forall_mem_cons.mpr ⟨rfl, List.forall_mem_cons.mpr ⟨rfl, List.forall_mem_cons.mpr ⟨rfl, fun _ h => absurd h List.not_mem_nil⟩⟩⟩) ?_
  refine lk_ev6 T b n ho ?_ 0 (Nat.zero_le _)
  refine go_return dX9_evaluates_96 rfl (Nat.le_of_ble_eq_true rfl) (Nat.le_of_ble_eq_true rfl) ?_
  exact ⟨rfl, rfl⟩
