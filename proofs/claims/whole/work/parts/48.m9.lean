-- needs 38.math6 47.m8 39.math7
set_option maxRecDepth 100000 in
set_option maxHeartbeats 4000000 in
theorem lk_rf19 {Q : go_Q} (S : gS) (n : Nat) (ho : okR S n) (hB : ∀ i, i < n → lg (-(rL S 125 i).toInt - 1) ≤ 40 ∧ lg (rL S 126 i).toInt ≤ 40) (kx : Go mX9_refreshes false Q 0 0 51 [(1, .int (nI n)), (0, .ref 115)] [] (hp (rfW S (n)))) : ∀ i, i ≤ n → Go mX9_refreshes false Q 0 0 19 [(1, .int (nI i)), (0, .ref 115)] [] (hp (rfW S i)) := by
  refine g_dn _ (n) (fun i hi ih => ?_)
  have h24 := ho.2.1
  have hcl := nI_c (n := i) (by omega)
  refine go_iload_n 20 dX9_refreshes_19 rfl rfl ?_
  refine go_aload_n 21 dX9_refreshes_20 rfl rfl ?_
  refine g_getI 24 dX9_refreshes_21 rfl fF_RX9_102 ly_115 rfl ?_
  refine go_icmp_ge 27 51 dX9_refreshes_24 rfl (by decide) (fun hc1 => ?_) (fun hc1 => ?_)
  · have hv : i = n := by
      have h8 := hc1
      rw [show rI (rfW S i) 115 10 = nI n from (rI_rfW S i 115 10 (by decide) (by decide)).trans ho.1, nI_le2 (by omega) (by omega)] at h8
      omega
    subst hv
    exact kx
  · have hv : i < n := by
      have h8 := hc1
      rw [show rI (rfW S i) 115 10 = nI n from (rI_rfW S i 115 10 (by decide) (by decide)).trans ho.1, nI_le2 (by omega) (by omega)] at h8
      omega
    refine go_aload_n 28 dX9_refreshes_27 rfl rfl ?_
    refine g_getR 31 dX9_refreshes_28 rfl fF_RX9_44 ly_115 rfl ?_
    refine go_iload_n 32 dX9_refreshes_31 rfl rfl ?_
    refine go_aload_n 33 dX9_refreshes_32 rfl rfl ?_
    refine go_iload_n 34 dX9_refreshes_33 rfl rfl ?_
    refine g_callV 37 [.int _] [.int _, .ref 127] dX9_refreshes_34 rfl (ct_X9_widthOfRange _ _ (nI_i (by have := hv; omega) (by omega)) (by rw [hcl]; exact (hB i (by omega)).1) (by rw [hcl]; exact (hB i (by omega)).2)) rfl sV_X9_refreshes_234 rfl ly_115 rfl rfl (Nat.le_of_ble_eq_true rfl) (Nat.le_of_ble_eq_true rfl) (Nat.le_of_ble_eq_true rfl) ?_
    refine g_iast 38 dX9_refreshes_37 rfl ly_127 (nI_i (by have := hv; omega) (by omega)) ?_
    refine go_aload_n 39 dX9_refreshes_38 rfl rfl ?_
    refine g_getR 42 dX9_refreshes_39 rfl fF_RX9_47 ly_115 rfl ?_
    refine go_iload_n 43 dX9_refreshes_42 rfl rfl ?_
    refine go_iconst 44 (0) dX9_refreshes_43 rfl (by decide) ?_
    refine g_iast 45 dX9_refreshes_44 rfl ly_128 (nI_i (by have := hv; omega) (by omega)) ?_
    refine go_iinc 48 [(1, .int _), (0, .ref 115)] (nI (i + 1)) dX9_refreshes_45 rfl (Nat.le_of_ble_eq_true rfl) rfl (nI_inc i) rfl ?_
    refine go_goto 19 dX9_refreshes_48 (by decide) ?_
    refine g_st ?_ (ih (by omega))
    rw [hcl]
    exact rfW_s S i

set_option maxRecDepth 100000 in
set_option maxHeartbeats 4000000 in
theorem lk_rf53 {Q : go_Q} (S : gS) (n : Nat) (ho : okR S n) (kx : Go mX9_refreshes false Q 0 0 84 [(1, .int (nI n)), (0, .ref 115)] [] (hp (rfO S (n)))) : ∀ i, i ≤ n → Go mX9_refreshes false Q 0 0 53 [(1, .int (nI i)), (0, .ref 115)] [] (hp (rfO S i)) := by
  refine g_dn _ (n) (fun i hi ih => ?_)
  have h24 := ho.2.1
  have hcl := nI_c (n := i) (by omega)
  refine go_iload_n 54 dX9_refreshes_53 rfl rfl ?_
  refine go_aload_n 55 dX9_refreshes_54 rfl rfl ?_
  refine g_getI 58 dX9_refreshes_55 rfl fF_RX9_102 ly_115 rfl ?_
  refine go_icmp_ge 61 84 dX9_refreshes_58 rfl (by decide) (fun hc1 => ?_) (fun hc1 => ?_)
  · have hv : i = n := by
      have h8 := hc1
      rw [show rI (rfO S i) 115 10 = nI n from (rI_rfO S i 115 10 (by decide)).trans ho.1, nI_le2 (by omega) (by omega)] at h8
      omega
    subst hv
    exact kx
  · have hv : i < n := by
      have h8 := hc1
      rw [show rI (rfO S i) 115 10 = nI n from (rI_rfO S i 115 10 (by decide)).trans ho.1, nI_le2 (by omega) (by omega)] at h8
      omega
    refine go_aload_n 62 dX9_refreshes_61 rfl rfl ?_
    refine g_getR 65 dX9_refreshes_62 rfl fF_RX9_25 ly_115 rfl ?_
    refine go_iload_n 66 dX9_refreshes_65 rfl rfl ?_
    refine g_iald 67 dX9_refreshes_66 rfl ly_121 (nI_i (by have := hv; omega) (by omega)) ?_
    refine go_iconst 68 (1) dX9_refreshes_67 rfl (by decide) ?_
    refine go_icmp_ne 71 78 dX9_refreshes_68 rfl (by decide) (fun hc2 => ?_) (fun hc2 => ?_)
    · refine go_iinc 81 [(1, .int _), (0, .ref 115)] (nI (i + 1)) dX9_refreshes_78 rfl (Nat.le_of_ble_eq_true rfl) rfl (nI_inc i) rfl ?_
      refine go_goto 53 dX9_refreshes_81 (by decide) ?_
      refine g_st ?_ (ih (by omega))
      rw [hcl] at *
      show _ = o1 i (rfO S i)
      unfold o1
      first | rw [if_pos hc2] | rw [if_neg hc2]
    · refine go_aload_n 72 dX9_refreshes_71 rfl rfl ?_
      refine go_iload_n 73 dX9_refreshes_72 rfl rfl ?_
      refine go_iconst 74 (-1) dX9_refreshes_73 rfl (by decide) ?_
      refine g_callV 77 [.int _, .int _] [] dX9_refreshes_74 rfl (ct_X9_asks _ _ _ (nI_i (by have := hv; omega) (by omega))) rfl sV_X9_refreshes_217 rfl ly_115 rfl rfl (Nat.le_of_ble_eq_true rfl) (Nat.le_of_ble_eq_true rfl) (Nat.le_of_ble_eq_true rfl) ?_
      refine go_pop 78 dX9_refreshes_77 rfl rfl ?_
      refine go_iinc 81 [(1, .int _), (0, .ref 115)] (nI (i + 1)) dX9_refreshes_78 rfl (Nat.le_of_ble_eq_true rfl) rfl (nI_inc i) rfl ?_
      refine go_goto 53 dX9_refreshes_81 (by decide) ?_
      refine g_st ?_ (ih (by omega))
      rw [hcl] at *
      show _ = o1 i (rfO S i)
      unfold o1
      first | rw [if_pos hc2] | rw [if_neg hc2]

set_option maxRecDepth 100000 in
set_option maxHeartbeats 4000000 in
theorem lk_rf99 {Q : go_Q} (S : gS) (n : Nat) (ho : okR S n) (kx : Go mX9_refreshes false Q 0 0 117 [(2, .int (dI n n)), (1, .int (pq S n n).1), (0, .ref 115)] [] (hp ((fun i => (pq S n i).2) (n)))) : ∀ i, i ≤ n → Go mX9_refreshes false Q 0 0 99 [(2, .int (dI n i)), (1, .int (pq S n i).1), (0, .ref 115)] [] (hp ((fun i => (pq S n i).2) i)) := by
  refine g_dn _ (n) (fun i hi ih => ?_)
  have h24 := ho.2.1
  have hng := dI_neg hi h24
  refine go_iload_n 100 dX9_refreshes_99 rfl rfl ?_
  refine go_if_lt 103 117 dX9_refreshes_100 rfl (by decide) (fun hc1 => ?_) (fun hc1 => ?_)
  · have hv : i = n := by
      have h8 := hc1
      rw [hng] at h8
      exact h8
    subst hv
    exact kx
  · have hv : i < n := by
      have h8 := hc1
      rw [hng] at h8
      omega
    have hcl : (dI n i).toNatClampNeg = n - 1 - i := by rw [dI_n hv]; exact nI_c (by omega)
    have hvi : vp_in (dI n i) 24 := by rw [dI_n hv]; exact nI_i (by omega) (by omega)
    refine go_aload_n 104 dX9_refreshes_103 rfl rfl ?_
    refine go_iload_n 105 dX9_refreshes_104 rfl rfl ?_
    refine g_callV 108 [.int _] [] dX9_refreshes_105 rfl (ct_X9_passesOn _ _ hvi (by rw [hcl]; exact okD_of ho (by omega) (fun k j _ h => rI_pq S n i k j h))) rfl sV_X9_refreshes_237 rfl ly_115 rfl rfl (Nat.le_of_ble_eq_true rfl) (Nat.le_of_ble_eq_true rfl) (Nat.le_of_ble_eq_true rfl) ?_
    refine go_iload_n 109 dX9_refreshes_108 rfl rfl ?_
    refine go_ior 110 dX9_refreshes_109 rfl ?_
    refine go_istore_n 111 [(1, .int _), (2, .int _), (0, .ref 115)] dX9_refreshes_110 rfl (Nat.le_of_ble_eq_true rfl) rfl ?_
    refine go_iinc 114 [(2, .int _), (1, .int _), (0, .ref 115)] (dI n (i + 1)) dX9_refreshes_111 rfl (Nat.le_of_ble_eq_true rfl) rfl (dI_s n i) rfl ?_
    refine go_goto 99 dX9_refreshes_114 (by decide) ?_
    have h6 : Go mX9_refreshes false Q 0 0 99 [(2, .int (dI n (i + 1))), (1, .int (q1 n i (pq S n i)).1), (0, .ref 115)] [] (hp (q1 n i (pq S n i)).2) := ih (by omega)
    rw [hcl]
    exact h6

set_option maxRecDepth 100000 in
set_option maxHeartbeats 4000000 in
theorem lk_rf86 {Q : go_Q} (S : gS) (n : Nat) (ho : okR S n) (K : Nat) (hK : pqEnd S n K) (kx : Go mX9_refreshes false Q 0 0 120 [(1, .int 0), (0, .ref 115)] [] (hp (pqS S n (K + 1)))) : ∀ i, i ≤ K + 1 → Go mX9_refreshes false Q 0 0 86 [(1, .int (pqM S n i)), (0, .ref 115)] [] (hp (pqS S n i)) := by
  refine g_dn _ (K + 1) (fun i hi ih => ?_)
  have h24 := ho.2.1
  refine go_iload_n 87 dX9_refreshes_86 rfl rfl ?_
  refine go_if_eq 90 120 dX9_refreshes_87 rfl (by decide) (fun hc1 => ?_) (fun hc1 => ?_)
  · have hv : i = K + 1 := by
      rcases Nat.lt_or_ge K i with q | q
      · omega
      · exact absurd hc1 (hK.1 i q)
    subst hv
    have e0 : pqM S n (K + 1) = 0 := hK.2
    rw [e0]
    exact kx
  · have hv : i ≤ K := by
      rcases Nat.lt_or_ge K i with q | q
      · have e9 : i = K + 1 := by omega
        subst e9
        exact absurd hK.2 hc1
      · exact q
    have hoK : okR (pqS S n i) n := okR_of2 ho (rI_pqS _ _ _ _ _ (by decide)) (fun k j _ h => rI_pqS _ _ _ _ _ (by omega))
    refine go_iconst 91 (0) dX9_refreshes_90 rfl (by decide) ?_
    refine go_istore_n 92 [(1, .int _), (0, .ref 115)] dX9_refreshes_91 rfl (Nat.le_of_ble_eq_true rfl) rfl ?_
    refine go_aload_n 93 dX9_refreshes_92 rfl rfl ?_
    refine g_getI 96 dX9_refreshes_93 rfl fF_RX9_102 ly_115 rfl ?_
    refine go_iconst 97 (1) dX9_refreshes_96 rfl (by decide) ?_
    refine go_isub 98 dX9_refreshes_97 rfl ?_
    refine go_topi (dI n 0) (by rw [show rI (pqS S n i) 115 10 = nI n from hoK.1]; exact dI_0 n) ?_
    refine go_istore_n 99 [(2, .int _), (1, .int _), (0, .ref 115)] dX9_refreshes_98 rfl (Nat.le_of_ble_eq_true rfl) rfl ?_
    refine go_ls [(2, .int _), (1, .int _), (0, .ref 115)] (List.forall_mem_cons.mpr ⟨rfl, List.forall_mem_cons.mpr ⟨rfl, List.forall_mem_cons.mpr ⟨rfl, fun _ h => absurd h List.not_mem_nil⟩⟩⟩) ?_
    refine lk_rf99 _ n hoK ?_ 0 (Nat.zero_le _)
    refine go_goto 86 dX9_refreshes_117 (by decide) ?_
    refine go_ls [(1, .int _), (0, .ref 115)] (List.forall_mem_cons.mpr ⟨rfl, List.forall_mem_cons.mpr ⟨rfl, fun _ h => absurd h List.not_mem_nil⟩⟩) ?_
    exact ih (by omega)

def rfT (S : gS) (n K G : Nat) : gS := pqS (rfO (rfW (rnS (wI (iniF (wI S 115 15 1) n) 115 14 0) n (K + 1)) n) n) n (G + 1)
set_option maxRecDepth 100000 in
set_option maxHeartbeats 4000000 in
theorem ct_X9_refreshes (S : gS) (n : Nat) (ho : okR S n) (K : Nat) (hK : rnEnd (wI (iniF (wI S 115 15 1) n) 115 14 0) n K) (hB : ∀ i, i < n → lg (-(rL (rnS (wI (iniF (wI S 115 15 1) n) 115 14 0) n (K + 1)) 125 i).toInt - 1) ≤ 40 ∧ lg (rL (rnS (wI (iniF (wI S 115 15 1) n) 115 14 0) n (K + 1)) 126 i).toInt ≤ 40) (G : Nat) (hG : pqEnd (rfO (rfW (rnS (wI (iniF (wI S 115 15 1) n) 115 14 0) n (K + 1)) n) n) n G) : gF mX9_refreshes [.ref 115] S none (if rI S 115 15 = 0 then rfT S n K G else S) := by
  refine go_enter [.ref 115] [(0, .ref 115)] (by decide +kernel) rfl rfl (Nat.le_of_ble_eq_true rfl) rfl ?_
  refine go_aload_n 1 dX9_refreshes_0 rfl rfl ?_
  refine g_getI 4 dX9_refreshes_1 rfl fF_RX9_227 ly_115 rfl ?_
  refine go_if_eq 7 8 dX9_refreshes_4 rfl (by decide) (fun hc1 => ?_) (fun hc1 => ?_)
  · rw [if_pos hc1]
    have ho1 : okR (wI S 115 15 1) n := okR_of ho rfl (fun k j hk => by rw [rI_wI, if_neg (by omega)])
    have ho2 : okR (rnS (wI (iniF (wI S 115 15 1) n) 115 14 0) n (K + 1)) n := okR_of ho1 (by rw [rI_rnS _ _ _ _ _ (by decide), rI_wI, if_neg (by decide)]; rfl) (fun k j hk => by rw [rI_rnS _ _ _ _ _ (by omega), rI_wI, if_neg (by omega)]; rfl)
    have ho3 : okR (rfW (rnS (wI (iniF (wI S 115 15 1) n) 115 14 0) n (K + 1)) n) n := okR_of2 ho2 (rI_rfW _ _ _ _ (by decide) (by decide)) (fun k j _ h => rI_rfW _ _ _ _ (by omega) (by omega))
    have ho4 : okR (rfO (rfW (rnS (wI (iniF (wI S 115 15 1) n) 115 14 0) n (K + 1)) n) n) n := okR_of2 ho3 (rI_rfO _ _ _ _ (by decide)) (fun k j _ h => rI_rfO _ _ _ _ (by omega))
    refine go_aload_n 9 dX9_refreshes_8 rfl rfl ?_
    refine go_iconst 10 (1) dX9_refreshes_9 rfl (by decide) ?_
    refine g_putI 13 dX9_refreshes_10 rfl fF_RX9_227 ly_115 rfl (fun q hq => by cases hq; rfl) rfl rfl ?_
    refine go_aload_n 14 dX9_refreshes_13 rfl rfl ?_
    refine g_callV0 17 [] [] dX9_refreshes_14 rfl (ct_X9_findRanges _ n ho1 K hK) rfl sV_X9_refreshes_231 rfl ly_115 rfl rfl (Nat.le_of_ble_eq_true rfl) (Nat.le_of_ble_eq_true rfl) (Nat.le_of_ble_eq_true rfl) ?_
    refine go_iconst 18 (0) dX9_refreshes_17 rfl (by decide) ?_
    refine go_istore_n 19 [(1, .int _), (0, .ref 115)] dX9_refreshes_18 rfl (Nat.le_of_ble_eq_true rfl) rfl ?_
    refine go_ls [(1, .int _), (0, .ref 115)] (List.forall_mem_cons.mpr ⟨rfl, List.forall_mem_cons.mpr ⟨rfl, fun _ h => absurd h List.not_mem_nil⟩⟩) ?_
    refine g_st (rfW_0 (rnS (wI (iniF (wI S 115 15 1) n) 115 14 0) n (K + 1))).symm ?_
    refine lk_rf19 _ n ho2 hB ?_ 0 (Nat.zero_le _)
    refine go_iconst 52 (0) dX9_refreshes_51 rfl (by decide) ?_
    refine go_istore_n 53 [(1, .int _), (0, .ref 115)] dX9_refreshes_52 rfl (Nat.le_of_ble_eq_true rfl) rfl ?_
    refine go_ls [(1, .int _), (0, .ref 115)] (List.forall_mem_cons.mpr ⟨rfl, List.forall_mem_cons.mpr ⟨rfl, fun _ h => absurd h List.not_mem_nil⟩⟩) ?_
    refine lk_rf53 _ n ho3 ?_ 0 (Nat.zero_le _)
    refine go_iconst 85 (1) dX9_refreshes_84 rfl (by decide) ?_
    refine go_istore_n 86 [(1, .int _), (0, .ref 115)] dX9_refreshes_85 rfl (Nat.le_of_ble_eq_true rfl) rfl ?_
    refine go_ls [(1, .int _), (0, .ref 115)] (List.forall_mem_cons.mpr ⟨rfl, List.forall_mem_cons.mpr ⟨rfl, fun _ h => absurd h List.not_mem_nil⟩⟩) ?_
    refine lk_rf86 _ n ho4 G hG ?_ 0 (Nat.zero_le _)
    refine go_return dX9_refreshes_120 rfl (Nat.le_of_ble_eq_true rfl) (Nat.le_of_ble_eq_true rfl) ?_
    exact ⟨rfl, rfl⟩
  · refine go_return dX9_refreshes_7 rfl (Nat.le_of_ble_eq_true rfl) (Nat.le_of_ble_eq_true rfl) ?_
    rw [if_neg hc1]
    exact ⟨rfl, rfl⟩
