-- needs 
theorem rI_same (S : gS) (k j : Nat) (v : Int32) : rI (wI S k j v) k j = v := by rw [rI_wI, if_pos ⟨rfl, rfl⟩]
section GQ5
variable {M : go_M} {x : Bool} {Q : go_Q} {cl sl pc : Nat} {ls : List (Nat × Value)} {st : List Value} {h : go_H}
theorem g_l12 {p q : Nat} {a a' c c' : Int32} (e : a = a') (e2 : c = c') (k : Go M x Q cl sl pc ((p, .int a') :: (q, .int c') :: ls) st h) : Go M x Q cl sl pc ((p, .int a) :: (q, .int c) :: ls) st h := by rw [e, e2]; exact k
end GQ5
def f_X6_costWith (S : gS) (u w m : Int32) : Int32 := ((f_X8_costFor ((rI S 45 u.toNatClampNeg)) w) + (w * (m - 1)))
set_option maxRecDepth 100000 in
set_option maxHeartbeats 1000000 in
theorem ct_X6_costWith (S : gS) (u w m : Int32) (hu : vp_in u 24) : gF mX6_costWith [.ref 44, .int u, .int w, .int m] S (some (.int (f_X6_costWith S u w m))) S := by
  refine go_enter [.ref 44, .int u, .int w, .int m] [(0, .ref 44), (1, .int u), (2, .int w), (3, .int m)] (by decide +kernel) rfl rfl (Nat.le_of_ble_eq_true rfl) rfl ?_
  refine go_aload_n 1 dX6_costWith_0 rfl rfl ?_
  refine g_getR 4 dX6_costWith_1 rfl fF_RX6_15 ly_44 rfl ?_
  refine go_iload_n 5 dX6_costWith_4 rfl rfl ?_
  refine g_iald2 6 _ dX6_costWith_5 rfl ly_45 hu rfl ?_
  refine go_iload_n 7 dX6_costWith_6 rfl rfl ?_
  refine g_callSN 10 [.int _, .int _] [] dX6_costWith_7 rfl (ct_X8_costFor _ _ _) rfl sV_X6_costWith_67 rfl (Nat.le_of_ble_eq_true rfl) (Nat.le_of_ble_eq_true rfl) (Nat.le_of_ble_eq_true rfl) ?_
  refine go_iload_n 11 dX6_costWith_10 rfl rfl ?_
  refine go_iload_n 12 dX6_costWith_11 rfl rfl ?_
  refine go_iconst 13 (1) dX6_costWith_12 rfl (by decide) ?_
  refine go_isub 14 dX6_costWith_13 rfl ?_
  refine go_imul 15 dX6_costWith_14 rfl ?_
  refine go_iadd 16 dX6_costWith_15 rfl ?_
  refine go_ireturn dX6_costWith_16 rfl (by first | rfl | exact bi_nar) (Nat.le_of_ble_eq_true rfl) (Nat.le_of_ble_eq_true rfl) ?_
  exact ⟨congrArg (fun z => some (Value.int z)) rfl, rfl⟩

def f_X6_costOf (S : gS) (u : Int32) : Int32 := (f_X6_costWith S u ((rI S 46 u.toNatClampNeg)) ((rI S 47 u.toNatClampNeg)))
set_option maxRecDepth 100000 in
set_option maxHeartbeats 1000000 in
theorem ct_X6_costOf (S : gS) (u : Int32) (hu : vp_in u 24) : gF mX6_costOf [.ref 44, .int u] S (some (.int (f_X6_costOf S u))) S := by
  refine go_enter [.ref 44, .int u] [(0, .ref 44), (1, .int u)] (by decide +kernel) rfl rfl (Nat.le_of_ble_eq_true rfl) rfl ?_
  refine go_aload_n 1 dX6_costOf_0 rfl rfl ?_
  refine go_iload_n 2 dX6_costOf_1 rfl rfl ?_
  refine go_aload_n 3 dX6_costOf_2 rfl rfl ?_
  refine g_getR 6 dX6_costOf_3 rfl fF_RX6_19 ly_44 rfl ?_
  refine go_iload_n 7 dX6_costOf_6 rfl rfl ?_
  refine g_iald2 8 _ dX6_costOf_7 rfl ly_46 hu rfl ?_
  refine go_aload_n 9 dX6_costOf_8 rfl rfl ?_
  refine g_getR 12 dX6_costOf_9 rfl fF_RX6_22 ly_44 rfl ?_
  refine go_iload_n 13 dX6_costOf_12 rfl rfl ?_
  refine g_iald2 14 _ dX6_costOf_13 rfl ly_47 hu rfl ?_
  refine g_callV 17 [.int _, .int _, .int _] [] dX6_costOf_14 rfl (ct_X6_costWith _ _ _ _ hu) rfl sV_X6_costOf_47 rfl ly_44 rfl rfl (Nat.le_of_ble_eq_true rfl) (Nat.le_of_ble_eq_true rfl) (Nat.le_of_ble_eq_true rfl) ?_
  refine go_ireturn dX6_costOf_17 rfl (by first | rfl | exact bi_nar) (Nat.le_of_ble_eq_true rfl) (Nat.le_of_ble_eq_true rfl) ?_
  exact ⟨congrArg (fun z => some (Value.int z)) rfl, rfl⟩

def bd_uAll (S : gS) (i : Nat) (p : Int32) : Int32 := (p + (f_X6_costOf S ((nI i))))
set_option maxRecDepth 100000 in
set_option maxHeartbeats 1000000 in
theorem lk_uAll {Q : go_Q} (S : gS)  (m : Nat) (s0 : Int32)  (hT : (rI S 44 0 = nI m ∧ m ≤ 24)) (kx : Go mX6_costOfAll false Q 0 0 26 [(1, .int (itr (bd_uAll S) m s0)), (2, .int (nI m)), (0, .ref 44)] [] (hp S)) : ∀ i, i ≤ m → Go mX6_costOfAll false Q 0 0 4 [(1, .int (itr (bd_uAll S) i s0)), (2, .int (nI i)), (0, .ref 44)] [] (hp S) := by
  refine g_dn _ (m) (fun i hi ih => ?_)
  have ih2 : i < m → Go mX6_costOfAll false Q 0 0 4 [(1, .int ((bd_uAll S) i (itr (bd_uAll S) i s0))), (2, .int (nI (i + 1))), (0, .ref 44)] [] (hp S) := ih
  have kx2 : i = m → Go mX6_costOfAll false Q 0 0 26 [(1, .int (itr (bd_uAll S) i s0)), (2, .int (nI i)), (0, .ref 44)] [] (hp S) := by
    rintro rfl
    exact kx
  clear ih kx
  revert ih2 kx2
  generalize itr (bd_uAll S) i s0 = p
  intro ih2 kx2
  have h24 := hT.2
  refine go_iload_n 5 dX6_costOfAll_4 rfl rfl ?_
  refine go_aload_n 6 dX6_costOfAll_5 rfl rfl ?_
  refine g_getI 9 dX6_costOfAll_6 rfl fF_RX6_9 ly_44 rfl ?_
  refine go_icmp_ge 12 26 dX6_costOfAll_9 rfl (by decide) (fun hc1 => ?_) (fun hc1 => ?_)
  · have hv : i = m := by
      have h8 := hc1
      rw [hT.1, nI_le2 (by omega) (by omega)] at h8
      omega
    refine go_ls [(1, .int _), (2, .int _), (0, .ref 44)] (List.forall_mem_cons.mpr ⟨rfl, List.forall_mem_cons.mpr ⟨rfl, List.forall_mem_cons.mpr ⟨rfl, fun _ h => absurd h List.not_mem_nil⟩⟩⟩) ?_
    exact kx2 hv
  · have hv : i < m := by
      have h8 := hc1
      rw [hT.1, nI_le2 (by omega) (by omega)] at h8
      omega
    clear hc1
    have hcl := nI_c (n := i) (by omega)
    refine go_iload_n 13 dX6_costOfAll_12 rfl rfl ?_
    refine go_aload_n 14 dX6_costOfAll_13 rfl rfl ?_
    refine go_iload_n 15 dX6_costOfAll_14 rfl rfl ?_
    refine g_callV 18 [.int _] [.int _] dX6_costOfAll_15 rfl (ct_X6_costOf _ _ (nI_i (by have := hv; omega) (by omega))) rfl sV_X6_costOfAll_51 rfl ly_44 rfl rfl (Nat.le_of_ble_eq_true rfl) (Nat.le_of_ble_eq_true rfl) (Nat.le_of_ble_eq_true rfl) ?_
    refine go_iadd 19 dX6_costOfAll_18 rfl ?_
    refine go_istore_n 20 [(1, .int _), (2, .int _), (0, .ref 44)] dX6_costOfAll_19 rfl (Nat.le_of_ble_eq_true rfl) rfl ?_
    refine go_iinc 23 [(2, .int _), (1, .int _), (0, .ref 44)] (nI (i + 1)) dX6_costOfAll_20 rfl (Nat.le_of_ble_eq_true rfl) rfl (nI_inc i) rfl ?_
    refine go_goto 4 dX6_costOfAll_23 (by decide) ?_
    refine go_ls [(1, .int _), (2, .int _), (0, .ref 44)] (List.forall_mem_cons.mpr ⟨rfl, List.forall_mem_cons.mpr ⟨rfl, List.forall_mem_cons.mpr ⟨rfl, fun _ h => absurd h List.not_mem_nil⟩⟩⟩) ?_
    refine g_l1 (a' := bd_uAll S i p) (by try rfl) ?_
    exact ih2 (by omega)

def f_X6_costOfAll (S : gS)  : Int32 := (itr (bd_uAll S) ((rI S 44 0).toNatClampNeg) 0)
set_option maxRecDepth 100000 in
set_option maxHeartbeats 1000000 in
theorem ct_X6_costOfAll (S : gS)  (m : Nat) (hm : rI S 44 0 = nI m ∧ m ≤ 24) : gF mX6_costOfAll [.ref 44] S (some (.int (f_X6_costOfAll S))) S := by
  have hmm : (rI S 44 0).toNatClampNeg = m := by rw [hm.1]; exact nI_c (by omega)
  refine go_enter [.ref 44] [(0, .ref 44)] (by decide +kernel) rfl rfl (Nat.le_of_ble_eq_true rfl) rfl ?_
  refine go_iconst 1 (0) dX6_costOfAll_0 rfl (by decide) ?_
  refine go_istore_n 2 [(1, .int _), (0, .ref 44)] dX6_costOfAll_1 rfl (Nat.le_of_ble_eq_true rfl) rfl ?_
  refine go_iconst 3 (0) dX6_costOfAll_2 rfl (by decide) ?_
  refine go_istore_n 4 [(2, .int _), (1, .int _), (0, .ref 44)] dX6_costOfAll_3 rfl (Nat.le_of_ble_eq_true rfl) rfl ?_
  refine go_ls [(1, .int _), (2, .int _), (0, .ref 44)] (List.forall_mem_cons.mpr ⟨rfl, List.forall_mem_cons.mpr ⟨rfl, List.forall_mem_cons.mpr ⟨rfl, fun _ h => absurd h List.not_mem_nil⟩⟩⟩) ?_
  refine lk_uAll S (rI S 44 0).toNatClampNeg _ (by rw [hmm]; exact hm) ?_ 0 (Nat.zero_le _)
  refine go_iload_n 27 dX6_costOfAll_26 rfl rfl ?_
  refine go_ireturn dX6_costOfAll_27 rfl (by first | rfl | exact bi_nar) (Nat.le_of_ble_eq_true rfl) (Nat.le_of_ble_eq_true rfl) ?_
  exact ⟨congrArg (fun z => some (Value.int z)) rfl, rfl⟩

def bd_uChp (S : gS) (kd pb w : Int32) (i : Nat) (p : Int32 × Int32) : Int32 × Int32 := (if (rI S 45 i) = kd then (if ((rI S 49 i) &&& pb) = 0 then (if p.2 ≤ ((f_X6_costWith S ((nI i)) ((mxi ((rI S 46 i)) w)) (((rI S 47 i) + 1))) - (f_X6_costWith S ((nI i)) ((rI S 46 i)) ((rI S 47 i)))) then (p.1, p.2) else ((nI i), ((f_X6_costWith S ((nI i)) ((mxi ((rI S 46 i)) w)) (((rI S 47 i) + 1))) - (f_X6_costWith S ((nI i)) ((rI S 46 i)) ((rI S 47 i)))))) else (p.1, p.2)) else (p.1, p.2))
set_option maxRecDepth 100000 in
set_option maxHeartbeats 1000000 in
theorem lk_uChp {Q : go_Q} (S : gS) (kd pb w : Int32) (m : Nat) (s0 : Int32 × Int32)  (hT : (rI S 44 0 = nI m ∧ m ≤ 24)) (kx : Go mX6_cheapest false Q 0 0 119 [(4, .int (itr (bd_uChp S kd pb w) m s0).1), (5, .int (itr (bd_uChp S kd pb w) m s0).2), (6, .int (nI m)), (0, .ref 44), (1, .int kd), (2, .int pb), (3, .int w)] [] (hp S)) : ∀ i, i ≤ m → Go mX6_cheapest false Q 0 0 13 [(4, .int (itr (bd_uChp S kd pb w) i s0).1), (5, .int (itr (bd_uChp S kd pb w) i s0).2), (6, .int (nI i)), (0, .ref 44), (1, .int kd), (2, .int pb), (3, .int w)] [] (hp S) := by
  refine g_dn _ (m) (fun i hi ih => ?_)
  have ih2 : i < m → Go mX6_cheapest false Q 0 0 13 [(4, .int ((bd_uChp S kd pb w) i (itr (bd_uChp S kd pb w) i s0)).1), (5, .int ((bd_uChp S kd pb w) i (itr (bd_uChp S kd pb w) i s0)).2), (6, .int (nI (i + 1))), (0, .ref 44), (1, .int kd), (2, .int pb), (3, .int w)] [] (hp S) := ih
  have kx2 : i = m → Go mX6_cheapest false Q 0 0 119 [(4, .int (itr (bd_uChp S kd pb w) i s0).1), (5, .int (itr (bd_uChp S kd pb w) i s0).2), (6, .int (nI i)), (0, .ref 44), (1, .int kd), (2, .int pb), (3, .int w)] [] (hp S) := by
    rintro rfl
    exact kx
  clear ih kx
  revert ih2 kx2
  generalize itr (bd_uChp S kd pb w) i s0 = p
  intro ih2 kx2
  have h24 := hT.2
  refine go_iload 15 dX6_cheapest_13 rfl rfl ?_
  refine go_aload_n 16 dX6_cheapest_15 rfl rfl ?_
  refine g_getI 19 dX6_cheapest_16 rfl fF_RX6_9 ly_44 rfl ?_
  refine go_icmp_ge 22 119 dX6_cheapest_19 rfl (by decide) (fun hc1 => ?_) (fun hc1 => ?_)
  · have hv : i = m := by
      have h8 := hc1
      rw [hT.1, nI_le2 (by omega) (by omega)] at h8
      omega
    refine go_ls [(4, .int _), (5, .int _), (6, .int _), (0, .ref 44), (1, .int _), (2, .int _), (3, .int _)] (List.forall_mem_cons.mpr ⟨rfl, List.forall_mem_cons.mpr ⟨rfl, List.forall_mem_cons.mpr ⟨rfl, List.forall_mem_cons.mpr ⟨rfl, List.forall_mem_cons.mpr ⟨rfl, List.forall_mem_cons.mpr ⟨rfl, List.forall_mem_cons.mpr ⟨rfl, fun _ h => absurd h List.not_mem_nil⟩⟩⟩⟩⟩⟩⟩) ?_
    exact kx2 hv
  · have hv : i < m := by
      have h8 := hc1
      rw [hT.1, nI_le2 (by omega) (by omega)] at h8
      omega
    clear hc1
    have hcl := nI_c (n := i) (by omega)
    refine go_aload_n 23 dX6_cheapest_22 rfl rfl ?_
    refine g_getR 26 dX6_cheapest_23 rfl fF_RX6_15 ly_44 rfl ?_
    refine go_iload 28 dX6_cheapest_26 rfl rfl ?_
    refine g_iald2 29 i dX6_cheapest_28 rfl ly_45 (nI_i (by have := hv; omega) (by omega)) hcl ?_
    refine go_iload_n 30 dX6_cheapest_29 rfl rfl ?_
    refine go_icmp_ne 33 113 dX6_cheapest_30 rfl (by decide) (fun hc2 => ?_) (fun hc2 => ?_)
    · refine go_iinc 116 [(6, .int _), (4, .int _), (5, .int _), (0, .ref 44), (1, .int _), (2, .int _), (3, .int _)] (nI (i + 1)) dX6_cheapest_113 rfl (Nat.le_of_ble_eq_true rfl) rfl (nI_inc i) rfl ?_
      refine go_goto 13 dX6_cheapest_116 (by decide) ?_
      refine go_ls [(4, .int _), (5, .int _), (6, .int _), (0, .ref 44), (1, .int _), (2, .int _), (3, .int _)] (List.forall_mem_cons.mpr ⟨rfl, List.forall_mem_cons.mpr ⟨rfl, List.forall_mem_cons.mpr ⟨rfl, List.forall_mem_cons.mpr ⟨rfl, List.forall_mem_cons.mpr ⟨rfl, List.forall_mem_cons.mpr ⟨rfl, List.forall_mem_cons.mpr ⟨rfl, fun _ h => absurd h List.not_mem_nil⟩⟩⟩⟩⟩⟩⟩) ?_
      refine g_l12 (a' := (bd_uChp S kd pb w i p).1) (c' := (bd_uChp S kd pb w i p).2) (by unfold bd_uChp; simp only [if_neg hc2]; try first | rfl | contradiction) (by unfold bd_uChp; simp only [if_neg hc2]; try first | rfl | contradiction) ?_
      exact ih2 (by omega)
    · refine go_aload_n 34 dX6_cheapest_33 rfl rfl ?_
      refine g_getR 37 dX6_cheapest_34 rfl fF_RX6_28 ly_44 rfl ?_
      refine go_iload 39 dX6_cheapest_37 rfl rfl ?_
      refine g_iald2 40 i dX6_cheapest_39 rfl ly_49 (nI_i (by have := hv; omega) (by omega)) hcl ?_
      refine go_iload_n 41 dX6_cheapest_40 rfl rfl ?_
      refine go_iand 42 dX6_cheapest_41 rfl ?_
      refine go_if_ne 45 113 dX6_cheapest_42 rfl (by decide) (fun hc3 => ?_) (fun hc3 => ?_)
      · refine go_iinc 116 [(6, .int _), (4, .int _), (5, .int _), (0, .ref 44), (1, .int _), (2, .int _), (3, .int _)] (nI (i + 1)) dX6_cheapest_113 rfl (Nat.le_of_ble_eq_true rfl) rfl (nI_inc i) rfl ?_
        refine go_goto 13 dX6_cheapest_116 (by decide) ?_
        refine go_ls [(4, .int _), (5, .int _), (6, .int _), (0, .ref 44), (1, .int _), (2, .int _), (3, .int _)] (List.forall_mem_cons.mpr ⟨rfl, List.forall_mem_cons.mpr ⟨rfl, List.forall_mem_cons.mpr ⟨rfl, List.forall_mem_cons.mpr ⟨rfl, List.forall_mem_cons.mpr ⟨rfl, List.forall_mem_cons.mpr ⟨rfl, List.forall_mem_cons.mpr ⟨rfl, fun _ h => absurd h List.not_mem_nil⟩⟩⟩⟩⟩⟩⟩) ?_
        refine g_l12 (a' := (bd_uChp S kd pb w i p).1) (c' := (bd_uChp S kd pb w i p).2) (by unfold bd_uChp; simp only [if_pos hc2, if_neg hc3]; try first | rfl | contradiction) (by unfold bd_uChp; simp only [if_pos hc2, if_neg hc3]; try first | rfl | contradiction) ?_
        exact ih2 (by omega)
      · refine go_aload_n 46 dX6_cheapest_45 rfl rfl ?_
        refine g_getR 49 dX6_cheapest_46 rfl fF_RX6_19 ly_44 rfl ?_
        refine go_iload 51 dX6_cheapest_49 rfl rfl ?_
        refine g_iald2 52 i dX6_cheapest_51 rfl ly_46 (nI_i (by have := hv; omega) (by omega)) hcl ?_
        refine go_iload_n 53 dX6_cheapest_52 rfl rfl ?_
        refine go_mmax 56 dX6_cheapest_53 rfl wL_RX6_61 wT_mmax wI_Math wC_mmax (Nat.le_of_ble_eq_true rfl) (Nat.le_of_ble_eq_true rfl) (Nat.le_of_ble_eq_true rfl) (Nat.le_of_ble_eq_true rfl) ?_
        refine go_topi (mxi _ _) rfl ?_
        refine go_istore 58 [(7, .int _), (4, .int _), (5, .int _), (6, .int _), (0, .ref 44), (1, .int _), (2, .int _), (3, .int _)] dX6_cheapest_56 rfl (Nat.le_of_ble_eq_true rfl) rfl ?_
        refine go_aload_n 59 dX6_cheapest_58 rfl rfl ?_
        refine go_iload 61 dX6_cheapest_59 rfl rfl ?_
        refine go_iload 63 dX6_cheapest_61 rfl rfl ?_
        refine go_aload_n 64 dX6_cheapest_63 rfl rfl ?_
        refine g_getR 67 dX6_cheapest_64 rfl fF_RX6_22 ly_44 rfl ?_
        refine go_iload 69 dX6_cheapest_67 rfl rfl ?_
        refine g_iald2 70 i dX6_cheapest_69 rfl ly_47 (nI_i (by have := hv; omega) (by omega)) hcl ?_
        refine go_iconst 71 (1) dX6_cheapest_70 rfl (by decide) ?_
        refine go_iadd 72 dX6_cheapest_71 rfl ?_
        refine g_callV 75 [.int _, .int _, .int _] [] dX6_cheapest_72 rfl (ct_X6_costWith _ _ _ _ (nI_i (by have := hv; omega) (by omega))) rfl sV_X6_cheapest_47 rfl ly_44 rfl rfl (Nat.le_of_ble_eq_true rfl) (Nat.le_of_ble_eq_true rfl) (Nat.le_of_ble_eq_true rfl) ?_
        refine go_aload_n 76 dX6_cheapest_75 rfl rfl ?_
        refine go_iload 78 dX6_cheapest_76 rfl rfl ?_
        refine go_aload_n 79 dX6_cheapest_78 rfl rfl ?_
        refine g_getR 82 dX6_cheapest_79 rfl fF_RX6_19 ly_44 rfl ?_
        refine go_iload 84 dX6_cheapest_82 rfl rfl ?_
        refine g_iald2 85 i dX6_cheapest_84 rfl ly_46 (nI_i (by have := hv; omega) (by omega)) hcl ?_
        refine go_aload_n 86 dX6_cheapest_85 rfl rfl ?_
        refine g_getR 89 dX6_cheapest_86 rfl fF_RX6_22 ly_44 rfl ?_
        refine go_iload 91 dX6_cheapest_89 rfl rfl ?_
        refine g_iald2 92 i dX6_cheapest_91 rfl ly_47 (nI_i (by have := hv; omega) (by omega)) hcl ?_
        refine g_callV 95 [.int _, .int _, .int _] [.int _] dX6_cheapest_92 rfl (ct_X6_costWith _ _ _ _ (nI_i (by have := hv; omega) (by omega))) rfl sV_X6_cheapest_47 rfl ly_44 rfl rfl (Nat.le_of_ble_eq_true rfl) (Nat.le_of_ble_eq_true rfl) (Nat.le_of_ble_eq_true rfl) ?_
        refine go_isub 96 dX6_cheapest_95 rfl ?_
        refine go_istore 98 [(8, .int _), (7, .int _), (4, .int _), (5, .int _), (6, .int _), (0, .ref 44), (1, .int _), (2, .int _), (3, .int _)] dX6_cheapest_96 rfl (Nat.le_of_ble_eq_true rfl) rfl ?_
        refine go_iload 100 dX6_cheapest_98 rfl rfl ?_
        refine go_iload 102 dX6_cheapest_100 rfl rfl ?_
        refine go_icmp_ge 105 113 dX6_cheapest_102 rfl (by decide) (fun hc4 => ?_) (fun hc4 => ?_)
        · refine go_iinc 116 [(6, .int _), (8, .int _), (7, .int _), (4, .int _), (5, .int _), (0, .ref 44), (1, .int _), (2, .int _), (3, .int _)] (nI (i + 1)) dX6_cheapest_113 rfl (Nat.le_of_ble_eq_true rfl) rfl (nI_inc i) rfl ?_
          refine go_goto 13 dX6_cheapest_116 (by decide) ?_
          refine go_ls [(4, .int _), (5, .int _), (6, .int _), (0, .ref 44), (1, .int _), (2, .int _), (3, .int _)] (List.forall_mem_cons.mpr ⟨rfl, List.forall_mem_cons.mpr ⟨rfl, List.forall_mem_cons.mpr ⟨rfl, List.forall_mem_cons.mpr ⟨rfl, List.forall_mem_cons.mpr ⟨rfl, List.forall_mem_cons.mpr ⟨rfl, List.forall_mem_cons.mpr ⟨rfl, fun _ h => absurd h List.not_mem_nil⟩⟩⟩⟩⟩⟩⟩) ?_
          refine g_l12 (a' := (bd_uChp S kd pb w i p).1) (c' := (bd_uChp S kd pb w i p).2) (by unfold bd_uChp; simp only [if_pos hc2, if_pos hc3, if_pos hc4]; try first | rfl | contradiction) (by unfold bd_uChp; simp only [if_pos hc2, if_pos hc3, if_pos hc4]; try first | rfl | contradiction) ?_
          exact ih2 (by omega)
        · refine go_iload 107 dX6_cheapest_105 rfl rfl ?_
          refine go_istore 109 [(4, .int _), (8, .int _), (7, .int _), (5, .int _), (6, .int _), (0, .ref 44), (1, .int _), (2, .int _), (3, .int _)] dX6_cheapest_107 rfl (Nat.le_of_ble_eq_true rfl) rfl ?_
          refine go_iload 111 dX6_cheapest_109 rfl rfl ?_
          refine go_istore 113 [(5, .int _), (4, .int _), (8, .int _), (7, .int _), (6, .int _), (0, .ref 44), (1, .int _), (2, .int _), (3, .int _)] dX6_cheapest_111 rfl (Nat.le_of_ble_eq_true rfl) rfl ?_
          refine go_iinc 116 [(6, .int _), (5, .int _), (4, .int _), (8, .int _), (7, .int _), (0, .ref 44), (1, .int _), (2, .int _), (3, .int _)] (nI (i + 1)) dX6_cheapest_113 rfl (Nat.le_of_ble_eq_true rfl) rfl (nI_inc i) rfl ?_
          refine go_goto 13 dX6_cheapest_116 (by decide) ?_
          refine go_ls [(4, .int _), (5, .int _), (6, .int _), (0, .ref 44), (1, .int _), (2, .int _), (3, .int _)] (List.forall_mem_cons.mpr ⟨rfl, List.forall_mem_cons.mpr ⟨rfl, List.forall_mem_cons.mpr ⟨rfl, List.forall_mem_cons.mpr ⟨rfl, List.forall_mem_cons.mpr ⟨rfl, List.forall_mem_cons.mpr ⟨rfl, List.forall_mem_cons.mpr ⟨rfl, fun _ h => absurd h List.not_mem_nil⟩⟩⟩⟩⟩⟩⟩) ?_
          refine g_l12 (a' := (bd_uChp S kd pb w i p).1) (c' := (bd_uChp S kd pb w i p).2) (by unfold bd_uChp; simp only [if_pos hc2, if_pos hc3, if_neg hc4]; try first | rfl | contradiction) (by unfold bd_uChp; simp only [if_pos hc2, if_pos hc3, if_neg hc4]; try first | rfl | contradiction) ?_
          exact ih2 (by omega)

def f_X6_cheapest (S : gS) (kd pb w : Int32) : Int32 := (itr (bd_uChp S kd pb w) ((rI S 44 0).toNatClampNeg) ((-1), (f_X8_costFor kd w))).1
set_option maxRecDepth 100000 in
set_option maxHeartbeats 1000000 in
theorem ct_X6_cheapest (S : gS) (kd pb w : Int32) (m : Nat) (hm : rI S 44 0 = nI m ∧ m ≤ 24) : gF mX6_cheapest [.ref 44, .int kd, .int pb, .int w] S (some (.int (f_X6_cheapest S kd pb w))) S := by
  have hmm : (rI S 44 0).toNatClampNeg = m := by rw [hm.1]; exact nI_c (by omega)
  refine go_enter [.ref 44, .int kd, .int pb, .int w] [(0, .ref 44), (1, .int kd), (2, .int pb), (3, .int w)] (by decide +kernel) rfl rfl (Nat.le_of_ble_eq_true rfl) rfl ?_
  refine go_iconst 1 (-1) dX6_cheapest_0 rfl (by decide) ?_
  refine go_istore 3 [(4, .int _), (0, .ref 44), (1, .int _), (2, .int _), (3, .int _)] dX6_cheapest_1 rfl (Nat.le_of_ble_eq_true rfl) rfl ?_
  refine go_iload_n 4 dX6_cheapest_3 rfl rfl ?_
  refine go_iload_n 5 dX6_cheapest_4 rfl rfl ?_
  refine g_callSN 8 [.int _, .int _] [] dX6_cheapest_5 rfl (ct_X8_costFor _ _ _) rfl sV_X6_cheapest_67 rfl (Nat.le_of_ble_eq_true rfl) (Nat.le_of_ble_eq_true rfl) (Nat.le_of_ble_eq_true rfl) ?_
  refine go_istore 10 [(5, .int _), (4, .int _), (0, .ref 44), (1, .int _), (2, .int _), (3, .int _)] dX6_cheapest_8 rfl (Nat.le_of_ble_eq_true rfl) rfl ?_
  refine go_iconst 11 (0) dX6_cheapest_10 rfl (by decide) ?_
  refine go_istore 13 [(6, .int _), (5, .int _), (4, .int _), (0, .ref 44), (1, .int _), (2, .int _), (3, .int _)] dX6_cheapest_11 rfl (Nat.le_of_ble_eq_true rfl) rfl ?_
  refine go_ls [(4, .int _), (5, .int _), (6, .int _), (0, .ref 44), (1, .int _), (2, .int _), (3, .int _)] (List.forall_mem_cons.mpr ⟨rfl, List.forall_mem_cons.mpr ⟨rfl, List.forall_mem_cons.mpr ⟨rfl, List.forall_mem_cons.mpr ⟨rfl, List.forall_mem_cons.mpr ⟨rfl, List.forall_mem_cons.mpr ⟨rfl, List.forall_mem_cons.mpr ⟨rfl, fun _ h => absurd h List.not_mem_nil⟩⟩⟩⟩⟩⟩⟩) ?_
  refine lk_uChp S kd pb w (rI S 44 0).toNatClampNeg (_, _) (by rw [hmm]; exact hm) ?_ 0 (Nat.zero_le _)
  refine go_iload 121 dX6_cheapest_119 rfl rfl ?_
  refine go_ireturn dX6_cheapest_121 rfl (by first | rfl | exact bi_nar) (Nat.le_of_ble_eq_true rfl) (Nat.le_of_ble_eq_true rfl) ?_
  exact ⟨congrArg (fun z => some (Value.int z)) rfl, rfl⟩

theorem chp_loop (S : gS) (kd pb w : Int32) (i : Nat) (s0 : Int32 × Int32) (h0 : s0.1 = -1) : (itr (bd_uChp S kd pb w) i s0).1 = -1 ∨ ∃ u, u < i ∧ (itr (bd_uChp S kd pb w) i s0).1 = nI u := by
  induction i with
  | zero => exact Or.inl h0
  | succ i ih =>
    have hs : (bd_uChp S kd pb w i (itr (bd_uChp S kd pb w) i s0)).1 = (itr (bd_uChp S kd pb w) i s0).1 ∨ (bd_uChp S kd pb w i (itr (bd_uChp S kd pb w) i s0)).1 = nI i := by
      unfold bd_uChp
      (repeat' split) <;> simp
    show (bd_uChp S kd pb w i (itr (bd_uChp S kd pb w) i s0)).1 = -1 ∨ ∃ u, u < i + 1 ∧ (bd_uChp S kd pb w i (itr (bd_uChp S kd pb w) i s0)).1 = nI u
    rcases hs with e | e
    · rw [e]
      rcases ih with q | ⟨u, q1, q2⟩
      · exact Or.inl q
      · exact Or.inr ⟨u, by omega, q2⟩
    · exact Or.inr ⟨i, by omega, e⟩
theorem chp_in (S : gS) (kd pb w : Int32) {m : Nat} (hm : rI S 44 0 = nI m) (h24 : m ≤ 24) (h : ¬ f_X6_cheapest S kd pb w = -1) : vp_in (f_X6_cheapest S kd pb w) 24 := by
  have hmm : (rI S 44 0).toNatClampNeg = m := by rw [hm]; exact nI_c (by omega)
  rcases chp_loop S kd pb w (rI S 44 0).toNatClampNeg (-1, f_X8_costFor kd w) rfl with q | ⟨u, q1, q2⟩
  · exact absurd q h
  · have e : f_X6_cheapest S kd pb w = nI u := q2
    rw [e]
    rw [hmm] at q1
    exact nI_i (by omega) (by omega)
def f_X6_place (S : gS) (j : Nat) (w : Int32) : Int32 × gS := (if (f_X6_cheapest S ((rI S 2 j)) (((1 : Int32) <<< ((rI S 8 j) &&& 31))) w) = (-1) then ((rI S 44 0), (wI (wI (wI (wI (wI (wI (wI (wI (wI S 44 0 (((rI S 44 0) + 1))) 45 ((rI S 44 0)).toNatClampNeg ((rI S 2 j))) 46 ((rI S 44 0)).toNatClampNeg 0) 47 ((rI S 44 0)).toNatClampNeg 0) 48 ((rI S 44 0)).toNatClampNeg ((nI j))) 49 ((rI S 44 0)).toNatClampNeg 0) 46 ((rI S 44 0)).toNatClampNeg ((mxi 0 w))) 47 ((rI S 44 0)).toNatClampNeg (((0 : Int32) + 1))) 49 ((rI S 44 0)).toNatClampNeg (((0 : Int32) ||| ((1 : Int32) <<< ((rI S 8 j) &&& 31)))))) else ((f_X6_cheapest S ((rI S 2 j)) (((1 : Int32) <<< ((rI S 8 j) &&& 31))) w), (wI (wI (wI S 46 ((f_X6_cheapest S ((rI S 2 j)) (((1 : Int32) <<< ((rI S 8 j) &&& 31))) w)).toNatClampNeg ((mxi ((rI S 46 ((f_X6_cheapest S ((rI S 2 j)) (((1 : Int32) <<< ((rI S 8 j) &&& 31))) w)).toNatClampNeg)) w))) 47 ((f_X6_cheapest S ((rI S 2 j)) (((1 : Int32) <<< ((rI S 8 j) &&& 31))) w)).toNatClampNeg (((rI S 47 ((f_X6_cheapest S ((rI S 2 j)) (((1 : Int32) <<< ((rI S 8 j) &&& 31))) w)).toNatClampNeg) + 1))) 49 ((f_X6_cheapest S ((rI S 2 j)) (((1 : Int32) <<< ((rI S 8 j) &&& 31))) w)).toNatClampNeg (((rI S 49 ((f_X6_cheapest S ((rI S 2 j)) (((1 : Int32) <<< ((rI S 8 j) &&& 31))) w)).toNatClampNeg) ||| ((1 : Int32) <<< ((rI S 8 j) &&& 31)))))))
set_option maxRecDepth 100000 in
set_option maxHeartbeats 1000000 in
theorem ct_X6_place (S : gS) (j : Nat) (w : Int32) (n : Nat) (ho : okC S n) (hj : j < n) (m : Nat) (hm : rI S 44 0 = nI m) (hm9 : m < 24) : gF mX6_place [.ref 44, .ref 1, .int (nI j), .int w] S (some (.int (f_X6_place S j w).1)) (f_X6_place S j w).2 := by
  have h24 := ho.2.1
  have hcl := nI_c (n := j) (by omega)
  refine go_enter [.ref 44, .ref 1, .int (nI j), .int w] [(0, .ref 44), (1, .ref 1), (2, .int (nI j)), (3, .int w)] (by decide +kernel) rfl rfl (Nat.le_of_ble_eq_true rfl) rfl ?_
  refine go_iconst 1 (1) dX6_place_0 rfl (by decide) ?_
  refine go_aload_n 2 dX6_place_1 rfl rfl ?_
  refine g_getR 5 dX6_place_2 rfl fF_RX6_55 ly_1 rfl ?_
  refine go_iload_n 6 dX6_place_5 rfl rfl ?_
  refine g_iald2 7 j dX6_place_6 rfl ly_8 (nI_i (by omega) (by omega)) hcl ?_
  refine go_ishl 8 dX6_place_7 rfl ?_
  refine go_istore 10 [(4, .int _), (0, .ref 44), (1, .ref 1), (2, .int _), (3, .int _)] dX6_place_8 rfl (Nat.le_of_ble_eq_true rfl) rfl ?_
  refine go_aload_n 11 dX6_place_10 rfl rfl ?_
  refine go_aload_n 12 dX6_place_11 rfl rfl ?_
  refine g_getR 15 dX6_place_12 rfl fF_RX6_37 ly_1 rfl ?_
  refine go_iload_n 16 dX6_place_15 rfl rfl ?_
  refine g_iald2 17 j dX6_place_16 rfl ly_2 (nI_i (by omega) (by omega)) hcl ?_
  refine go_iload 19 dX6_place_17 rfl rfl ?_
  refine go_iload_n 20 dX6_place_19 rfl rfl ?_
  refine g_callV 23 [.int _, .int _, .int _] [] dX6_place_20 rfl (ct_X6_cheapest _ _ _ _ m ⟨hm, by omega⟩) rfl sV_X6_place_58 rfl ly_44 rfl rfl (Nat.le_of_ble_eq_true rfl) (Nat.le_of_ble_eq_true rfl) (Nat.le_of_ble_eq_true rfl) ?_
  refine go_istore 25 [(5, .int _), (4, .int _), (0, .ref 44), (1, .ref 1), (2, .int _), (3, .int _)] dX6_place_23 rfl (Nat.le_of_ble_eq_true rfl) rfl ?_
  refine go_iload 27 dX6_place_25 rfl rfl ?_
  refine go_iconst 28 (-1) dX6_place_27 rfl (by decide) ?_
  refine go_icmp_ne 31 92 dX6_place_28 rfl (by decide) (fun hc1 => ?_) (fun hc1 => ?_)
  · have hu := chp_in _ _ _ _ hm (by omega) hc1
    refine go_aload_n 93 dX6_place_92 rfl rfl ?_
    refine g_getR 96 dX6_place_93 rfl fF_RX6_19 ly_44 rfl ?_
    refine go_iload 98 dX6_place_96 rfl rfl ?_
    refine go_aload_n 99 dX6_place_98 rfl rfl ?_
    refine g_getR 102 dX6_place_99 rfl fF_RX6_19 ly_44 rfl ?_
    refine go_iload 104 dX6_place_102 rfl rfl ?_
    refine g_iald2 105 _ dX6_place_104 rfl ly_46 hu rfl ?_
    refine go_iload_n 106 dX6_place_105 rfl rfl ?_
    refine go_mmax 109 dX6_place_106 rfl wL_RX6_61 wT_mmax wI_Math wC_mmax (Nat.le_of_ble_eq_true rfl) (Nat.le_of_ble_eq_true rfl) (Nat.le_of_ble_eq_true rfl) (Nat.le_of_ble_eq_true rfl) ?_
    refine go_topi (mxi _ _) rfl ?_
    refine g_iast2 110 _ dX6_place_109 rfl ly_46 hu rfl ?_
    refine go_aload_n 111 dX6_place_110 rfl rfl ?_
    refine g_getR 114 dX6_place_111 rfl fF_RX6_22 ly_44 rfl ?_
    refine go_iload 116 dX6_place_114 rfl rfl ?_
    refine go_dup2 117 dX6_place_116 rfl rfl rfl ?_
    refine g_iald2 118 _ dX6_place_117 rfl ly_47 hu rfl ?_
    refine go_topi (rI S 47 ((f_X6_cheapest S ((rI S 2 j)) (((1 : Int32) <<< ((rI S 8 j) &&& 31))) w)).toNatClampNeg) (rI_wIk (by decide) _ _ _) ?_
    refine go_iconst 119 (1) dX6_place_118 rfl (by decide) ?_
    refine go_iadd 120 dX6_place_119 rfl ?_
    refine g_iast2 121 _ dX6_place_120 rfl ly_47 hu rfl ?_
    refine go_aload_n 122 dX6_place_121 rfl rfl ?_
    refine g_getR 125 dX6_place_122 rfl fF_RX6_28 ly_44 rfl ?_
    refine go_iload 127 dX6_place_125 rfl rfl ?_
    refine go_dup2 128 dX6_place_127 rfl rfl rfl ?_
    refine g_iald2 129 _ dX6_place_128 rfl ly_49 hu rfl ?_
    refine go_topi (rI S 49 ((f_X6_cheapest S ((rI S 2 j)) (((1 : Int32) <<< ((rI S 8 j) &&& 31))) w)).toNatClampNeg) ((rI_wIk (by decide) _ _ _).trans (rI_wIk (by decide) _ _ _)) ?_
    refine go_iload 131 dX6_place_129 rfl rfl ?_
    refine go_ior 132 dX6_place_131 rfl ?_
    refine g_iast2 133 _ dX6_place_132 rfl ly_49 hu rfl ?_
    refine go_iload 135 dX6_place_133 rfl rfl ?_
    refine go_ireturn dX6_place_135 rfl (by first | rfl | exact bi_nar) (Nat.le_of_ble_eq_true rfl) (Nat.le_of_ble_eq_true rfl) ?_
    exact ⟨congrArg (fun z => some (Value.int z)) (by unfold f_X6_place; simp only [if_neg hc1]; try first | rfl | contradiction), congrArg hp (by unfold f_X6_place; simp only [if_neg hc1]; try first | rfl | contradiction)⟩
  · have hu : vp_in (rI S 44 0) 24 := by rw [hm]; exact nI_i (by omega) (by omega)
    refine go_aload_n 32 dX6_place_31 rfl rfl ?_
    refine g_getI 35 dX6_place_32 rfl fF_RX6_9 ly_44 rfl ?_
    refine go_istore 37 [(5, .int _), (4, .int _), (0, .ref 44), (1, .ref 1), (2, .int _), (3, .int _)] dX6_place_35 rfl (Nat.le_of_ble_eq_true rfl) rfl ?_
    refine go_aload_n 38 dX6_place_37 rfl rfl ?_
    refine go_dup 39 dX6_place_38 rfl rfl ?_
    refine g_getI 42 dX6_place_39 rfl fF_RX6_9 ly_44 rfl ?_
    refine go_iconst 43 (1) dX6_place_42 rfl (by decide) ?_
    refine go_iadd 44 dX6_place_43 rfl ?_
    refine g_putI 47 dX6_place_44 rfl fF_RX6_9 ly_44 rfl (fun q hq => by cases hq; rfl) rfl rfl ?_
    refine go_aload_n 48 dX6_place_47 rfl rfl ?_
    refine g_getR 51 dX6_place_48 rfl fF_RX6_15 ly_44 rfl ?_
    refine go_iload 53 dX6_place_51 rfl rfl ?_
    refine go_aload_n 54 dX6_place_53 rfl rfl ?_
    refine g_getR 57 dX6_place_54 rfl fF_RX6_37 ly_1 rfl ?_
    refine go_iload_n 58 dX6_place_57 rfl rfl ?_
    refine g_iald2 59 j dX6_place_58 rfl ly_2 (nI_i (by omega) (by omega)) hcl ?_
    refine go_topi (rI S 2 j) (rI_wIk (by decide) _ _ _) ?_
    refine g_iast2 60 _ dX6_place_59 rfl ly_45 hu rfl ?_
    refine go_aload_n 61 dX6_place_60 rfl rfl ?_
    refine g_getR 64 dX6_place_61 rfl fF_RX6_19 ly_44 rfl ?_
    refine go_iload 66 dX6_place_64 rfl rfl ?_
    refine go_iconst 67 (0) dX6_place_66 rfl (by decide) ?_
    refine g_iast2 68 _ dX6_place_67 rfl ly_46 hu rfl ?_
    refine go_aload_n 69 dX6_place_68 rfl rfl ?_
    refine g_getR 72 dX6_place_69 rfl fF_RX6_22 ly_44 rfl ?_
    refine go_iload 74 dX6_place_72 rfl rfl ?_
    refine go_iconst 75 (0) dX6_place_74 rfl (by decide) ?_
    refine g_iast2 76 _ dX6_place_75 rfl ly_47 hu rfl ?_
    refine go_aload_n 77 dX6_place_76 rfl rfl ?_
    refine g_getR 80 dX6_place_77 rfl fF_RX6_25 ly_44 rfl ?_
    refine go_iload 82 dX6_place_80 rfl rfl ?_
    refine go_iload_n 83 dX6_place_82 rfl rfl ?_
    refine g_iast2 84 _ dX6_place_83 rfl ly_48 hu rfl ?_
    refine go_aload_n 85 dX6_place_84 rfl rfl ?_
    refine g_getR 88 dX6_place_85 rfl fF_RX6_28 ly_44 rfl ?_
    refine go_iload 90 dX6_place_88 rfl rfl ?_
    refine go_iconst 91 (0) dX6_place_90 rfl (by decide) ?_
    refine g_iast2 92 _ dX6_place_91 rfl ly_49 hu rfl ?_
    refine go_aload_n 93 dX6_place_92 rfl rfl ?_
    refine g_getR 96 dX6_place_93 rfl fF_RX6_19 ly_44 rfl ?_
    refine go_iload 98 dX6_place_96 rfl rfl ?_
    refine go_aload_n 99 dX6_place_98 rfl rfl ?_
    refine g_getR 102 dX6_place_99 rfl fF_RX6_19 ly_44 rfl ?_
    refine go_iload 104 dX6_place_102 rfl rfl ?_
    refine g_iald2 105 _ dX6_place_104 rfl ly_46 hu rfl ?_
    refine go_topi (rI (wI (wI (wI S 44 0 (((rI S 44 0) + 1))) 45 ((rI S 44 0)).toNatClampNeg ((rI S 2 j))) 46 ((rI S 44 0)).toNatClampNeg 0) 46 ((rI S 44 0)).toNatClampNeg) ((rI_wIk (by decide) _ _ _).trans ((rI_wIk (by decide) _ _ _).trans (rI_wIk (by decide) _ _ _))) ?_
    refine go_topi _ (rI_same _ _ _ _) ?_
    refine go_iload_n 106 dX6_place_105 rfl rfl ?_
    refine go_mmax 109 dX6_place_106 rfl wL_RX6_61 wT_mmax wI_Math wC_mmax (Nat.le_of_ble_eq_true rfl) (Nat.le_of_ble_eq_true rfl) (Nat.le_of_ble_eq_true rfl) (Nat.le_of_ble_eq_true rfl) ?_
    refine go_topi (mxi _ _) rfl ?_
    refine g_iast2 110 _ dX6_place_109 rfl ly_46 hu rfl ?_
    refine go_aload_n 111 dX6_place_110 rfl rfl ?_
    refine g_getR 114 dX6_place_111 rfl fF_RX6_22 ly_44 rfl ?_
    refine go_iload 116 dX6_place_114 rfl rfl ?_
    refine go_dup2 117 dX6_place_116 rfl rfl rfl ?_
    refine g_iald2 118 _ dX6_place_117 rfl ly_47 hu rfl ?_
    refine go_topi (rI (wI (wI (wI (wI S 44 0 (((rI S 44 0) + 1))) 45 ((rI S 44 0)).toNatClampNeg ((rI S 2 j))) 46 ((rI S 44 0)).toNatClampNeg 0) 47 ((rI S 44 0)).toNatClampNeg 0) 47 ((rI S 44 0)).toNatClampNeg) ((rI_wIk (by decide) _ _ _).trans ((rI_wIk (by decide) _ _ _).trans (rI_wIk (by decide) _ _ _))) ?_
    refine go_topi _ (rI_same _ _ _ _) ?_
    refine go_iconst 119 (1) dX6_place_118 rfl (by decide) ?_
    refine go_iadd 120 dX6_place_119 rfl ?_
    refine g_iast2 121 _ dX6_place_120 rfl ly_47 hu rfl ?_
    refine go_aload_n 122 dX6_place_121 rfl rfl ?_
    refine g_getR 125 dX6_place_122 rfl fF_RX6_28 ly_44 rfl ?_
    refine go_iload 127 dX6_place_125 rfl rfl ?_
    refine go_dup2 128 dX6_place_127 rfl rfl rfl ?_
    refine g_iald2 129 _ dX6_place_128 rfl ly_49 hu rfl ?_
    refine go_topi (rI (wI (wI (wI (wI (wI (wI S 44 0 (((rI S 44 0) + 1))) 45 ((rI S 44 0)).toNatClampNeg ((rI S 2 j))) 46 ((rI S 44 0)).toNatClampNeg 0) 47 ((rI S 44 0)).toNatClampNeg 0) 48 ((rI S 44 0)).toNatClampNeg ((nI j))) 49 ((rI S 44 0)).toNatClampNeg 0) 49 ((rI S 44 0)).toNatClampNeg) ((rI_wIk (by decide) _ _ _).trans (rI_wIk (by decide) _ _ _)) ?_
    refine go_topi _ (rI_same _ _ _ _) ?_
    refine go_iload 131 dX6_place_129 rfl rfl ?_
    refine go_ior 132 dX6_place_131 rfl ?_
    refine g_iast2 133 _ dX6_place_132 rfl ly_49 hu rfl ?_
    refine go_iload 135 dX6_place_133 rfl rfl ?_
    refine go_ireturn dX6_place_135 rfl (by first | rfl | exact bi_nar) (Nat.le_of_ble_eq_true rfl) (Nat.le_of_ble_eq_true rfl) ?_
    exact ⟨congrArg (fun z => some (Value.int z)) (by unfold f_X6_place; simp only [if_pos hc1]; try first | rfl | contradiction), congrArg hp (by unfold f_X6_place; simp only [if_pos hc1]; try first | rfl | contradiction)⟩
theorem fr_f_X6_place {a0 c0 : Nat} (h44_0 : ¬ (a0 = 44 ∧ c0 = 0)) (h45 : a0 ≠ 45) (h46 : a0 ≠ 46) (h47 : a0 ≠ 47) (h48 : a0 ≠ 48) (h49 : a0 ≠ 49) (S : gS) (j : Nat) (w : Int32) : rI (f_X6_place S j w).2 a0 c0 = rI S a0 c0 := by
  unfold f_X6_place
  first | (simp only [snd_ite, rI_ite, ite_self, rI_wIc h44_0, rI_wIk h45, rI_wRk h45, rI_wIk h46, rI_wRk h46, rI_wIk h47, rI_wRk h47, rI_wIk h48, rI_wRk h48, rI_wIk h49, rI_wRk h49]; done) | ((repeat' split) <;> first | rfl | simp only [rI_wIc h44_0, rI_wIk h45, rI_wRk h45, rI_wIk h46, rI_wRk h46, rI_wIk h47, rI_wRk h47, rI_wIk h48, rI_wRk h48, rI_wIk h49, rI_wRk h49])

