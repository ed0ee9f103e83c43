-- needs 
def bd_uasg (i : Nat) (p : gS) : gS := (if (rI p 2 i) < 3 then (wI p 50 i ((-1))) else (if (5 : Int32) < (rI p 2 i) then (wI p 50 i ((-1))) else (if (rI p 42 i) = 0 then (wI p 50 i ((-1))) else (wI (f_X6_place p i ((rI p 42 i))).2 50 i ((f_X6_place p i ((rI p 42 i))).1)))))
set_option maxRecDepth 100000 in
set_option maxHeartbeats 1000000 in
theorem lk_uasg {Q : go_Q}  (n : Nat) (s0 : gS)  (hI : ∀ i, i ≤ n → (okC (itr (bd_uasg) i s0) n ∧ ∃ m, rI (itr (bd_uasg) i s0) 44 0 = nI m ∧ m ≤ i)) (kx : Go mX6_assign false Q 0 0 84 [(3, .int (nI n)), (0, .ref 44), (1, .ref 1), (2, .ref 40)] [] (hp (itr (bd_uasg) n s0))) : ∀ i, i ≤ n → Go mX6_assign false Q 0 0 7 [(3, .int (nI i)), (0, .ref 44), (1, .ref 1), (2, .ref 40)] [] (hp (itr (bd_uasg) i s0)) := by
  refine g_dn _ (n) (fun i hi ih => ?_)
  have hT := hI i hi
  have ih2 : i < n → Go mX6_assign false Q 0 0 7 [(3, .int (nI (i + 1))), (0, .ref 44), (1, .ref 1), (2, .ref 40)] [] (hp ((bd_uasg) i (itr (bd_uasg) i s0))) := ih
  have kx2 : i = n → Go mX6_assign false Q 0 0 84 [(3, .int (nI i)), (0, .ref 44), (1, .ref 1), (2, .ref 40)] [] (hp (itr (bd_uasg) i s0)) := by
    rintro rfl
    exact kx
  clear ih kx hI
  revert hT ih2 kx2
  generalize itr (bd_uasg) i s0 = p
  intro hT ih2 kx2
  obtain ⟨hT, m, hm, hmi⟩ := hT
  have h24 := hT.2.1
  refine go_iload_n 8 dX6_assign_7 rfl rfl ?_
  refine go_aload_n 9 dX6_assign_8 rfl rfl ?_
  refine g_getI 12 dX6_assign_9 rfl fF_RX6_34 ly_1 rfl ?_
  refine go_icmp_ge 15 84 dX6_assign_12 rfl (by decide) (fun hc1 => ?_) (fun hc1 => ?_)
  · have hv : i = n := by
      have h8 := hc1
      rw [hT.1, nI_le2 (by omega) (by omega)] at h8
      omega
    refine go_ls [(3, .int _), (0, .ref 44), (1, .ref 1), (2, .ref 40)] (List.forall_mem_cons.mpr ⟨rfl, List.forall_mem_cons.mpr ⟨rfl, List.forall_mem_cons.mpr ⟨rfl, List.forall_mem_cons.mpr ⟨rfl, fun _ h => absurd h List.not_mem_nil⟩⟩⟩⟩) ?_
    exact kx2 hv
  · have hv : i < n := by
      have h8 := hc1
      rw [hT.1, nI_le2 (by omega) (by omega)] at h8
      omega
    clear hc1
    have hcl := nI_c (n := i) (by omega)
    refine go_aload_n 16 dX6_assign_15 rfl rfl ?_
    refine g_getR 19 dX6_assign_16 rfl fF_RX6_37 ly_1 rfl ?_
    refine go_iload_n 20 dX6_assign_19 rfl rfl ?_
    refine g_iald2 21 i dX6_assign_20 rfl ly_2 (nI_i (by have := hv; omega) (by omega)) hcl ?_
    refine go_iconst 22 (3) dX6_assign_21 rfl (by decide) ?_
    refine go_icmp_lt 25 48 dX6_assign_22 rfl (by decide) (fun hc2 => ?_) (fun hc2 => ?_)
    · refine go_iconst 49 (0) dX6_assign_48 rfl (by decide) ?_
      refine go_istore 51 [(4, .int _), (3, .int _), (0, .ref 44), (1, .ref 1), (2, .ref 40)] dX6_assign_49 rfl (Nat.le_of_ble_eq_true rfl) rfl ?_
      refine go_aload_n 52 dX6_assign_51 rfl rfl ?_
      refine g_getR 55 dX6_assign_52 rfl fF_RX6_31 ly_44 rfl ?_
      refine go_iload_n 56 dX6_assign_55 rfl rfl ?_
      refine go_iload 58 dX6_assign_56 rfl rfl ?_
      refine go_if_eq 61 76 dX6_assign_58 rfl (by decide) (fun _ => ?_) (fun hc3 => absurd hc3 (by decide))
      refine go_iconst 77 (-1) dX6_assign_76 rfl (by decide) ?_
      refine g_iast2 78 i dX6_assign_77 rfl ly_50 (nI_i (by have := hv; omega) (by omega)) hcl ?_
      refine go_iinc 81 [(3, .int _), (4, .int _), (0, .ref 44), (1, .ref 1), (2, .ref 40)] (nI (i + 1)) dX6_assign_78 rfl (Nat.le_of_ble_eq_true rfl) rfl (nI_inc i) rfl ?_
      refine go_goto 7 dX6_assign_81 (by decide) ?_
      refine go_ls [(3, .int _), (0, .ref 44), (1, .ref 1), (2, .ref 40)] (List.forall_mem_cons.mpr ⟨rfl, List.forall_mem_cons.mpr ⟨rfl, List.forall_mem_cons.mpr ⟨rfl, List.forall_mem_cons.mpr ⟨rfl, fun _ h => absurd h List.not_mem_nil⟩⟩⟩⟩) ?_
      refine g_st (T := bd_uasg i p) (by unfold bd_uasg; simp only [if_pos hc2]; try first | rfl | contradiction) (ih2 (by omega))
    · refine go_aload_n 26 dX6_assign_25 rfl rfl ?_
      refine g_getR 29 dX6_assign_26 rfl fF_RX6_37 ly_1 rfl ?_
      refine go_iload_n 30 dX6_assign_29 rfl rfl ?_
      refine g_iald2 31 i dX6_assign_30 rfl ly_2 (nI_i (by have := hv; omega) (by omega)) hcl ?_
      refine go_iconst 32 (5) dX6_assign_31 rfl (by decide) ?_
      refine go_icmp_gt 35 48 dX6_assign_32 rfl (by decide) (fun hc4 => ?_) (fun hc4 => ?_)
      · refine go_iconst 49 (0) dX6_assign_48 rfl (by decide) ?_
        refine go_istore 51 [(4, .int _), (3, .int _), (0, .ref 44), (1, .ref 1), (2, .ref 40)] dX6_assign_49 rfl (Nat.le_of_ble_eq_true rfl) rfl ?_
        refine go_aload_n 52 dX6_assign_51 rfl rfl ?_
        refine g_getR 55 dX6_assign_52 rfl fF_RX6_31 ly_44 rfl ?_
        refine go_iload_n 56 dX6_assign_55 rfl rfl ?_
        refine go_iload 58 dX6_assign_56 rfl rfl ?_
        refine go_if_eq 61 76 dX6_assign_58 rfl (by decide) (fun _ => ?_) (fun hc5 => absurd hc5 (by decide))
        refine go_iconst 77 (-1) dX6_assign_76 rfl (by decide) ?_
        refine g_iast2 78 i dX6_assign_77 rfl ly_50 (nI_i (by have := hv; omega) (by omega)) hcl ?_
        refine go_iinc 81 [(3, .int _), (4, .int _), (0, .ref 44), (1, .ref 1), (2, .ref 40)] (nI (i + 1)) dX6_assign_78 rfl (Nat.le_of_ble_eq_true rfl) rfl (nI_inc i) rfl ?_
        refine go_goto 7 dX6_assign_81 (by decide) ?_
        refine go_ls [(3, .int _), (0, .ref 44), (1, .ref 1), (2, .ref 40)] (List.forall_mem_cons.mpr ⟨rfl, List.forall_mem_cons.mpr ⟨rfl, List.forall_mem_cons.mpr ⟨rfl, List.forall_mem_cons.mpr ⟨rfl, fun _ h => absurd h List.not_mem_nil⟩⟩⟩⟩) ?_
        refine g_st (T := bd_uasg i p) (by unfold bd_uasg; simp only [if_neg hc2, if_pos hc4]; try first | rfl | contradiction) (ih2 (by omega))
      · refine go_aload_n 36 dX6_assign_35 rfl rfl ?_
        refine g_getR 39 dX6_assign_36 rfl fF_RX6_38 ly_40 rfl ?_
        refine go_iload_n 40 dX6_assign_39 rfl rfl ?_
        refine g_iald2 41 i dX6_assign_40 rfl ly_42 (nI_i (by have := hv; omega) (by omega)) hcl ?_
        refine go_if_eq 44 48 dX6_assign_41 rfl (by decide) (fun hc6 => ?_) (fun hc6 => ?_)
        · refine go_iconst 49 (0) dX6_assign_48 rfl (by decide) ?_
          refine go_istore 51 [(4, .int _), (3, .int _), (0, .ref 44), (1, .ref 1), (2, .ref 40)] dX6_assign_49 rfl (Nat.le_of_ble_eq_true rfl) rfl ?_
          refine go_aload_n 52 dX6_assign_51 rfl rfl ?_
          refine g_getR 55 dX6_assign_52 rfl fF_RX6_31 ly_44 rfl ?_
          refine go_iload_n 56 dX6_assign_55 rfl rfl ?_
          refine go_iload 58 dX6_assign_56 rfl rfl ?_
          refine go_if_eq 61 76 dX6_assign_58 rfl (by decide) (fun _ => ?_) (fun hc7 => absurd hc7 (by decide))
          refine go_iconst 77 (-1) dX6_assign_76 rfl (by decide) ?_
          refine g_iast2 78 i dX6_assign_77 rfl ly_50 (nI_i (by have := hv; omega) (by omega)) hcl ?_
          refine go_iinc 81 [(3, .int _), (4, .int _), (0, .ref 44), (1, .ref 1), (2, .ref 40)] (nI (i + 1)) dX6_assign_78 rfl (Nat.le_of_ble_eq_true rfl) rfl (nI_inc i) rfl ?_
          refine go_goto 7 dX6_assign_81 (by decide) ?_
          refine go_ls [(3, .int _), (0, .ref 44), (1, .ref 1), (2, .ref 40)] (List.forall_mem_cons.mpr ⟨rfl, List.forall_mem_cons.mpr ⟨rfl, List.forall_mem_cons.mpr ⟨rfl, List.forall_mem_cons.mpr ⟨rfl, fun _ h => absurd h List.not_mem_nil⟩⟩⟩⟩) ?_
          refine g_st (T := bd_uasg i p) (by unfold bd_uasg; simp only [if_neg hc2, if_neg hc4, if_pos hc6]; try first | rfl | contradiction) (ih2 (by omega))
        · refine go_iconst 45 (1) dX6_assign_44 rfl (by decide) ?_
          refine go_goto 49 dX6_assign_45 (by decide) ?_
          refine go_istore 51 [(4, .int _), (3, .int _), (0, .ref 44), (1, .ref 1), (2, .ref 40)] dX6_assign_49 rfl (Nat.le_of_ble_eq_true rfl) rfl ?_
          refine go_aload_n 52 dX6_assign_51 rfl rfl ?_
          refine g_getR 55 dX6_assign_52 rfl fF_RX6_31 ly_44 rfl ?_
          refine go_iload_n 56 dX6_assign_55 rfl rfl ?_
          refine go_iload 58 dX6_assign_56 rfl rfl ?_
          refine go_if_eq 61 76 dX6_assign_58 rfl (by decide) (fun hc8 => absurd hc8 (by decide)) (fun _ => ?_)
          refine go_aload_n 62 dX6_assign_61 rfl rfl ?_
          refine go_aload_n 63 dX6_assign_62 rfl rfl ?_
          refine go_iload_n 64 dX6_assign_63 rfl rfl ?_
          refine go_aload_n 65 dX6_assign_64 rfl rfl ?_
          refine g_getR 68 dX6_assign_65 rfl fF_RX6_38 ly_40 rfl ?_
          refine go_iload_n 69 dX6_assign_68 rfl rfl ?_
          refine g_iald2 70 i dX6_assign_69 rfl ly_42 (nI_i (by have := hv; omega) (by omega)) hcl ?_
          refine g_callV 73 [.ref 1, .int _, .int _] [.int _, .ref 50] dX6_assign_70 rfl (ct_X6_place _ _ _ n hT hv m hm (by omega)) rfl sV_X6_assign_43 rfl ly_44 rfl rfl (Nat.le_of_ble_eq_true rfl) (Nat.le_of_ble_eq_true rfl) (Nat.le_of_ble_eq_true rfl) ?_
          refine go_goto 77 dX6_assign_73 (by decide) ?_
          refine g_iast2 78 i dX6_assign_77 rfl ly_50 (nI_i (by have := hv; omega) (by omega)) hcl ?_
          refine go_iinc 81 [(3, .int _), (4, .int _), (0, .ref 44), (1, .ref 1), (2, .ref 40)] (nI (i + 1)) dX6_assign_78 rfl (Nat.le_of_ble_eq_true rfl) rfl (nI_inc i) rfl ?_
          refine go_goto 7 dX6_assign_81 (by decide) ?_
          refine go_ls [(3, .int _), (0, .ref 44), (1, .ref 1), (2, .ref 40)] (List.forall_mem_cons.mpr ⟨rfl, List.forall_mem_cons.mpr ⟨rfl, List.forall_mem_cons.mpr ⟨rfl, List.forall_mem_cons.mpr ⟨rfl, fun _ h => absurd h List.not_mem_nil⟩⟩⟩⟩) ?_
          refine g_st (T := bd_uasg i p) (by unfold bd_uasg; simp only [if_neg hc2, if_neg hc4, if_neg hc6]; try first | rfl | contradiction) (ih2 (by omega))
theorem fr_bd_uasg {a0 c0 : Nat} (h44_0 : ¬ (a0 = 44 ∧ c0 = 0)) (h45 : a0 ≠ 45) (h46 : a0 ≠ 46) (h47 : a0 ≠ 47) (h48 : a0 ≠ 48) (h49 : a0 ≠ 49) (h50 : a0 ≠ 50) (i : Nat) (p : gS) : rI (bd_uasg i p) a0 c0 = rI p a0 c0 := by
  unfold bd_uasg
  first | (simp only [snd_ite, rI_ite, ite_self, rI_wIc h44_0, rI_wIk h45, rI_wRk h45, rI_wIk h46, rI_wRk h46, rI_wIk h47, rI_wRk h47, rI_wIk h48, rI_wRk h48, rI_wIk h49, rI_wRk h49, rI_wIk h50, rI_wRk h50, fr_f_X6_place h44_0 h45 h46 h47 h48 h49]; done) | ((repeat' split) <;> first | rfl | simp only [rI_wIc h44_0, rI_wIk h45, rI_wRk h45, rI_wIk h46, rI_wRk h46, rI_wIk h47, rI_wRk h47, rI_wIk h48, rI_wRk h48, rI_wIk h49, rI_wRk h49, rI_wIk h50, rI_wRk h50, fr_f_X6_place h44_0 h45 h46 h47 h48 h49] | (apply fr_f_X6_place <;> assumption))
theorem fr_lp_uasg {a0 c0 : Nat} (h44_0 : ¬ (a0 = 44 ∧ c0 = 0)) (h45 : a0 ≠ 45) (h46 : a0 ≠ 46) (h47 : a0 ≠ 47) (h48 : a0 ≠ 48) (h49 : a0 ≠ 49) (h50 : a0 ≠ 50)  (n : Nat) (p : gS) : rI (itr (bd_uasg) n p) a0 c0 = rI p a0 c0 := by
  induction n with
  | zero => rfl
  | succ n ih => exact (fr_bd_uasg h44_0 h45 h46 h47 h48 h49 h50 _ _).trans ih

theorem place_sz (S : gS) (j : Nat) (w : Int32) : rI (f_X6_place S j w).2 44 0 = rI S 44 0 ∨ rI (f_X6_place S j w).2 44 0 = rI S 44 0 + 1 := by
  unfold f_X6_place
  split
  · right
    simp [rI_wI]
  · left
    simp [rI_wI]
theorem uasg_sz (S : gS) (h0 : rI S 44 0 = 0) (i : Nat) : ∃ m, rI (itr bd_uasg i S) 44 0 = nI m ∧ m ≤ i := by
  induction i with
  | zero => exact ⟨0, h0, Nat.le_refl _⟩
  | succ i ih =>
    obtain ⟨m, h1, h2⟩ := ih
    have hs : rI (bd_uasg i (itr bd_uasg i S)) 44 0 = rI (itr bd_uasg i S) 44 0 ∨ rI (bd_uasg i (itr bd_uasg i S)) 44 0 = rI (itr bd_uasg i S) 44 0 + 1 := by
      unfold bd_uasg
      (repeat' split) <;> first | exact Or.inl (rI_wIk (by decide) _ _ _) | (rw [rI_wIk (by decide)]; exact place_sz _ _ _)
    rcases hs with e | e
    · exact ⟨m, e.trans h1, by omega⟩
    · exact ⟨m + 1, by rw [show rI (itr bd_uasg (i + 1) S) 44 0 = _ from e, h1]; exact nI_1 m, by omega⟩
def f_X6_assign (S : gS) (n : Nat) : gS := (itr (bd_uasg) n (wI S 44 0 0))
set_option maxRecDepth 100000 in
set_option maxHeartbeats 1000000 in
theorem ct_X6_assign (S : gS) (n : Nat) (ho : okC S n) : gF mX6_assign [.ref 44, .ref 1, .ref 40] S none (f_X6_assign S n) := by
  refine go_enter [.ref 44, .ref 1, .ref 40] [(0, .ref 44), (1, .ref 1), (2, .ref 40)] (by decide +kernel) rfl rfl (Nat.le_of_ble_eq_true rfl) rfl ?_
  refine go_aload_n 1 dX6_assign_0 rfl rfl ?_
  refine go_iconst 2 (0) dX6_assign_1 rfl (by decide) ?_
  refine g_putI 5 dX6_assign_2 rfl fF_RX6_9 ly_44 rfl (fun q hq => by cases hq; rfl) rfl rfl ?_
  refine go_iconst 6 (0) dX6_assign_5 rfl (by decide) ?_
  refine go_istore_n 7 [(3, .int _), (0, .ref 44), (1, .ref 1), (2, .ref 40)] dX6_assign_6 rfl (Nat.le_of_ble_eq_true rfl) rfl ?_
  refine go_ls [(3, .int _), (0, .ref 44), (1, .ref 1), (2, .ref 40)] (List.forall_mem_cons.mpr ⟨rfl, List.forall_mem_cons.mpr ⟨rfl, List.forall_mem_cons.mpr ⟨rfl, List.forall_mem_cons.mpr ⟨rfl, fun _ h => absurd h List.not_mem_nil⟩⟩⟩⟩) ?_
  refine lk_uasg n _ (fun i hi => ⟨okC.of ho (fun a c h => (fr_lp_uasg (by omega) (by omega) (by omega) (by omega) (by omega) (by omega) (by omega) i _).trans (rI_wIc (by omega) _ _)), uasg_sz _ (by rw [rI_wI, if_pos ⟨rfl, rfl⟩]) i⟩) ?_ 0 (Nat.zero_le _)
  refine go_return dX6_assign_84 rfl (Nat.le_of_ble_eq_true rfl) (Nat.le_of_ble_eq_true rfl) ?_
  exact ⟨rfl, congrArg hp rfl⟩
theorem fr_f_X6_assign {a0 c0 : Nat} (h44_0 : ¬ (a0 = 44 ∧ c0 = 0)) (h45 : a0 ≠ 45) (h46 : a0 ≠ 46) (h47 : a0 ≠ 47) (h48 : a0 ≠ 48) (h49 : a0 ≠ 49) (h50 : a0 ≠ 50) (S : gS) (n : Nat) : rI (f_X6_assign S n) a0 c0 = rI S a0 c0 := by
  unfold f_X6_assign
  first | (simp only [snd_ite, rI_ite, ite_self, rI_wIc h44_0, rI_wIk h45, rI_wRk h45, rI_wIk h46, rI_wRk h46, rI_wIk h47, rI_wRk h47, rI_wIk h48, rI_wRk h48, rI_wIk h49, rI_wRk h49, rI_wIk h50, rI_wRk h50, fr_lp_uasg h44_0 h45 h46 h47 h48 h49 h50]; done) | ((repeat' split) <;> first | rfl | simp only [rI_wIc h44_0, rI_wIk h45, rI_wRk h45, rI_wIk h46, rI_wRk h46, rI_wIk h47, rI_wRk h47, rI_wIk h48, rI_wRk h48, rI_wIk h49, rI_wRk h49, rI_wIk h50, rI_wRk h50, fr_lp_uasg h44_0 h45 h46 h47 h48 h49 h50])

def f_detF (S : gS) (j : Nat) : Int32 := (if (rI S 2 j) = 0 then (rI S 9 j) else (if (rI S 2 j) = 1 then (rI S 3 j) else (if (rI S 2 j) = 2 then (rI S 10 j) else (if (rI S 2 j) = 3 then ((rI S 52 ((rI S 3 j)).toNatClampNeg) + (rI S 52 ((rI S 4 j)).toNatClampNeg)) else (if (rI S 2 j) = 4 then ((rI S 52 ((rI S 3 j)).toNatClampNeg) - (rI S 52 ((rI S 4 j)).toNatClampNeg)) else (if (rI S 2 j) = 5 then ((rI S 52 ((rI S 3 j)).toNatClampNeg) * (rI S 52 ((rI S 4 j)).toNatClampNeg)) else (if (rI S 2 j) = 6 then ((rI S 52 ((rI S 3 j)).toNatClampNeg) &&& (rI S 52 ((rI S 4 j)).toNatClampNeg)) else (if (rI S 2 j) = 7 then ((rI S 52 ((rI S 3 j)).toNatClampNeg) ||| (rI S 52 ((rI S 4 j)).toNatClampNeg)) else (if (rI S 2 j) = 8 then ((rI S 52 ((rI S 3 j)).toNatClampNeg) ^^^ (rI S 52 ((rI S 4 j)).toNatClampNeg)) else (if (rI S 2 j) = 9 then ((rI S 52 ((rI S 3 j)).toNatClampNeg) <<< ((rI S 4 j) &&& 31)) else (if (rI S 2 j) = 10 then ((rI S 52 ((rI S 3 j)).toNatClampNeg) >>> ((rI S 4 j) &&& 31)) else (if (rI S 2 j) = 11 then (if (rI S 52 ((rI S 4 j)).toNatClampNeg) ≤ (rI S 52 ((rI S 3 j)).toNatClampNeg) then 0 else 1) else (if (rI S 52 ((rI S 3 j)).toNatClampNeg) = 0 then (rI S 52 ((rI S 5 j)).toNatClampNeg) else (rI S 52 ((rI S 4 j)).toNatClampNeg))))))))))))))
set_option maxRecDepth 100000 in
set_option maxHeartbeats 1000000 in
theorem ct_detF (S : gS) (j : Nat) (n : Nat) (ho : okC S n) (hj : j < n) : gF mX3_determine [.ref 51, .ref 1, .ref 10, .int (nI j)] S (some (.int (f_detF S j))) S := by
  have h24 := ho.2.1
  have hcl := nI_c (n := j) (by omega)
  refine go_enter [.ref 51, .ref 1, .ref 10, .int (nI j)] [(0, .ref 51), (1, .ref 1), (2, .ref 10), (3, .int (nI j))] (by decide +kernel) rfl rfl (Nat.le_of_ble_eq_true rfl) rfl ?_
  refine go_aload_n 1 dX3_determine_0 rfl rfl ?_
  refine g_getR 4 dX3_determine_1 rfl fF_RX3_31 ly_1 rfl ?_
  refine go_iload_n 5 dX3_determine_4 rfl rfl ?_
  refine g_iald2 6 j dX3_determine_5 rfl ly_3 (nI_i (by omega) (by omega)) hcl ?_
  refine go_istore 8 [(4, .int _), (0, .ref 51), (1, .ref 1), (2, .ref 10), (3, .int _)] dX3_determine_6 rfl (Nat.le_of_ble_eq_true rfl) rfl ?_
  refine go_aload_n 9 dX3_determine_8 rfl rfl ?_
  refine g_getR 12 dX3_determine_9 rfl fF_RX3_34 ly_1 rfl ?_
  refine go_iload_n 13 dX3_determine_12 rfl rfl ?_
  refine g_iald2 14 j dX3_determine_13 rfl ly_4 (nI_i (by omega) (by omega)) hcl ?_
  refine go_istore 16 [(5, .int _), (4, .int _), (0, .ref 51), (1, .ref 1), (2, .ref 10), (3, .int _)] dX3_determine_14 rfl (Nat.le_of_ble_eq_true rfl) rfl ?_
  refine go_aload_n 17 dX3_determine_16 rfl rfl ?_
  refine g_getR 20 dX3_determine_17 rfl fF_RX3_37 ly_1 rfl ?_
  refine go_iload_n 21 dX3_determine_20 rfl rfl ?_
  refine g_iald2 22 j dX3_determine_21 rfl ly_2 (nI_i (by omega) (by omega)) hcl ?_
  refine go_tableS [(0, 84), (1, 91), (2, 94), (3, 98), (4, 114), (5, 130), (6, 146), (7, 162), (8, 178), (9, 194), (10, 205), (11, 216)] 239 dX3_determine_22 rfl rfl (by decide) (by decide) rfl (by decide) (List.forall_mem_cons.mpr ⟨fun hc1 => ?_, List.forall_mem_cons.mpr ⟨fun hc1 => ?_, List.forall_mem_cons.mpr ⟨fun hc1 => ?_, List.forall_mem_cons.mpr ⟨fun hc1 => ?_, List.forall_mem_cons.mpr ⟨fun hc1 => ?_, List.forall_mem_cons.mpr ⟨fun hc1 => ?_, List.forall_mem_cons.mpr ⟨fun hc1 => ?_, List.forall_mem_cons.mpr ⟨fun hc1 => ?_, List.forall_mem_cons.mpr ⟨fun hc1 => ?_, List.forall_mem_cons.mpr ⟨fun hc1 => ?_, List.forall_mem_cons.mpr ⟨fun hc1 => ?_, List.forall_mem_cons.mpr ⟨fun hc1 => ?_, fun _ h => absurd h List.not_mem_nil⟩⟩⟩⟩⟩⟩⟩⟩⟩⟩⟩⟩) (fun hc1 => ?_)
  · have hc1 : (rI S 2 j) = 0 := hc1
    refine go_aload_n 85 dX3_determine_84 rfl rfl ?_
    refine g_getR 88 dX3_determine_85 rfl fF_RX3_40 ly_1 rfl ?_
    refine go_iload_n 89 dX3_determine_88 rfl rfl ?_
    refine g_iald2 90 j dX3_determine_89 rfl ly_9 (nI_i (by omega) (by omega)) hcl ?_
    refine go_ireturn dX3_determine_90 rfl (by first | rfl | exact bi_nar) (Nat.le_of_ble_eq_true rfl) (Nat.le_of_ble_eq_true rfl) ?_
    exact ⟨congrArg (fun z => some (Value.int z)) (by unfold f_detF; simp only [if_pos hc1]; try first | rfl | contradiction), rfl⟩
  · have hc1 : (rI S 2 j) = 1 := hc1
    have hc1_0 : ¬ (rI S 2 j) = 0 := by rw [hc1]; decide
    refine go_iload 93 dX3_determine_91 rfl rfl ?_
    refine go_ireturn dX3_determine_93 rfl (by first | rfl | exact bi_nar) (Nat.le_of_ble_eq_true rfl) (Nat.le_of_ble_eq_true rfl) ?_
    exact ⟨congrArg (fun z => some (Value.int z)) (by unfold f_detF; simp only [if_neg hc1_0, if_pos hc1]; try first | rfl | contradiction), rfl⟩
  · have hc1 : (rI S 2 j) = 2 := hc1
    have hc1_0 : ¬ (rI S 2 j) = 0 := by rw [hc1]; decide
    have hc1_1 : ¬ (rI S 2 j) = 1 := by rw [hc1]; decide
    refine go_aload_n 95 dX3_determine_94 rfl rfl ?_
    refine go_iload_n 96 dX3_determine_95 rfl rfl ?_
    refine g_iald2 97 j dX3_determine_96 rfl ly_10 (nI_i (by omega) (by omega)) hcl ?_
    refine go_ireturn dX3_determine_97 rfl (by first | rfl | exact bi_nar) (Nat.le_of_ble_eq_true rfl) (Nat.le_of_ble_eq_true rfl) ?_
    exact ⟨congrArg (fun z => some (Value.int z)) (by unfold f_detF; simp only [if_neg hc1_0, if_neg hc1_1, if_pos hc1]; try first | rfl | contradiction), rfl⟩
  · have hc1 : (rI S 2 j) = 3 := hc1
    have hc1_0 : ¬ (rI S 2 j) = 0 := by rw [hc1]; decide
    have hc1_1 : ¬ (rI S 2 j) = 1 := by rw [hc1]; decide
    have hc1_2 : ¬ (rI S 2 j) = 2 := by rw [hc1]; decide
    refine go_aload_n 99 dX3_determine_98 rfl rfl ?_
    refine g_getR 102 dX3_determine_99 rfl fF_RX3_9 ly_51 rfl ?_
    refine go_iload 104 dX3_determine_102 rfl rfl ?_
    refine g_iald2 105 _ dX3_determine_104 rfl ly_52 (okC.a ho hj (by first | (rw [hc1]; decide) | (rw [(okC.twelve ho hj hc1_0 hc1_1 hc1_2 hc1_3 hc1_4 hc1_5 hc1_6 hc1_7 hc1_8 hc1_9 hc1_10 hc1_11)]; decide))) rfl ?_
    refine go_aload_n 106 dX3_determine_105 rfl rfl ?_
    refine g_getR 109 dX3_determine_106 rfl fF_RX3_9 ly_51 rfl ?_
    refine go_iload 111 dX3_determine_109 rfl rfl ?_
    refine g_iald2 112 _ dX3_determine_111 rfl ly_52 (okC.b ho hj (by first | (rw [hc1]; decide) | (rw [(okC.twelve ho hj hc1_0 hc1_1 hc1_2 hc1_3 hc1_4 hc1_5 hc1_6 hc1_7 hc1_8 hc1_9 hc1_10 hc1_11)]; decide)) (by first | (rw [hc1]; decide) | (rw [(okC.twelve ho hj hc1_0 hc1_1 hc1_2 hc1_3 hc1_4 hc1_5 hc1_6 hc1_7 hc1_8 hc1_9 hc1_10 hc1_11)]; decide)) (by first | (rw [hc1]; decide) | (rw [(okC.twelve ho hj hc1_0 hc1_1 hc1_2 hc1_3 hc1_4 hc1_5 hc1_6 hc1_7 hc1_8 hc1_9 hc1_10 hc1_11)]; decide))) rfl ?_
    refine go_iadd 113 dX3_determine_112 rfl ?_
    refine go_ireturn dX3_determine_113 rfl (by first | rfl | exact bi_nar) (Nat.le_of_ble_eq_true rfl) (Nat.le_of_ble_eq_true rfl) ?_
    exact ⟨congrArg (fun z => some (Value.int z)) (by unfold f_detF; simp only [if_neg hc1_0, if_neg hc1_1, if_neg hc1_2, if_pos hc1]; try first | rfl | contradiction), rfl⟩
  · have hc1 : (rI S 2 j) = 4 := hc1
    have hc1_0 : ¬ (rI S 2 j) = 0 := by rw [hc1]; decide
    have hc1_1 : ¬ (rI S 2 j) = 1 := by rw [hc1]; decide
    have hc1_2 : ¬ (rI S 2 j) = 2 := by rw [hc1]; decide
    have hc1_3 : ¬ (rI S 2 j) = 3 := by rw [hc1]; decide
    refine go_aload_n 115 dX3_determine_114 rfl rfl ?_
    refine g_getR 118 dX3_determine_115 rfl fF_RX3_9 ly_51 rfl ?_
    refine go_iload 120 dX3_determine_118 rfl rfl ?_
    refine g_iald2 121 _ dX3_determine_120 rfl ly_52 (okC.a ho hj (by first | (rw [hc1]; decide) | (rw [(okC.twelve ho hj hc1_0 hc1_1 hc1_2 hc1_3 hc1_4 hc1_5 hc1_6 hc1_7 hc1_8 hc1_9 hc1_10 hc1_11)]; decide))) rfl ?_
    refine go_aload_n 122 dX3_determine_121 rfl rfl ?_
    refine g_getR 125 dX3_determine_122 rfl fF_RX3_9 ly_51 rfl ?_
    refine go_iload 127 dX3_determine_125 rfl rfl ?_
    refine g_iald2 128 _ dX3_determine_127 rfl ly_52 (okC.b ho hj (by first | (rw [hc1]; decide) | (rw [(okC.twelve ho hj hc1_0 hc1_1 hc1_2 hc1_3 hc1_4 hc1_5 hc1_6 hc1_7 hc1_8 hc1_9 hc1_10 hc1_11)]; decide)) (by first | (rw [hc1]; decide) | (rw [(okC.twelve ho hj hc1_0 hc1_1 hc1_2 hc1_3 hc1_4 hc1_5 hc1_6 hc1_7 hc1_8 hc1_9 hc1_10 hc1_11)]; decide)) (by first | (rw [hc1]; decide) | (rw [(okC.twelve ho hj hc1_0 hc1_1 hc1_2 hc1_3 hc1_4 hc1_5 hc1_6 hc1_7 hc1_8 hc1_9 hc1_10 hc1_11)]; decide))) rfl ?_
    refine go_isub 129 dX3_determine_128 rfl ?_
    refine go_ireturn dX3_determine_129 rfl (by first | rfl | exact bi_nar) (Nat.le_of_ble_eq_true rfl) (Nat.le_of_ble_eq_true rfl) ?_
    exact ⟨congrArg (fun z => some (Value.int z)) (by unfold f_detF; simp only [if_neg hc1_0, if_neg hc1_1, if_neg hc1_2, if_neg hc1_3, if_pos hc1]; try first | rfl | contradiction), rfl⟩
  · have hc1 : (rI S 2 j) = 5 := hc1
    have hc1_0 : ¬ (rI S 2 j) = 0 := by rw [hc1]; decide
    have hc1_1 : ¬ (rI S 2 j) = 1 := by rw [hc1]; decide
    have hc1_2 : ¬ (rI S 2 j) = 2 := by rw [hc1]; decide
    have hc1_3 : ¬ (rI S 2 j) = 3 := by rw [hc1]; decide
    have hc1_4 : ¬ (rI S 2 j) = 4 := by rw [hc1]; decide
    refine go_aload_n 131 dX3_determine_130 rfl rfl ?_
    refine g_getR 134 dX3_determine_131 rfl fF_RX3_9 ly_51 rfl ?_
    refine go_iload 136 dX3_determine_134 rfl rfl ?_
    refine g_iald2 137 _ dX3_determine_136 rfl ly_52 (okC.a ho hj (by first | (rw [hc1]; decide) | (rw [(okC.twelve ho hj hc1_0 hc1_1 hc1_2 hc1_3 hc1_4 hc1_5 hc1_6 hc1_7 hc1_8 hc1_9 hc1_10 hc1_11)]; decide))) rfl ?_
    refine go_aload_n 138 dX3_determine_137 rfl rfl ?_
    refine g_getR 141 dX3_determine_138 rfl fF_RX3_9 ly_51 rfl ?_
    refine go_iload 143 dX3_determine_141 rfl rfl ?_
    refine g_iald2 144 _ dX3_determine_143 rfl ly_52 (okC.b ho hj (by first | (rw [hc1]; decide) | (rw [(okC.twelve ho hj hc1_0 hc1_1 hc1_2 hc1_3 hc1_4 hc1_5 hc1_6 hc1_7 hc1_8 hc1_9 hc1_10 hc1_11)]; decide)) (by first | (rw [hc1]; decide) | (rw [(okC.twelve ho hj hc1_0 hc1_1 hc1_2 hc1_3 hc1_4 hc1_5 hc1_6 hc1_7 hc1_8 hc1_9 hc1_10 hc1_11)]; decide)) (by first | (rw [hc1]; decide) | (rw [(okC.twelve ho hj hc1_0 hc1_1 hc1_2 hc1_3 hc1_4 hc1_5 hc1_6 hc1_7 hc1_8 hc1_9 hc1_10 hc1_11)]; decide))) rfl ?_
    refine go_imul 145 dX3_determine_144 rfl ?_
    refine go_ireturn dX3_determine_145 rfl (by first | rfl | exact bi_nar) (Nat.le_of_ble_eq_true rfl) (Nat.le_of_ble_eq_true rfl) ?_
    exact ⟨congrArg (fun z => some (Value.int z)) (by unfold f_detF; simp only [if_neg hc1_0, if_neg hc1_1, if_neg hc1_2, if_neg hc1_3, if_neg hc1_4, if_pos hc1]; try first | rfl | contradiction), rfl⟩
  · have hc1 : (rI S 2 j) = 6 := hc1
    have hc1_0 : ¬ (rI S 2 j) = 0 := by rw [hc1]; decide
    have hc1_1 : ¬ (rI S 2 j) = 1 := by rw [hc1]; decide
    have hc1_2 : ¬ (rI S 2 j) = 2 := by rw [hc1]; decide
    have hc1_3 : ¬ (rI S 2 j) = 3 := by rw [hc1]; decide
    have hc1_4 : ¬ (rI S 2 j) = 4 := by rw [hc1]; decide
    have hc1_5 : ¬ (rI S 2 j) = 5 := by rw [hc1]; decide
    refine go_aload_n 147 dX3_determine_146 rfl rfl ?_
    refine g_getR 150 dX3_determine_147 rfl fF_RX3_9 ly_51 rfl ?_
    refine go_iload 152 dX3_determine_150 rfl rfl ?_
    refine g_iald2 153 _ dX3_determine_152 rfl ly_52 (okC.a ho hj (by first | (rw [hc1]; decide) | (rw [(okC.twelve ho hj hc1_0 hc1_1 hc1_2 hc1_3 hc1_4 hc1_5 hc1_6 hc1_7 hc1_8 hc1_9 hc1_10 hc1_11)]; decide))) rfl ?_
    refine go_aload_n 154 dX3_determine_153 rfl rfl ?_
    refine g_getR 157 dX3_determine_154 rfl fF_RX3_9 ly_51 rfl ?_
    refine go_iload 159 dX3_determine_157 rfl rfl ?_
    refine g_iald2 160 _ dX3_determine_159 rfl ly_52 (okC.b ho hj (by first | (rw [hc1]; decide) | (rw [(okC.twelve ho hj hc1_0 hc1_1 hc1_2 hc1_3 hc1_4 hc1_5 hc1_6 hc1_7 hc1_8 hc1_9 hc1_10 hc1_11)]; decide)) (by first | (rw [hc1]; decide) | (rw [(okC.twelve ho hj hc1_0 hc1_1 hc1_2 hc1_3 hc1_4 hc1_5 hc1_6 hc1_7 hc1_8 hc1_9 hc1_10 hc1_11)]; decide)) (by first | (rw [hc1]; decide) | (rw [(okC.twelve ho hj hc1_0 hc1_1 hc1_2 hc1_3 hc1_4 hc1_5 hc1_6 hc1_7 hc1_8 hc1_9 hc1_10 hc1_11)]; decide))) rfl ?_
    refine go_iand 161 dX3_determine_160 rfl ?_
    refine go_ireturn dX3_determine_161 rfl (by first | rfl | exact bi_nar) (Nat.le_of_ble_eq_true rfl) (Nat.le_of_ble_eq_true rfl) ?_
    exact ⟨congrArg (fun z => some (Value.int z)) (by unfold f_detF; simp only [if_neg hc1_0, if_neg hc1_1, if_neg hc1_2, if_neg hc1_3, if_neg hc1_4, if_neg hc1_5, if_pos hc1]; try first | rfl | contradiction), rfl⟩
  · have hc1 : (rI S 2 j) = 7 := hc1
    have hc1_0 : ¬ (rI S 2 j) = 0 := by rw [hc1]; decide
    have hc1_1 : ¬ (rI S 2 j) = 1 := by rw [hc1]; decide
    have hc1_2 : ¬ (rI S 2 j) = 2 := by rw [hc1]; decide
    have hc1_3 : ¬ (rI S 2 j) = 3 := by rw [hc1]; decide
    have hc1_4 : ¬ (rI S 2 j) = 4 := by rw [hc1]; decide
    have hc1_5 : ¬ (rI S 2 j) = 5 := by rw [hc1]; decide
    have hc1_6 : ¬ (rI S 2 j) = 6 := by rw [hc1]; decide
    refine go_aload_n 163 dX3_determine_162 rfl rfl ?_
    refine g_getR 166 dX3_determine_163 rfl fF_RX3_9 ly_51 rfl ?_
    refine go_iload 168 dX3_determine_166 rfl rfl ?_
    refine g_iald2 169 _ dX3_determine_168 rfl ly_52 (okC.a ho hj (by first | (rw [hc1]; decide) | (rw [(okC.twelve ho hj hc1_0 hc1_1 hc1_2 hc1_3 hc1_4 hc1_5 hc1_6 hc1_7 hc1_8 hc1_9 hc1_10 hc1_11)]; decide))) rfl ?_
    refine go_aload_n 170 dX3_determine_169 rfl rfl ?_
    refine g_getR 173 dX3_determine_170 rfl fF_RX3_9 ly_51 rfl ?_
    refine go_iload 175 dX3_determine_173 rfl rfl ?_
    refine g_iald2 176 _ dX3_determine_175 rfl ly_52 (okC.b ho hj (by first | (rw [hc1]; decide) | (rw [(okC.twelve ho hj hc1_0 hc1_1 hc1_2 hc1_3 hc1_4 hc1_5 hc1_6 hc1_7 hc1_8 hc1_9 hc1_10 hc1_11)]; decide)) (by first | (rw [hc1]; decide) | (rw [(okC.twelve ho hj hc1_0 hc1_1 hc1_2 hc1_3 hc1_4 hc1_5 hc1_6 hc1_7 hc1_8 hc1_9 hc1_10 hc1_11)]; decide)) (by first | (rw [hc1]; decide) | (rw [(okC.twelve ho hj hc1_0 hc1_1 hc1_2 hc1_3 hc1_4 hc1_5 hc1_6 hc1_7 hc1_8 hc1_9 hc1_10 hc1_11)]; decide))) rfl ?_
    refine go_ior 177 dX3_determine_176 rfl ?_
    refine go_ireturn dX3_determine_177 rfl (by first | rfl | exact bi_nar) (Nat.le_of_ble_eq_true rfl) (Nat.le_of_ble_eq_true rfl) ?_
    exact ⟨congrArg (fun z => some (Value.int z)) (by unfold f_detF; simp only [if_neg hc1_0, if_neg hc1_1, if_neg hc1_2, if_neg hc1_3, if_neg hc1_4, if_neg hc1_5, if_neg hc1_6, if_pos hc1]; try first | rfl | contradiction), rfl⟩
  · have hc1 : (rI S 2 j) = 8 := hc1
    have hc1_0 : ¬ (rI S 2 j) = 0 := by rw [hc1]; decide
    have hc1_1 : ¬ (rI S 2 j) = 1 := by rw [hc1]; decide
    have hc1_2 : ¬ (rI S 2 j) = 2 := by rw [hc1]; decide
    have hc1_3 : ¬ (rI S 2 j) = 3 := by rw [hc1]; decide
    have hc1_4 : ¬ (rI S 2 j) = 4 := by rw [hc1]; decide
    have hc1_5 : ¬ (rI S 2 j) = 5 := by rw [hc1]; decide
    have hc1_6 : ¬ (rI S 2 j) = 6 := by rw [hc1]; decide
    have hc1_7 : ¬ (rI S 2 j) = 7 := by rw [hc1]; decide
    refine go_aload_n 179 dX3_determine_178 rfl rfl ?_
    refine g_getR 182 dX3_determine_179 rfl fF_RX3_9 ly_51 rfl ?_
    refine go_iload 184 dX3_determine_182 rfl rfl ?_
    refine g_iald2 185 _ dX3_determine_184 rfl ly_52 (okC.a ho hj (by first | (rw [hc1]; decide) | (rw [(okC.twelve ho hj hc1_0 hc1_1 hc1_2 hc1_3 hc1_4 hc1_5 hc1_6 hc1_7 hc1_8 hc1_9 hc1_10 hc1_11)]; decide))) rfl ?_
    refine go_aload_n 186 dX3_determine_185 rfl rfl ?_
    refine g_getR 189 dX3_determine_186 rfl fF_RX3_9 ly_51 rfl ?_
    refine go_iload 191 dX3_determine_189 rfl rfl ?_
    refine g_iald2 192 _ dX3_determine_191 rfl ly_52 (okC.b ho hj (by first | (rw [hc1]; decide) | (rw [(okC.twelve ho hj hc1_0 hc1_1 hc1_2 hc1_3 hc1_4 hc1_5 hc1_6 hc1_7 hc1_8 hc1_9 hc1_10 hc1_11)]; decide)) (by first | (rw [hc1]; decide) | (rw [(okC.twelve ho hj hc1_0 hc1_1 hc1_2 hc1_3 hc1_4 hc1_5 hc1_6 hc1_7 hc1_8 hc1_9 hc1_10 hc1_11)]; decide)) (by first | (rw [hc1]; decide) | (rw [(okC.twelve ho hj hc1_0 hc1_1 hc1_2 hc1_3 hc1_4 hc1_5 hc1_6 hc1_7 hc1_8 hc1_9 hc1_10 hc1_11)]; decide))) rfl ?_
    refine go_ixor 193 dX3_determine_192 rfl ?_
    refine go_ireturn dX3_determine_193 rfl (by first | rfl | exact bi_nar) (Nat.le_of_ble_eq_true rfl) (Nat.le_of_ble_eq_true rfl) ?_
    exact ⟨congrArg (fun z => some (Value.int z)) (by unfold f_detF; simp only [if_neg hc1_0, if_neg hc1_1, if_neg hc1_2, if_neg hc1_3, if_neg hc1_4, if_neg hc1_5, if_neg hc1_6, if_neg hc1_7, if_pos hc1]; try first | rfl | contradiction), rfl⟩
  · have hc1 : (rI S 2 j) = 9 := hc1
    have hc1_0 : ¬ (rI S 2 j) = 0 := by rw [hc1]; decide
    have hc1_1 : ¬ (rI S 2 j) = 1 := by rw [hc1]; decide
    have hc1_2 : ¬ (rI S 2 j) = 2 := by rw [hc1]; decide
    have hc1_3 : ¬ (rI S 2 j) = 3 := by rw [hc1]; decide
    have hc1_4 : ¬ (rI S 2 j) = 4 := by rw [hc1]; decide
    have hc1_5 : ¬ (rI S 2 j) = 5 := by rw [hc1]; decide
    have hc1_6 : ¬ (rI S 2 j) = 6 := by rw [hc1]; decide
    have hc1_7 : ¬ (rI S 2 j) = 7 := by rw [hc1]; decide
    have hc1_8 : ¬ (rI S 2 j) = 8 := by rw [hc1]; decide
    refine go_aload_n 195 dX3_determine_194 rfl rfl ?_
    refine g_getR 198 dX3_determine_195 rfl fF_RX3_9 ly_51 rfl ?_
    refine go_iload 200 dX3_determine_198 rfl rfl ?_
    refine g_iald2 201 _ dX3_determine_200 rfl ly_52 (okC.a ho hj (by first | (rw [hc1]; decide) | (rw [(okC.twelve ho hj hc1_0 hc1_1 hc1_2 hc1_3 hc1_4 hc1_5 hc1_6 hc1_7 hc1_8 hc1_9 hc1_10 hc1_11)]; decide))) rfl ?_
    refine go_iload 203 dX3_determine_201 rfl rfl ?_
    refine go_ishl 204 dX3_determine_203 rfl ?_
    refine go_ireturn dX3_determine_204 rfl (by first | rfl | exact bi_nar) (Nat.le_of_ble_eq_true rfl) (Nat.le_of_ble_eq_true rfl) ?_
    exact ⟨congrArg (fun z => some (Value.int z)) (by unfold f_detF; simp only [if_neg hc1_0, if_neg hc1_1, if_neg hc1_2, if_neg hc1_3, if_neg hc1_4, if_neg hc1_5, if_neg hc1_6, if_neg hc1_7, if_neg hc1_8, if_pos hc1]; try first | rfl | contradiction), rfl⟩
  · have hc1 : (rI S 2 j) = 10 := hc1
    have hc1_0 : ¬ (rI S 2 j) = 0 := by rw [hc1]; decide
    have hc1_1 : ¬ (rI S 2 j) = 1 := by rw [hc1]; decide
    have hc1_2 : ¬ (rI S 2 j) = 2 := by rw [hc1]; decide
    have hc1_3 : ¬ (rI S 2 j) = 3 := by rw [hc1]; decide
    have hc1_4 : ¬ (rI S 2 j) = 4 := by rw [hc1]; decide
    have hc1_5 : ¬ (rI S 2 j) = 5 := by rw [hc1]; decide
    have hc1_6 : ¬ (rI S 2 j) = 6 := by rw [hc1]; decide
    have hc1_7 : ¬ (rI S 2 j) = 7 := by rw [hc1]; decide
    have hc1_8 : ¬ (rI S 2 j) = 8 := by rw [hc1]; decide
    have hc1_9 : ¬ (rI S 2 j) = 9 := by rw [hc1]; decide
    refine go_aload_n 206 dX3_determine_205 rfl rfl ?_
    refine g_getR 209 dX3_determine_206 rfl fF_RX3_9 ly_51 rfl ?_
    refine go_iload 211 dX3_determine_209 rfl rfl ?_
    refine g_iald2 212 _ dX3_determine_211 rfl ly_52 (okC.a ho hj (by first | (rw [hc1]; decide) | (rw [(okC.twelve ho hj hc1_0 hc1_1 hc1_2 hc1_3 hc1_4 hc1_5 hc1_6 hc1_7 hc1_8 hc1_9 hc1_10 hc1_11)]; decide))) rfl ?_
    refine go_iload 214 dX3_determine_212 rfl rfl ?_
    refine go_ishr 215 dX3_determine_214 rfl ?_
    refine go_ireturn dX3_determine_215 rfl (by first | rfl | exact bi_nar) (Nat.le_of_ble_eq_true rfl) (Nat.le_of_ble_eq_true rfl) ?_
    exact ⟨congrArg (fun z => some (Value.int z)) (by unfold f_detF; simp only [if_neg hc1_0, if_neg hc1_1, if_neg hc1_2, if_neg hc1_3, if_neg hc1_4, if_neg hc1_5, if_neg hc1_6, if_neg hc1_7, if_neg hc1_8, if_neg hc1_9, if_pos hc1]; try first | rfl | contradiction), rfl⟩
  · have hc1 : (rI S 2 j) = 11 := hc1
    have hc1_0 : ¬ (rI S 2 j) = 0 := by rw [hc1]; decide
    have hc1_1 : ¬ (rI S 2 j) = 1 := by rw [hc1]; decide
    have hc1_2 : ¬ (rI S 2 j) = 2 := by rw [hc1]; decide
    have hc1_3 : ¬ (rI S 2 j) = 3 := by rw [hc1]; decide
    have hc1_4 : ¬ (rI S 2 j) = 4 := by rw [hc1]; decide
    have hc1_5 : ¬ (rI S 2 j) = 5 := by rw [hc1]; decide
    have hc1_6 : ¬ (rI S 2 j) = 6 := by rw [hc1]; decide
    have hc1_7 : ¬ (rI S 2 j) = 7 := by rw [hc1]; decide
    have hc1_8 : ¬ (rI S 2 j) = 8 := by rw [hc1]; decide
    have hc1_9 : ¬ (rI S 2 j) = 9 := by rw [hc1]; decide
    have hc1_10 : ¬ (rI S 2 j) = 10 := by rw [hc1]; decide
    refine go_aload_n 217 dX3_determine_216 rfl rfl ?_
    refine g_getR 220 dX3_determine_217 rfl fF_RX3_9 ly_51 rfl ?_
    refine go_iload 222 dX3_determine_220 rfl rfl ?_
    refine g_iald2 223 _ dX3_determine_222 rfl ly_52 (okC.a ho hj (by first | (rw [hc1]; decide) | (rw [(okC.twelve ho hj hc1_0 hc1_1 hc1_2 hc1_3 hc1_4 hc1_5 hc1_6 hc1_7 hc1_8 hc1_9 hc1_10 hc1_11)]; decide))) rfl ?_
    refine go_aload_n 224 dX3_determine_223 rfl rfl ?_
    refine g_getR 227 dX3_determine_224 rfl fF_RX3_9 ly_51 rfl ?_
    refine go_iload 229 dX3_determine_227 rfl rfl ?_
    refine g_iald2 230 _ dX3_determine_229 rfl ly_52 (okC.b ho hj (by first | (rw [hc1]; decide) | (rw [(okC.twelve ho hj hc1_0 hc1_1 hc1_2 hc1_3 hc1_4 hc1_5 hc1_6 hc1_7 hc1_8 hc1_9 hc1_10 hc1_11)]; decide)) (by first | (rw [hc1]; decide) | (rw [(okC.twelve ho hj hc1_0 hc1_1 hc1_2 hc1_3 hc1_4 hc1_5 hc1_6 hc1_7 hc1_8 hc1_9 hc1_10 hc1_11)]; decide)) (by first | (rw [hc1]; decide) | (rw [(okC.twelve ho hj hc1_0 hc1_1 hc1_2 hc1_3 hc1_4 hc1_5 hc1_6 hc1_7 hc1_8 hc1_9 hc1_10 hc1_11)]; decide))) rfl ?_
    refine go_icmp_ge 233 237 dX3_determine_230 rfl (by decide) (fun hc2 => ?_) (fun hc2 => ?_)
    · refine go_iconst 238 (0) dX3_determine_237 rfl (by decide) ?_
      refine go_ireturn dX3_determine_238 rfl (by first | rfl | exact bi_nar) (Nat.le_of_ble_eq_true rfl) (Nat.le_of_ble_eq_true rfl) ?_
      exact ⟨congrArg (fun z => some (Value.int z)) (by unfold f_detF; simp only [if_neg hc1_0, if_neg hc1_1, if_neg hc1_2, if_neg hc1_3, if_neg hc1_4, if_neg hc1_5, if_neg hc1_6, if_neg hc1_7, if_neg hc1_8, if_neg hc1_9, if_neg hc1_10, if_pos hc1, if_pos hc2]; try first | rfl | contradiction), rfl⟩
    · refine go_iconst 234 (1) dX3_determine_233 rfl (by decide) ?_
      refine go_goto 238 dX3_determine_234 (by decide) ?_
      refine go_ireturn dX3_determine_238 rfl (by first | rfl | exact bi_nar) (Nat.le_of_ble_eq_true rfl) (Nat.le_of_ble_eq_true rfl) ?_
      exact ⟨congrArg (fun z => some (Value.int z)) (by unfold f_detF; simp only [if_neg hc1_0, if_neg hc1_1, if_neg hc1_2, if_neg hc1_3, if_neg hc1_4, if_neg hc1_5, if_neg hc1_6, if_neg hc1_7, if_neg hc1_8, if_neg hc1_9, if_neg hc1_10, if_pos hc1, if_neg hc2]; try first | rfl | contradiction), rfl⟩
  · have hc1_0 : ¬ (rI S 2 j) = 0 := hc1 (0, 84) (List.mem_of_getElem? (i := 0) rfl)
    have hc1_1 : ¬ (rI S 2 j) = 1 := hc1 (1, 91) (List.mem_of_getElem? (i := 1) rfl)
    have hc1_2 : ¬ (rI S 2 j) = 2 := hc1 (2, 94) (List.mem_of_getElem? (i := 2) rfl)
    have hc1_3 : ¬ (rI S 2 j) = 3 := hc1 (3, 98) (List.mem_of_getElem? (i := 3) rfl)
    have hc1_4 : ¬ (rI S 2 j) = 4 := hc1 (4, 114) (List.mem_of_getElem? (i := 4) rfl)
    have hc1_5 : ¬ (rI S 2 j) = 5 := hc1 (5, 130) (List.mem_of_getElem? (i := 5) rfl)
    have hc1_6 : ¬ (rI S 2 j) = 6 := hc1 (6, 146) (List.mem_of_getElem? (i := 6) rfl)
    have hc1_7 : ¬ (rI S 2 j) = 7 := hc1 (7, 162) (List.mem_of_getElem? (i := 7) rfl)
    have hc1_8 : ¬ (rI S 2 j) = 8 := hc1 (8, 178) (List.mem_of_getElem? (i := 8) rfl)
    have hc1_9 : ¬ (rI S 2 j) = 9 := hc1 (9, 194) (List.mem_of_getElem? (i := 9) rfl)
    have hc1_10 : ¬ (rI S 2 j) = 10 := hc1 (10, 205) (List.mem_of_getElem? (i := 10) rfl)
    have hc1_11 : ¬ (rI S 2 j) = 11 := hc1 (11, 216) (List.mem_of_getElem? (i := 11) rfl)
    clear hc1
    refine go_aload_n 240 dX3_determine_239 rfl rfl ?_
    refine g_getR 243 dX3_determine_240 rfl fF_RX3_9 ly_51 rfl ?_
    refine go_iload 245 dX3_determine_243 rfl rfl ?_
    refine g_iald2 246 _ dX3_determine_245 rfl ly_52 (okC.a ho hj (by first | (rw [hc1]; decide) | (rw [(okC.twelve ho hj hc1_0 hc1_1 hc1_2 hc1_3 hc1_4 hc1_5 hc1_6 hc1_7 hc1_8 hc1_9 hc1_10 hc1_11)]; decide))) rfl ?_
    refine go_if_eq 249 259 dX3_determine_246 rfl (by decide) (fun hc3 => ?_) (fun hc3 => ?_)
    · refine go_aload_n 260 dX3_determine_259 rfl rfl ?_
      refine g_getR 263 dX3_determine_260 rfl fF_RX3_9 ly_51 rfl ?_
      refine go_aload_n 264 dX3_determine_263 rfl rfl ?_
      refine g_getR 267 dX3_determine_264 rfl fF_RX3_43 ly_1 rfl ?_
      refine go_iload_n 268 dX3_determine_267 rfl rfl ?_
      refine g_iald2 269 j dX3_determine_268 rfl ly_5 (nI_i (by omega) (by omega)) hcl ?_
      refine g_iald2 270 _ dX3_determine_269 rfl ly_52 (okC.c ho hj (okC.twelve ho hj hc1_0 hc1_1 hc1_2 hc1_3 hc1_4 hc1_5 hc1_6 hc1_7 hc1_8 hc1_9 hc1_10 hc1_11)) rfl ?_
      refine go_ireturn dX3_determine_270 rfl (by first | rfl | exact bi_nar) (Nat.le_of_ble_eq_true rfl) (Nat.le_of_ble_eq_true rfl) ?_
      exact ⟨congrArg (fun z => some (Value.int z)) (by unfold f_detF; simp only [if_neg hc1_0, if_neg hc1_1, if_neg hc1_2, if_neg hc1_3, if_neg hc1_4, if_neg hc1_5, if_neg hc1_6, if_neg hc1_7, if_neg hc1_8, if_neg hc1_9, if_neg hc1_10, if_neg hc1_11, if_pos hc3]; try first | rfl | contradiction), rfl⟩
    · refine go_aload_n 250 dX3_determine_249 rfl rfl ?_
      refine g_getR 253 dX3_determine_250 rfl fF_RX3_9 ly_51 rfl ?_
      refine go_iload 255 dX3_determine_253 rfl rfl ?_
      refine g_iald2 256 _ dX3_determine_255 rfl ly_52 (okC.b ho hj (by first | (rw [hc1]; decide) | (rw [(okC.twelve ho hj hc1_0 hc1_1 hc1_2 hc1_3 hc1_4 hc1_5 hc1_6 hc1_7 hc1_8 hc1_9 hc1_10 hc1_11)]; decide)) (by first | (rw [hc1]; decide) | (rw [(okC.twelve ho hj hc1_0 hc1_1 hc1_2 hc1_3 hc1_4 hc1_5 hc1_6 hc1_7 hc1_8 hc1_9 hc1_10 hc1_11)]; decide)) (by first | (rw [hc1]; decide) | (rw [(okC.twelve ho hj hc1_0 hc1_1 hc1_2 hc1_3 hc1_4 hc1_5 hc1_6 hc1_7 hc1_8 hc1_9 hc1_10 hc1_11)]; decide))) rfl ?_
      refine go_goto 270 dX3_determine_256 (by decide) ?_
      refine go_ireturn dX3_determine_270 rfl (by first | rfl | exact bi_nar) (Nat.le_of_ble_eq_true rfl) (Nat.le_of_ble_eq_true rfl) ?_
      exact ⟨congrArg (fun z => some (Value.int z)) (by unfold f_detF; simp only [if_neg hc1_0, if_neg hc1_1, if_neg hc1_2, if_neg hc1_3, if_neg hc1_4, if_neg hc1_5, if_neg hc1_6, if_neg hc1_7, if_neg hc1_8, if_neg hc1_9, if_neg hc1_10, if_neg hc1_11, if_neg hc3]; try first | rfl | contradiction), rfl⟩

def f_detN (S : gS) (j : Nat) : Int32 := (if (rI S 2 j) = 0 then (rI S 9 j) else (if (rI S 2 j) = 1 then (rI S 3 j) else (if (rI S 2 j) = 2 then (rI S 11 j) else (if (rI S 2 j) = 3 then ((rI S 54 ((rI S 3 j)).toNatClampNeg) + (rI S 54 ((rI S 4 j)).toNatClampNeg)) else (if (rI S 2 j) = 4 then ((rI S 54 ((rI S 3 j)).toNatClampNeg) - (rI S 54 ((rI S 4 j)).toNatClampNeg)) else (if (rI S 2 j) = 5 then ((rI S 54 ((rI S 3 j)).toNatClampNeg) * (rI S 54 ((rI S 4 j)).toNatClampNeg)) else (if (rI S 2 j) = 6 then ((rI S 54 ((rI S 3 j)).toNatClampNeg) &&& (rI S 54 ((rI S 4 j)).toNatClampNeg)) else (if (rI S 2 j) = 7 then ((rI S 54 ((rI S 3 j)).toNatClampNeg) ||| (rI S 54 ((rI S 4 j)).toNatClampNeg)) else (if (rI S 2 j) = 8 then ((rI S 54 ((rI S 3 j)).toNatClampNeg) ^^^ (rI S 54 ((rI S 4 j)).toNatClampNeg)) else (if (rI S 2 j) = 9 then ((rI S 54 ((rI S 3 j)).toNatClampNeg) <<< ((rI S 4 j) &&& 31)) else (if (rI S 2 j) = 10 then ((rI S 54 ((rI S 3 j)).toNatClampNeg) >>> ((rI S 4 j) &&& 31)) else (if (rI S 2 j) = 11 then (if (rI S 54 ((rI S 4 j)).toNatClampNeg) ≤ (rI S 54 ((rI S 3 j)).toNatClampNeg) then 0 else 1) else (if (rI S 54 ((rI S 3 j)).toNatClampNeg) = 0 then (rI S 54 ((rI S 5 j)).toNatClampNeg) else (rI S 54 ((rI S 4 j)).toNatClampNeg))))))))))))))
set_option maxRecDepth 100000 in
set_option maxHeartbeats 1000000 in
theorem ct_detN (S : gS) (j : Nat) (n : Nat) (ho : okC S n) (hj : j < n) : gF mX3_determine [.ref 53, .ref 1, .ref 11, .int (nI j)] S (some (.int (f_detN S j))) S := by
  have h24 := ho.2.1
  have hcl := nI_c (n := j) (by omega)
  refine go_enter [.ref 53, .ref 1, .ref 11, .int (nI j)] [(0, .ref 53), (1, .ref 1), (2, .ref 11), (3, .int (nI j))] (by decide +kernel) rfl rfl (Nat.le_of_ble_eq_true rfl) rfl ?_
  refine go_aload_n 1 dX3_determine_0 rfl rfl ?_
  refine g_getR 4 dX3_determine_1 rfl fF_RX3_31 ly_1 rfl ?_
  refine go_iload_n 5 dX3_determine_4 rfl rfl ?_
  refine g_iald2 6 j dX3_determine_5 rfl ly_3 (nI_i (by omega) (by omega)) hcl ?_
  refine go_istore 8 [(4, .int _), (0, .ref 53), (1, .ref 1), (2, .ref 11), (3, .int _)] dX3_determine_6 rfl (Nat.le_of_ble_eq_true rfl) rfl ?_
  refine go_aload_n 9 dX3_determine_8 rfl rfl ?_
  refine g_getR 12 dX3_determine_9 rfl fF_RX3_34 ly_1 rfl ?_
  refine go_iload_n 13 dX3_determine_12 rfl rfl ?_
  refine g_iald2 14 j dX3_determine_13 rfl ly_4 (nI_i (by omega) (by omega)) hcl ?_
  refine go_istore 16 [(5, .int _), (4, .int _), (0, .ref 53), (1, .ref 1), (2, .ref 11), (3, .int _)] dX3_determine_14 rfl (Nat.le_of_ble_eq_true rfl) rfl ?_
  refine go_aload_n 17 dX3_determine_16 rfl rfl ?_
  refine g_getR 20 dX3_determine_17 rfl fF_RX3_37 ly_1 rfl ?_
  refine go_iload_n 21 dX3_determine_20 rfl rfl ?_
  refine g_iald2 22 j dX3_determine_21 rfl ly_2 (nI_i (by omega) (by omega)) hcl ?_
  refine go_tableS [(0, 84), (1, 91), (2, 94), (3, 98), (4, 114), (5, 130), (6, 146), (7, 162), (8, 178), (9, 194), (10, 205), (11, 216)] 239 dX3_determine_22 rfl rfl (by decide) (by decide) rfl (by decide) (List.forall_mem_cons.mpr ⟨fun hc1 => ?_, List.forall_mem_cons.mpr ⟨fun hc1 => ?_, List.forall_mem_cons.mpr ⟨fun hc1 => ?_, List.forall_mem_cons.mpr ⟨fun hc1 => ?_, List.forall_mem_cons.mpr ⟨fun hc1 => ?_, List.forall_mem_cons.mpr ⟨fun hc1 => ?_, List.forall_mem_cons.mpr ⟨fun hc1 => ?_, List.forall_mem_cons.mpr ⟨fun hc1 => ?_, List.forall_mem_cons.mpr ⟨fun hc1 => ?_, List.forall_mem_cons.mpr ⟨fun hc1 => ?_, List.forall_mem_cons.mpr ⟨fun hc1 => ?_, List.forall_mem_cons.mpr ⟨fun hc1 => ?_, fun _ h => absurd h List.not_mem_nil⟩⟩⟩⟩⟩⟩⟩⟩⟩⟩⟩⟩) (fun hc1 => ?_)
  · have hc1 : (rI S 2 j) = 0 := hc1
    refine go_aload_n 85 dX3_determine_84 rfl rfl ?_
    refine g_getR 88 dX3_determine_85 rfl fF_RX3_40 ly_1 rfl ?_
    refine go_iload_n 89 dX3_determine_88 rfl rfl ?_
    refine g_iald2 90 j dX3_determine_89 rfl ly_9 (nI_i (by omega) (by omega)) hcl ?_
    refine go_ireturn dX3_determine_90 rfl (by first | rfl | exact bi_nar) (Nat.le_of_ble_eq_true rfl) (Nat.le_of_ble_eq_true rfl) ?_
    exact ⟨congrArg (fun z => some (Value.int z)) (by unfold f_detN; simp only [if_pos hc1]; try first | rfl | contradiction), rfl⟩
  · have hc1 : (rI S 2 j) = 1 := hc1
    have hc1_0 : ¬ (rI S 2 j) = 0 := by rw [hc1]; decide
    refine go_iload 93 dX3_determine_91 rfl rfl ?_
    refine go_ireturn dX3_determine_93 rfl (by first | rfl | exact bi_nar) (Nat.le_of_ble_eq_true rfl) (Nat.le_of_ble_eq_true rfl) ?_
    exact ⟨congrArg (fun z => some (Value.int z)) (by unfold f_detN; simp only [if_neg hc1_0, if_pos hc1]; try first | rfl | contradiction), rfl⟩
  · have hc1 : (rI S 2 j) = 2 := hc1
    have hc1_0 : ¬ (rI S 2 j) = 0 := by rw [hc1]; decide
    have hc1_1 : ¬ (rI S 2 j) = 1 := by rw [hc1]; decide
    refine go_aload_n 95 dX3_determine_94 rfl rfl ?_
    refine go_iload_n 96 dX3_determine_95 rfl rfl ?_
    refine g_iald2 97 j dX3_determine_96 rfl ly_11 (nI_i (by omega) (by omega)) hcl ?_
    refine go_ireturn dX3_determine_97 rfl (by first | rfl | exact bi_nar) (Nat.le_of_ble_eq_true rfl) (Nat.le_of_ble_eq_true rfl) ?_
    exact ⟨congrArg (fun z => some (Value.int z)) (by unfold f_detN; simp only [if_neg hc1_0, if_neg hc1_1, if_pos hc1]; try first | rfl | contradiction), rfl⟩
  · have hc1 : (rI S 2 j) = 3 := hc1
    have hc1_0 : ¬ (rI S 2 j) = 0 := by rw [hc1]; decide
    have hc1_1 : ¬ (rI S 2 j) = 1 := by rw [hc1]; decide
    have hc1_2 : ¬ (rI S 2 j) = 2 := by rw [hc1]; decide
    refine go_aload_n 99 dX3_determine_98 rfl rfl ?_
    refine g_getR 102 dX3_determine_99 rfl fF_RX3_9 ly_53 rfl ?_
    refine go_iload 104 dX3_determine_102 rfl rfl ?_
    refine g_iald2 105 _ dX3_determine_104 rfl ly_54 (okC.a ho hj (by first | (rw [hc1]; decide) | (rw [(okC.twelve ho hj hc1_0 hc1_1 hc1_2 hc1_3 hc1_4 hc1_5 hc1_6 hc1_7 hc1_8 hc1_9 hc1_10 hc1_11)]; decide))) rfl ?_
    refine go_aload_n 106 dX3_determine_105 rfl rfl ?_
    refine g_getR 109 dX3_determine_106 rfl fF_RX3_9 ly_53 rfl ?_
    refine go_iload 111 dX3_determine_109 rfl rfl ?_
    refine g_iald2 112 _ dX3_determine_111 rfl ly_54 (okC.b ho hj (by first | (rw [hc1]; decide) | (rw [(okC.twelve ho hj hc1_0 hc1_1 hc1_2 hc1_3 hc1_4 hc1_5 hc1_6 hc1_7 hc1_8 hc1_9 hc1_10 hc1_11)]; decide)) (by first | (rw [hc1]; decide) | (rw [(okC.twelve ho hj hc1_0 hc1_1 hc1_2 hc1_3 hc1_4 hc1_5 hc1_6 hc1_7 hc1_8 hc1_9 hc1_10 hc1_11)]; decide)) (by first | (rw [hc1]; decide) | (rw [(okC.twelve ho hj hc1_0 hc1_1 hc1_2 hc1_3 hc1_4 hc1_5 hc1_6 hc1_7 hc1_8 hc1_9 hc1_10 hc1_11)]; decide))) rfl ?_
    refine go_iadd 113 dX3_determine_112 rfl ?_
    refine go_ireturn dX3_determine_113 rfl (by first | rfl | exact bi_nar) (Nat.le_of_ble_eq_true rfl) (Nat.le_of_ble_eq_true rfl) ?_
    exact ⟨congrArg (fun z => some (Value.int z)) (by unfold f_detN; simp only [if_neg hc1_0, if_neg hc1_1, if_neg hc1_2, if_pos hc1]; try first | rfl | contradiction), rfl⟩
  · have hc1 : (rI S 2 j) = 4 := hc1
    have hc1_0 : ¬ (rI S 2 j) = 0 := by rw [hc1]; decide
    have hc1_1 : ¬ (rI S 2 j) = 1 := by rw [hc1]; decide
    have hc1_2 : ¬ (rI S 2 j) = 2 := by rw [hc1]; decide
    have hc1_3 : ¬ (rI S 2 j) = 3 := by rw [hc1]; decide
    refine go_aload_n 115 dX3_determine_114 rfl rfl ?_
    refine g_getR 118 dX3_determine_115 rfl fF_RX3_9 ly_53 rfl ?_
    refine go_iload 120 dX3_determine_118 rfl rfl ?_
    refine g_iald2 121 _ dX3_determine_120 rfl ly_54 (okC.a ho hj (by first | (rw [hc1]; decide) | (rw [(okC.twelve ho hj hc1_0 hc1_1 hc1_2 hc1_3 hc1_4 hc1_5 hc1_6 hc1_7 hc1_8 hc1_9 hc1_10 hc1_11)]; decide))) rfl ?_
    refine go_aload_n 122 dX3_determine_121 rfl rfl ?_
    refine g_getR 125 dX3_determine_122 rfl fF_RX3_9 ly_53 rfl ?_
    refine go_iload 127 dX3_determine_125 rfl rfl ?_
    refine g_iald2 128 _ dX3_determine_127 rfl ly_54 (okC.b ho hj (by first | (rw [hc1]; decide) | (rw [(okC.twelve ho hj hc1_0 hc1_1 hc1_2 hc1_3 hc1_4 hc1_5 hc1_6 hc1_7 hc1_8 hc1_9 hc1_10 hc1_11)]; decide)) (by first | (rw [hc1]; decide) | (rw [(okC.twelve ho hj hc1_0 hc1_1 hc1_2 hc1_3 hc1_4 hc1_5 hc1_6 hc1_7 hc1_8 hc1_9 hc1_10 hc1_11)]; decide)) (by first | (rw [hc1]; decide) | (rw [(okC.twelve ho hj hc1_0 hc1_1 hc1_2 hc1_3 hc1_4 hc1_5 hc1_6 hc1_7 hc1_8 hc1_9 hc1_10 hc1_11)]; decide))) rfl ?_
    refine go_isub 129 dX3_determine_128 rfl ?_
    refine go_ireturn dX3_determine_129 rfl (by first | rfl | exact bi_nar) (Nat.le_of_ble_eq_true rfl) (Nat.le_of_ble_eq_true rfl) ?_
    exact ⟨congrArg (fun z => some (Value.int z)) (by unfold f_detN; simp only [if_neg hc1_0, if_neg hc1_1, if_neg hc1_2, if_neg hc1_3, if_pos hc1]; try first | rfl | contradiction), rfl⟩
  · have hc1 : (rI S 2 j) = 5 := hc1
    have hc1_0 : ¬ (rI S 2 j) = 0 := by rw [hc1]; decide
    have hc1_1 : ¬ (rI S 2 j) = 1 := by rw [hc1]; decide
    have hc1_2 : ¬ (rI S 2 j) = 2 := by rw [hc1]; decide
    have hc1_3 : ¬ (rI S 2 j) = 3 := by rw [hc1]; decide
    have hc1_4 : ¬ (rI S 2 j) = 4 := by rw [hc1]; decide
    refine go_aload_n 131 dX3_determine_130 rfl rfl ?_
    refine g_getR 134 dX3_determine_131 rfl fF_RX3_9 ly_53 rfl ?_
    refine go_iload 136 dX3_determine_134 rfl rfl ?_
    refine g_iald2 137 _ dX3_determine_136 rfl ly_54 (okC.a ho hj (by first | (rw [hc1]; decide) | (rw [(okC.twelve ho hj hc1_0 hc1_1 hc1_2 hc1_3 hc1_4 hc1_5 hc1_6 hc1_7 hc1_8 hc1_9 hc1_10 hc1_11)]; decide))) rfl ?_
    refine go_aload_n 138 dX3_determine_137 rfl rfl ?_
    refine g_getR 141 dX3_determine_138 rfl fF_RX3_9 ly_53 rfl ?_
    refine go_iload 143 dX3_determine_141 rfl rfl ?_
    refine g_iald2 144 _ dX3_determine_143 rfl ly_54 (okC.b ho hj (by first | (rw [hc1]; decide) | (rw [(okC.twelve ho hj hc1_0 hc1_1 hc1_2 hc1_3 hc1_4 hc1_5 hc1_6 hc1_7 hc1_8 hc1_9 hc1_10 hc1_11)]; decide)) (by first | (rw [hc1]; decide) | (rw [(okC.twelve ho hj hc1_0 hc1_1 hc1_2 hc1_3 hc1_4 hc1_5 hc1_6 hc1_7 hc1_8 hc1_9 hc1_10 hc1_11)]; decide)) (by first | (rw [hc1]; decide) | (rw [(okC.twelve ho hj hc1_0 hc1_1 hc1_2 hc1_3 hc1_4 hc1_5 hc1_6 hc1_7 hc1_8 hc1_9 hc1_10 hc1_11)]; decide))) rfl ?_
    refine go_imul 145 dX3_determine_144 rfl ?_
    refine go_ireturn dX3_determine_145 rfl (by first | rfl | exact bi_nar) (Nat.le_of_ble_eq_true rfl) (Nat.le_of_ble_eq_true rfl) ?_
    exact ⟨congrArg (fun z => some (Value.int z)) (by unfold f_detN; simp only [if_neg hc1_0, if_neg hc1_1, if_neg hc1_2, if_neg hc1_3, if_neg hc1_4, if_pos hc1]; try first | rfl | contradiction), rfl⟩
  · have hc1 : (rI S 2 j) = 6 := hc1
    have hc1_0 : ¬ (rI S 2 j) = 0 := by rw [hc1]; decide
    have hc1_1 : ¬ (rI S 2 j) = 1 := by rw [hc1]; decide
    have hc1_2 : ¬ (rI S 2 j) = 2 := by rw [hc1]; decide
    have hc1_3 : ¬ (rI S 2 j) = 3 := by rw [hc1]; decide
    have hc1_4 : ¬ (rI S 2 j) = 4 := by rw [hc1]; decide
    have hc1_5 : ¬ (rI S 2 j) = 5 := by rw [hc1]; decide
    refine go_aload_n 147 dX3_determine_146 rfl rfl ?_
    refine g_getR 150 dX3_determine_147 rfl fF_RX3_9 ly_53 rfl ?_
    refine go_iload 152 dX3_determine_150 rfl rfl ?_
    refine g_iald2 153 _ dX3_determine_152 rfl ly_54 (okC.a ho hj (by first | (rw [hc1]; decide) | (rw [(okC.twelve ho hj hc1_0 hc1_1 hc1_2 hc1_3 hc1_4 hc1_5 hc1_6 hc1_7 hc1_8 hc1_9 hc1_10 hc1_11)]; decide))) rfl ?_
    refine go_aload_n 154 dX3_determine_153 rfl rfl ?_
    refine g_getR 157 dX3_determine_154 rfl fF_RX3_9 ly_53 rfl ?_
    refine go_iload 159 dX3_determine_157 rfl rfl ?_
    refine g_iald2 160 _ dX3_determine_159 rfl ly_54 (okC.b ho hj (by first | (rw [hc1]; decide) | (rw [(okC.twelve ho hj hc1_0 hc1_1 hc1_2 hc1_3 hc1_4 hc1_5 hc1_6 hc1_7 hc1_8 hc1_9 hc1_10 hc1_11)]; decide)) (by first | (rw [hc1]; decide) | (rw [(okC.twelve ho hj hc1_0 hc1_1 hc1_2 hc1_3 hc1_4 hc1_5 hc1_6 hc1_7 hc1_8 hc1_9 hc1_10 hc1_11)]; decide)) (by first | (rw [hc1]; decide) | (rw [(okC.twelve ho hj hc1_0 hc1_1 hc1_2 hc1_3 hc1_4 hc1_5 hc1_6 hc1_7 hc1_8 hc1_9 hc1_10 hc1_11)]; decide))) rfl ?_
    refine go_iand 161 dX3_determine_160 rfl ?_
    refine go_ireturn dX3_determine_161 rfl (by first | rfl | exact bi_nar) (Nat.le_of_ble_eq_true rfl) (Nat.le_of_ble_eq_true rfl) ?_
    exact ⟨congrArg (fun z => some (Value.int z)) (by unfold f_detN; simp only [if_neg hc1_0, if_neg hc1_1, if_neg hc1_2, if_neg hc1_3, if_neg hc1_4, if_neg hc1_5, if_pos hc1]; try first | rfl | contradiction), rfl⟩
  · have hc1 : (rI S 2 j) = 7 := hc1
    have hc1_0 : ¬ (rI S 2 j) = 0 := by rw [hc1]; decide
    have hc1_1 : ¬ (rI S 2 j) = 1 := by rw [hc1]; decide
    have hc1_2 : ¬ (rI S 2 j) = 2 := by rw [hc1]; decide
    have hc1_3 : ¬ (rI S 2 j) = 3 := by rw [hc1]; decide
    have hc1_4 : ¬ (rI S 2 j) = 4 := by rw [hc1]; decide
    have hc1_5 : ¬ (rI S 2 j) = 5 := by rw [hc1]; decide
    have hc1_6 : ¬ (rI S 2 j) = 6 := by rw [hc1]; decide
    refine go_aload_n 163 dX3_determine_162 rfl rfl ?_
    refine g_getR 166 dX3_determine_163 rfl fF_RX3_9 ly_53 rfl ?_
    refine go_iload 168 dX3_determine_166 rfl rfl ?_
    refine g_iald2 169 _ dX3_determine_168 rfl ly_54 (okC.a ho hj (by first | (rw [hc1]; decide) | (rw [(okC.twelve ho hj hc1_0 hc1_1 hc1_2 hc1_3 hc1_4 hc1_5 hc1_6 hc1_7 hc1_8 hc1_9 hc1_10 hc1_11)]; decide))) rfl ?_
    refine go_aload_n 170 dX3_determine_169 rfl rfl ?_
    refine g_getR 173 dX3_determine_170 rfl fF_RX3_9 ly_53 rfl ?_
    refine go_iload 175 dX3_determine_173 rfl rfl ?_
    refine g_iald2 176 _ dX3_determine_175 rfl ly_54 (okC.b ho hj (by first | (rw [hc1]; decide) | (rw [(okC.twelve ho hj hc1_0 hc1_1 hc1_2 hc1_3 hc1_4 hc1_5 hc1_6 hc1_7 hc1_8 hc1_9 hc1_10 hc1_11)]; decide)) (by first | (rw [hc1]; decide) | (rw [(okC.twelve ho hj hc1_0 hc1_1 hc1_2 hc1_3 hc1_4 hc1_5 hc1_6 hc1_7 hc1_8 hc1_9 hc1_10 hc1_11)]; decide)) (by first | (rw [hc1]; decide) | (rw [(okC.twelve ho hj hc1_0 hc1_1 hc1_2 hc1_3 hc1_4 hc1_5 hc1_6 hc1_7 hc1_8 hc1_9 hc1_10 hc1_11)]; decide))) rfl ?_
    refine go_ior 177 dX3_determine_176 rfl ?_
    refine go_ireturn dX3_determine_177 rfl (by first | rfl | exact bi_nar) (Nat.le_of_ble_eq_true rfl) (Nat.le_of_ble_eq_true rfl) ?_
    exact ⟨congrArg (fun z => some (Value.int z)) (by unfold f_detN; simp only [if_neg hc1_0, if_neg hc1_1, if_neg hc1_2, if_neg hc1_3, if_neg hc1_4, if_neg hc1_5, if_neg hc1_6, if_pos hc1]; try first | rfl | contradiction), rfl⟩
  · have hc1 : (rI S 2 j) = 8 := hc1
    have hc1_0 : ¬ (rI S 2 j) = 0 := by rw [hc1]; decide
    have hc1_1 : ¬ (rI S 2 j) = 1 := by rw [hc1]; decide
    have hc1_2 : ¬ (rI S 2 j) = 2 := by rw [hc1]; decide
    have hc1_3 : ¬ (rI S 2 j) = 3 := by rw [hc1]; decide
    have hc1_4 : ¬ (rI S 2 j) = 4 := by rw [hc1]; decide
    have hc1_5 : ¬ (rI S 2 j) = 5 := by rw [hc1]; decide
    have hc1_6 : ¬ (rI S 2 j) = 6 := by rw [hc1]; decide
    have hc1_7 : ¬ (rI S 2 j) = 7 := by rw [hc1]; decide
    refine go_aload_n 179 dX3_determine_178 rfl rfl ?_
    refine g_getR 182 dX3_determine_179 rfl fF_RX3_9 ly_53 rfl ?_
    refine go_iload 184 dX3_determine_182 rfl rfl ?_
    refine g_iald2 185 _ dX3_determine_184 rfl ly_54 (okC.a ho hj (by first | (rw [hc1]; decide) | (rw [(okC.twelve ho hj hc1_0 hc1_1 hc1_2 hc1_3 hc1_4 hc1_5 hc1_6 hc1_7 hc1_8 hc1_9 hc1_10 hc1_11)]; decide))) rfl ?_
    refine go_aload_n 186 dX3_determine_185 rfl rfl ?_
    refine g_getR 189 dX3_determine_186 rfl fF_RX3_9 ly_53 rfl ?_
    refine go_iload 191 dX3_determine_189 rfl rfl ?_
    refine g_iald2 192 _ dX3_determine_191 rfl ly_54 (okC.b ho hj (by first | (rw [hc1]; decide) | (rw [(okC.twelve ho hj hc1_0 hc1_1 hc1_2 hc1_3 hc1_4 hc1_5 hc1_6 hc1_7 hc1_8 hc1_9 hc1_10 hc1_11)]; decide)) (by first | (rw [hc1]; decide) | (rw [(okC.twelve ho hj hc1_0 hc1_1 hc1_2 hc1_3 hc1_4 hc1_5 hc1_6 hc1_7 hc1_8 hc1_9 hc1_10 hc1_11)]; decide)) (by first | (rw [hc1]; decide) | (rw [(okC.twelve ho hj hc1_0 hc1_1 hc1_2 hc1_3 hc1_4 hc1_5 hc1_6 hc1_7 hc1_8 hc1_9 hc1_10 hc1_11)]; decide))) rfl ?_
    refine go_ixor 193 dX3_determine_192 rfl ?_
    refine go_ireturn dX3_determine_193 rfl (by first | rfl | exact bi_nar) (Nat.le_of_ble_eq_true rfl) (Nat.le_of_ble_eq_true rfl) ?_
    exact ⟨congrArg (fun z => some (Value.int z)) (by unfold f_detN; simp only [if_neg hc1_0, if_neg hc1_1, if_neg hc1_2, if_neg hc1_3, if_neg hc1_4, if_neg hc1_5, if_neg hc1_6, if_neg hc1_7, if_pos hc1]; try first | rfl | contradiction), rfl⟩
  · have hc1 : (rI S 2 j) = 9 := hc1
    have hc1_0 : ¬ (rI S 2 j) = 0 := by rw [hc1]; decide
    have hc1_1 : ¬ (rI S 2 j) = 1 := by rw [hc1]; decide
    have hc1_2 : ¬ (rI S 2 j) = 2 := by rw [hc1]; decide
    have hc1_3 : ¬ (rI S 2 j) = 3 := by rw [hc1]; decide
    have hc1_4 : ¬ (rI S 2 j) = 4 := by rw [hc1]; decide
    have hc1_5 : ¬ (rI S 2 j) = 5 := by rw [hc1]; decide
    have hc1_6 : ¬ (rI S 2 j) = 6 := by rw [hc1]; decide
    have hc1_7 : ¬ (rI S 2 j) = 7 := by rw [hc1]; decide
    have hc1_8 : ¬ (rI S 2 j) = 8 := by rw [hc1]; decide
    refine go_aload_n 195 dX3_determine_194 rfl rfl ?_
    refine g_getR 198 dX3_determine_195 rfl fF_RX3_9 ly_53 rfl ?_
    refine go_iload 200 dX3_determine_198 rfl rfl ?_
    refine g_iald2 201 _ dX3_determine_200 rfl ly_54 (okC.a ho hj (by first | (rw [hc1]; decide) | (rw [(okC.twelve ho hj hc1_0 hc1_1 hc1_2 hc1_3 hc1_4 hc1_5 hc1_6 hc1_7 hc1_8 hc1_9 hc1_10 hc1_11)]; decide))) rfl ?_
    refine go_iload 203 dX3_determine_201 rfl rfl ?_
    refine go_ishl 204 dX3_determine_203 rfl ?_
    refine go_ireturn dX3_determine_204 rfl (by first | rfl | exact bi_nar) (Nat.le_of_ble_eq_true rfl) (Nat.le_of_ble_eq_true rfl) ?_
    exact ⟨congrArg (fun z => some (Value.int z)) (by unfold f_detN; simp only [if_neg hc1_0, if_neg hc1_1, if_neg hc1_2, if_neg hc1_3, if_neg hc1_4, if_neg hc1_5, if_neg hc1_6, if_neg hc1_7, if_neg hc1_8, if_pos hc1]; try first | rfl | contradiction), rfl⟩
  · have hc1 : (rI S 2 j) = 10 := hc1
    have hc1_0 : ¬ (rI S 2 j) = 0 := by rw [hc1]; decide
    have hc1_1 : ¬ (rI S 2 j) = 1 := by rw [hc1]; decide
    have hc1_2 : ¬ (rI S 2 j) = 2 := by rw [hc1]; decide
    have hc1_3 : ¬ (rI S 2 j) = 3 := by rw [hc1]; decide
    have hc1_4 : ¬ (rI S 2 j) = 4 := by rw [hc1]; decide
    have hc1_5 : ¬ (rI S 2 j) = 5 := by rw [hc1]; decide
    have hc1_6 : ¬ (rI S 2 j) = 6 := by rw [hc1]; decide
    have hc1_7 : ¬ (rI S 2 j) = 7 := by rw [hc1]; decide
    have hc1_8 : ¬ (rI S 2 j) = 8 := by rw [hc1]; decide
    have hc1_9 : ¬ (rI S 2 j) = 9 := by rw [hc1]; decide
    refine go_aload_n 206 dX3_determine_205 rfl rfl ?_
    refine g_getR 209 dX3_determine_206 rfl fF_RX3_9 ly_53 rfl ?_
    refine go_iload 211 dX3_determine_209 rfl rfl ?_
    refine g_iald2 212 _ dX3_determine_211 rfl ly_54 (okC.a ho hj (by first | (rw [hc1]; decide) | (rw [(okC.twelve ho hj hc1_0 hc1_1 hc1_2 hc1_3 hc1_4 hc1_5 hc1_6 hc1_7 hc1_8 hc1_9 hc1_10 hc1_11)]; decide))) rfl ?_
    refine go_iload 214 dX3_determine_212 rfl rfl ?_
    refine go_ishr 215 dX3_determine_214 rfl ?_
    refine go_ireturn dX3_determine_215 rfl (by first | rfl | exact bi_nar) (Nat.le_of_ble_eq_true rfl) (Nat.le_of_ble_eq_true rfl) ?_
    exact ⟨congrArg (fun z => some (Value.int z)) (by unfold f_detN; simp only [if_neg hc1_0, if_neg hc1_1, if_neg hc1_2, if_neg hc1_3, if_neg hc1_4, if_neg hc1_5, if_neg hc1_6, if_neg hc1_7, if_neg hc1_8, if_neg hc1_9, if_pos hc1]; try first | rfl | contradiction), rfl⟩
  · have hc1 : (rI S 2 j) = 11 := hc1
    have hc1_0 : ¬ (rI S 2 j) = 0 := by rw [hc1]; decide
    have hc1_1 : ¬ (rI S 2 j) = 1 := by rw [hc1]; decide
    have hc1_2 : ¬ (rI S 2 j) = 2 := by rw [hc1]; decide
    have hc1_3 : ¬ (rI S 2 j) = 3 := by rw [hc1]; decide
    have hc1_4 : ¬ (rI S 2 j) = 4 := by rw [hc1]; decide
    have hc1_5 : ¬ (rI S 2 j) = 5 := by rw [hc1]; decide
    have hc1_6 : ¬ (rI S 2 j) = 6 := by rw [hc1]; decide
    have hc1_7 : ¬ (rI S 2 j) = 7 := by rw [hc1]; decide
    have hc1_8 : ¬ (rI S 2 j) = 8 := by rw [hc1]; decide
    have hc1_9 : ¬ (rI S 2 j) = 9 := by rw [hc1]; decide
    have hc1_10 : ¬ (rI S 2 j) = 10 := by rw [hc1]; decide
    refine go_aload_n 217 dX3_determine_216 rfl rfl ?_
    refine g_getR 220 dX3_determine_217 rfl fF_RX3_9 ly_53 rfl ?_
    refine go_iload 222 dX3_determine_220 rfl rfl ?_
    refine g_iald2 223 _ dX3_determine_222 rfl ly_54 (okC.a ho hj (by first | (rw [hc1]; decide) | (rw [(okC.twelve ho hj hc1_0 hc1_1 hc1_2 hc1_3 hc1_4 hc1_5 hc1_6 hc1_7 hc1_8 hc1_9 hc1_10 hc1_11)]; decide))) rfl ?_
    refine go_aload_n 224 dX3_determine_223 rfl rfl ?_
    refine g_getR 227 dX3_determine_224 rfl fF_RX3_9 ly_53 rfl ?_
    refine go_iload 229 dX3_determine_227 rfl rfl ?_
    refine g_iald2 230 _ dX3_determine_229 rfl ly_54 (okC.b ho hj (by first | (rw [hc1]; decide) | (rw [(okC.twelve ho hj hc1_0 hc1_1 hc1_2 hc1_3 hc1_4 hc1_5 hc1_6 hc1_7 hc1_8 hc1_9 hc1_10 hc1_11)]; decide)) (by first | (rw [hc1]; decide) | (rw [(okC.twelve ho hj hc1_0 hc1_1 hc1_2 hc1_3 hc1_4 hc1_5 hc1_6 hc1_7 hc1_8 hc1_9 hc1_10 hc1_11)]; decide)) (by first | (rw [hc1]; decide) | (rw [(okC.twelve ho hj hc1_0 hc1_1 hc1_2 hc1_3 hc1_4 hc1_5 hc1_6 hc1_7 hc1_8 hc1_9 hc1_10 hc1_11)]; decide))) rfl ?_
    refine go_icmp_ge 233 237 dX3_determine_230 rfl (by decide) (fun hc2 => ?_) (fun hc2 => ?_)
    · refine go_iconst 238 (0) dX3_determine_237 rfl (by decide) ?_
      refine go_ireturn dX3_determine_238 rfl (by first | rfl | exact bi_nar) (Nat.le_of_ble_eq_true rfl) (Nat.le_of_ble_eq_true rfl) ?_
      exact ⟨congrArg (fun z => some (Value.int z)) (by unfold f_detN; simp only [if_neg hc1_0, if_neg hc1_1, if_neg hc1_2, if_neg hc1_3, if_neg hc1_4, if_neg hc1_5, if_neg hc1_6, if_neg hc1_7, if_neg hc1_8, if_neg hc1_9, if_neg hc1_10, if_pos hc1, if_pos hc2]; try first | rfl | contradiction), rfl⟩
    · refine go_iconst 234 (1) dX3_determine_233 rfl (by decide) ?_
      refine go_goto 238 dX3_determine_234 (by decide) ?_
      refine go_ireturn dX3_determine_238 rfl (by first | rfl | exact bi_nar) (Nat.le_of_ble_eq_true rfl) (Nat.le_of_ble_eq_true rfl) ?_
      exact ⟨congrArg (fun z => some (Value.int z)) (by unfold f_detN; simp only [if_neg hc1_0, if_neg hc1_1, if_neg hc1_2, if_neg hc1_3, if_neg hc1_4, if_neg hc1_5, if_neg hc1_6, if_neg hc1_7, if_neg hc1_8, if_neg hc1_9, if_neg hc1_10, if_pos hc1, if_neg hc2]; try first | rfl | contradiction), rfl⟩
  · have hc1_0 : ¬ (rI S 2 j) = 0 := hc1 (0, 84) (List.mem_of_getElem? (i := 0) rfl)
    have hc1_1 : ¬ (rI S 2 j) = 1 := hc1 (1, 91) (List.mem_of_getElem? (i := 1) rfl)
    have hc1_2 : ¬ (rI S 2 j) = 2 := hc1 (2, 94) (List.mem_of_getElem? (i := 2) rfl)
    have hc1_3 : ¬ (rI S 2 j) = 3 := hc1 (3, 98) (List.mem_of_getElem? (i := 3) rfl)
    have hc1_4 : ¬ (rI S 2 j) = 4 := hc1 (4, 114) (List.mem_of_getElem? (i := 4) rfl)
    have hc1_5 : ¬ (rI S 2 j) = 5 := hc1 (5, 130) (List.mem_of_getElem? (i := 5) rfl)
    have hc1_6 : ¬ (rI S 2 j) = 6 := hc1 (6, 146) (List.mem_of_getElem? (i := 6) rfl)
    have hc1_7 : ¬ (rI S 2 j) = 7 := hc1 (7, 162) (List.mem_of_getElem? (i := 7) rfl)
    have hc1_8 : ¬ (rI S 2 j) = 8 := hc1 (8, 178) (List.mem_of_getElem? (i := 8) rfl)
    have hc1_9 : ¬ (rI S 2 j) = 9 := hc1 (9, 194) (List.mem_of_getElem? (i := 9) rfl)
    have hc1_10 : ¬ (rI S 2 j) = 10 := hc1 (10, 205) (List.mem_of_getElem? (i := 10) rfl)
    have hc1_11 : ¬ (rI S 2 j) = 11 := hc1 (11, 216) (List.mem_of_getElem? (i := 11) rfl)
    clear hc1
    refine go_aload_n 240 dX3_determine_239 rfl rfl ?_
    refine g_getR 243 dX3_determine_240 rfl fF_RX3_9 ly_53 rfl ?_
    refine go_iload 245 dX3_determine_243 rfl rfl ?_
    refine g_iald2 246 _ dX3_determine_245 rfl ly_54 (okC.a ho hj (by first | (rw [hc1]; decide) | (rw [(okC.twelve ho hj hc1_0 hc1_1 hc1_2 hc1_3 hc1_4 hc1_5 hc1_6 hc1_7 hc1_8 hc1_9 hc1_10 hc1_11)]; decide))) rfl ?_
    refine go_if_eq 249 259 dX3_determine_246 rfl (by decide) (fun hc3 => ?_) (fun hc3 => ?_)
    · refine go_aload_n 260 dX3_determine_259 rfl rfl ?_
      refine g_getR 263 dX3_determine_260 rfl fF_RX3_9 ly_53 rfl ?_
      refine go_aload_n 264 dX3_determine_263 rfl rfl ?_
      refine g_getR 267 dX3_determine_264 rfl fF_RX3_43 ly_1 rfl ?_
      refine go_iload_n 268 dX3_determine_267 rfl rfl ?_
      refine g_iald2 269 j dX3_determine_268 rfl ly_5 (nI_i (by omega) (by omega)) hcl ?_
      refine g_iald2 270 _ dX3_determine_269 rfl ly_54 (okC.c ho hj (okC.twelve ho hj hc1_0 hc1_1 hc1_2 hc1_3 hc1_4 hc1_5 hc1_6 hc1_7 hc1_8 hc1_9 hc1_10 hc1_11)) rfl ?_
      refine go_ireturn dX3_determine_270 rfl (by first | rfl | exact bi_nar) (Nat.le_of_ble_eq_true rfl) (Nat.le_of_ble_eq_true rfl) ?_
      exact ⟨congrArg (fun z => some (Value.int z)) (by unfold f_detN; simp only [if_neg hc1_0, if_neg hc1_1, if_neg hc1_2, if_neg hc1_3, if_neg hc1_4, if_neg hc1_5, if_neg hc1_6, if_neg hc1_7, if_neg hc1_8, if_neg hc1_9, if_neg hc1_10, if_neg hc1_11, if_pos hc3]; try first | rfl | contradiction), rfl⟩
    · refine go_aload_n 250 dX3_determine_249 rfl rfl ?_
      refine g_getR 253 dX3_determine_250 rfl fF_RX3_9 ly_53 rfl ?_
      refine go_iload 255 dX3_determine_253 rfl rfl ?_
      refine g_iald2 256 _ dX3_determine_255 rfl ly_54 (okC.b ho hj (by first | (rw [hc1]; decide) | (rw [(okC.twelve ho hj hc1_0 hc1_1 hc1_2 hc1_3 hc1_4 hc1_5 hc1_6 hc1_7 hc1_8 hc1_9 hc1_10 hc1_11)]; decide)) (by first | (rw [hc1]; decide) | (rw [(okC.twelve ho hj hc1_0 hc1_1 hc1_2 hc1_3 hc1_4 hc1_5 hc1_6 hc1_7 hc1_8 hc1_9 hc1_10 hc1_11)]; decide)) (by first | (rw [hc1]; decide) | (rw [(okC.twelve ho hj hc1_0 hc1_1 hc1_2 hc1_3 hc1_4 hc1_5 hc1_6 hc1_7 hc1_8 hc1_9 hc1_10 hc1_11)]; decide))) rfl ?_
      refine go_goto 270 dX3_determine_256 (by decide) ?_
      refine go_ireturn dX3_determine_270 rfl (by first | rfl | exact bi_nar) (Nat.le_of_ble_eq_true rfl) (Nat.le_of_ble_eq_true rfl) ?_
      exact ⟨congrArg (fun z => some (Value.int z)) (by unfold f_detN; simp only [if_neg hc1_0, if_neg hc1_1, if_neg hc1_2, if_neg hc1_3, if_neg hc1_4, if_neg hc1_5, if_neg hc1_6, if_neg hc1_7, if_neg hc1_8, if_neg hc1_9, if_neg hc1_10, if_neg hc1_11, if_neg hc3]; try first | rfl | contradiction), rfl⟩

def bd_setF (i : Nat) (p : gS) : gS := (wI p 52 i ((f_detF p i)))
set_option maxRecDepth 100000 in
set_option maxHeartbeats 1000000 in
theorem lk_setF {Q : go_Q}  (n : Nat) (s0 : gS)  (hI : ∀ i, i ≤ n → okC (itr (bd_setF) i s0) n) (kx : Go mX3_settle false Q 0 0 29 [(3, .int (nI n)), (0, .ref 51), (1, .ref 1), (2, .ref 10)] [] (hp (itr (bd_setF) n s0))) : ∀ i, i ≤ n → Go mX3_settle false Q 0 0 2 [(3, .int (nI i)), (0, .ref 51), (1, .ref 1), (2, .ref 10)] [] (hp (itr (bd_setF) i s0)) := by
  refine g_dn _ (n) (fun i hi ih => ?_)
  have hT := hI i hi
  have ih2 : i < n → Go mX3_settle false Q 0 0 2 [(3, .int (nI (i + 1))), (0, .ref 51), (1, .ref 1), (2, .ref 10)] [] (hp ((bd_setF) i (itr (bd_setF) i s0))) := ih
  have kx2 : i = n → Go mX3_settle false Q 0 0 29 [(3, .int (nI i)), (0, .ref 51), (1, .ref 1), (2, .ref 10)] [] (hp (itr (bd_setF) i s0)) := by
    rintro rfl
    exact kx
  clear ih kx hI
  revert hT ih2 kx2
  generalize itr (bd_setF) i s0 = p
  intro hT ih2 kx2
  have h24 := hT.2.1
  refine go_iload_n 3 dX3_settle_2 rfl rfl ?_
  refine go_aload_n 4 dX3_settle_3 rfl rfl ?_
  refine g_getI 7 dX3_settle_4 rfl fF_RX3_15 ly_1 rfl ?_
  refine go_icmp_ge 10 29 dX3_settle_7 rfl (by decide) (fun hc1 => ?_) (fun hc1 => ?_)
  · have hv : i = n := by
      have h8 := hc1
      rw [hT.1, nI_le2 (by omega) (by omega)] at h8
      omega
    refine go_ls [(3, .int _), (0, .ref 51), (1, .ref 1), (2, .ref 10)] (List.forall_mem_cons.mpr ⟨rfl, List.forall_mem_cons.mpr ⟨rfl, List.forall_mem_cons.mpr ⟨rfl, List.forall_mem_cons.mpr ⟨rfl, fun _ h => absurd h List.not_mem_nil⟩⟩⟩⟩) ?_
    exact kx2 hv
  · have hv : i < n := by
      have h8 := hc1
      rw [hT.1, nI_le2 (by omega) (by omega)] at h8
      omega
    clear hc1
    have hcl := nI_c (n := i) (by omega)
    refine go_aload_n 11 dX3_settle_10 rfl rfl ?_
    refine g_getR 14 dX3_settle_11 rfl fF_RX3_9 ly_51 rfl ?_
    refine go_iload_n 15 dX3_settle_14 rfl rfl ?_
    refine go_aload_n 16 dX3_settle_15 rfl rfl ?_
    refine go_aload_n 17 dX3_settle_16 rfl rfl ?_
    refine go_aload_n 18 dX3_settle_17 rfl rfl ?_
    refine go_iload_n 19 dX3_settle_18 rfl rfl ?_
    refine g_callV 22 [.ref 1, .ref 10, .int _] [.int _, .ref 52] dX3_settle_19 rfl (ct_detF _ _ n hT hv) rfl sV_X3_settle_21 rfl ly_51 rfl rfl (Nat.le_of_ble_eq_true rfl) (Nat.le_of_ble_eq_true rfl) (Nat.le_of_ble_eq_true rfl) ?_
    refine g_iast2 23 i dX3_settle_22 rfl ly_52 (nI_i (by have := hv; omega) (by omega)) hcl ?_
    refine go_iinc 26 [(3, .int _), (0, .ref 51), (1, .ref 1), (2, .ref 10)] (nI (i + 1)) dX3_settle_23 rfl (Nat.le_of_ble_eq_true rfl) rfl (nI_inc i) rfl ?_
    refine go_goto 2 dX3_settle_26 (by decide) ?_
    refine go_ls [(3, .int _), (0, .ref 51), (1, .ref 1), (2, .ref 10)] (List.forall_mem_cons.mpr ⟨rfl, List.forall_mem_cons.mpr ⟨rfl, List.forall_mem_cons.mpr ⟨rfl, List.forall_mem_cons.mpr ⟨rfl, fun _ h => absurd h List.not_mem_nil⟩⟩⟩⟩) ?_
    refine g_st (T := bd_setF i p) (by try rfl) (ih2 (by omega))
theorem fr_bd_setF {a0 c0 : Nat} (h52 : a0 ≠ 52) (i : Nat) (p : gS) : rI (bd_setF i p) a0 c0 = rI p a0 c0 := by
  unfold bd_setF
  first | (simp only [snd_ite, rI_ite, ite_self, rI_wIk h52, rI_wRk h52]; done) | ((repeat' split) <;> first | rfl | simp only [rI_wIk h52, rI_wRk h52])
theorem fr_lp_setF {a0 c0 : Nat} (h52 : a0 ≠ 52)  (n : Nat) (p : gS) : rI (itr (bd_setF) n p) a0 c0 = rI p a0 c0 := by
  induction n with
  | zero => rfl
  | succ n ih => exact (fr_bd_setF h52 _ _).trans ih

def f_X3_settle (S : gS) (n : Nat) : gS := (itr (bd_setF) n S)
set_option maxRecDepth 100000 in
set_option maxHeartbeats 1000000 in
theorem ct_X3_settle (S : gS) (n : Nat) (ho : okC S n) : gF mX3_settle [.ref 51, .ref 1, .ref 10] S none (f_X3_settle S n) := by
  refine go_enter [.ref 51, .ref 1, .ref 10] [(0, .ref 51), (1, .ref 1), (2, .ref 10)] (by decide +kernel) rfl rfl (Nat.le_of_ble_eq_true rfl) rfl ?_
  refine go_iconst 1 (0) dX3_settle_0 rfl (by decide) ?_
  refine go_istore_n 2 [(3, .int _), (0, .ref 51), (1, .ref 1), (2, .ref 10)] dX3_settle_1 rfl (Nat.le_of_ble_eq_true rfl) rfl ?_
  refine go_ls [(3, .int _), (0, .ref 51), (1, .ref 1), (2, .ref 10)] (List.forall_mem_cons.mpr ⟨rfl, List.forall_mem_cons.mpr ⟨rfl, List.forall_mem_cons.mpr ⟨rfl, List.forall_mem_cons.mpr ⟨rfl, fun _ h => absurd h List.not_mem_nil⟩⟩⟩⟩) ?_
  refine lk_setF n _ (fun i hi => okC.of ho (fun a c h => fr_lp_setF (by omega) i _)) ?_ 0 (Nat.zero_le _)
  refine go_return dX3_settle_29 rfl (Nat.le_of_ble_eq_true rfl) (Nat.le_of_ble_eq_true rfl) ?_
  exact ⟨rfl, congrArg hp rfl⟩
theorem fr_f_X3_settle {a0 c0 : Nat} (h52 : a0 ≠ 52) (S : gS) (n : Nat) : rI (f_X3_settle S n) a0 c0 = rI S a0 c0 := by
  unfold f_X3_settle
  first | (simp only [snd_ite, rI_ite, ite_self, rI_wIk h52, rI_wRk h52, fr_lp_setF h52]; done) | ((repeat' split) <;> first | rfl | simp only [rI_wIk h52, rI_wRk h52, fr_lp_setF h52])

def bd_setN (i : Nat) (p : gS) : gS := (wI p 54 i ((f_X7_narrowed p ((nI i)) ((f_detN p i)))))
set_option maxRecDepth 100000 in
set_option maxHeartbeats 1000000 in
theorem lk_setN {Q : go_Q}  (n : Nat) (s0 : gS)  (hI : ∀ i, i ≤ n → okC (itr (bd_setN) i s0) n) (kx : Go mX3_settleNarrowed false Q 0 0 39 [(4, .int (nI n)), (0, .ref 53), (1, .ref 1), (2, .ref 11), (3, .ref 40)] [] (hp (itr (bd_setN) n s0))) : ∀ i, i ≤ n → Go mX3_settleNarrowed false Q 0 0 3 [(4, .int (nI i)), (0, .ref 53), (1, .ref 1), (2, .ref 11), (3, .ref 40)] [] (hp (itr (bd_setN) i s0)) := by
  refine g_dn _ (n) (fun i hi ih => ?_)
  have hT := hI i hi
  have ih2 : i < n → Go mX3_settleNarrowed false Q 0 0 3 [(4, .int (nI (i + 1))), (0, .ref 53), (1, .ref 1), (2, .ref 11), (3, .ref 40)] [] (hp ((bd_setN) i (itr (bd_setN) i s0))) := ih
  have kx2 : i = n → Go mX3_settleNarrowed false Q 0 0 39 [(4, .int (nI i)), (0, .ref 53), (1, .ref 1), (2, .ref 11), (3, .ref 40)] [] (hp (itr (bd_setN) i s0)) := by
    rintro rfl
    exact kx
  clear ih kx hI
  revert hT ih2 kx2
  generalize itr (bd_setN) i s0 = p
  intro hT ih2 kx2
  have h24 := hT.2.1
  refine go_iload 5 dX3_settleNarrowed_3 rfl rfl ?_
  refine go_aload_n 6 dX3_settleNarrowed_5 rfl rfl ?_
  refine g_getI 9 dX3_settleNarrowed_6 rfl fF_RX3_15 ly_1 rfl ?_
  refine go_icmp_ge 12 39 dX3_settleNarrowed_9 rfl (by decide) (fun hc1 => ?_) (fun hc1 => ?_)
  · have hv : i = n := by
      have h8 := hc1
      rw [hT.1, nI_le2 (by omega) (by omega)] at h8
      omega
    refine go_ls [(4, .int _), (0, .ref 53), (1, .ref 1), (2, .ref 11), (3, .ref 40)] (List.forall_mem_cons.mpr ⟨rfl, List.forall_mem_cons.mpr ⟨rfl, List.forall_mem_cons.mpr ⟨rfl, List.forall_mem_cons.mpr ⟨rfl, List.forall_mem_cons.mpr ⟨rfl, fun _ h => absurd h List.not_mem_nil⟩⟩⟩⟩⟩) ?_
    exact kx2 hv
  · have hv : i < n := by
      have h8 := hc1
      rw [hT.1, nI_le2 (by omega) (by omega)] at h8
      omega
    clear hc1
    have hcl := nI_c (n := i) (by omega)
    refine go_aload_n 13 dX3_settleNarrowed_12 rfl rfl ?_
    refine g_getR 16 dX3_settleNarrowed_13 rfl fF_RX3_9 ly_53 rfl ?_
    refine go_iload 18 dX3_settleNarrowed_16 rfl rfl ?_
    refine go_aload_n 19 dX3_settleNarrowed_18 rfl rfl ?_
    refine go_iload 21 dX3_settleNarrowed_19 rfl rfl ?_
    refine go_aload_n 22 dX3_settleNarrowed_21 rfl rfl ?_
    refine go_aload_n 23 dX3_settleNarrowed_22 rfl rfl ?_
    refine go_aload_n 24 dX3_settleNarrowed_23 rfl rfl ?_
    refine go_iload 26 dX3_settleNarrowed_24 rfl rfl ?_
    refine g_callV 29 [.ref 1, .ref 11, .int _] [.int _, .ref 40, .int _, .ref 54] dX3_settleNarrowed_26 rfl (ct_detN _ _ n hT hv) rfl sV_X3_settleNarrowed_21 rfl ly_53 rfl rfl (Nat.le_of_ble_eq_true rfl) (Nat.le_of_ble_eq_true rfl) (Nat.le_of_ble_eq_true rfl) ?_
    refine g_callV 32 [.int _, .int _] [.int _, .ref 54] dX3_settleNarrowed_29 rfl (ct_X7_narrowed _ _ _ (nI_i (by have := hv; omega) (by omega))) rfl sV_X3_settleNarrowed_25 rfl ly_40 rfl rfl (Nat.le_of_ble_eq_true rfl) (Nat.le_of_ble_eq_true rfl) (Nat.le_of_ble_eq_true rfl) ?_
    refine g_iast2 33 i dX3_settleNarrowed_32 rfl ly_54 (nI_i (by have := hv; omega) (by omega)) hcl ?_
    refine go_iinc 36 [(4, .int _), (0, .ref 53), (1, .ref 1), (2, .ref 11), (3, .ref 40)] (nI (i + 1)) dX3_settleNarrowed_33 rfl (Nat.le_of_ble_eq_true rfl) rfl (nI_inc i) rfl ?_
    refine go_goto 3 dX3_settleNarrowed_36 (by decide) ?_
    refine go_ls [(4, .int _), (0, .ref 53), (1, .ref 1), (2, .ref 11), (3, .ref 40)] (List.forall_mem_cons.mpr ⟨rfl, List.forall_mem_cons.mpr ⟨rfl, List.forall_mem_cons.mpr ⟨rfl, List.forall_mem_cons.mpr ⟨rfl, List.forall_mem_cons.mpr ⟨rfl, fun _ h => absurd h List.not_mem_nil⟩⟩⟩⟩⟩) ?_
    refine g_st (T := bd_setN i p) (by try rfl) (ih2 (by omega))
theorem fr_bd_setN {a0 c0 : Nat} (h54 : a0 ≠ 54) (i : Nat) (p : gS) : rI (bd_setN i p) a0 c0 = rI p a0 c0 := by
  unfold bd_setN
  first | (simp only [snd_ite, rI_ite, ite_self, rI_wIk h54, rI_wRk h54]; done) | ((repeat' split) <;> first | rfl | simp only [rI_wIk h54, rI_wRk h54])
theorem fr_lp_setN {a0 c0 : Nat} (h54 : a0 ≠ 54)  (n : Nat) (p : gS) : rI (itr (bd_setN) n p) a0 c0 = rI p a0 c0 := by
  induction n with
  | zero => rfl
  | succ n ih => exact (fr_bd_setN h54 _ _).trans ih

def f_X3_settleNarrowed (S : gS) (n : Nat) : gS := (itr (bd_setN) n S)
set_option maxRecDepth 100000 in
set_option maxHeartbeats 1000000 in
theorem ct_X3_settleNarrowed (S : gS) (n : Nat) (ho : okC S n) : gF mX3_settleNarrowed [.ref 53, .ref 1, .ref 11, .ref 40] S none (f_X3_settleNarrowed S n) := by
  refine go_enter [.ref 53, .ref 1, .ref 11, .ref 40] [(0, .ref 53), (1, .ref 1), (2, .ref 11), (3, .ref 40)] (by decide +kernel) rfl rfl (Nat.le_of_ble_eq_true rfl) rfl ?_
  refine go_iconst 1 (0) dX3_settleNarrowed_0 rfl (by decide) ?_
  refine go_istore 3 [(4, .int _), (0, .ref 53), (1, .ref 1), (2, .ref 11), (3, .ref 40)] dX3_settleNarrowed_1 rfl (Nat.le_of_ble_eq_true rfl) rfl ?_
  refine go_ls [(4, .int _), (0, .ref 53), (1, .ref 1), (2, .ref 11), (3, .ref 40)] (List.forall_mem_cons.mpr ⟨rfl, List.forall_mem_cons.mpr ⟨rfl, List.forall_mem_cons.mpr ⟨rfl, List.forall_mem_cons.mpr ⟨rfl, List.forall_mem_cons.mpr ⟨rfl, fun _ h => absurd h List.not_mem_nil⟩⟩⟩⟩⟩) ?_
  refine lk_setN n _ (fun i hi => okC.of ho (fun a c h => fr_lp_setN (by omega) i _)) ?_ 0 (Nat.zero_le _)
  refine go_return dX3_settleNarrowed_39 rfl (Nat.le_of_ble_eq_true rfl) (Nat.le_of_ble_eq_true rfl) ?_
  exact ⟨rfl, congrArg hp rfl⟩
theorem fr_f_X3_settleNarrowed {a0 c0 : Nat} (h54 : a0 ≠ 54) (S : gS) (n : Nat) : rI (f_X3_settleNarrowed S n) a0 c0 = rI S a0 c0 := by
  unfold f_X3_settleNarrowed
  first | (simp only [snd_ite, rI_ite, ite_self, rI_wIk h54, rI_wRk h54, fr_lp_setN h54]; done) | ((repeat' split) <;> first | rfl | simp only [rI_wIk h54, rI_wRk h54, fr_lp_setN h54])

