-- needs 
def bd_fill (v : Int32) (i : Nat) (p : gS) : gS := (wI p 41 i v)
set_option maxRecDepth 100000 in
set_option maxHeartbeats 1000000 in
theorem lk_fill {Q : go_Q} (v : Int32)  (s0 : gS)  (hI : ∀ i, i ≤ 24 → True) (kx : Go mJ7_fill_53178 false Q 0 0 20 [(2, .int (nI 24)), (0, .ref 41), (1, .int v), (3, .int (nI 24))] [] (hp (itr (bd_fill v) 24 s0))) : ∀ i, i ≤ 24 → Go mJ7_fill_53178 false Q 0 0 5 [(2, .int (nI i)), (0, .ref 41), (1, .int v), (3, .int (nI 24))] [] (hp (itr (bd_fill v) i s0)) := by
  refine g_dn _ (24) (fun i hi ih => ?_)
  have hT := hI i hi
  have ih2 : i < 24 → Go mJ7_fill_53178 false Q 0 0 5 [(2, .int (nI (i + 1))), (0, .ref 41), (1, .int v), (3, .int (nI 24))] [] (hp ((bd_fill v) i (itr (bd_fill v) i s0))) := ih
  have kx2 : i = 24 → Go mJ7_fill_53178 false Q 0 0 20 [(2, .int (nI i)), (0, .ref 41), (1, .int v), (3, .int (nI 24))] [] (hp (itr (bd_fill v) i s0)) := by
    rintro rfl
    exact kx
  clear ih kx hI
  revert hT ih2 kx2
  generalize itr (bd_fill v) i s0 = p
  intro hT ih2 kx2
  refine go_iload_n 6 dJ7_fill_53178_5 rfl rfl ?_
  refine go_iload_n 7 dJ7_fill_53178_6 rfl rfl ?_
  refine go_icmp_ge 10 20 dJ7_fill_53178_7 rfl (by decide) (fun hc1 => ?_) (fun hc1 => ?_)
  · have hv : i = 24 := by
      have h8 := hc1
      rw [show nI 24 = nI 24 from rfl, nI_le2 (by omega) (by omega)] at h8
      omega
    refine go_ls [(2, .int _), (0, .ref 41), (1, .int _), (3, .int _)] (List.forall_mem_cons.mpr ⟨rfl, List.forall_mem_cons.mpr ⟨rfl, List.forall_mem_cons.mpr ⟨rfl, List.forall_mem_cons.mpr ⟨rfl, fun _ h => absurd h List.not_mem_nil⟩⟩⟩⟩) ?_
    exact kx2 hv
  · have hv : i < 24 := by
      have h8 := hc1
      rw [show nI 24 = nI 24 from rfl, nI_le2 (by omega) (by omega)] at h8
      omega
    clear hc1
    have hcl := nI_c (n := i) (by omega)
    refine go_aload_n 11 dJ7_fill_53178_10 rfl rfl ?_
    refine go_iload_n 12 dJ7_fill_53178_11 rfl rfl ?_
    refine go_iload_n 13 dJ7_fill_53178_12 rfl rfl ?_
    refine g_iast2 14 i dJ7_fill_53178_13 rfl ly_41 (nI_i (by have := hv; omega) (by omega)) hcl ?_
    refine go_iinc 17 [(2, .int _), (0, .ref 41), (1, .int _), (3, .int _)] (nI (i + 1)) dJ7_fill_53178_14 rfl (Nat.le_of_ble_eq_true rfl) rfl (nI_inc i) rfl ?_
    refine go_goto 5 dJ7_fill_53178_17 (by decide) ?_
    refine go_ls [(2, .int _), (0, .ref 41), (1, .int _), (3, .int _)] (List.forall_mem_cons.mpr ⟨rfl, List.forall_mem_cons.mpr ⟨rfl, List.forall_mem_cons.mpr ⟨rfl, List.forall_mem_cons.mpr ⟨rfl, fun _ h => absurd h List.not_mem_nil⟩⟩⟩⟩) ?_
    refine g_st (T := bd_fill v i p) (by try rfl) (ih2 (by omega))
theorem fr_bd_fill {a0 c0 : Nat} (h41 : a0 ≠ 41) (v : Int32) (i : Nat) (p : gS) : rI (bd_fill v i p) a0 c0 = rI p a0 c0 := by
  unfold bd_fill
  first | (simp only [snd_ite, rI_ite, ite_self, rI_wIk h41, rI_wRk h41]; done) | ((repeat' split) <;> first | rfl | simp only [rI_wIk h41, rI_wRk h41])
theorem fr_lp_fill {a0 c0 : Nat} (h41 : a0 ≠ 41) (v : Int32) (n : Nat) (p : gS) : rI (itr (bd_fill v) n p) a0 c0 = rI p a0 c0 := by
  induction n with
  | zero => rfl
  | succ n ih => exact (fr_bd_fill h41 _ _ _).trans ih

def f_fill (S : gS) (v : Int32) : gS := (itr (bd_fill v) 24 S)
set_option maxRecDepth 100000 in
set_option maxHeartbeats 1000000 in
theorem ct_J7_fill_53178 (S : gS) (v : Int32)  : gF mJ7_fill_53178 [.ref 41, .int v] S none (f_fill S v) := by
  refine go_enter [.ref 41, .int v] [(0, .ref 41), (1, .int v)] (by decide +kernel) rfl rfl (Nat.le_of_ble_eq_true rfl) rfl ?_
  refine go_iconst 1 (0) dJ7_fill_53178_0 rfl (by decide) ?_
  refine go_istore_n 2 [(2, .int _), (0, .ref 41), (1, .int _)] dJ7_fill_53178_1 rfl (Nat.le_of_ble_eq_true rfl) rfl ?_
  refine go_aload_n 3 dJ7_fill_53178_2 rfl rfl ?_
  refine g_aleni 4 dJ7_fill_53178_3 rfl ly_41 ?_
  refine go_istore_n 5 [(3, .int _), (2, .int _), (0, .ref 41), (1, .int _)] dJ7_fill_53178_4 rfl (Nat.le_of_ble_eq_true rfl) rfl ?_
  refine go_ls [(2, .int _), (0, .ref 41), (1, .int _), (3, .int _)] (List.forall_mem_cons.mpr ⟨rfl, List.forall_mem_cons.mpr ⟨rfl, List.forall_mem_cons.mpr ⟨rfl, List.forall_mem_cons.mpr ⟨rfl, fun _ h => absurd h List.not_mem_nil⟩⟩⟩⟩) ?_
  refine lk_fill v _ (fun _ _ => trivial) ?_ 0 (Nat.zero_le _)
  refine go_return dJ7_fill_53178_20 rfl (Nat.le_of_ble_eq_true rfl) (Nat.le_of_ble_eq_true rfl) ?_
  exact ⟨rfl, congrArg hp rfl⟩
theorem fr_f_fill {a0 c0 : Nat} (h41 : a0 ≠ 41) (S : gS) (v : Int32) : rI (f_fill S v) a0 c0 = rI S a0 c0 := by
  unfold f_fill
  first | (simp only [snd_ite, rI_ite, ite_self, rI_wIk h41, rI_wRk h41, fr_lp_fill h41]; done) | ((repeat' split) <;> first | rfl | simp only [rI_wIk h41, rI_wRk h41, fr_lp_fill h41])

def bd_wout (i : Nat) (p : gS) : gS := (if (rI p 7 i) = 0 then p else (f_X7_ask p ((nI i)) ((-1))))
set_option maxRecDepth 100000 in
set_option maxHeartbeats 1000000 in
theorem lk_wout {Q : go_Q}  (n : Nat) (s0 : gS)  (hI : ∀ i, i ≤ n → okC (itr (bd_wout) i s0) n) (kx : Go mX7_find false Q 0 0 40 [(3, .int (nI n)), (0, .ref 40), (1, .ref 1), (2, .ref 36)] [] (hp (itr (bd_wout) n s0))) : ∀ i, i ≤ n → Go mX7_find false Q 0 0 10 [(3, .int (nI i)), (0, .ref 40), (1, .ref 1), (2, .ref 36)] [] (hp (itr (bd_wout) i s0)) := by
  refine g_dn _ (n) (fun i hi ih => ?_)
  have hT := hI i hi
  have ih2 : i < n → Go mX7_find false Q 0 0 10 [(3, .int (nI (i + 1))), (0, .ref 40), (1, .ref 1), (2, .ref 36)] [] (hp ((bd_wout) i (itr (bd_wout) i s0))) := ih
  have kx2 : i = n → Go mX7_find false Q 0 0 40 [(3, .int (nI i)), (0, .ref 40), (1, .ref 1), (2, .ref 36)] [] (hp (itr (bd_wout) i s0)) := by
    rintro rfl
    exact kx
  clear ih kx hI
  revert hT ih2 kx2
  generalize itr (bd_wout) i s0 = p
  intro hT ih2 kx2
  have h24 := hT.2.1
  refine go_iload_n 11 dX7_find_10 rfl rfl ?_
  refine go_aload_n 12 dX7_find_11 rfl rfl ?_
  refine g_getI 15 dX7_find_12 rfl fF_RX7_32 ly_1 rfl ?_
  refine go_icmp_ge 18 40 dX7_find_15 rfl (by decide) (fun hc1 => ?_) (fun hc1 => ?_)
  · have hv : i = n := by
      have h8 := hc1
      rw [hT.1, nI_le2 (by omega) (by omega)] at h8
      omega
    refine go_ls [(3, .int _), (0, .ref 40), (1, .ref 1), (2, .ref 36)] (List.forall_mem_cons.mpr ⟨rfl, List.forall_mem_cons.mpr ⟨rfl, List.forall_mem_cons.mpr ⟨rfl, List.forall_mem_cons.mpr ⟨rfl, fun _ h => absurd h List.not_mem_nil⟩⟩⟩⟩) ?_
    exact kx2 hv
  · have hv : i < n := by
      have h8 := hc1
      rw [hT.1, nI_le2 (by omega) (by omega)] at h8
      omega
    clear hc1
    have hcl := nI_c (n := i) (by omega)
    refine go_aload_n 19 dX7_find_18 rfl rfl ?_
    refine g_getR 22 dX7_find_19 rfl fF_RX7_38 ly_1 rfl ?_
    refine go_iload_n 23 dX7_find_22 rfl rfl ?_
    refine g_zald2 24 i dX7_find_23 rfl ly_7 (nI_i (by have := hv; omega) (by omega)) hcl ?_
    refine go_if_eq 27 34 dX7_find_24 rfl (by decide) (fun hc2 => ?_) (fun hc2 => ?_)
    · refine go_iinc 37 [(3, .int _), (0, .ref 40), (1, .ref 1), (2, .ref 36)] (nI (i + 1)) dX7_find_34 rfl (Nat.le_of_ble_eq_true rfl) rfl (nI_inc i) rfl ?_
      refine go_goto 10 dX7_find_37 (by decide) ?_
      refine go_ls [(3, .int _), (0, .ref 40), (1, .ref 1), (2, .ref 36)] (List.forall_mem_cons.mpr ⟨rfl, List.forall_mem_cons.mpr ⟨rfl, List.forall_mem_cons.mpr ⟨rfl, List.forall_mem_cons.mpr ⟨rfl, fun _ h => absurd h List.not_mem_nil⟩⟩⟩⟩) ?_
      refine g_st (T := bd_wout i p) (by unfold bd_wout; simp only [if_pos hc2]; try first | rfl | contradiction) (ih2 (by omega))
    · refine go_aload_n 28 dX7_find_27 rfl rfl ?_
      refine go_aload_n 29 dX7_find_28 rfl rfl ?_
      refine go_iload_n 30 dX7_find_29 rfl rfl ?_
      refine go_iconst 31 (-1) dX7_find_30 rfl (by decide) ?_
      refine g_callV0 34 [.ref 36, .int _, .int _] [] dX7_find_31 rfl (ct_X7_ask _ _ _ (nI_i (by have := hv; omega) (by omega))) rfl sV_X7_find_41 rfl ly_40 rfl rfl (Nat.le_of_ble_eq_true rfl) (Nat.le_of_ble_eq_true rfl) (Nat.le_of_ble_eq_true rfl) ?_
      refine go_iinc 37 [(3, .int _), (0, .ref 40), (1, .ref 1), (2, .ref 36)] (nI (i + 1)) dX7_find_34 rfl (Nat.le_of_ble_eq_true rfl) rfl (nI_inc i) rfl ?_
      refine go_goto 10 dX7_find_37 (by decide) ?_
      refine go_ls [(3, .int _), (0, .ref 40), (1, .ref 1), (2, .ref 36)] (List.forall_mem_cons.mpr ⟨rfl, List.forall_mem_cons.mpr ⟨rfl, List.forall_mem_cons.mpr ⟨rfl, List.forall_mem_cons.mpr ⟨rfl, fun _ h => absurd h List.not_mem_nil⟩⟩⟩⟩) ?_
      refine g_st (T := bd_wout i p) (by unfold bd_wout; simp only [if_neg hc2]; try first | rfl | contradiction) (ih2 (by omega))
theorem fr_bd_wout {a0 c0 : Nat} (h40_3 : ¬ (a0 = 40 ∧ c0 = 3)) (h41 : a0 ≠ 41) (i : Nat) (p : gS) : rI (bd_wout i p) a0 c0 = rI p a0 c0 := by
  unfold bd_wout
  first | (simp only [snd_ite, rI_ite, ite_self, rI_wIc h40_3, rI_wIk h41, rI_wRk h41, fr_f_X7_ask h40_3 h41]; done) | ((repeat' split) <;> first | rfl | simp only [rI_wIc h40_3, rI_wIk h41, rI_wRk h41, fr_f_X7_ask h40_3 h41] | (apply fr_f_X7_ask <;> assumption))
theorem fr_lp_wout {a0 c0 : Nat} (h40_3 : ¬ (a0 = 40 ∧ c0 = 3)) (h41 : a0 ≠ 41)  (n : Nat) (p : gS) : rI (itr (bd_wout) n p) a0 c0 = rI p a0 c0 := by
  induction n with
  | zero => rfl
  | succ n ih => exact (fr_bd_wout h40_3 h41 _ _).trans ih

/-- one pass, from the last signal to the first -/
def bd_wp (n i : Nat) (p : gS) : gS := if rI p 41 (n - 1 - i) = 0 then p else f_X7_askOperands p (n - 1 - i)
theorem bd_wp_t {n i : Nat} {p : gS} (h : rI p 41 (n - 1 - i) = 0) : bd_wp n i p = p := by unfold bd_wp; rw [if_pos h]
theorem bd_wp_f {n i : Nat} {p : gS} (h : ¬ rI p 41 (n - 1 - i) = 0) : bd_wp n i p = f_X7_askOperands p (n - 1 - i) := by unfold bd_wp; rw [if_neg h]
theorem fr_bd_wp {a0 c0 : Nat} (h40_3 : ¬ (a0 = 40 ∧ c0 = 3)) (h41 : a0 ≠ 41) (n i : Nat) (p : gS) : rI (bd_wp n i p) a0 c0 = rI p a0 c0 := by
  unfold bd_wp
  split
  · rfl
  · exact fr_f_X7_askOperands h40_3 h41 _ _
theorem fr_lp_wp {a0 c0 : Nat} (h40_3 : ¬ (a0 = 40 ∧ c0 = 3)) (h41 : a0 ≠ 41) (n i : Nat) (p : gS) : rI (itr (bd_wp n) i p) a0 c0 = rI p a0 c0 := by
  induction i with
  | zero => rfl
  | succ i ih => exact (fr_bd_wp h40_3 h41 n i _).trans ih
set_option maxRecDepth 100000 in
set_option maxHeartbeats 1000000 in
theorem lk_wp {Q : go_Q} (S : gS) (n : Nat) (ho : okC S n) (v3 : Int32) (kx : Go mX7_find false Q 0 0 103 [(4, .int (dI n n)), (3, .int v3), (0, .ref 40), (1, .ref 1), (2, .ref 36)] [] (hp ((fun i => itr (bd_wp n) i S) (n)))) : ∀ i, i ≤ n → Go mX7_find false Q 0 0 74 [(4, .int (dI n i)), (3, .int v3), (0, .ref 40), (1, .ref 1), (2, .ref 36)] [] (hp ((fun i => itr (bd_wp n) i S) i)) := by
  refine g_dn _ (n) (fun i hi ih => ?_)
  have h24 := ho.2.1
  have hng := dI_neg hi h24
  refine go_iload 76 dX7_find_74 rfl rfl ?_
  refine go_if_lt 79 103 dX7_find_76 rfl (by decide) (fun hc1 => ?_) (fun hc1 => ?_)
  · have hv : i = n := by
      have h8 := hc1
      rw [hng] at h8
      exact h8
    subst hv
    exact kx
  · have hv : i < n := by
      have h8 := hc1
      rw [hng] at h8
      omega
    have hd9 := dI_n hv
    have hcl : (dI n i).toNatClampNeg = n - 1 - i := by rw [hd9]; exact nI_c (by omega)
    have hvi : vp_in (dI n i) 24 := by rw [hd9]; exact nI_i (by omega) (by omega)
    refine go_aload_n 80 dX7_find_79 rfl rfl ?_
    refine g_getR 83 dX7_find_80 rfl fF_RX7_9 ly_40 rfl ?_
    refine go_iload 85 dX7_find_83 rfl rfl ?_
    refine g_iald 86 dX7_find_85 rfl ly_41 hvi ?_
    refine go_if_eq 89 97 dX7_find_86 rfl (by decide) (fun hc2 => ?_) (fun hc2 => ?_)
    · refine go_iinc 100 [(4, .int _), (3, .int _), (0, .ref 40), (1, .ref 1), (2, .ref 36)] (dI n (i + 1)) dX7_find_97 rfl (Nat.le_of_ble_eq_true rfl) rfl (dI_s n i) rfl ?_
      refine go_goto 74 dX7_find_100 (by decide) ?_
      have h6 : Go mX7_find false Q 0 0 74 [(4, .int (dI n (i + 1))), (3, .int v3), (0, .ref 40), (1, .ref 1), (2, .ref 36)] [] (hp (bd_wp n i (itr (bd_wp n) i S))) := ih (by omega)
      rw [hcl] at hc2
      first | (rw [bd_wp_t (p := itr (bd_wp n) i S) hc2] at h6; exact h6) | (rw [bd_wp_f (p := itr (bd_wp n) i S) hc2] at h6; exact h6)
    · refine go_aload_n 90 dX7_find_89 rfl rfl ?_
      refine go_aload_n 91 dX7_find_90 rfl rfl ?_
      refine go_aload_n 92 dX7_find_91 rfl rfl ?_
      refine go_iload 94 dX7_find_92 rfl rfl ?_
      refine g_callV0 97 [.ref 1, .ref 36, .int _] [] dX7_find_94 rfl (by rw [hd9]; exact ct_X7_askOperands _ (n - 1 - i) n (okC.of ho (fun a c h => fr_lp_wp (by omega) (by omega) n i S)) (by omega)) rfl sV_X7_find_45 rfl ly_40 rfl rfl (Nat.le_of_ble_eq_true rfl) (Nat.le_of_ble_eq_true rfl) (Nat.le_of_ble_eq_true rfl) ?_
      refine go_iinc 100 [(4, .int _), (3, .int _), (0, .ref 40), (1, .ref 1), (2, .ref 36)] (dI n (i + 1)) dX7_find_97 rfl (Nat.le_of_ble_eq_true rfl) rfl (dI_s n i) rfl ?_
      refine go_goto 74 dX7_find_100 (by decide) ?_
      have h6 : Go mX7_find false Q 0 0 74 [(4, .int (dI n (i + 1))), (3, .int v3), (0, .ref 40), (1, .ref 1), (2, .ref 36)] [] (hp (bd_wp n i (itr (bd_wp n) i S))) := ih (by omega)
      rw [hcl] at hc2
      first | (rw [bd_wp_t (p := itr (bd_wp n) i S) hc2] at h6; exact h6) | (rw [bd_wp_f (p := itr (bd_wp n) i S) hc2] at h6; exact h6)

/-- the passes -/
def wpS (S : gS) (n : Nat) : Nat → gS
  | 0 => S
  | k + 1 => itr (bd_wp n) n (wI (wpS S n k) 40 3 0)
def wpEnd (S : gS) (n G : Nat) : Prop := (∀ k, k ≤ G → rI (wpS S n k) 40 3 ≠ 0) ∧ rI (wpS S n (G + 1)) 40 3 = 0 ∧ G < 769
theorem fr_wpS {a0 c0 : Nat} (h40_3 : ¬ (a0 = 40 ∧ c0 = 3)) (h41 : a0 ≠ 41) (S : gS) (n k : Nat) : rI (wpS S n k) a0 c0 = rI S a0 c0 := by
  induction k with
  | zero => rfl
  | succ k ih => exact (fr_lp_wp h40_3 h41 n n _).trans ((rI_wIc h40_3 _ _).trans ih)
theorem wp_bnd {i : Nat} (h : i < 769) : ¬ (769 : Int32) ≤ nI i := by
  rw [ile, nI_toInt (by omega)]
  show ¬ (769 : Int) ≤ (i : Int)
  omega
set_option maxRecDepth 100000 in
set_option maxHeartbeats 1000000 in
theorem lk_wps {Q : go_Q} (S : gS) (n : Nat) (ho : okC S n) (K : Nat) (hK : wpEnd S n K) (kx : Go mX7_find false Q 0 0 109 [(3, .int (nI (K + 1))), (0, .ref 40), (1, .ref 1), (2, .ref 36)] [] (hp (wpS S n (K + 1)))) : ∀ i, i ≤ K + 1 → Go mX7_find false Q 0 0 47 [(3, .int (nI i)), (0, .ref 40), (1, .ref 1), (2, .ref 36)] [] (hp (wpS S n i)) := by
  refine g_dn _ (K + 1) (fun i hi ih => ?_)
  have h24 := ho.2.1
  refine go_aload_n 48 dX7_find_47 rfl rfl ?_
  refine g_getI 51 dX7_find_48 rfl fF_RX7_22 ly_40 rfl ?_
  refine go_if_eq 54 109 dX7_find_51 rfl (by decide) (fun hc1 => ?_) (fun hc1 => ?_)
  · first
      | (have hv : i = K + 1 := by
           rcases Nat.lt_or_ge K i with q | q
           · omega
           · exact absurd hc1 (hK.1 i q)
         subst hv
         exact kx)
      | (have h6 := hK.2.2
         exact absurd hc2 (wp_bnd (by omega)))
  · have hv : i ≤ K := by
      rcases Nat.lt_or_ge K i with q | q
      · have e9 : i = K + 1 := by omega
        subst e9
        exact absurd hK.2.1 hc1
      · exact q
    have hoK : okC (wI (wpS S n i) 40 3 0) n := okC.of ho (fun a c h => (rI_wIc (by omega) _ _).trans (fr_wpS (by omega) (by omega) S n i))
    refine go_iload_n 55 dX7_find_54 rfl rfl ?_
    refine go_sipush 58 (769) dX7_find_55 rfl (by decide) ?_
    refine go_icmp_ge 61 109 dX7_find_58 rfl (by decide) (fun hc2 => ?_) (fun hc2 => ?_)
    · first
        | (have hv : i = K + 1 := by
             rcases Nat.lt_or_ge K i with q | q
             · omega
             · exact absurd hc1 (hK.1 i q)
           subst hv
           exact kx)
        | (have h6 := hK.2.2
           exact absurd hc2 (wp_bnd (by omega)))
    · refine go_aload_n 62 dX7_find_61 rfl rfl ?_
      refine go_iconst 63 (0) dX7_find_62 rfl (by decide) ?_
      refine g_putI 66 dX7_find_63 rfl fF_RX7_22 ly_40 rfl (fun q hq => by cases hq; rfl) rfl rfl ?_
      refine go_aload_n 67 dX7_find_66 rfl rfl ?_
      refine g_getI 70 dX7_find_67 rfl fF_RX7_32 ly_1 rfl ?_
      refine go_iconst 71 (1) dX7_find_70 rfl (by decide) ?_
      refine go_isub 72 dX7_find_71 rfl ?_
      refine go_topi (dI n 0) (by rw [show rI (wI (wpS S n i) 40 3 0) 1 0 = nI n from hoK.1]; exact dI_0 n) ?_
      refine go_istore 74 [(4, .int _), (3, .int _), (0, .ref 40), (1, .ref 1), (2, .ref 36)] dX7_find_72 rfl (Nat.le_of_ble_eq_true rfl) rfl ?_
      refine go_ls [(4, .int _), (3, .int _), (0, .ref 40), (1, .ref 1), (2, .ref 36)] (List.forall_mem_cons.mpr ⟨rfl, List.forall_mem_cons.mpr ⟨rfl, List.forall_mem_cons.mpr ⟨rfl, List.forall_mem_cons.mpr ⟨rfl, List.forall_mem_cons.mpr ⟨rfl, fun _ h => absurd h List.not_mem_nil⟩⟩⟩⟩⟩) ?_
      refine lk_wp _ n hoK _ ?_ 0 (Nat.zero_le _)
      refine go_iinc 106 [(3, .int _), (4, .int _), (0, .ref 40), (1, .ref 1), (2, .ref 36)] (nI (i + 1)) dX7_find_103 rfl (Nat.le_of_ble_eq_true rfl) rfl (nI_inc i) rfl ?_
      refine go_goto 47 dX7_find_106 (by decide) ?_
      refine go_ls [(3, .int _), (0, .ref 40), (1, .ref 1), (2, .ref 36)] (List.forall_mem_cons.mpr ⟨rfl, List.forall_mem_cons.mpr ⟨rfl, List.forall_mem_cons.mpr ⟨rfl, List.forall_mem_cons.mpr ⟨rfl, fun _ h => absurd h List.not_mem_nil⟩⟩⟩⟩) ?_
      exact ih (by omega)

def bd_wnar (i : Nat) (p : gS) : gS := (if (f_X4_isSignedRange (wI p 42 i ((f_X8_bitLength ((rI p 41 i))))) ((nI i))) = 0 then (wI (wI p 42 i ((f_X8_bitLength ((rI p 41 i))))) 43 i ((vp_nar .boolean 0))) else (if (rI (wI p 42 i ((f_X8_bitLength ((rI p 41 i))))) 42 i) = (rI (wI p 42 i ((f_X8_bitLength ((rI p 41 i))))) 39 i) then (wI (wI p 42 i ((f_X8_bitLength ((rI p 41 i))))) 43 i ((vp_nar .boolean 1))) else (wI (wI p 42 i ((f_X8_bitLength ((rI p 41 i))))) 43 i ((vp_nar .boolean 0)))))
set_option maxRecDepth 100000 in
set_option maxHeartbeats 1000000 in
theorem lk_wnar {Q : go_Q}  (n : Nat) (s0 : gS)  (hI : ∀ i, i ≤ n → okC (itr (bd_wnar) i s0) n) (kx : Go mX7_find false Q 0 0 174 [(3, .int (nI n)), (0, .ref 40), (1, .ref 1), (2, .ref 36)] [] (hp (itr (bd_wnar) n s0))) : ∀ i, i ≤ n → Go mX7_find false Q 0 0 111 [(3, .int (nI i)), (0, .ref 40), (1, .ref 1), (2, .ref 36)] [] (hp (itr (bd_wnar) i s0)) := by
  refine g_dn _ (n) (fun i hi ih => ?_)
  have hT := hI i hi
  have ih2 : i < n → Go mX7_find false Q 0 0 111 [(3, .int (nI (i + 1))), (0, .ref 40), (1, .ref 1), (2, .ref 36)] [] (hp ((bd_wnar) i (itr (bd_wnar) i s0))) := ih
  have kx2 : i = n → Go mX7_find false Q 0 0 174 [(3, .int (nI i)), (0, .ref 40), (1, .ref 1), (2, .ref 36)] [] (hp (itr (bd_wnar) i s0)) := by
    rintro rfl
    exact kx
  clear ih kx hI
  revert hT ih2 kx2
  generalize itr (bd_wnar) i s0 = p
  intro hT ih2 kx2
  have h24 := hT.2.1
  refine go_iload_n 112 dX7_find_111 rfl rfl ?_
  refine go_aload_n 113 dX7_find_112 rfl rfl ?_
  refine g_getI 116 dX7_find_113 rfl fF_RX7_32 ly_1 rfl ?_
  refine go_icmp_ge 119 174 dX7_find_116 rfl (by decide) (fun hc1 => ?_) (fun hc1 => ?_)
  · have hv : i = n := by
      have h8 := hc1
      rw [hT.1, nI_le2 (by omega) (by omega)] at h8
      omega
    refine go_ls [(3, .int _), (0, .ref 40), (1, .ref 1), (2, .ref 36)] (List.forall_mem_cons.mpr ⟨rfl, List.forall_mem_cons.mpr ⟨rfl, List.forall_mem_cons.mpr ⟨rfl, List.forall_mem_cons.mpr ⟨rfl, fun _ h => absurd h List.not_mem_nil⟩⟩⟩⟩) ?_
    exact kx2 hv
  · have hv : i < n := by
      have h8 := hc1
      rw [hT.1, nI_le2 (by omega) (by omega)] at h8
      omega
    clear hc1
    have hcl := nI_c (n := i) (by omega)
    refine go_aload_n 120 dX7_find_119 rfl rfl ?_
    refine g_getR 123 dX7_find_120 rfl fF_RX7_15 ly_40 rfl ?_
    refine go_iload_n 124 dX7_find_123 rfl rfl ?_
    refine go_aload_n 125 dX7_find_124 rfl rfl ?_
    refine g_getR 128 dX7_find_125 rfl fF_RX7_9 ly_40 rfl ?_
    refine go_iload_n 129 dX7_find_128 rfl rfl ?_
    refine g_iald2 130 i dX7_find_129 rfl ly_41 (nI_i (by have := hv; omega) (by omega)) hcl ?_
    refine g_callSN 133 [.int _] [.int _, .ref 42] dX7_find_130 rfl (ct_X8_bitLength _ _) rfl sV_X7_find_49 rfl (Nat.le_of_ble_eq_true rfl) (Nat.le_of_ble_eq_true rfl) (Nat.le_of_ble_eq_true rfl) ?_
    refine g_iast2 134 i dX7_find_133 rfl ly_42 (nI_i (by have := hv; omega) (by omega)) hcl ?_
    refine go_aload_n 135 dX7_find_134 rfl rfl ?_
    refine g_getR 138 dX7_find_135 rfl fF_RX7_18 ly_40 rfl ?_
    refine go_iload_n 139 dX7_find_138 rfl rfl ?_
    refine go_aload_n 140 dX7_find_139 rfl rfl ?_
    refine go_iload_n 141 dX7_find_140 rfl rfl ?_
    refine g_callV 144 [.int _] [.int _, .ref 43] dX7_find_141 rfl (ct_X4_isSignedRange _ _ (nI_i (by have := hv; omega) (by omega))) rfl sV_X7_find_53 rfl ly_36 rfl rfl (Nat.le_of_ble_eq_true rfl) (Nat.le_of_ble_eq_true rfl) (Nat.le_of_ble_eq_true rfl) ?_
    refine go_if_eq 147 166 dX7_find_144 rfl (by decide) (fun hc2 => ?_) (fun hc2 => ?_)
    · refine go_iconst 167 (0) dX7_find_166 rfl (by decide) ?_
      refine g_zast2 168 i dX7_find_167 rfl ly_43 (nI_i (by have := hv; omega) (by omega)) hcl ?_
      refine go_iinc 171 [(3, .int _), (0, .ref 40), (1, .ref 1), (2, .ref 36)] (nI (i + 1)) dX7_find_168 rfl (Nat.le_of_ble_eq_true rfl) rfl (nI_inc i) rfl ?_
      refine go_goto 111 dX7_find_171 (by decide) ?_
      refine go_ls [(3, .int _), (0, .ref 40), (1, .ref 1), (2, .ref 36)] (List.forall_mem_cons.mpr ⟨rfl, List.forall_mem_cons.mpr ⟨rfl, List.forall_mem_cons.mpr ⟨rfl, List.forall_mem_cons.mpr ⟨rfl, fun _ h => absurd h List.not_mem_nil⟩⟩⟩⟩) ?_
      refine g_st (T := bd_wnar i p) (by unfold bd_wnar; simp only [if_pos hc2]; try first | rfl | contradiction) (ih2 (by omega))
    · refine go_aload_n 148 dX7_find_147 rfl rfl ?_
      refine g_getR 151 dX7_find_148 rfl fF_RX7_15 ly_40 rfl ?_
      refine go_iload_n 152 dX7_find_151 rfl rfl ?_
      refine g_iald2 153 i dX7_find_152 rfl ly_42 (nI_i (by have := hv; omega) (by omega)) hcl ?_
      refine go_aload_n 154 dX7_find_153 rfl rfl ?_
      refine g_getR 157 dX7_find_154 rfl fF_RX7_59 ly_36 rfl ?_
      refine go_iload_n 158 dX7_find_157 rfl rfl ?_
      refine g_iald2 159 i dX7_find_158 rfl ly_39 (nI_i (by have := hv; omega) (by omega)) hcl ?_
      refine go_icmp_ne 162 166 dX7_find_159 rfl (by decide) (fun hc3 => ?_) (fun hc3 => ?_)
      · refine go_iconst 167 (0) dX7_find_166 rfl (by decide) ?_
        refine g_zast2 168 i dX7_find_167 rfl ly_43 (nI_i (by have := hv; omega) (by omega)) hcl ?_
        refine go_iinc 171 [(3, .int _), (0, .ref 40), (1, .ref 1), (2, .ref 36)] (nI (i + 1)) dX7_find_168 rfl (Nat.le_of_ble_eq_true rfl) rfl (nI_inc i) rfl ?_
        refine go_goto 111 dX7_find_171 (by decide) ?_
        refine go_ls [(3, .int _), (0, .ref 40), (1, .ref 1), (2, .ref 36)] (List.forall_mem_cons.mpr ⟨rfl, List.forall_mem_cons.mpr ⟨rfl, List.forall_mem_cons.mpr ⟨rfl, List.forall_mem_cons.mpr ⟨rfl, fun _ h => absurd h List.not_mem_nil⟩⟩⟩⟩) ?_
        refine g_st (T := bd_wnar i p) (by unfold bd_wnar; simp only [if_neg hc2, if_neg hc3]; try first | rfl | contradiction) (ih2 (by omega))
      · refine go_iconst 163 (1) dX7_find_162 rfl (by decide) ?_
        refine go_goto 167 dX7_find_163 (by decide) ?_
        refine g_zast2 168 i dX7_find_167 rfl ly_43 (nI_i (by have := hv; omega) (by omega)) hcl ?_
        refine go_iinc 171 [(3, .int _), (0, .ref 40), (1, .ref 1), (2, .ref 36)] (nI (i + 1)) dX7_find_168 rfl (Nat.le_of_ble_eq_true rfl) rfl (nI_inc i) rfl ?_
        refine go_goto 111 dX7_find_171 (by decide) ?_
        refine go_ls [(3, .int _), (0, .ref 40), (1, .ref 1), (2, .ref 36)] (List.forall_mem_cons.mpr ⟨rfl, List.forall_mem_cons.mpr ⟨rfl, List.forall_mem_cons.mpr ⟨rfl, List.forall_mem_cons.mpr ⟨rfl, fun _ h => absurd h List.not_mem_nil⟩⟩⟩⟩) ?_
        refine g_st (T := bd_wnar i p) (by unfold bd_wnar; simp only [if_neg hc2, if_pos hc3]; try first | rfl | contradiction) (ih2 (by omega))
theorem fr_bd_wnar {a0 c0 : Nat} (h42 : a0 ≠ 42) (h43 : a0 ≠ 43) (i : Nat) (p : gS) : rI (bd_wnar i p) a0 c0 = rI p a0 c0 := by
  unfold bd_wnar
  first | (simp only [snd_ite, rI_ite, ite_self, rI_wIk h42, rI_wRk h42, rI_wIk h43, rI_wRk h43]; done) | ((repeat' split) <;> first | rfl | simp only [rI_wIk h42, rI_wRk h42, rI_wIk h43, rI_wRk h43])
theorem fr_lp_wnar {a0 c0 : Nat} (h42 : a0 ≠ 42) (h43 : a0 ≠ 43)  (n : Nat) (p : gS) : rI (itr (bd_wnar) n p) a0 c0 = rI p a0 c0 := by
  induction n with
  | zero => rfl
  | succ n ih => exact (fr_bd_wnar h42 h43 _ _).trans ih

def f_X7_find (S : gS) (n G : Nat) : gS := (itr (bd_wnar) n (wpS (wI (itr (bd_wout) n (f_fill S 0)) 40 3 1) n (G + 1)))
set_option maxRecDepth 100000 in
set_option maxHeartbeats 1000000 in
theorem ct_X7_find (S : gS) (n G : Nat) (ho : okC S n) (hG : wpEnd (wI (itr (bd_wout) n (f_fill S 0)) 40 3 1) n G) : gF mX7_find [.ref 40, .ref 1, .ref 36] S none (f_X7_find S n G) := by
  have h24 := ho.2.1
  refine go_enter [.ref 40, .ref 1, .ref 36] [(0, .ref 40), (1, .ref 1), (2, .ref 36)] (by decide +kernel) rfl rfl (Nat.le_of_ble_eq_true rfl) rfl ?_
  refine go_aload_n 1 dX7_find_0 rfl rfl ?_
  refine g_getR 4 dX7_find_1 rfl fF_RX7_9 ly_40 rfl ?_
  refine go_iconst 5 (0) dX7_find_4 rfl (by decide) ?_
  refine g_callS0 8 [.ref 41, .int _] [] dX7_find_5 rfl (ct_J7_fill_53178 _ _) rfl sV_X7_find_26 rfl (Nat.le_of_ble_eq_true rfl) (Nat.le_of_ble_eq_true rfl) (Nat.le_of_ble_eq_true rfl) ?_
  refine go_iconst 9 (0) dX7_find_8 rfl (by decide) ?_
  refine go_istore_n 10 [(3, .int _), (0, .ref 40), (1, .ref 1), (2, .ref 36)] dX7_find_9 rfl (Nat.le_of_ble_eq_true rfl) rfl ?_
  refine go_ls [(3, .int _), (0, .ref 40), (1, .ref 1), (2, .ref 36)] (List.forall_mem_cons.mpr ⟨rfl, List.forall_mem_cons.mpr ⟨rfl, List.forall_mem_cons.mpr ⟨rfl, List.forall_mem_cons.mpr ⟨rfl, fun _ h => absurd h List.not_mem_nil⟩⟩⟩⟩) ?_
  refine lk_wout n _ (fun i hi => okC.of ho (fun a c h => (fr_lp_wout (by omega) (by omega) i _).trans (fr_f_fill (by omega) _ _))) ?_ 0 (Nat.zero_le _)
  refine go_aload_n 41 dX7_find_40 rfl rfl ?_
  refine go_iconst 42 (1) dX7_find_41 rfl (by decide) ?_
  refine g_putI 45 dX7_find_42 rfl fF_RX7_22 ly_40 rfl (fun q hq => by cases hq; rfl) rfl rfl ?_
  refine go_iconst 46 (0) dX7_find_45 rfl (by decide) ?_
  refine go_istore_n 47 [(3, .int _), (0, .ref 40), (1, .ref 1), (2, .ref 36)] dX7_find_46 rfl (Nat.le_of_ble_eq_true rfl) rfl ?_
  refine go_ls [(3, .int _), (0, .ref 40), (1, .ref 1), (2, .ref 36)] (List.forall_mem_cons.mpr ⟨rfl, List.forall_mem_cons.mpr ⟨rfl, List.forall_mem_cons.mpr ⟨rfl, List.forall_mem_cons.mpr ⟨rfl, fun _ h => absurd h List.not_mem_nil⟩⟩⟩⟩) ?_
  refine g_st (S := (wI (itr (bd_wout) n (f_fill S 0)) 40 3 1)) rfl ?_
  refine lk_wps _ n (okC.of ho (fun a c h => (rI_wIc (by omega) _ _).trans ((fr_lp_wout (by omega) (by omega) n _).trans (fr_f_fill (by omega) _ _)))) G hG ?_ 0 (Nat.zero_le _)
  refine go_iconst 110 (0) dX7_find_109 rfl (by decide) ?_
  refine go_istore_n 111 [(3, .int _), (0, .ref 40), (1, .ref 1), (2, .ref 36)] dX7_find_110 rfl (Nat.le_of_ble_eq_true rfl) rfl ?_
  refine go_ls [(3, .int _), (0, .ref 40), (1, .ref 1), (2, .ref 36)] (List.forall_mem_cons.mpr ⟨rfl, List.forall_mem_cons.mpr ⟨rfl, List.forall_mem_cons.mpr ⟨rfl, List.forall_mem_cons.mpr ⟨rfl, fun _ h => absurd h List.not_mem_nil⟩⟩⟩⟩) ?_
  refine lk_wnar n (wpS (wI (itr (bd_wout) n (f_fill S 0)) 40 3 1) n (G + 1)) (fun i hi => okC.of ho (fun a c h => (fr_lp_wnar (by omega) (by omega) i _).trans ((fr_wpS (by omega) (by omega) _ _ _).trans ((rI_wIc (by omega) _ _).trans ((fr_lp_wout (by omega) (by omega) n _).trans (fr_f_fill (by omega) _ _)))))) ?_ 0 (Nat.zero_le _)
  refine go_return dX7_find_174 rfl (Nat.le_of_ble_eq_true rfl) (Nat.le_of_ble_eq_true rfl) ?_
  exact ⟨rfl, congrArg hp rfl⟩
theorem fr_f_X7_find {a0 c0 : Nat} (h40_3 : ¬ (a0 = 40 ∧ c0 = 3)) (h41 : a0 ≠ 41) (h42 : a0 ≠ 42) (h43 : a0 ≠ 43) (S : gS) (n G : Nat) : rI (f_X7_find S n G) a0 c0 = rI S a0 c0 := by
  unfold f_X7_find
  first | (simp only [snd_ite, rI_ite, ite_self, rI_wIc h40_3, rI_wIk h41, rI_wRk h41, rI_wIk h42, rI_wRk h42, rI_wIk h43, rI_wRk h43, fr_lp_wnar h42 h43, fr_lp_wout h40_3 h41, fr_f_fill h41, fr_wpS h40_3 h41]; done) | ((repeat' split) <;> first | rfl | simp only [rI_wIc h40_3, rI_wIk h41, rI_wRk h41, rI_wIk h42, rI_wRk h42, rI_wIk h43, rI_wRk h43, fr_lp_wnar h42 h43, fr_lp_wout h40_3 h41, fr_f_fill h41, fr_wpS h40_3 h41] | (apply fr_f_fill <;> assumption) | (apply fr_wpS <;> assumption))

