-- needs 
/-- of two words of a list -/
theorem one_mem {α : Type} {p : α → Prop} {a : α} (h : p a) : ∀ y ∈ [a], p y := List.forall_mem_cons.mpr ⟨h, fun _ q => absurd q List.not_mem_nil⟩
theorem two_mem {α : Type} {p : α → Prop} {a b : α} (h : p a) (h2 : p b) : ∀ y ∈ [a, b], p y := List.forall_mem_cons.mpr ⟨h, one_mem h2⟩
set_option maxRecDepth 100000 in
set_option maxHeartbeats 1000000 in
theorem ct_L_add (S T : gS) (p0 p1 p2 p3 : Int32) (e : Nat) (r : Int32) (hC : gO mX8_add [.ref 0, .int p0, .int p1, .int p2, .int p3] S e (some (.int r)) T) (he : e = 0 ∨ e = 1 ∨ e = 2 ∨ e = 3) : gF mL_add [.ref 0, .int p0, .int p1, .int p2, .int p3, .ref 145] S (some (.int (if e = 0 then 0 else (if e = 1 then 1 else (if e = 2 then 2 else 3))))) (if e = 0 then (wL T 145 0 r.toInt64) else T) := by
  refine go_enterH [.ref 0, .int p0, .int p1, .int p2, .int p3, .ref 145] [(0, .ref 0), (1, .int p0), (2, .int p1), (3, .int p2), (4, .int p3), (5, .ref 145)] (by decide +kernel) rfl (by decide) (Nat.le_of_ble_eq_true rfl) rfl ?_
  refine go_aload 2 dL_add_0 rfl rfl ?_
  refine go_iconst 3 (0) dL_add_2 rfl (by decide) ?_
  refine go_aload_n 4 dL_add_3 rfl rfl ?_
  refine go_iload_n 5 dL_add_4 rfl rfl ?_
  refine go_iload_n 6 dL_add_5 rfl rfl ?_
  refine go_iload_n 7 dL_add_6 rfl rfl ?_
  refine go_iload 9 dL_add_7 rfl rfl ?_
  refine go_callVX 12 [.int p0, .int p1, .int p2, .int p3] [.int _, .ref 145] dL_add_9 rfl hC rfl sV_L_add_7 rfl (hp_at ly_0) rfl rfl (Nat.le_of_ble_eq_true rfl) (Nat.le_of_ble_eq_true rfl) (Nat.le_of_ble_eq_true rfl) (fun E h' hx => ?_) (fun v h' hv => ?_)
  · obtain ⟨hx1, hx2, rfl⟩ := hx
    rcases he with rfl | rfl | rfl | rfl
    · exact absurd hx1 (Nat.lt_irrefl _)
    · have e9 : "java/lang/IllegalArgumentException" = E := Option.some.inj hx2
      rw [← e9]
      exact go_catchL [] ⟨0, 14, 17, 13⟩ [⟨0, 14, 21, 15⟩, ⟨0, 14, 25, 17⟩] rfl (fun _ q => absurd q List.not_mem_nil) rfl (by decide) wJ_RL_13 (by decide +kernel) rfl dL_add_17 (by decide) dL_add_19 rfl dL_add_20 rfl (Nat.le_of_ble_eq_true rfl) (Nat.le_of_ble_eq_true rfl) ⟨rfl, rfl⟩
    · have e9 : "java/lang/IndexOutOfBoundsException" = E := Option.some.inj hx2
      rw [← e9]
      exact go_catchL [⟨0, 14, 17, 13⟩] ⟨0, 14, 21, 15⟩ [⟨0, 14, 25, 17⟩] rfl (one_mem ⟨by decide, "java/lang/IllegalArgumentException", wJ_RL_13, by decide +kernel⟩) rfl (by decide) wJ_RL_15 (by decide +kernel) rfl dL_add_21 (by decide) dL_add_23 rfl dL_add_24 rfl (Nat.le_of_ble_eq_true rfl) (Nat.le_of_ble_eq_true rfl) ⟨rfl, rfl⟩
    · have e9 : "java/lang/IllegalStateException" = E := Option.some.inj hx2
      rw [← e9]
      exact go_catchL [⟨0, 14, 17, 13⟩, ⟨0, 14, 21, 15⟩] ⟨0, 14, 25, 17⟩ [] rfl (two_mem ⟨by decide, "java/lang/IllegalArgumentException", wJ_RL_13, by decide +kernel⟩ ⟨by decide, "java/lang/IndexOutOfBoundsException", wJ_RL_15, by decide +kernel⟩) rfl (by decide) wJ_RL_17 (by decide +kernel) rfl dL_add_25 (by decide) dL_add_27 rfl dL_add_28 rfl (Nat.le_of_ble_eq_true rfl) (Nat.le_of_ble_eq_true rfl) ⟨rfl, rfl⟩
  · obtain ⟨rfl, rfl, rfl⟩ := hv
    refine go_i2l 13 dL_add_12 rfl ?_
    refine g_last 14 dL_add_13 rfl ly_145 (by unfold vp_in; decide) ?_
    refine go_goto 29 dL_add_14 (by decide) ?_
    refine go_iconst 30 (0) dL_add_29 rfl (by decide) ?_
    refine go_ireturn dL_add_30 rfl rfl (Nat.le_of_ble_eq_true rfl) (Nat.le_of_ble_eq_true rfl) ?_
    exact ⟨rfl, rfl⟩

set_option maxRecDepth 100000 in
set_option maxHeartbeats 1000000 in
theorem ct_L_cost (S T : gS) (p0 : Int32) (e : Nat) (r : Int32) (hC : gO mX8_cost [.ref 0, .int p0] S e (some (.int r)) T) (he : e = 0 ∨ e = 2) : gF mL_cost [.ref 0, .int p0, .ref 145] S (some (.int (if e = 0 then 0 else 1))) (if e = 0 then (wL T 145 0 r.toInt64) else T) := by
  refine go_enterH [.ref 0, .int p0, .ref 145] [(0, .ref 0), (1, .int p0), (2, .ref 145)] (by decide +kernel) rfl (by decide) (Nat.le_of_ble_eq_true rfl) rfl ?_
  refine go_aload_n 1 dL_cost_0 rfl rfl ?_
  refine go_iconst 2 (0) dL_cost_1 rfl (by decide) ?_
  refine go_aload_n 3 dL_cost_2 rfl rfl ?_
  refine go_iload_n 4 dL_cost_3 rfl rfl ?_
  refine go_callVX 7 [.int p0] [.int _, .ref 145] dL_cost_4 rfl hC rfl sV_L_cost_56 rfl (hp_at ly_0) rfl rfl (Nat.le_of_ble_eq_true rfl) (Nat.le_of_ble_eq_true rfl) (Nat.le_of_ble_eq_true rfl) (fun E h' hx => ?_) (fun v h' hv => ?_)
  · obtain ⟨hx1, hx2, rfl⟩ := hx
    rcases he with rfl | rfl
    · exact absurd hx1 (Nat.lt_irrefl _)
    · have e9 : "java/lang/IndexOutOfBoundsException" = E := Option.some.inj hx2
      rw [← e9]
      exact go_catch [] ⟨0, 9, 12, 15⟩ [] rfl (fun _ q => absurd q List.not_mem_nil) rfl (by decide) wJ_RL_15 (by decide +kernel) rfl dL_cost_12 (by decide) dL_cost_13 rfl dL_cost_14 rfl (Nat.le_of_ble_eq_true rfl) (Nat.le_of_ble_eq_true rfl) ⟨rfl, rfl⟩
  · obtain ⟨rfl, rfl, rfl⟩ := hv
    refine go_i2l 8 dL_cost_7 rfl ?_
    refine g_last 9 dL_cost_8 rfl ly_145 (by unfold vp_in; decide) ?_
    refine go_goto 15 dL_cost_9 (by decide) ?_
    refine go_iconst 16 (0) dL_cost_15 rfl (by decide) ?_
    refine go_ireturn dL_cost_16 rfl rfl (Nat.le_of_ble_eq_true rfl) (Nat.le_of_ble_eq_true rfl) ?_
    exact ⟨rfl, rfl⟩

set_option maxRecDepth 100000 in
set_option maxHeartbeats 1000000 in
theorem ct_L_demanded (S T : gS) (p0 : Int32) (e : Nat) (r : Int32) (hC : gO mX8_demanded [.ref 0, .int p0] S e (some (.int r)) T) (he : e = 0 ∨ e = 2) : gF mL_demanded [.ref 0, .int p0, .ref 145] S (some (.int (if e = 0 then 0 else 1))) (if e = 0 then (wL T 145 0 r.toInt64) else T) := by
  refine go_enterH [.ref 0, .int p0, .ref 145] [(0, .ref 0), (1, .int p0), (2, .ref 145)] (by decide +kernel) rfl (by decide) (Nat.le_of_ble_eq_true rfl) rfl ?_
  refine go_aload_n 1 dL_demanded_0 rfl rfl ?_
  refine go_iconst 2 (0) dL_demanded_1 rfl (by decide) ?_
  refine go_aload_n 3 dL_demanded_2 rfl rfl ?_
  refine go_iload_n 4 dL_demanded_3 rfl rfl ?_
  refine go_callVX 7 [.int p0] [.int _, .ref 145] dL_demanded_4 rfl hC rfl sV_L_demanded_45 rfl (hp_at ly_0) rfl rfl (Nat.le_of_ble_eq_true rfl) (Nat.le_of_ble_eq_true rfl) (Nat.le_of_ble_eq_true rfl) (fun E h' hx => ?_) (fun v h' hv => ?_)
  · obtain ⟨hx1, hx2, rfl⟩ := hx
    rcases he with rfl | rfl
    · exact absurd hx1 (Nat.lt_irrefl _)
    · have e9 : "java/lang/IndexOutOfBoundsException" = E := Option.some.inj hx2
      rw [← e9]
      exact go_catch [] ⟨0, 9, 12, 15⟩ [] rfl (fun _ q => absurd q List.not_mem_nil) rfl (by decide) wJ_RL_15 (by decide +kernel) rfl dL_demanded_12 (by decide) dL_demanded_13 rfl dL_demanded_14 rfl (Nat.le_of_ble_eq_true rfl) (Nat.le_of_ble_eq_true rfl) ⟨rfl, rfl⟩
  · obtain ⟨rfl, rfl, rfl⟩ := hv
    refine go_i2l 8 dL_demanded_7 rfl ?_
    refine g_last 9 dL_demanded_8 rfl ly_145 (by unfold vp_in; decide) ?_
    refine go_goto 15 dL_demanded_9 (by decide) ?_
    refine go_iconst 16 (0) dL_demanded_15 rfl (by decide) ?_
    refine go_ireturn dL_demanded_16 rfl rfl (Nat.le_of_ble_eq_true rfl) (Nat.le_of_ble_eq_true rfl) ?_
    exact ⟨rfl, rfl⟩

set_option maxRecDepth 100000 in
set_option maxHeartbeats 1000000 in
theorem ct_L_fault (S T : gS) (p0 p1 : Int32) (e : Nat) (r : Int32) (hC : gO mX8_fault [.ref 0, .int p0, .int p1] S e (some (.int r)) T) (he : e = 0 ∨ e = 1 ∨ e = 4) : gF mL_fault [.ref 0, .int p0, .int p1, .ref 145] S (some (.int (if e = 0 then 0 else (if e = 1 then 1 else 2)))) (if e = 0 then (wL T 145 0 r.toInt64) else T) := by
  refine go_enterH [.ref 0, .int p0, .int p1, .ref 145] [(0, .ref 0), (1, .int p0), (2, .int p1), (3, .ref 145)] (by decide +kernel) rfl (by decide) (Nat.le_of_ble_eq_true rfl) rfl ?_
  refine go_aload_n 1 dL_fault_0 rfl rfl ?_
  refine go_iconst 2 (0) dL_fault_1 rfl (by decide) ?_
  refine go_aload_n 3 dL_fault_2 rfl rfl ?_
  refine go_iload_n 4 dL_fault_3 rfl rfl ?_
  refine go_iload_n 5 dL_fault_4 rfl rfl ?_
  refine go_callVX 8 [.int p0, .int p1] [.int _, .ref 145] dL_fault_5 rfl hC rfl sV_L_fault_87 rfl (hp_at ly_0) rfl rfl (Nat.le_of_ble_eq_true rfl) (Nat.le_of_ble_eq_true rfl) (Nat.le_of_ble_eq_true rfl) (fun E h' hx => ?_) (fun v h' hv => ?_)
  · obtain ⟨hx1, hx2, rfl⟩ := hx
    rcases he with rfl | rfl | rfl
    · exact absurd hx1 (Nat.lt_irrefl _)
    · have e9 : "java/lang/IllegalArgumentException" = E := Option.some.inj hx2
      rw [← e9]
      exact go_catchL [] ⟨0, 10, 13, 13⟩ [⟨0, 10, 17, 23⟩] rfl (fun _ q => absurd q List.not_mem_nil) rfl (by decide) wJ_RL_13 (by decide +kernel) rfl dL_fault_13 (by decide) dL_fault_15 rfl dL_fault_16 rfl (Nat.le_of_ble_eq_true rfl) (Nat.le_of_ble_eq_true rfl) ⟨rfl, rfl⟩
    · have e9 : "java/util/NoSuchElementException" = E := Option.some.inj hx2
      rw [← e9]
      exact go_catchL [⟨0, 10, 13, 13⟩] ⟨0, 10, 17, 23⟩ [] rfl (one_mem ⟨by decide, "java/lang/IllegalArgumentException", wJ_RL_13, by decide +kernel⟩) rfl (by decide) wJ_RL_23 (by decide +kernel) rfl dL_fault_17 (by decide) dL_fault_19 rfl dL_fault_20 rfl (Nat.le_of_ble_eq_true rfl) (Nat.le_of_ble_eq_true rfl) ⟨rfl, rfl⟩
  · obtain ⟨rfl, rfl, rfl⟩ := hv
    refine go_i2l 9 dL_fault_8 rfl ?_
    refine g_last 10 dL_fault_9 rfl ly_145 (by unfold vp_in; decide) ?_
    refine go_goto 21 dL_fault_10 (by decide) ?_
    refine go_iconst 22 (0) dL_fault_21 rfl (by decide) ?_
    refine go_ireturn dL_fault_22 rfl rfl (Nat.le_of_ble_eq_true rfl) (Nat.le_of_ble_eq_true rfl) ?_
    exact ⟨rfl, rfl⟩

set_option maxRecDepth 100000 in
set_option maxHeartbeats 1000000 in
theorem ct_L_feed (S T : gS) (p0 : Int32) (e : Nat) (r : Int32) (hC : gO mX8_feed [.ref 0, .int p0] S e (some (.int r)) T) (he : e = 0 ∨ e = 3) : gF mL_feed [.ref 0, .int p0, .ref 145] S (some (.int (if e = 0 then 0 else 1))) (if e = 0 then (wL T 145 0 r.toInt64) else T) := by
  refine go_enterH [.ref 0, .int p0, .ref 145] [(0, .ref 0), (1, .int p0), (2, .ref 145)] (by decide +kernel) rfl (by decide) (Nat.le_of_ble_eq_true rfl) rfl ?_
  refine go_aload_n 1 dL_feed_0 rfl rfl ?_
  refine go_iconst 2 (0) dL_feed_1 rfl (by decide) ?_
  refine go_aload_n 3 dL_feed_2 rfl rfl ?_
  refine go_iload_n 4 dL_feed_3 rfl rfl ?_
  refine go_callVX 7 [.int p0] [.int _, .ref 145] dL_feed_4 rfl hC rfl sV_L_feed_83 rfl (hp_at ly_0) rfl rfl (Nat.le_of_ble_eq_true rfl) (Nat.le_of_ble_eq_true rfl) (Nat.le_of_ble_eq_true rfl) (fun E h' hx => ?_) (fun v h' hv => ?_)
  · obtain ⟨hx1, hx2, rfl⟩ := hx
    rcases he with rfl | rfl
    · exact absurd hx1 (Nat.lt_irrefl _)
    · have e9 : "java/lang/IllegalStateException" = E := Option.some.inj hx2
      rw [← e9]
      exact go_catch [] ⟨0, 9, 12, 17⟩ [] rfl (fun _ q => absurd q List.not_mem_nil) rfl (by decide) wJ_RL_17 (by decide +kernel) rfl dL_feed_12 (by decide) dL_feed_13 rfl dL_feed_14 rfl (Nat.le_of_ble_eq_true rfl) (Nat.le_of_ble_eq_true rfl) ⟨rfl, rfl⟩
  · obtain ⟨rfl, rfl, rfl⟩ := hv
    refine go_i2l 8 dL_feed_7 rfl ?_
    refine g_last 9 dL_feed_8 rfl ly_145 (by unfold vp_in; decide) ?_
    refine go_goto 15 dL_feed_9 (by decide) ?_
    refine go_iconst 16 (0) dL_feed_15 rfl (by decide) ?_
    refine go_ireturn dL_feed_16 rfl rfl (Nat.le_of_ble_eq_true rfl) (Nat.le_of_ble_eq_true rfl) ?_
    exact ⟨rfl, rfl⟩

set_option maxRecDepth 100000 in
set_option maxHeartbeats 1000000 in
theorem ct_L_isSigned (S T : gS) (p0 : Int32) (e : Nat) (r : Int32) (hC : gO mX8_isSigned [.ref 0, .int p0] S e (some (.int r)) T) (he : e = 0 ∨ e = 2) : gF mL_isSigned [.ref 0, .int p0, .ref 145] S (some (.int (if e = 0 then 0 else 1))) (if e = 0 then (wL T 145 0 (if r = 0 then 0 else 1)) else T) := by
  refine go_enterH [.ref 0, .int p0, .ref 145] [(0, .ref 0), (1, .int p0), (2, .ref 145)] (by decide +kernel) rfl (by decide) (Nat.le_of_ble_eq_true rfl) rfl ?_
  refine go_aload_n 1 dL_isSigned_0 rfl rfl ?_
  refine go_iconst 2 (0) dL_isSigned_1 rfl (by decide) ?_
  refine go_aload_n 3 dL_isSigned_2 rfl rfl ?_
  refine go_iload_n 4 dL_isSigned_3 rfl rfl ?_
  refine go_callVX 7 [.int p0] [.int _, .ref 145] dL_isSigned_4 rfl hC rfl sV_L_isSigned_52 rfl (hp_at ly_0) rfl rfl (Nat.le_of_ble_eq_true rfl) (Nat.le_of_ble_eq_true rfl) (Nat.le_of_ble_eq_true rfl) (fun E h' hx => ?_) (fun v h' hv => ?_)
  · obtain ⟨hx1, hx2, rfl⟩ := hx
    rcases he with rfl | rfl
    · exact absurd hx1 (Nat.lt_irrefl _)
    · have e9 : "java/lang/IndexOutOfBoundsException" = E := Option.some.inj hx2
      rw [← e9]
      exact go_catch [] ⟨0, 16, 19, 15⟩ [] rfl (fun _ q => absurd q List.not_mem_nil) rfl (by decide) wJ_RL_15 (by decide +kernel) rfl dL_isSigned_19 (by decide) dL_isSigned_20 rfl dL_isSigned_21 rfl (Nat.le_of_ble_eq_true rfl) (Nat.le_of_ble_eq_true rfl) ⟨rfl, rfl⟩
  · obtain ⟨rfl, rfl, rfl⟩ := hv
    refine go_if_eq 10 14 dL_isSigned_7 rfl (by decide) (fun hq => ?_) (fun hq => ?_)
    · refine go_lconst 15 (0) dL_isSigned_14 rfl (by decide) ?_
      refine g_last 16 dL_isSigned_15 rfl ly_145 (by unfold vp_in; decide) ?_
      refine go_goto 22 dL_isSigned_16 (by decide) ?_
      refine go_iconst 23 (0) dL_isSigned_22 rfl (by decide) ?_
      refine go_ireturn dL_isSigned_23 rfl rfl (Nat.le_of_ble_eq_true rfl) (Nat.le_of_ble_eq_true rfl) ?_
      exact ⟨rfl, by rw [if_pos hq]; rfl⟩
    · refine go_lconst 11 (1) dL_isSigned_10 rfl (by decide) ?_
      refine go_goto 15 dL_isSigned_11 (by decide) ?_
      refine g_last 16 dL_isSigned_15 rfl ly_145 (by unfold vp_in; decide) ?_
      refine go_goto 22 dL_isSigned_16 (by decide) ?_
      refine go_iconst 23 (0) dL_isSigned_22 rfl (by decide) ?_
      refine go_ireturn dL_isSigned_23 rfl rfl (Nat.le_of_ble_eq_true rfl) (Nat.le_of_ble_eq_true rfl) ?_
      exact ⟨rfl, by rw [if_neg hq]; rfl⟩

set_option maxRecDepth 100000 in
set_option maxHeartbeats 1000000 in
theorem ct_L_range (S T : gS) (p0 p1 : Int32) (e : Nat) (r : Int32) (hC : gO mX8_range [.ref 0, .int p0, .int p1] S e (some (.int r)) T) (he : e = 0 ∨ e = 2) : gF mL_range [.ref 0, .int p0, .int p1, .ref 145] S (some (.int (if e = 0 then 0 else 1))) (if e = 0 then (wL T 145 0 r.toInt64) else T) := by
  refine go_enterH [.ref 0, .int p0, .int p1, .ref 145] [(0, .ref 0), (1, .int p0), (2, .int p1), (3, .ref 145)] (by decide +kernel) rfl (by decide) (Nat.le_of_ble_eq_true rfl) rfl ?_
  refine go_aload_n 1 dL_range_0 rfl rfl ?_
  refine go_iconst 2 (0) dL_range_1 rfl (by decide) ?_
  refine go_aload_n 3 dL_range_2 rfl rfl ?_
  refine go_iload_n 4 dL_range_3 rfl rfl ?_
  refine go_iload_n 5 dL_range_4 rfl rfl ?_
  refine go_callVX 8 [.int p0, .int p1] [.int _, .ref 145] dL_range_5 rfl hC rfl sV_L_range_41 rfl (hp_at ly_0) rfl rfl (Nat.le_of_ble_eq_true rfl) (Nat.le_of_ble_eq_true rfl) (Nat.le_of_ble_eq_true rfl) (fun E h' hx => ?_) (fun v h' hv => ?_)
  · obtain ⟨hx1, hx2, rfl⟩ := hx
    rcases he with rfl | rfl
    · exact absurd hx1 (Nat.lt_irrefl _)
    · have e9 : "java/lang/IndexOutOfBoundsException" = E := Option.some.inj hx2
      rw [← e9]
      exact go_catchL [] ⟨0, 10, 13, 15⟩ [] rfl (fun _ q => absurd q List.not_mem_nil) rfl (by decide) wJ_RL_15 (by decide +kernel) rfl dL_range_13 (by decide) dL_range_15 rfl dL_range_16 rfl (Nat.le_of_ble_eq_true rfl) (Nat.le_of_ble_eq_true rfl) ⟨rfl, rfl⟩
  · obtain ⟨rfl, rfl, rfl⟩ := hv
    refine go_i2l 9 dL_range_8 rfl ?_
    refine g_last 10 dL_range_9 rfl ly_145 (by unfold vp_in; decide) ?_
    refine go_goto 17 dL_range_10 (by decide) ?_
    refine go_iconst 18 (0) dL_range_17 rfl (by decide) ?_
    refine go_ireturn dL_range_18 rfl rfl (Nat.le_of_ble_eq_true rfl) (Nat.le_of_ble_eq_true rfl) ?_
    exact ⟨rfl, rfl⟩

set_option maxRecDepth 100000 in
set_option maxHeartbeats 1000000 in
theorem ct_L_removeLast (S T : gS) (e : Nat) (r : Int32) (hC : gO mX8_removeLast [.ref 0] S e (some (.int r)) T) (he : e = 0 ∨ e = 4) : gF mL_removeLast [.ref 0, .ref 145] S (some (.int (if e = 0 then 0 else 1))) (if e = 0 then (wL T 145 0 r.toInt64) else T) := by
  refine go_enterH [.ref 0, .ref 145] [(0, .ref 0), (1, .ref 145)] (by decide +kernel) rfl (by decide) (Nat.le_of_ble_eq_true rfl) rfl ?_
  refine go_aload_n 1 dL_removeLast_0 rfl rfl ?_
  refine go_iconst 2 (0) dL_removeLast_1 rfl (by decide) ?_
  refine go_aload_n 3 dL_removeLast_2 rfl rfl ?_
  refine go_callVX 6 [] [.int _, .ref 145] dL_removeLast_3 rfl hC rfl sV_L_removeLast_19 rfl (hp_at ly_0) rfl rfl (Nat.le_of_ble_eq_true rfl) (Nat.le_of_ble_eq_true rfl) (Nat.le_of_ble_eq_true rfl) (fun E h' hx => ?_) (fun v h' hv => ?_)
  · obtain ⟨hx1, hx2, rfl⟩ := hx
    rcases he with rfl | rfl
    · exact absurd hx1 (Nat.lt_irrefl _)
    · have e9 : "java/util/NoSuchElementException" = E := Option.some.inj hx2
      rw [← e9]
      exact go_catch [] ⟨0, 8, 11, 23⟩ [] rfl (fun _ q => absurd q List.not_mem_nil) rfl (by decide) wJ_RL_23 (by decide +kernel) rfl dL_removeLast_11 (by decide) dL_removeLast_12 rfl dL_removeLast_13 rfl (Nat.le_of_ble_eq_true rfl) (Nat.le_of_ble_eq_true rfl) ⟨rfl, rfl⟩
  · obtain ⟨rfl, rfl, rfl⟩ := hv
    refine go_i2l 7 dL_removeLast_6 rfl ?_
    refine g_last 8 dL_removeLast_7 rfl ly_145 (by unfold vp_in; decide) ?_
    refine go_goto 14 dL_removeLast_8 (by decide) ?_
    refine go_iconst 15 (0) dL_removeLast_14 rfl (by decide) ?_
    refine go_ireturn dL_removeLast_15 rfl rfl (Nat.le_of_ble_eq_true rfl) (Nat.le_of_ble_eq_true rfl) ?_
    exact ⟨rfl, rfl⟩

set_option maxRecDepth 100000 in
set_option maxHeartbeats 1000000 in
theorem ct_L_restoreSnapshot (S T : gS) (e : Nat) (r : Int32) (hC : gO mX8_restoreSnapshot [.ref 0] S e (some (.int r)) T) (he : e = 0 ∨ e = 3) : gF mL_restoreSnapshot [.ref 0, .ref 145] S (some (.int (if e = 0 then 0 else 1))) (if e = 0 then (wL T 145 0 r.toInt64) else T) := by
  refine go_enterH [.ref 0, .ref 145] [(0, .ref 0), (1, .ref 145)] (by decide +kernel) rfl (by decide) (Nat.le_of_ble_eq_true rfl) rfl ?_
  refine go_aload_n 1 dL_restoreSnapshot_0 rfl rfl ?_
  refine go_iconst 2 (0) dL_restoreSnapshot_1 rfl (by decide) ?_
  refine go_aload_n 3 dL_restoreSnapshot_2 rfl rfl ?_
  refine go_callVX 6 [] [.int _, .ref 145] dL_restoreSnapshot_3 rfl hC rfl sV_L_restoreSnapshot_90 rfl (hp_at ly_0) rfl rfl (Nat.le_of_ble_eq_true rfl) (Nat.le_of_ble_eq_true rfl) (Nat.le_of_ble_eq_true rfl) (fun E h' hx => ?_) (fun v h' hv => ?_)
  · obtain ⟨hx1, hx2, rfl⟩ := hx
    rcases he with rfl | rfl
    · exact absurd hx1 (Nat.lt_irrefl _)
    · have e9 : "java/lang/IllegalStateException" = E := Option.some.inj hx2
      rw [← e9]
      exact go_catch [] ⟨0, 8, 11, 17⟩ [] rfl (fun _ q => absurd q List.not_mem_nil) rfl (by decide) wJ_RL_17 (by decide +kernel) rfl dL_restoreSnapshot_11 (by decide) dL_restoreSnapshot_12 rfl dL_restoreSnapshot_13 rfl (Nat.le_of_ble_eq_true rfl) (Nat.le_of_ble_eq_true rfl) ⟨rfl, rfl⟩
  · obtain ⟨rfl, rfl, rfl⟩ := hv
    refine go_i2l 7 dL_restoreSnapshot_6 rfl ?_
    refine g_last 8 dL_restoreSnapshot_7 rfl ly_145 (by unfold vp_in; decide) ?_
    refine go_goto 14 dL_restoreSnapshot_8 (by decide) ?_
    refine go_iconst 15 (0) dL_restoreSnapshot_14 rfl (by decide) ?_
    refine go_ireturn dL_restoreSnapshot_15 rfl rfl (Nat.le_of_ble_eq_true rfl) (Nat.le_of_ble_eq_true rfl) ?_
    exact ⟨rfl, rfl⟩

set_option maxRecDepth 100000 in
set_option maxHeartbeats 1000000 in
theorem ct_L_run (S T : gS) (p0 : Int32) (e : Nat) (r : Int32) (hC : gO mX8_run [.ref 0, .int p0] S e (some (.int r)) T) (he : e = 0 ∨ e = 1) : gF mL_run [.ref 0, .int p0, .ref 145] S (some (.int (if e = 0 then 0 else 1))) (if e = 0 then (wL T 145 0 r.toInt64) else T) := by
  refine go_enterH [.ref 0, .int p0, .ref 145] [(0, .ref 0), (1, .int p0), (2, .ref 145)] (by decide +kernel) rfl (by decide) (Nat.le_of_ble_eq_true rfl) rfl ?_
  refine go_aload_n 1 dL_run_0 rfl rfl ?_
  refine go_iconst 2 (0) dL_run_1 rfl (by decide) ?_
  refine go_aload_n 3 dL_run_2 rfl rfl ?_
  refine go_iload_n 4 dL_run_3 rfl rfl ?_
  refine go_callVX 7 [.int p0] [.int _, .ref 145] dL_run_4 rfl hC rfl sV_L_run_77 rfl (hp_at ly_0) rfl rfl (Nat.le_of_ble_eq_true rfl) (Nat.le_of_ble_eq_true rfl) (Nat.le_of_ble_eq_true rfl) (fun E h' hx => ?_) (fun v h' hv => ?_)
  · obtain ⟨hx1, hx2, rfl⟩ := hx
    rcases he with rfl | rfl
    · exact absurd hx1 (Nat.lt_irrefl _)
    · have e9 : "java/lang/IllegalArgumentException" = E := Option.some.inj hx2
      rw [← e9]
      exact go_catch [] ⟨0, 9, 12, 13⟩ [] rfl (fun _ q => absurd q List.not_mem_nil) rfl (by decide) wJ_RL_13 (by decide +kernel) rfl dL_run_12 (by decide) dL_run_13 rfl dL_run_14 rfl (Nat.le_of_ble_eq_true rfl) (Nat.le_of_ble_eq_true rfl) ⟨rfl, rfl⟩
  · obtain ⟨rfl, rfl, rfl⟩ := hv
    refine go_i2l 8 dL_run_7 rfl ?_
    refine g_last 9 dL_run_8 rfl ly_145 (by unfold vp_in; decide) ?_
    refine go_goto 15 dL_run_9 (by decide) ?_
    refine go_iconst 16 (0) dL_run_15 rfl (by decide) ?_
    refine go_ireturn dL_run_16 rfl rfl (Nat.le_of_ble_eq_true rfl) (Nat.le_of_ble_eq_true rfl) ?_
    exact ⟨rfl, rfl⟩

set_option maxRecDepth 100000 in
set_option maxHeartbeats 1000000 in
theorem ct_L_setInput (S T : gS) (p0 p1 : Int32) (e : Nat) (r : Int32) (hC : gO mX8_setInput [.ref 0, .int p0, .int p1] S e (some (.int r)) T) (he : e = 0 ∨ e = 2 ∨ e = 5 ∨ e = 1) : gF mL_setInput [.ref 0, .int p0, .int p1, .ref 145] S (some (.int (if e = 0 then 0 else (if e = 2 then 1 else (if e = 5 then 2 else 3))))) (if e = 0 then (wL T 145 0 r.toInt64) else T) := by
  refine go_enterH [.ref 0, .int p0, .int p1, .ref 145] [(0, .ref 0), (1, .int p0), (2, .int p1), (3, .ref 145)] (by decide +kernel) rfl (by decide) (Nat.le_of_ble_eq_true rfl) rfl ?_
  refine go_aload_n 1 dL_setInput_0 rfl rfl ?_
  refine go_iconst 2 (0) dL_setInput_1 rfl (by decide) ?_
  refine go_aload_n 3 dL_setInput_2 rfl rfl ?_
  refine go_iload_n 4 dL_setInput_3 rfl rfl ?_
  refine go_iload_n 5 dL_setInput_4 rfl rfl ?_
  refine go_callVX 8 [.int p0, .int p1] [.int _, .ref 145] dL_setInput_5 rfl hC rfl sV_L_setInput_74 rfl (hp_at ly_0) rfl rfl (Nat.le_of_ble_eq_true rfl) (Nat.le_of_ble_eq_true rfl) (Nat.le_of_ble_eq_true rfl) (fun E h' hx => ?_) (fun v h' hv => ?_)
  · obtain ⟨hx1, hx2, rfl⟩ := hx
    rcases he with rfl | rfl | rfl | rfl
    · exact absurd hx1 (Nat.lt_irrefl _)
    · have e9 : "java/lang/IndexOutOfBoundsException" = E := Option.some.inj hx2
      rw [← e9]
      exact go_catchL [] ⟨0, 10, 13, 15⟩ [⟨0, 10, 17, 29⟩, ⟨0, 10, 21, 13⟩] rfl (fun _ q => absurd q List.not_mem_nil) rfl (by decide) wJ_RL_15 (by decide +kernel) rfl dL_setInput_13 (by decide) dL_setInput_15 rfl dL_setInput_16 rfl (Nat.le_of_ble_eq_true rfl) (Nat.le_of_ble_eq_true rfl) ⟨rfl, rfl⟩
    · have e9 : "java/lang/UnsupportedOperationException" = E := Option.some.inj hx2
      rw [← e9]
      exact go_catchL [⟨0, 10, 13, 15⟩] ⟨0, 10, 17, 29⟩ [⟨0, 10, 21, 13⟩] rfl (one_mem ⟨by decide, "java/lang/IndexOutOfBoundsException", wJ_RL_15, by decide +kernel⟩) rfl (by decide) wJ_RL_29 (by decide +kernel) rfl dL_setInput_17 (by decide) dL_setInput_19 rfl dL_setInput_20 rfl (Nat.le_of_ble_eq_true rfl) (Nat.le_of_ble_eq_true rfl) ⟨rfl, rfl⟩
    · have e9 : "java/lang/IllegalArgumentException" = E := Option.some.inj hx2
      rw [← e9]
      exact go_catchL [⟨0, 10, 13, 15⟩, ⟨0, 10, 17, 29⟩] ⟨0, 10, 21, 13⟩ [] rfl (two_mem ⟨by decide, "java/lang/IndexOutOfBoundsException", wJ_RL_15, by decide +kernel⟩ ⟨by decide, "java/lang/UnsupportedOperationException", wJ_RL_29, by decide +kernel⟩) rfl (by decide) wJ_RL_13 (by decide +kernel) rfl dL_setInput_21 (by decide) dL_setInput_23 rfl dL_setInput_24 rfl (Nat.le_of_ble_eq_true rfl) (Nat.le_of_ble_eq_true rfl) ⟨rfl, rfl⟩
  · obtain ⟨rfl, rfl, rfl⟩ := hv
    refine go_i2l 9 dL_setInput_8 rfl ?_
    refine g_last 10 dL_setInput_9 rfl ly_145 (by unfold vp_in; decide) ?_
    refine go_goto 25 dL_setInput_10 (by decide) ?_
    refine go_iconst 26 (0) dL_setInput_25 rfl (by decide) ?_
    refine go_ireturn dL_setInput_26 rfl rfl (Nat.le_of_ble_eq_true rfl) (Nat.le_of_ble_eq_true rfl) ?_
    exact ⟨rfl, rfl⟩

set_option maxRecDepth 100000 in
set_option maxHeartbeats 1000000 in
theorem ct_L_setNext (S T : gS) (p0 p1 : Int32) (e : Nat) (r : Int32) (hC : gO mX8_setNext [.ref 0, .int p0, .int p1] S e (some (.int r)) T) (he : e = 0 ∨ e = 2 ∨ e = 5) : gF mL_setNext [.ref 0, .int p0, .int p1, .ref 145] S (some (.int (if e = 0 then 0 else (if e = 2 then 1 else 2)))) (if e = 0 then (wL T 145 0 r.toInt64) else T) := by
  refine go_enterH [.ref 0, .int p0, .int p1, .ref 145] [(0, .ref 0), (1, .int p0), (2, .int p1), (3, .ref 145)] (by decide +kernel) rfl (by decide) (Nat.le_of_ble_eq_true rfl) rfl ?_
  refine go_aload_n 1 dL_setNext_0 rfl rfl ?_
  refine go_iconst 2 (0) dL_setNext_1 rfl (by decide) ?_
  refine go_aload_n 3 dL_setNext_2 rfl rfl ?_
  refine go_iload_n 4 dL_setNext_3 rfl rfl ?_
  refine go_iload_n 5 dL_setNext_4 rfl rfl ?_
  refine go_callVX 8 [.int p0, .int p1] [.int _, .ref 145] dL_setNext_5 rfl hC rfl sV_L_setNext_25 rfl (hp_at ly_0) rfl rfl (Nat.le_of_ble_eq_true rfl) (Nat.le_of_ble_eq_true rfl) (Nat.le_of_ble_eq_true rfl) (fun E h' hx => ?_) (fun v h' hv => ?_)
  · obtain ⟨hx1, hx2, rfl⟩ := hx
    rcases he with rfl | rfl | rfl
    · exact absurd hx1 (Nat.lt_irrefl _)
    · have e9 : "java/lang/IndexOutOfBoundsException" = E := Option.some.inj hx2
      rw [← e9]
      exact go_catchL [] ⟨0, 10, 13, 15⟩ [⟨0, 10, 17, 29⟩] rfl (fun _ q => absurd q List.not_mem_nil) rfl (by decide) wJ_RL_15 (by decide +kernel) rfl dL_setNext_13 (by decide) dL_setNext_15 rfl dL_setNext_16 rfl (Nat.le_of_ble_eq_true rfl) (Nat.le_of_ble_eq_true rfl) ⟨rfl, rfl⟩
    · have e9 : "java/lang/UnsupportedOperationException" = E := Option.some.inj hx2
      rw [← e9]
      exact go_catchL [⟨0, 10, 13, 15⟩] ⟨0, 10, 17, 29⟩ [] rfl (one_mem ⟨by decide, "java/lang/IndexOutOfBoundsException", wJ_RL_15, by decide +kernel⟩) rfl (by decide) wJ_RL_29 (by decide +kernel) rfl dL_setNext_17 (by decide) dL_setNext_19 rfl dL_setNext_20 rfl (Nat.le_of_ble_eq_true rfl) (Nat.le_of_ble_eq_true rfl) ⟨rfl, rfl⟩
  · obtain ⟨rfl, rfl, rfl⟩ := hv
    refine go_i2l 9 dL_setNext_8 rfl ?_
    refine g_last 10 dL_setNext_9 rfl ly_145 (by unfold vp_in; decide) ?_
    refine go_goto 21 dL_setNext_10 (by decide) ?_
    refine go_iconst 22 (0) dL_setNext_21 rfl (by decide) ?_
    refine go_ireturn dL_setNext_22 rfl rfl (Nat.le_of_ble_eq_true rfl) (Nat.le_of_ble_eq_true rfl) ?_
    exact ⟨rfl, rfl⟩

set_option maxRecDepth 100000 in
set_option maxHeartbeats 1000000 in
theorem ct_L_setOutput (S T : gS) (p0 p1 : Int32) (e : Nat) (r : Int32) (hC : gO mX8_setOutput [.ref 0, .int p0, .int p1] S e (some (.int r)) T) (he : e = 0 ∨ e = 2) : gF mL_setOutput [.ref 0, .int p0, .int p1, .ref 145] S (some (.int (if e = 0 then 0 else 1))) (if e = 0 then (wL T 145 0 (if r = 0 then 0 else 1)) else T) := by
  refine go_enterH [.ref 0, .int p0, .int p1, .ref 145] [(0, .ref 0), (1, .int p0), (2, .int p1), (3, .ref 145)] (by decide +kernel) rfl (by decide) (Nat.le_of_ble_eq_true rfl) rfl ?_
  refine go_aload_n 1 dL_setOutput_0 rfl rfl ?_
  refine go_iconst 2 (0) dL_setOutput_1 rfl (by decide) ?_
  refine go_aload_n 3 dL_setOutput_2 rfl rfl ?_
  refine go_iload_n 4 dL_setOutput_3 rfl rfl ?_
  refine go_iload_n 5 dL_setOutput_4 rfl rfl ?_
  refine go_callVX 8 [.int p0, .int p1] [.int _, .ref 145] dL_setOutput_5 rfl hC rfl sV_L_setOutput_31 rfl (hp_at ly_0) rfl rfl (Nat.le_of_ble_eq_true rfl) (Nat.le_of_ble_eq_true rfl) (Nat.le_of_ble_eq_true rfl) (fun E h' hx => ?_) (fun v h' hv => ?_)
  · obtain ⟨hx1, hx2, rfl⟩ := hx
    rcases he with rfl | rfl
    · exact absurd hx1 (Nat.lt_irrefl _)
    · have e9 : "java/lang/IndexOutOfBoundsException" = E := Option.some.inj hx2
      rw [← e9]
      exact go_catchL [] ⟨0, 17, 20, 15⟩ [] rfl (fun _ q => absurd q List.not_mem_nil) rfl (by decide) wJ_RL_15 (by decide +kernel) rfl dL_setOutput_20 (by decide) dL_setOutput_22 rfl dL_setOutput_23 rfl (Nat.le_of_ble_eq_true rfl) (Nat.le_of_ble_eq_true rfl) ⟨rfl, rfl⟩
  · obtain ⟨rfl, rfl, rfl⟩ := hv
    refine go_if_eq 11 15 dL_setOutput_8 rfl (by decide) (fun hq => ?_) (fun hq => ?_)
    · refine go_lconst 16 (0) dL_setOutput_15 rfl (by decide) ?_
      refine g_last 17 dL_setOutput_16 rfl ly_145 (by unfold vp_in; decide) ?_
      refine go_goto 24 dL_setOutput_17 (by decide) ?_
      refine go_iconst 25 (0) dL_setOutput_24 rfl (by decide) ?_
      refine go_ireturn dL_setOutput_25 rfl rfl (Nat.le_of_ble_eq_true rfl) (Nat.le_of_ble_eq_true rfl) ?_
      exact ⟨rfl, by rw [if_pos hq]; rfl⟩
    · refine go_lconst 12 (1) dL_setOutput_11 rfl (by decide) ?_
      refine go_goto 16 dL_setOutput_12 (by decide) ?_
      refine g_last 17 dL_setOutput_16 rfl ly_145 (by unfold vp_in; decide) ?_
      refine go_goto 24 dL_setOutput_17 (by decide) ?_
      refine go_iconst 25 (0) dL_setOutput_24 rfl (by decide) ?_
      refine go_ireturn dL_setOutput_25 rfl rfl (Nat.le_of_ble_eq_true rfl) (Nat.le_of_ble_eq_true rfl) ?_
      exact ⟨rfl, by rw [if_neg hq]; rfl⟩

set_option maxRecDepth 100000 in
set_option maxHeartbeats 1000000 in
theorem ct_L_setPhase (S T : gS) (p0 p1 : Int32) (e : Nat) (r : Int32) (hC : gO mX8_setPhase [.ref 0, .int p0, .int p1] S e (some (.int r)) T) (he : e = 0 ∨ e = 2 ∨ e = 1) : gF mL_setPhase [.ref 0, .int p0, .int p1, .ref 145] S (some (.int (if e = 0 then 0 else (if e = 2 then 1 else 2)))) (if e = 0 then (wL T 145 0 r.toInt64) else T) := by
  refine go_enterH [.ref 0, .int p0, .int p1, .ref 145] [(0, .ref 0), (1, .int p0), (2, .int p1), (3, .ref 145)] (by decide +kernel) rfl (by decide) (Nat.le_of_ble_eq_true rfl) rfl ?_
  refine go_aload_n 1 dL_setPhase_0 rfl rfl ?_
  refine go_iconst 2 (0) dL_setPhase_1 rfl (by decide) ?_
  refine go_aload_n 3 dL_setPhase_2 rfl rfl ?_
  refine go_iload_n 4 dL_setPhase_3 rfl rfl ?_
  refine go_iload_n 5 dL_setPhase_4 rfl rfl ?_
  refine go_callVX 8 [.int p0, .int p1] [.int _, .ref 145] dL_setPhase_5 rfl hC rfl sV_L_setPhase_35 rfl (hp_at ly_0) rfl rfl (Nat.le_of_ble_eq_true rfl) (Nat.le_of_ble_eq_true rfl) (Nat.le_of_ble_eq_true rfl) (fun E h' hx => ?_) (fun v h' hv => ?_)
  · obtain ⟨hx1, hx2, rfl⟩ := hx
    rcases he with rfl | rfl | rfl
    · exact absurd hx1 (Nat.lt_irrefl _)
    · have e9 : "java/lang/IndexOutOfBoundsException" = E := Option.some.inj hx2
      rw [← e9]
      exact go_catchL [] ⟨0, 10, 13, 15⟩ [⟨0, 10, 17, 13⟩] rfl (fun _ q => absurd q List.not_mem_nil) rfl (by decide) wJ_RL_15 (by decide +kernel) rfl dL_setPhase_13 (by decide) dL_setPhase_15 rfl dL_setPhase_16 rfl (Nat.le_of_ble_eq_true rfl) (Nat.le_of_ble_eq_true rfl) ⟨rfl, rfl⟩
    · have e9 : "java/lang/IllegalArgumentException" = E := Option.some.inj hx2
      rw [← e9]
      exact go_catchL [⟨0, 10, 13, 15⟩] ⟨0, 10, 17, 13⟩ [] rfl (one_mem ⟨by decide, "java/lang/IndexOutOfBoundsException", wJ_RL_15, by decide +kernel⟩) rfl (by decide) wJ_RL_13 (by decide +kernel) rfl dL_setPhase_17 (by decide) dL_setPhase_19 rfl dL_setPhase_20 rfl (Nat.le_of_ble_eq_true rfl) (Nat.le_of_ble_eq_true rfl) ⟨rfl, rfl⟩
  · obtain ⟨rfl, rfl, rfl⟩ := hv
    refine go_i2l 9 dL_setPhase_8 rfl ?_
    refine g_last 10 dL_setPhase_9 rfl ly_145 (by unfold vp_in; decide) ?_
    refine go_goto 21 dL_setPhase_10 (by decide) ?_
    refine go_iconst 22 (0) dL_setPhase_21 rfl (by decide) ?_
    refine go_ireturn dL_setPhase_22 rfl rfl (Nat.le_of_ble_eq_true rfl) (Nat.le_of_ble_eq_true rfl) ?_
    exact ⟨rfl, rfl⟩

set_option maxRecDepth 100000 in
set_option maxHeartbeats 1000000 in
theorem ct_L_share (S T : gS) (e : Nat) (r : UInt64) (hC : gO mX8_share [.ref 0] S e (some (.double r)) T) (he : e = 0 ∨ e = 6) : gF mL_share [.ref 0, .ref 146] S (some (.int (if e = 0 then 0 else 1))) (if e = 0 then (wD T 146 0 r) else T) := by
  refine go_enterH [.ref 0, .ref 146] [(0, .ref 0), (1, .ref 146)] (by decide +kernel) rfl (by decide) (Nat.le_of_ble_eq_true rfl) rfl ?_
  refine go_aload_n 1 dL_share_0 rfl rfl ?_
  refine go_iconst 2 (0) dL_share_1 rfl (by decide) ?_
  refine go_aload_n 3 dL_share_2 rfl rfl ?_
  refine go_callVX 6 [] [.int _, .ref 146] dL_share_3 rfl hC rfl sV_L_share_62 rfl (hp_at ly_0) rfl rfl (Nat.le_of_ble_eq_true rfl) (Nat.le_of_ble_eq_true rfl) (Nat.le_of_ble_eq_true rfl) (fun E h' hx => ?_) (fun v h' hv => ?_)
  · obtain ⟨hx1, hx2, rfl⟩ := hx
    rcases he with rfl | rfl
    · exact absurd hx1 (Nat.lt_irrefl _)
    · have e9 : "java/lang/ArithmeticException" = E := Option.some.inj hx2
      rw [← e9]
      exact go_catch [] ⟨0, 7, 10, 66⟩ [] rfl (fun _ q => absurd q List.not_mem_nil) rfl (by decide) wJ_RL_66 (by decide +kernel) rfl dL_share_10 (by decide) dL_share_11 rfl dL_share_12 rfl (Nat.le_of_ble_eq_true rfl) (Nat.le_of_ble_eq_true rfl) ⟨rfl, rfl⟩
  · obtain ⟨rfl, rfl, rfl⟩ := hv
    refine g_dast 7 dL_share_6 rfl ly_146 (by unfold vp_in; decide) ?_
    refine go_goto 13 dL_share_7 (by decide) ?_
    refine go_iconst 14 (0) dL_share_13 rfl (by decide) ?_
    refine go_ireturn dL_share_14 rfl rfl (Nat.le_of_ble_eq_true rfl) (Nat.le_of_ble_eq_true rfl) ?_
    exact ⟨rfl, rfl⟩

set_option maxRecDepth 100000 in
set_option maxHeartbeats 1000000 in
theorem ct_L_signal (S T : gS) (p0 p1 : Int32) (e : Nat) (r : Int32) (hC : gO mX8_signal [.ref 0, .int p0, .int p1] S e (some (.int r)) T) (he : e = 0 ∨ e = 2 ∨ e = 1) : gF mL_signal [.ref 0, .int p0, .int p1, .ref 145] S (some (.int (if e = 0 then 0 else (if e = 2 then 1 else 2)))) (if e = 0 then (wL T 145 0 r.toInt64) else T) := by
  refine go_enterH [.ref 0, .int p0, .int p1, .ref 145] [(0, .ref 0), (1, .int p0), (2, .int p1), (3, .ref 145)] (by decide +kernel) rfl (by decide) (Nat.le_of_ble_eq_true rfl) rfl ?_
  refine go_aload_n 1 dL_signal_0 rfl rfl ?_
  refine go_iconst 2 (0) dL_signal_1 rfl (by decide) ?_
  refine go_aload_n 3 dL_signal_2 rfl rfl ?_
  refine go_iload_n 4 dL_signal_3 rfl rfl ?_
  refine go_iload_n 5 dL_signal_4 rfl rfl ?_
  refine go_callVX 8 [.int p0, .int p1] [.int _, .ref 145] dL_signal_5 rfl hC rfl sV_L_signal_38 rfl (hp_at ly_0) rfl rfl (Nat.le_of_ble_eq_true rfl) (Nat.le_of_ble_eq_true rfl) (Nat.le_of_ble_eq_true rfl) (fun E h' hx => ?_) (fun v h' hv => ?_)
  · obtain ⟨hx1, hx2, rfl⟩ := hx
    rcases he with rfl | rfl | rfl
    · exact absurd hx1 (Nat.lt_irrefl _)
    · have e9 : "java/lang/IndexOutOfBoundsException" = E := Option.some.inj hx2
      rw [← e9]
      exact go_catchL [] ⟨0, 10, 13, 15⟩ [⟨0, 10, 17, 13⟩] rfl (fun _ q => absurd q List.not_mem_nil) rfl (by decide) wJ_RL_15 (by decide +kernel) rfl dL_signal_13 (by decide) dL_signal_15 rfl dL_signal_16 rfl (Nat.le_of_ble_eq_true rfl) (Nat.le_of_ble_eq_true rfl) ⟨rfl, rfl⟩
    · have e9 : "java/lang/IllegalArgumentException" = E := Option.some.inj hx2
      rw [← e9]
      exact go_catchL [⟨0, 10, 13, 15⟩] ⟨0, 10, 17, 13⟩ [] rfl (one_mem ⟨by decide, "java/lang/IndexOutOfBoundsException", wJ_RL_15, by decide +kernel⟩) rfl (by decide) wJ_RL_13 (by decide +kernel) rfl dL_signal_17 (by decide) dL_signal_19 rfl dL_signal_20 rfl (Nat.le_of_ble_eq_true rfl) (Nat.le_of_ble_eq_true rfl) ⟨rfl, rfl⟩
  · obtain ⟨rfl, rfl, rfl⟩ := hv
    refine go_i2l 9 dL_signal_8 rfl ?_
    refine g_last 10 dL_signal_9 rfl ly_145 (by unfold vp_in; decide) ?_
    refine go_goto 21 dL_signal_10 (by decide) ?_
    refine go_iconst 22 (0) dL_signal_21 rfl (by decide) ?_
    refine go_ireturn dL_signal_22 rfl rfl (Nat.le_of_ble_eq_true rfl) (Nat.le_of_ble_eq_true rfl) ?_
    exact ⟨rfl, rfl⟩

set_option maxRecDepth 100000 in
set_option maxHeartbeats 1000000 in
theorem ct_L_total (S T : gS) (p0 : Int32) (e : Nat) (r : Int32) (hC : gO mX8_total [.ref 0, .int p0] S e (some (.int r)) T) (he : e = 0 ∨ e = 1) : gF mL_total [.ref 0, .int p0, .ref 145] S (some (.int (if e = 0 then 0 else 1))) (if e = 0 then (wL T 145 0 r.toInt64) else T) := by
  refine go_enterH [.ref 0, .int p0, .ref 145] [(0, .ref 0), (1, .int p0), (2, .ref 145)] (by decide +kernel) rfl (by decide) (Nat.le_of_ble_eq_true rfl) rfl ?_
  refine go_aload_n 1 dL_total_0 rfl rfl ?_
  refine go_iconst 2 (0) dL_total_1 rfl (by decide) ?_
  refine go_aload_n 3 dL_total_2 rfl rfl ?_
  refine go_iload_n 4 dL_total_3 rfl rfl ?_
  refine go_callVX 7 [.int p0] [.int _, .ref 145] dL_total_4 rfl hC rfl sV_L_total_59 rfl (hp_at ly_0) rfl rfl (Nat.le_of_ble_eq_true rfl) (Nat.le_of_ble_eq_true rfl) (Nat.le_of_ble_eq_true rfl) (fun E h' hx => ?_) (fun v h' hv => ?_)
  · obtain ⟨hx1, hx2, rfl⟩ := hx
    rcases he with rfl | rfl
    · exact absurd hx1 (Nat.lt_irrefl _)
    · have e9 : "java/lang/IllegalArgumentException" = E := Option.some.inj hx2
      rw [← e9]
      exact go_catch [] ⟨0, 9, 12, 13⟩ [] rfl (fun _ q => absurd q List.not_mem_nil) rfl (by decide) wJ_RL_13 (by decide +kernel) rfl dL_total_12 (by decide) dL_total_13 rfl dL_total_14 rfl (Nat.le_of_ble_eq_true rfl) (Nat.le_of_ble_eq_true rfl) ⟨rfl, rfl⟩
  · obtain ⟨rfl, rfl, rfl⟩ := hv
    refine go_i2l 8 dL_total_7 rfl ?_
    refine g_last 9 dL_total_8 rfl ly_145 (by unfold vp_in; decide) ?_
    refine go_goto 15 dL_total_9 (by decide) ?_
    refine go_iconst 16 (0) dL_total_15 rfl (by decide) ?_
    refine go_ireturn dL_total_16 rfl rfl (Nat.le_of_ble_eq_true rfl) (Nat.le_of_ble_eq_true rfl) ?_
    exact ⟨rfl, rfl⟩

set_option maxRecDepth 100000 in
set_option maxHeartbeats 1000000 in
theorem ct_L_unit (S T : gS) (p0 p1 : Int32) (e : Nat) (r : Int32) (hC : gO mX8_unit [.ref 0, .int p0, .int p1] S e (some (.int r)) T) (he : e = 0 ∨ e = 2 ∨ e = 1) : gF mL_unit [.ref 0, .int p0, .int p1, .ref 145] S (some (.int (if e = 0 then 0 else (if e = 2 then 1 else 2)))) (if e = 0 then (wL T 145 0 r.toInt64) else T) := by
  refine go_enterH [.ref 0, .int p0, .int p1, .ref 145] [(0, .ref 0), (1, .int p0), (2, .int p1), (3, .ref 145)] (by decide +kernel) rfl (by decide) (Nat.le_of_ble_eq_true rfl) rfl ?_
  refine go_aload_n 1 dL_unit_0 rfl rfl ?_
  refine go_iconst 2 (0) dL_unit_1 rfl (by decide) ?_
  refine go_aload_n 3 dL_unit_2 rfl rfl ?_
  refine go_iload_n 4 dL_unit_3 rfl rfl ?_
  refine go_iload_n 5 dL_unit_4 rfl rfl ?_
  refine go_callVX 8 [.int p0, .int p1] [.int _, .ref 145] dL_unit_5 rfl hC rfl sV_L_unit_68 rfl (hp_at ly_0) rfl rfl (Nat.le_of_ble_eq_true rfl) (Nat.le_of_ble_eq_true rfl) (Nat.le_of_ble_eq_true rfl) (fun E h' hx => ?_) (fun v h' hv => ?_)
  · obtain ⟨hx1, hx2, rfl⟩ := hx
    rcases he with rfl | rfl | rfl
    · exact absurd hx1 (Nat.lt_irrefl _)
    · have e9 : "java/lang/IndexOutOfBoundsException" = E := Option.some.inj hx2
      rw [← e9]
      exact go_catchL [] ⟨0, 10, 13, 15⟩ [⟨0, 10, 17, 13⟩] rfl (fun _ q => absurd q List.not_mem_nil) rfl (by decide) wJ_RL_15 (by decide +kernel) rfl dL_unit_13 (by decide) dL_unit_15 rfl dL_unit_16 rfl (Nat.le_of_ble_eq_true rfl) (Nat.le_of_ble_eq_true rfl) ⟨rfl, rfl⟩
    · have e9 : "java/lang/IllegalArgumentException" = E := Option.some.inj hx2
      rw [← e9]
      exact go_catchL [⟨0, 10, 13, 15⟩] ⟨0, 10, 17, 13⟩ [] rfl (one_mem ⟨by decide, "java/lang/IndexOutOfBoundsException", wJ_RL_15, by decide +kernel⟩) rfl (by decide) wJ_RL_13 (by decide +kernel) rfl dL_unit_17 (by decide) dL_unit_19 rfl dL_unit_20 rfl (Nat.le_of_ble_eq_true rfl) (Nat.le_of_ble_eq_true rfl) ⟨rfl, rfl⟩
  · obtain ⟨rfl, rfl, rfl⟩ := hv
    refine go_i2l 9 dL_unit_8 rfl ?_
    refine g_last 10 dL_unit_9 rfl ly_145 (by unfold vp_in; decide) ?_
    refine go_goto 21 dL_unit_10 (by decide) ?_
    refine go_iconst 22 (0) dL_unit_21 rfl (by decide) ?_
    refine go_ireturn dL_unit_22 rfl rfl (Nat.le_of_ble_eq_true rfl) (Nat.le_of_ble_eq_true rfl) ?_
    exact ⟨rfl, rfl⟩

set_option maxRecDepth 100000 in
set_option maxHeartbeats 1000000 in
theorem ct_L_unitOf (S T : gS) (p0 : Int32) (e : Nat) (r : Int32) (hC : gO mX8_unitOf [.ref 0, .int p0] S e (some (.int r)) T) (he : e = 0 ∨ e = 2 ∨ e = 4) : gF mL_unitOf [.ref 0, .int p0, .ref 145] S (some (.int (if e = 0 then 0 else (if e = 2 then 1 else 2)))) (if e = 0 then (wL T 145 0 r.toInt64) else T) := by
  refine go_enterH [.ref 0, .int p0, .ref 145] [(0, .ref 0), (1, .int p0), (2, .ref 145)] (by decide +kernel) rfl (by decide) (Nat.le_of_ble_eq_true rfl) rfl ?_
  refine go_aload_n 1 dL_unitOf_0 rfl rfl ?_
  refine go_iconst 2 (0) dL_unitOf_1 rfl (by decide) ?_
  refine go_aload_n 3 dL_unitOf_2 rfl rfl ?_
  refine go_iload_n 4 dL_unitOf_3 rfl rfl ?_
  refine go_callVX 7 [.int p0] [.int _, .ref 145] dL_unitOf_4 rfl hC rfl sV_L_unitOf_71 rfl (hp_at ly_0) rfl rfl (Nat.le_of_ble_eq_true rfl) (Nat.le_of_ble_eq_true rfl) (Nat.le_of_ble_eq_true rfl) (fun E h' hx => ?_) (fun v h' hv => ?_)
  · obtain ⟨hx1, hx2, rfl⟩ := hx
    rcases he with rfl | rfl | rfl
    · exact absurd hx1 (Nat.lt_irrefl _)
    · have e9 : "java/lang/IndexOutOfBoundsException" = E := Option.some.inj hx2
      rw [← e9]
      exact go_catch [] ⟨0, 9, 12, 15⟩ [⟨0, 9, 15, 23⟩] rfl (fun _ q => absurd q List.not_mem_nil) rfl (by decide) wJ_RL_15 (by decide +kernel) rfl dL_unitOf_12 (by decide) dL_unitOf_13 rfl dL_unitOf_14 rfl (Nat.le_of_ble_eq_true rfl) (Nat.le_of_ble_eq_true rfl) ⟨rfl, rfl⟩
    · have e9 : "java/util/NoSuchElementException" = E := Option.some.inj hx2
      rw [← e9]
      exact go_catch [⟨0, 9, 12, 15⟩] ⟨0, 9, 15, 23⟩ [] rfl (one_mem ⟨by decide, "java/lang/IndexOutOfBoundsException", wJ_RL_15, by decide +kernel⟩) rfl (by decide) wJ_RL_23 (by decide +kernel) rfl dL_unitOf_15 (by decide) dL_unitOf_16 rfl dL_unitOf_17 rfl (Nat.le_of_ble_eq_true rfl) (Nat.le_of_ble_eq_true rfl) ⟨rfl, rfl⟩
  · obtain ⟨rfl, rfl, rfl⟩ := hv
    refine go_i2l 8 dL_unitOf_7 rfl ?_
    refine g_last 9 dL_unitOf_8 rfl ly_145 (by unfold vp_in; decide) ?_
    refine go_goto 18 dL_unitOf_9 (by decide) ?_
    refine go_iconst 19 (0) dL_unitOf_18 rfl (by decide) ?_
    refine go_ireturn dL_unitOf_19 rfl rfl (Nat.le_of_ble_eq_true rfl) (Nat.le_of_ble_eq_true rfl) ?_
    exact ⟨rfl, rfl⟩

set_option maxRecDepth 100000 in
set_option maxHeartbeats 1000000 in
theorem ct_L_value (S T : gS) (p0 p1 : Int32) (e : Nat) (r : Int32) (hC : gO mX8_value [.ref 0, .int p0, .int p1] S e (some (.int r)) T) (he : e = 0 ∨ e = 2) : gF mL_value [.ref 0, .int p0, .int p1, .ref 145] S (some (.int (if e = 0 then 0 else 1))) (if e = 0 then (wL T 145 0 r.toInt64) else T) := by
  refine go_enterH [.ref 0, .int p0, .int p1, .ref 145] [(0, .ref 0), (1, .int p0), (2, .int p1), (3, .ref 145)] (by decide +kernel) rfl (by decide) (Nat.le_of_ble_eq_true rfl) rfl ?_
  refine go_aload_n 1 dL_value_0 rfl rfl ?_
  refine go_iconst 2 (0) dL_value_1 rfl (by decide) ?_
  refine go_aload_n 3 dL_value_2 rfl rfl ?_
  refine go_iload_n 4 dL_value_3 rfl rfl ?_
  refine go_iload_n 5 dL_value_4 rfl rfl ?_
  refine go_callVX 8 [.int p0, .int p1] [.int _, .ref 145] dL_value_5 rfl hC rfl sV_L_value_80 rfl (hp_at ly_0) rfl rfl (Nat.le_of_ble_eq_true rfl) (Nat.le_of_ble_eq_true rfl) (Nat.le_of_ble_eq_true rfl) (fun E h' hx => ?_) (fun v h' hv => ?_)
  · obtain ⟨hx1, hx2, rfl⟩ := hx
    rcases he with rfl | rfl
    · exact absurd hx1 (Nat.lt_irrefl _)
    · have e9 : "java/lang/IndexOutOfBoundsException" = E := Option.some.inj hx2
      rw [← e9]
      exact go_catchL [] ⟨0, 10, 13, 15⟩ [] rfl (fun _ q => absurd q List.not_mem_nil) rfl (by decide) wJ_RL_15 (by decide +kernel) rfl dL_value_13 (by decide) dL_value_15 rfl dL_value_16 rfl (Nat.le_of_ble_eq_true rfl) (Nat.le_of_ble_eq_true rfl) ⟨rfl, rfl⟩
  · obtain ⟨rfl, rfl, rfl⟩ := hv
    refine go_i2l 9 dL_value_8 rfl ?_
    refine g_last 10 dL_value_9 rfl ly_145 (by unfold vp_in; decide) ?_
    refine go_goto 17 dL_value_10 (by decide) ?_
    refine go_iconst 18 (0) dL_value_17 rfl (by decide) ?_
    refine go_ireturn dL_value_18 rfl rfl (Nat.le_of_ble_eq_true rfl) (Nat.le_of_ble_eq_true rfl) ?_
    exact ⟨rfl, rfl⟩

set_option maxRecDepth 100000 in
set_option maxHeartbeats 1000000 in
theorem ct_L_width (S T : gS) (p0 p1 : Int32) (e : Nat) (r : Int32) (hC : gO mX8_width [.ref 0, .int p0, .int p1] S e (some (.int r)) T) (he : e = 0 ∨ e = 2) : gF mL_width [.ref 0, .int p0, .int p1, .ref 145] S (some (.int (if e = 0 then 0 else 1))) (if e = 0 then (wL T 145 0 r.toInt64) else T) := by
  refine go_enterH [.ref 0, .int p0, .int p1, .ref 145] [(0, .ref 0), (1, .int p0), (2, .int p1), (3, .ref 145)] (by decide +kernel) rfl (by decide) (Nat.le_of_ble_eq_true rfl) rfl ?_
  refine go_aload_n 1 dL_width_0 rfl rfl ?_
  refine go_iconst 2 (0) dL_width_1 rfl (by decide) ?_
  refine go_aload_n 3 dL_width_2 rfl rfl ?_
  refine go_iload_n 4 dL_width_3 rfl rfl ?_
  refine go_iload_n 5 dL_width_4 rfl rfl ?_
  refine go_callVX 8 [.int p0, .int p1] [.int _, .ref 145] dL_width_5 rfl hC rfl sV_L_width_49 rfl (hp_at ly_0) rfl rfl (Nat.le_of_ble_eq_true rfl) (Nat.le_of_ble_eq_true rfl) (Nat.le_of_ble_eq_true rfl) (fun E h' hx => ?_) (fun v h' hv => ?_)
  · obtain ⟨hx1, hx2, rfl⟩ := hx
    rcases he with rfl | rfl
    · exact absurd hx1 (Nat.lt_irrefl _)
    · have e9 : "java/lang/IndexOutOfBoundsException" = E := Option.some.inj hx2
      rw [← e9]
      exact go_catchL [] ⟨0, 10, 13, 15⟩ [] rfl (fun _ q => absurd q List.not_mem_nil) rfl (by decide) wJ_RL_15 (by decide +kernel) rfl dL_width_13 (by decide) dL_width_15 rfl dL_width_16 rfl (Nat.le_of_ble_eq_true rfl) (Nat.le_of_ble_eq_true rfl) ⟨rfl, rfl⟩
  · obtain ⟨rfl, rfl, rfl⟩ := hv
    refine go_i2l 9 dL_width_8 rfl ?_
    refine g_last 10 dL_width_9 rfl ly_145 (by unfold vp_in; decide) ?_
    refine go_goto 17 dL_width_10 (by decide) ?_
    refine go_iconst 18 (0) dL_width_17 rfl (by decide) ?_
    refine go_ireturn dL_width_18 rfl rfl (Nat.le_of_ble_eq_true rfl) (Nat.le_of_ble_eq_true rfl) ?_
    exact ⟨rfl, rfl⟩

