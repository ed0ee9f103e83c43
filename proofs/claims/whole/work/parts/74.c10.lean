-- needs 
/-- the class's text under way -/
def okQ (S : gS) : Prop := ∃ len a : Nat, rI S 55 0 = nI len ∧ rI S 55 1 = nI a ∧ a ≤ len ∧ len ≤ 80
theorem okQ.in {S : gS} (h : okQ S) (hl : ¬ rI S 55 0 ≤ rI S 55 1) : vp_in (rI S 55 1) 80 := by
  obtain ⟨len, a, h1, h2, h3, h4⟩ := h
  rw [h1, h2, nI_le2 (by omega) (by omega)] at hl
  rw [h2]
  exact nI_i (by omega) (by omega)
theorem okQ.at {S : gS} (h : okQ S) (hl : ¬ rI S 55 0 ≤ rI S 55 1) : okQ (wI S 55 1 (rI S 55 1 + 1)) := by
  obtain ⟨len, a, h1, h2, h3, h4⟩ := h
  rw [h1, h2, nI_le2 (by omega) (by omega)] at hl
  refine ⟨len, a + 1, ?_, ?_, by omega, h4⟩
  · rw [rI_wI, if_neg (by decide)]; exact h1
  · rw [rI_wI, if_pos ⟨rfl, rfl⟩, h2]; exact nI_1 a
theorem okQ.of {S T : gS} (h : okQ S) (e : ∀ c, c < 2 → rI T 55 c = rI S 55 c) : okQ T := by
  obtain ⟨len, a, h1, h2, h3, h4⟩ := h
  exact ⟨len, a, (e 0 (by decide)).trans h1, (e 1 (by decide)).trans h2, h3, h4⟩
theorem itm_ne {k : Nat} (h : itm k) : k ≠ 55 ∧ k + 1 ≠ 55 := by
  refine ⟨?_, ?_⟩
  · rintro rfl
    exact absurd (h.1.symm.trans ly_55) (by simp)
  · intro e
    have h9 := h.2
    rw [e] at h9
    exact absurd (h9.symm.trans ly_55) (by simp)
def f_X5_append (S : gS) (c : Int32) : Int32 × gS := (((rI S 55 0) + 1), (wI (wI S 56 ((rI S 55 0)).toNatClampNeg ((vp_nar .char c))) 55 0 (((rI S 55 0) + 1))))
set_option maxRecDepth 100000 in
set_option maxHeartbeats 1000000 in
theorem ct_X5_append (S : gS) (c : Int32) (hl : vp_in (rI S 55 0) 80) : gF mX5_append [.ref 55, .int c] S (some (.int (f_X5_append S c).1)) (f_X5_append S c).2 := by
  refine go_enter [.ref 55, .int c] [(0, .ref 55), (1, .int c)] (by decide +kernel) rfl rfl (Nat.le_of_ble_eq_true rfl) rfl ?_
  refine go_aload_n 1 dX5_append_0 rfl rfl ?_
  refine g_getR 4 dX5_append_1 rfl fF_RX5_21 ly_55 rfl ?_
  refine go_aload_n 5 dX5_append_4 rfl rfl ?_
  refine g_getI 8 dX5_append_5 rfl fF_RX5_11 ly_55 rfl ?_
  refine go_iload_n 9 dX5_append_8 rfl rfl ?_
  refine g_cast2 10 _ dX5_append_9 rfl ly_56 hl rfl ?_
  refine go_aload_n 11 dX5_append_10 rfl rfl ?_
  refine go_dup 12 dX5_append_11 rfl rfl ?_
  refine g_getI 15 dX5_append_12 rfl fF_RX5_11 ly_55 rfl ?_
  refine go_topi (rI S 55 0) (rI_wIk (by decide) _ _ _) ?_
  refine go_iconst 16 (1) dX5_append_15 rfl (by decide) ?_
  refine go_iadd 17 dX5_append_16 rfl ?_
  refine g_putI 20 dX5_append_17 rfl fF_RX5_11 ly_55 rfl (fun q hq => by cases hq; rfl) rfl rfl ?_
  refine go_aload_n 21 dX5_append_20 rfl rfl ?_
  refine g_getI 24 dX5_append_21 rfl fF_RX5_11 ly_55 rfl ?_
  refine go_topi _ (rI_same _ _ _ _) ?_
  refine go_ireturn dX5_append_24 rfl (by first | rfl | exact bi_nar) (Nat.le_of_ble_eq_true rfl) (Nat.le_of_ble_eq_true rfl) ?_
  exact ⟨congrArg (fun z => some (Value.int z)) rfl, congrArg hp rfl⟩
theorem fr_f_X5_append {a0 c0 : Nat} (h55_0 : ¬ (a0 = 55 ∧ c0 = 0)) (h56 : a0 ≠ 56) (S : gS) (c : Int32) : rI (f_X5_append S c).2 a0 c0 = rI S a0 c0 := by
  unfold f_X5_append
  first | (simp only [snd_ite, rI_ite, ite_self, rI_wIc h55_0, rI_wIk h56, rI_wRk h56]; done) | ((repeat' split) <;> first | rfl | simp only [rI_wIc h55_0, rI_wIk h56, rI_wRk h56])

def f_X5_peek (S : gS)  : Int32 := (if (rI S 55 0) ≤ (rI S 55 1) then (-1) else (rI S 56 ((rI S 55 1)).toNatClampNeg))
set_option maxRecDepth 100000 in
set_option maxHeartbeats 1000000 in
theorem ct_X5_peek (S : gS)  (ht : okQ S) : gF mX5_peek [.ref 55] S (some (.int (f_X5_peek S))) S := by
  refine go_enter [.ref 55] [(0, .ref 55)] (by decide +kernel) rfl rfl (Nat.le_of_ble_eq_true rfl) rfl ?_
  refine go_aload_n 1 dX5_peek_0 rfl rfl ?_
  refine g_getI 4 dX5_peek_1 rfl fF_RX5_15 ly_55 rfl ?_
  refine go_aload_n 5 dX5_peek_4 rfl rfl ?_
  refine g_getI 8 dX5_peek_5 rfl fF_RX5_11 ly_55 rfl ?_
  refine go_icmp_ge 11 23 dX5_peek_8 rfl (by decide) (fun hc1 => ?_) (fun hc1 => ?_)
  · refine go_iconst 24 (-1) dX5_peek_23 rfl (by decide) ?_
    refine go_ireturn dX5_peek_24 rfl (by first | rfl | exact bi_nar) (Nat.le_of_ble_eq_true rfl) (Nat.le_of_ble_eq_true rfl) ?_
    exact ⟨congrArg (fun z => some (Value.int z)) (by unfold f_X5_peek; simp only [if_pos hc1]; try first | rfl | contradiction), rfl⟩
  · refine go_aload_n 12 dX5_peek_11 rfl rfl ?_
    refine g_getR 15 dX5_peek_12 rfl fF_RX5_21 ly_55 rfl ?_
    refine go_aload_n 16 dX5_peek_15 rfl rfl ?_
    refine g_getI 19 dX5_peek_16 rfl fF_RX5_15 ly_55 rfl ?_
    refine g_cald2 20 _ dX5_peek_19 rfl ly_56 (okQ.in ht hc1) rfl ?_
    refine go_goto 24 dX5_peek_20 (by decide) ?_
    refine go_ireturn dX5_peek_24 rfl (by first | rfl | exact bi_nar) (Nat.le_of_ble_eq_true rfl) (Nat.le_of_ble_eq_true rfl) ?_
    exact ⟨congrArg (fun z => some (Value.int z)) (by unfold f_X5_peek; simp only [if_neg hc1]; try first | rfl | contradiction), rfl⟩

def f_X5_take (S : gS) (w : Int32) : Int32 × gS := (if (f_X5_peek S) = w then (1, (wI S 55 1 (((rI S 55 1) + 1)))) else (0, S))
set_option maxRecDepth 100000 in
set_option maxHeartbeats 1000000 in
theorem ct_X5_take (S : gS) (w : Int32) (ht : okQ S) : gF mX5_take [.ref 55, .int w] S (some (.int (f_X5_take S w).1)) (f_X5_take S w).2 := by
  refine go_enter [.ref 55, .int w] [(0, .ref 55), (1, .int w)] (by decide +kernel) rfl rfl (Nat.le_of_ble_eq_true rfl) rfl ?_
  refine go_aload_n 1 dX5_take_0 rfl rfl ?_
  refine g_callV 4 [] [] dX5_take_1 rfl (ct_X5_peek _ ht) rfl sV_X5_take_40 rfl ly_55 rfl rfl (Nat.le_of_ble_eq_true rfl) (Nat.le_of_ble_eq_true rfl) (Nat.le_of_ble_eq_true rfl) ?_
  refine go_iload_n 5 dX5_take_4 rfl rfl ?_
  refine go_icmp_eq 8 10 dX5_take_5 rfl (by decide) (fun hc1 => ?_) (fun hc1 => ?_)
  · refine go_aload_n 11 dX5_take_10 rfl rfl ?_
    refine go_dup 12 dX5_take_11 rfl rfl ?_
    refine g_getI 15 dX5_take_12 rfl fF_RX5_15 ly_55 rfl ?_
    refine go_iconst 16 (1) dX5_take_15 rfl (by decide) ?_
    refine go_iadd 17 dX5_take_16 rfl ?_
    refine g_putI 20 dX5_take_17 rfl fF_RX5_15 ly_55 rfl (fun q hq => by cases hq; rfl) rfl rfl ?_
    refine go_iconst 21 (1) dX5_take_20 rfl (by decide) ?_
    refine go_ireturn dX5_take_21 rfl (by first | rfl | exact bi_nar) (Nat.le_of_ble_eq_true rfl) (Nat.le_of_ble_eq_true rfl) ?_
    exact ⟨congrArg (fun z => some (Value.int z)) (by unfold f_X5_take; simp only [if_pos hc1]; try first | rfl | contradiction), congrArg hp (by unfold f_X5_take; simp only [if_pos hc1]; try first | rfl | contradiction)⟩
  · refine go_iconst 9 (0) dX5_take_8 rfl (by decide) ?_
    refine go_ireturn dX5_take_9 rfl (by first | rfl | exact bi_nar) (Nat.le_of_ble_eq_true rfl) (Nat.le_of_ble_eq_true rfl) ?_
    exact ⟨congrArg (fun z => some (Value.int z)) (by unfold f_X5_take; simp only [if_neg hc1]; try first | rfl | contradiction), congrArg hp (by unfold f_X5_take; simp only [if_neg hc1]; try first | rfl | contradiction)⟩
theorem fr_f_X5_take {a0 c0 : Nat} (h55_1 : ¬ (a0 = 55 ∧ c0 = 1)) (S : gS) (w : Int32) : rI (f_X5_take S w).2 a0 c0 = rI S a0 c0 := by
  unfold f_X5_take
  first | (simp only [snd_ite, rI_ite, ite_self, rI_wIc h55_1]; done) | ((repeat' split) <;> first | rfl | simp only [rI_wIc h55_1])

def f_X5_kindOf (v : Int32) : Int32 := (if v = 38 then 6 else (if v = 42 then 5 else (if v = 43 then 3 else (if v = 45 then 4 else (if v = 60 then 11 else (if v = 63 then 12 else (if v = 94 then 8 else (if v = 104 then 10 else (if v = 108 then 9 else (if v = 124 then 7 else (-1)))))))))))
set_option maxRecDepth 100000 in
set_option maxHeartbeats 1000000 in
theorem ct_X5_kindOf (S : gS) (v : Int32)  : gF mX5_kindOf [.int v] S (some (.int (f_X5_kindOf v))) S := by
  refine go_enter [.int v] [(0, .int v)] (by decide +kernel) rfl rfl (Nat.le_of_ble_eq_true rfl) rfl ?_
  refine go_iload_n 1 dX5_kindOf_0 rfl rfl ?_
  refine go_lookS [(38, 98), (42, 96), (43, 92), (45, 94), (60, 113), (63, 116), (94, 104), (104, 110), (108, 107), (124, 101)] 119 dX5_kindOf_1 (by decide) (by decide) (by decide) (List.forall_mem_cons.mpr ⟨fun hc1 => ?_, List.forall_mem_cons.mpr ⟨fun hc1 => ?_, List.forall_mem_cons.mpr ⟨fun hc1 => ?_, List.forall_mem_cons.mpr ⟨fun hc1 => ?_, List.forall_mem_cons.mpr ⟨fun hc1 => ?_, List.forall_mem_cons.mpr ⟨fun hc1 => ?_, List.forall_mem_cons.mpr ⟨fun hc1 => ?_, List.forall_mem_cons.mpr ⟨fun hc1 => ?_, List.forall_mem_cons.mpr ⟨fun hc1 => ?_, List.forall_mem_cons.mpr ⟨fun hc1 => ?_, fun _ h => absurd h List.not_mem_nil⟩⟩⟩⟩⟩⟩⟩⟩⟩⟩) (fun hc1 => ?_)
  · have hc1 : v = 38 := hc1
    refine go_bipush 100 (6) dX5_kindOf_98 rfl (by decide) ?_
    refine go_ireturn dX5_kindOf_100 rfl (by first | rfl | exact bi_nar) (Nat.le_of_ble_eq_true rfl) (Nat.le_of_ble_eq_true rfl) ?_
    exact ⟨congrArg (fun z => some (Value.int z)) (by unfold f_X5_kindOf; simp only [if_pos hc1]; try first | rfl | contradiction), rfl⟩
  · have hc1 : v = 42 := hc1
    have hc1_0 : ¬ v = 38 := by rw [hc1]; decide
    refine go_iconst 97 (5) dX5_kindOf_96 rfl (by decide) ?_
    refine go_ireturn dX5_kindOf_97 rfl (by first | rfl | exact bi_nar) (Nat.le_of_ble_eq_true rfl) (Nat.le_of_ble_eq_true rfl) ?_
    exact ⟨congrArg (fun z => some (Value.int z)) (by unfold f_X5_kindOf; simp only [if_neg hc1_0, if_pos hc1]; try first | rfl | contradiction), rfl⟩
  · have hc1 : v = 43 := hc1
    have hc1_0 : ¬ v = 38 := by rw [hc1]; decide
    have hc1_1 : ¬ v = 42 := by rw [hc1]; decide
    refine go_iconst 93 (3) dX5_kindOf_92 rfl (by decide) ?_
    refine go_ireturn dX5_kindOf_93 rfl (by first | rfl | exact bi_nar) (Nat.le_of_ble_eq_true rfl) (Nat.le_of_ble_eq_true rfl) ?_
    exact ⟨congrArg (fun z => some (Value.int z)) (by unfold f_X5_kindOf; simp only [if_neg hc1_0, if_neg hc1_1, if_pos hc1]; try first | rfl | contradiction), rfl⟩
  · have hc1 : v = 45 := hc1
    have hc1_0 : ¬ v = 38 := by rw [hc1]; decide
    have hc1_1 : ¬ v = 42 := by rw [hc1]; decide
    have hc1_2 : ¬ v = 43 := by rw [hc1]; decide
    refine go_iconst 95 (4) dX5_kindOf_94 rfl (by decide) ?_
    refine go_ireturn dX5_kindOf_95 rfl (by first | rfl | exact bi_nar) (Nat.le_of_ble_eq_true rfl) (Nat.le_of_ble_eq_true rfl) ?_
    exact ⟨congrArg (fun z => some (Value.int z)) (by unfold f_X5_kindOf; simp only [if_neg hc1_0, if_neg hc1_1, if_neg hc1_2, if_pos hc1]; try first | rfl | contradiction), rfl⟩
  · have hc1 : v = 60 := hc1
    have hc1_0 : ¬ v = 38 := by rw [hc1]; decide
    have hc1_1 : ¬ v = 42 := by rw [hc1]; decide
    have hc1_2 : ¬ v = 43 := by rw [hc1]; decide
    have hc1_3 : ¬ v = 45 := by rw [hc1]; decide
    refine go_bipush 115 (11) dX5_kindOf_113 rfl (by decide) ?_
    refine go_ireturn dX5_kindOf_115 rfl (by first | rfl | exact bi_nar) (Nat.le_of_ble_eq_true rfl) (Nat.le_of_ble_eq_true rfl) ?_
    exact ⟨congrArg (fun z => some (Value.int z)) (by unfold f_X5_kindOf; simp only [if_neg hc1_0, if_neg hc1_1, if_neg hc1_2, if_neg hc1_3, if_pos hc1]; try first | rfl | contradiction), rfl⟩
  · have hc1 : v = 63 := hc1
    have hc1_0 : ¬ v = 38 := by rw [hc1]; decide
    have hc1_1 : ¬ v = 42 := by rw [hc1]; decide
    have hc1_2 : ¬ v = 43 := by rw [hc1]; decide
    have hc1_3 : ¬ v = 45 := by rw [hc1]; decide
    have hc1_4 : ¬ v = 60 := by rw [hc1]; decide
    refine go_bipush 118 (12) dX5_kindOf_116 rfl (by decide) ?_
    refine go_ireturn dX5_kindOf_118 rfl (by first | rfl | exact bi_nar) (Nat.le_of_ble_eq_true rfl) (Nat.le_of_ble_eq_true rfl) ?_
    exact ⟨congrArg (fun z => some (Value.int z)) (by unfold f_X5_kindOf; simp only [if_neg hc1_0, if_neg hc1_1, if_neg hc1_2, if_neg hc1_3, if_neg hc1_4, if_pos hc1]; try first | rfl | contradiction), rfl⟩
  · have hc1 : v = 94 := hc1
    have hc1_0 : ¬ v = 38 := by rw [hc1]; decide
    have hc1_1 : ¬ v = 42 := by rw [hc1]; decide
    have hc1_2 : ¬ v = 43 := by rw [hc1]; decide
    have hc1_3 : ¬ v = 45 := by rw [hc1]; decide
    have hc1_4 : ¬ v = 60 := by rw [hc1]; decide
    have hc1_5 : ¬ v = 63 := by rw [hc1]; decide
    refine go_bipush 106 (8) dX5_kindOf_104 rfl (by decide) ?_
    refine go_ireturn dX5_kindOf_106 rfl (by first | rfl | exact bi_nar) (Nat.le_of_ble_eq_true rfl) (Nat.le_of_ble_eq_true rfl) ?_
    exact ⟨congrArg (fun z => some (Value.int z)) (by unfold f_X5_kindOf; simp only [if_neg hc1_0, if_neg hc1_1, if_neg hc1_2, if_neg hc1_3, if_neg hc1_4, if_neg hc1_5, if_pos hc1]; try first | rfl | contradiction), rfl⟩
  · have hc1 : v = 104 := hc1
    have hc1_0 : ¬ v = 38 := by rw [hc1]; decide
    have hc1_1 : ¬ v = 42 := by rw [hc1]; decide
    have hc1_2 : ¬ v = 43 := by rw [hc1]; decide
    have hc1_3 : ¬ v = 45 := by rw [hc1]; decide
    have hc1_4 : ¬ v = 60 := by rw [hc1]; decide
    have hc1_5 : ¬ v = 63 := by rw [hc1]; decide
    have hc1_6 : ¬ v = 94 := by rw [hc1]; decide
    refine go_bipush 112 (10) dX5_kindOf_110 rfl (by decide) ?_
    refine go_ireturn dX5_kindOf_112 rfl (by first | rfl | exact bi_nar) (Nat.le_of_ble_eq_true rfl) (Nat.le_of_ble_eq_true rfl) ?_
    exact ⟨congrArg (fun z => some (Value.int z)) (by unfold f_X5_kindOf; simp only [if_neg hc1_0, if_neg hc1_1, if_neg hc1_2, if_neg hc1_3, if_neg hc1_4, if_neg hc1_5, if_neg hc1_6, if_pos hc1]; try first | rfl | contradiction), rfl⟩
  · have hc1 : v = 108 := hc1
    have hc1_0 : ¬ v = 38 := by rw [hc1]; decide
    have hc1_1 : ¬ v = 42 := by rw [hc1]; decide
    have hc1_2 : ¬ v = 43 := by rw [hc1]; decide
    have hc1_3 : ¬ v = 45 := by rw [hc1]; decide
    have hc1_4 : ¬ v = 60 := by rw [hc1]; decide
    have hc1_5 : ¬ v = 63 := by rw [hc1]; decide
    have hc1_6 : ¬ v = 94 := by rw [hc1]; decide
    have hc1_7 : ¬ v = 104 := by rw [hc1]; decide
    refine go_bipush 109 (9) dX5_kindOf_107 rfl (by decide) ?_
    refine go_ireturn dX5_kindOf_109 rfl (by first | rfl | exact bi_nar) (Nat.le_of_ble_eq_true rfl) (Nat.le_of_ble_eq_true rfl) ?_
    exact ⟨congrArg (fun z => some (Value.int z)) (by unfold f_X5_kindOf; simp only [if_neg hc1_0, if_neg hc1_1, if_neg hc1_2, if_neg hc1_3, if_neg hc1_4, if_neg hc1_5, if_neg hc1_6, if_neg hc1_7, if_pos hc1]; try first | rfl | contradiction), rfl⟩
  · have hc1 : v = 124 := hc1
    have hc1_0 : ¬ v = 38 := by rw [hc1]; decide
    have hc1_1 : ¬ v = 42 := by rw [hc1]; decide
    have hc1_2 : ¬ v = 43 := by rw [hc1]; decide
    have hc1_3 : ¬ v = 45 := by rw [hc1]; decide
    have hc1_4 : ¬ v = 60 := by rw [hc1]; decide
    have hc1_5 : ¬ v = 63 := by rw [hc1]; decide
    have hc1_6 : ¬ v = 94 := by rw [hc1]; decide
    have hc1_7 : ¬ v = 104 := by rw [hc1]; decide
    have hc1_8 : ¬ v = 108 := by rw [hc1]; decide
    refine go_bipush 103 (7) dX5_kindOf_101 rfl (by decide) ?_
    refine go_ireturn dX5_kindOf_103 rfl (by first | rfl | exact bi_nar) (Nat.le_of_ble_eq_true rfl) (Nat.le_of_ble_eq_true rfl) ?_
    exact ⟨congrArg (fun z => some (Value.int z)) (by unfold f_X5_kindOf; simp only [if_neg hc1_0, if_neg hc1_1, if_neg hc1_2, if_neg hc1_3, if_neg hc1_4, if_neg hc1_5, if_neg hc1_6, if_neg hc1_7, if_neg hc1_8, if_pos hc1]; try first | rfl | contradiction), rfl⟩
  · have hc1_0 : ¬ v = 38 := hc1 (38, 98) (List.mem_of_getElem? (i := 0) rfl)
    have hc1_1 : ¬ v = 42 := hc1 (42, 96) (List.mem_of_getElem? (i := 1) rfl)
    have hc1_2 : ¬ v = 43 := hc1 (43, 92) (List.mem_of_getElem? (i := 2) rfl)
    have hc1_3 : ¬ v = 45 := hc1 (45, 94) (List.mem_of_getElem? (i := 3) rfl)
    have hc1_4 : ¬ v = 60 := hc1 (60, 113) (List.mem_of_getElem? (i := 4) rfl)
    have hc1_5 : ¬ v = 63 := hc1 (63, 116) (List.mem_of_getElem? (i := 5) rfl)
    have hc1_6 : ¬ v = 94 := hc1 (94, 104) (List.mem_of_getElem? (i := 6) rfl)
    have hc1_7 : ¬ v = 104 := hc1 (104, 110) (List.mem_of_getElem? (i := 7) rfl)
    have hc1_8 : ¬ v = 108 := hc1 (108, 107) (List.mem_of_getElem? (i := 8) rfl)
    have hc1_9 : ¬ v = 124 := hc1 (124, 101) (List.mem_of_getElem? (i := 9) rfl)
    clear hc1
    refine go_iconst 120 (-1) dX5_kindOf_119 rfl (by decide) ?_
    refine go_ireturn dX5_kindOf_120 rfl (by first | rfl | exact bi_nar) (Nat.le_of_ble_eq_true rfl) (Nat.le_of_ble_eq_true rfl) ?_
    exact ⟨congrArg (fun z => some (Value.int z)) (by unfold f_X5_kindOf; simp only [if_neg hc1_0, if_neg hc1_1, if_neg hc1_2, if_neg hc1_3, if_neg hc1_4, if_neg hc1_5, if_neg hc1_6, if_neg hc1_7, if_neg hc1_8, if_neg hc1_9]; try first | rfl | contradiction), rfl⟩

def f_X5_isDigit (v : Int32) : Int32 := (if v < 48 then 0 else (if (57 : Int32) < v then 0 else 1))
set_option maxRecDepth 100000 in
set_option maxHeartbeats 1000000 in
theorem ct_X5_isDigit (S : gS) (v : Int32)  : gF mX5_isDigit [.int v] S (some (.int (f_X5_isDigit v))) S := by
  refine go_enter [.int v] [(0, .int v)] (by decide +kernel) rfl rfl (Nat.le_of_ble_eq_true rfl) rfl ?_
  refine go_iload_n 1 dX5_isDigit_0 rfl rfl ?_
  refine go_bipush 3 (48) dX5_isDigit_1 rfl (by decide) ?_
  refine go_icmp_lt 6 16 dX5_isDigit_3 rfl (by decide) (fun hc1 => ?_) (fun hc1 => ?_)
  · refine go_iconst 17 (0) dX5_isDigit_16 rfl (by decide) ?_
    refine go_ireturn dX5_isDigit_17 rfl (by first | rfl | exact bi_nar) (Nat.le_of_ble_eq_true rfl) (Nat.le_of_ble_eq_true rfl) ?_
    exact ⟨congrArg (fun z => some (Value.int z)) (by unfold f_X5_isDigit; simp only [if_pos hc1]; try first | rfl | contradiction), rfl⟩
  · refine go_iload_n 7 dX5_isDigit_6 rfl rfl ?_
    refine go_bipush 9 (57) dX5_isDigit_7 rfl (by decide) ?_
    refine go_icmp_gt 12 16 dX5_isDigit_9 rfl (by decide) (fun hc2 => ?_) (fun hc2 => ?_)
    · refine go_iconst 17 (0) dX5_isDigit_16 rfl (by decide) ?_
      refine go_ireturn dX5_isDigit_17 rfl (by first | rfl | exact bi_nar) (Nat.le_of_ble_eq_true rfl) (Nat.le_of_ble_eq_true rfl) ?_
      exact ⟨congrArg (fun z => some (Value.int z)) (by unfold f_X5_isDigit; simp only [if_neg hc1, if_pos hc2]; try first | rfl | contradiction), rfl⟩
    · refine go_iconst 13 (1) dX5_isDigit_12 rfl (by decide) ?_
      refine go_goto 17 dX5_isDigit_13 (by decide) ?_
      refine go_ireturn dX5_isDigit_17 rfl (by first | rfl | exact bi_nar) (Nat.le_of_ble_eq_true rfl) (Nat.le_of_ble_eq_true rfl) ?_
      exact ⟨congrArg (fun z => some (Value.int z)) (by unfold f_X5_isDigit; simp only [if_neg hc1, if_neg hc2]; try first | rfl | contradiction), rfl⟩

theorem q_pklt {S : gS} (h : ¬ f_X5_peek S = -1) : ¬ rI S 55 0 ≤ rI S 55 1 := by
  unfold f_X5_peek at h
  intro q
  rw [if_pos q] at h
  exact h rfl
theorem okQ.dig {S : gS} (ht : okQ S) (h : ¬ f_X5_isDigit (f_X5_peek S) = 0) : okQ (wI S 55 1 (rI S 55 1 + 1)) := by
  refine ht.at (q_pklt (fun q => h ?_))
  rw [q]
  rfl
theorem okQ.op {S : gS} (ht : okQ S) (h : ¬ f_X5_kindOf (f_X5_peek S) = -1) : okQ (wI S 55 1 (rI S 55 1 + 1)) := by
  refine ht.at (q_pklt (fun q => h ?_))
  rw [q]
  rfl
theorem okQ.take {S : gS} (ht : okQ S) {w : Int32} (hw : w ≠ -1) : okQ (f_X5_take S w).2 := by
  unfold f_X5_take
  split
  · rename_i q
    refine ht.at (q_pklt ?_)
    rw [q]
    exact hw
  · exact ht
def f_dig2 (S : gS) (k : Nat) (i : Int32) : Int32 × gS := (if (f_X5_isDigit ((f_X5_peek S))) = 0 then (0, (wI S (k + 1) i.toNatClampNeg 0)) else (if (f_X5_isDigit ((f_X5_peek (wI S 55 1 (((rI S 55 1) + 1)))))) = 0 then (1, (wI (wI S 55 1 (((rI S 55 1) + 1))) (k + 1) i.toNatClampNeg ((((10 : Int32) * 0) + ((f_X5_peek S) - 48))))) else (1, (wI (wI (wI S 55 1 (((rI S 55 1) + 1))) 55 1 ((((rI S 55 1) + 1) + 1))) (k + 1) i.toNatClampNeg ((((10 : Int32) * (((10 : Int32) * 0) + ((f_X5_peek S) - 48))) + ((f_X5_peek (wI S 55 1 (((rI S 55 1) + 1)))) - 48)))))))
set_option maxRecDepth 100000 in
set_option maxHeartbeats 1000000 in
theorem ct_dig2 (S : gS) (k : Nat) (i : Int32) (hk : itm k) (hi : vp_in i 3) (ht : okQ S) : gF mX5_parseDigits [.ref 55, .ref k, .int i, .int 2] S (some (.int (f_dig2 S k i).1)) (f_dig2 S k i).2 := by
  refine go_enter [.ref 55, .ref k, .int i, .int 2] [(0, .ref 55), (1, .ref k), (2, .int i), (3, .int 2)] (by decide +kernel) rfl rfl (Nat.le_of_ble_eq_true rfl) rfl ?_
  refine go_iconst 1 (0) dX5_parseDigits_0 rfl (by decide) ?_
  refine go_istore 3 [(4, .int _), (0, .ref 55), (1, .ref k), (2, .int _), (3, .int _)] dX5_parseDigits_1 rfl (Nat.le_of_ble_eq_true rfl) rfl ?_
  refine go_iconst 4 (0) dX5_parseDigits_3 rfl (by decide) ?_
  refine go_istore 6 [(5, .int _), (4, .int _), (0, .ref 55), (1, .ref k), (2, .int _), (3, .int _)] dX5_parseDigits_4 rfl (Nat.le_of_ble_eq_true rfl) rfl ?_
  refine go_iload 8 dX5_parseDigits_6 rfl rfl ?_
  refine go_iload_n 9 dX5_parseDigits_8 rfl rfl ?_
  refine go_icmp_ge 12 53 dX5_parseDigits_9 rfl (by decide) (fun hc1 => absurd hc1 (by decide)) (fun _ => ?_)
  refine go_aload_n 13 dX5_parseDigits_12 rfl rfl ?_
  refine g_callV 16 [] [] dX5_parseDigits_13 rfl (ct_X5_peek _ ht) rfl sV_X5_parseDigits_40 rfl ly_55 rfl rfl (Nat.le_of_ble_eq_true rfl) (Nat.le_of_ble_eq_true rfl) (Nat.le_of_ble_eq_true rfl) ?_
  refine g_callS 19 [.int _] [] dX5_parseDigits_16 rfl (ct_X5_isDigit _ _) rfl sV_X5_parseDigits_70 rfl (Nat.le_of_ble_eq_true rfl) (Nat.le_of_ble_eq_true rfl) (Nat.le_of_ble_eq_true rfl) ?_
  refine go_if_eq 22 53 dX5_parseDigits_19 rfl (by decide) (fun hc2 => ?_) (fun hc2 => ?_)
  · refine go_aload_n 54 dX5_parseDigits_53 rfl rfl ?_
    refine g_getR 57 dX5_parseDigits_54 rfl fF_RX5_62 hk.1 rfl ?_
    refine go_iload_n 58 dX5_parseDigits_57 rfl rfl ?_
    refine go_iload 60 dX5_parseDigits_58 rfl rfl ?_
    refine g_iast2 61 _ dX5_parseDigits_60 rfl hk.2 hi rfl ?_
    refine go_iload 63 dX5_parseDigits_61 rfl rfl ?_
    refine go_if_le 66 70 dX5_parseDigits_63 rfl (by decide) (fun _ => ?_) (fun hc3 => absurd hc3 (by decide))
    refine go_iconst 71 (0) dX5_parseDigits_70 rfl (by decide) ?_
    refine go_ireturn dX5_parseDigits_71 rfl (by first | rfl | exact bi_nar) (Nat.le_of_ble_eq_true rfl) (Nat.le_of_ble_eq_true rfl) ?_
    exact ⟨congrArg (fun z => some (Value.int z)) (by unfold f_dig2; simp only [if_pos hc2]; try first | rfl | contradiction), congrArg hp (by unfold f_dig2; simp only [if_pos hc2]; try first | rfl | contradiction)⟩
  · have hd := okQ.dig ht hc2
    refine go_bipush 24 (10) dX5_parseDigits_22 rfl (by decide) ?_
    refine go_iload 26 dX5_parseDigits_24 rfl rfl ?_
    refine go_imul 27 dX5_parseDigits_26 rfl ?_
    refine go_aload_n 28 dX5_parseDigits_27 rfl rfl ?_
    refine g_callV 31 [] [.int _] dX5_parseDigits_28 rfl (ct_X5_peek _ ht) rfl sV_X5_parseDigits_40 rfl ly_55 rfl rfl (Nat.le_of_ble_eq_true rfl) (Nat.le_of_ble_eq_true rfl) (Nat.le_of_ble_eq_true rfl) ?_
    refine go_bipush 33 (48) dX5_parseDigits_31 rfl (by decide) ?_
    refine go_isub 34 dX5_parseDigits_33 rfl ?_
    refine go_iadd 35 dX5_parseDigits_34 rfl ?_
    refine go_istore 37 [(4, .int _), (5, .int _), (0, .ref 55), (1, .ref k), (2, .int _), (3, .int _)] dX5_parseDigits_35 rfl (Nat.le_of_ble_eq_true rfl) rfl ?_
    refine go_aload_n 38 dX5_parseDigits_37 rfl rfl ?_
    refine go_dup 39 dX5_parseDigits_38 rfl rfl ?_
    refine g_getI 42 dX5_parseDigits_39 rfl fF_RX5_15 ly_55 rfl ?_
    refine go_iconst 43 (1) dX5_parseDigits_42 rfl (by decide) ?_
    refine go_iadd 44 dX5_parseDigits_43 rfl ?_
    refine g_putI 47 dX5_parseDigits_44 rfl fF_RX5_15 ly_55 rfl (fun q hq => by cases hq; rfl) rfl rfl ?_
    replace ht := hd
    refine go_iinc 50 [(5, .int _), (4, .int _), (0, .ref 55), (1, .ref k), (2, .int _), (3, .int _)] (1) dX5_parseDigits_47 rfl (Nat.le_of_ble_eq_true rfl) rfl (by decide) rfl ?_
    refine go_goto 6 dX5_parseDigits_50 (by decide) ?_
    refine go_iload 8 dX5_parseDigits_6 rfl rfl ?_
    refine go_iload_n 9 dX5_parseDigits_8 rfl rfl ?_
    refine go_icmp_ge 12 53 dX5_parseDigits_9 rfl (by decide) (fun hc4 => absurd hc4 (by decide)) (fun _ => ?_)
    refine go_aload_n 13 dX5_parseDigits_12 rfl rfl ?_
    refine g_callV 16 [] [] dX5_parseDigits_13 rfl (ct_X5_peek _ ht) rfl sV_X5_parseDigits_40 rfl ly_55 rfl rfl (Nat.le_of_ble_eq_true rfl) (Nat.le_of_ble_eq_true rfl) (Nat.le_of_ble_eq_true rfl) ?_
    refine g_callS 19 [.int _] [] dX5_parseDigits_16 rfl (ct_X5_isDigit _ _) rfl sV_X5_parseDigits_70 rfl (Nat.le_of_ble_eq_true rfl) (Nat.le_of_ble_eq_true rfl) (Nat.le_of_ble_eq_true rfl) ?_
    refine go_if_eq 22 53 dX5_parseDigits_19 rfl (by decide) (fun hc5 => ?_) (fun hc5 => ?_)
    · refine go_aload_n 54 dX5_parseDigits_53 rfl rfl ?_
      refine g_getR 57 dX5_parseDigits_54 rfl fF_RX5_62 hk.1 rfl ?_
      refine go_iload_n 58 dX5_parseDigits_57 rfl rfl ?_
      refine go_iload 60 dX5_parseDigits_58 rfl rfl ?_
      refine g_iast2 61 _ dX5_parseDigits_60 rfl hk.2 hi rfl ?_
      refine go_iload 63 dX5_parseDigits_61 rfl rfl ?_
      refine go_if_le 66 70 dX5_parseDigits_63 rfl (by decide) (fun hc6 => absurd hc6 (by decide)) (fun _ => ?_)
      refine go_iconst 67 (1) dX5_parseDigits_66 rfl (by decide) ?_
      refine go_goto 71 dX5_parseDigits_67 (by decide) ?_
      refine go_ireturn dX5_parseDigits_71 rfl (by first | rfl | exact bi_nar) (Nat.le_of_ble_eq_true rfl) (Nat.le_of_ble_eq_true rfl) ?_
      exact ⟨congrArg (fun z => some (Value.int z)) (by unfold f_dig2; simp only [if_neg hc2, if_pos hc5]; try first | rfl | contradiction), congrArg hp (by unfold f_dig2; simp only [if_neg hc2, if_pos hc5]; try first | rfl | contradiction)⟩
    · have hd := okQ.dig ht hc5
      refine go_bipush 24 (10) dX5_parseDigits_22 rfl (by decide) ?_
      refine go_iload 26 dX5_parseDigits_24 rfl rfl ?_
      refine go_imul 27 dX5_parseDigits_26 rfl ?_
      refine go_aload_n 28 dX5_parseDigits_27 rfl rfl ?_
      refine g_callV 31 [] [.int _] dX5_parseDigits_28 rfl (ct_X5_peek _ ht) rfl sV_X5_parseDigits_40 rfl ly_55 rfl rfl (Nat.le_of_ble_eq_true rfl) (Nat.le_of_ble_eq_true rfl) (Nat.le_of_ble_eq_true rfl) ?_
      refine go_bipush 33 (48) dX5_parseDigits_31 rfl (by decide) ?_
      refine go_isub 34 dX5_parseDigits_33 rfl ?_
      refine go_iadd 35 dX5_parseDigits_34 rfl ?_
      refine go_istore 37 [(4, .int _), (5, .int _), (0, .ref 55), (1, .ref k), (2, .int _), (3, .int _)] dX5_parseDigits_35 rfl (Nat.le_of_ble_eq_true rfl) rfl ?_
      refine go_aload_n 38 dX5_parseDigits_37 rfl rfl ?_
      refine go_dup 39 dX5_parseDigits_38 rfl rfl ?_
      refine g_getI 42 dX5_parseDigits_39 rfl fF_RX5_15 ly_55 rfl ?_
      refine go_topi _ (rI_same _ _ _ _) ?_
      refine go_iconst 43 (1) dX5_parseDigits_42 rfl (by decide) ?_
      refine go_iadd 44 dX5_parseDigits_43 rfl ?_
      refine g_putI 47 dX5_parseDigits_44 rfl fF_RX5_15 ly_55 rfl (fun q hq => by cases hq; rfl) rfl rfl ?_
      replace ht := hd
      refine go_iinc 50 [(5, .int _), (4, .int _), (0, .ref 55), (1, .ref k), (2, .int _), (3, .int _)] (2) dX5_parseDigits_47 rfl (Nat.le_of_ble_eq_true rfl) rfl (by decide) rfl ?_
      refine go_goto 6 dX5_parseDigits_50 (by decide) ?_
      refine go_iload 8 dX5_parseDigits_6 rfl rfl ?_
      refine go_iload_n 9 dX5_parseDigits_8 rfl rfl ?_
      refine go_icmp_ge 12 53 dX5_parseDigits_9 rfl (by decide) (fun _ => ?_) (fun hc7 => absurd hc7 (by decide))
      refine go_aload_n 54 dX5_parseDigits_53 rfl rfl ?_
      refine g_getR 57 dX5_parseDigits_54 rfl fF_RX5_62 hk.1 rfl ?_
      refine go_iload_n 58 dX5_parseDigits_57 rfl rfl ?_
      refine go_iload 60 dX5_parseDigits_58 rfl rfl ?_
      refine g_iast2 61 _ dX5_parseDigits_60 rfl hk.2 hi rfl ?_
      refine go_iload 63 dX5_parseDigits_61 rfl rfl ?_
      refine go_if_le 66 70 dX5_parseDigits_63 rfl (by decide) (fun hc8 => absurd hc8 (by decide)) (fun _ => ?_)
      refine go_iconst 67 (1) dX5_parseDigits_66 rfl (by decide) ?_
      refine go_goto 71 dX5_parseDigits_67 (by decide) ?_
      refine go_ireturn dX5_parseDigits_71 rfl (by first | rfl | exact bi_nar) (Nat.le_of_ble_eq_true rfl) (Nat.le_of_ble_eq_true rfl) ?_
      exact ⟨congrArg (fun z => some (Value.int z)) (by unfold f_dig2; simp only [if_neg hc2, if_neg hc5]; try first | rfl | contradiction), congrArg hp (by unfold f_dig2; simp only [if_neg hc2, if_neg hc5]; try first | rfl | contradiction)⟩
theorem fr_f_dig2 {k : Nat} {a0 c0 : Nat} (h55_1 : ¬ (a0 = 55 ∧ c0 = 1)) (hk1 : a0 ≠ (k + 1)) (S : gS) (i : Int32) : rI (f_dig2 S k i).2 a0 c0 = rI S a0 c0 := by
  unfold f_dig2
  first | (simp only [snd_ite, rI_ite, ite_self, rI_wIc h55_1, rI_wIk hk1, rI_wRk hk1]; done) | ((repeat' split) <;> first | rfl | simp only [rI_wIc h55_1, rI_wIk hk1, rI_wRk hk1])

theorem zo_f_dig2 (S : gS) (k : Nat) (i : Int32) : (f_dig2 S k i).1 = 0 ∨ (f_dig2 S k i).1 = 1 := by
  unfold f_dig2
  (repeat' split) <;> dsimp only <;> first | exact Or.inl rfl | exact Or.inr rfl
theorem nb_f_dig2 (S : gS) (k : Nat) (i : Int32) : narrow .boolean (.int (f_dig2 S k i).1) = .int (f_dig2 S k i).1 := by
  rcases zo_f_dig2 _ _ _ with e | e <;> rw [e] <;> rfl

theorem okQ.dig2 {S : gS} {k : Nat} (hk : itm k) (i : Int32) (ht : okQ S) : okQ (f_dig2 S k i).2 := by
  have h9 := (itm_ne hk).2
  have hw : ∀ (T : gS) (j : Nat) (v : Int32), okQ T → okQ (wI T (k + 1) j v) := fun T j v h => okQ.of h (fun c _ => rI_wIk (fun q => h9 q.symm) T j v)
  unfold f_dig2
  split
  · exact hw _ _ _ ht
  rename_i h1
  have ht1 := okQ.dig ht h1
  split
  · exact hw _ _ _ ht1
  rename_i h2
  have ht2 := okQ.dig ht1 h2
  exact hw _ _ _ ht2
def f_dig4 (S : gS) (k : Nat) (i : Int32) : Int32 × gS := (if (f_X5_isDigit ((f_X5_peek S))) = 0 then (0, (wI S (k + 1) i.toNatClampNeg 0)) else (if (f_X5_isDigit ((f_X5_peek (wI S 55 1 (((rI S 55 1) + 1)))))) = 0 then (1, (wI (wI S 55 1 (((rI S 55 1) + 1))) (k + 1) i.toNatClampNeg ((((10 : Int32) * 0) + ((f_X5_peek S) - 48))))) else (if (f_X5_isDigit ((f_X5_peek (wI (wI S 55 1 (((rI S 55 1) + 1))) 55 1 ((((rI S 55 1) + 1) + 1)))))) = 0 then (1, (wI (wI (wI S 55 1 (((rI S 55 1) + 1))) 55 1 ((((rI S 55 1) + 1) + 1))) (k + 1) i.toNatClampNeg ((((10 : Int32) * (((10 : Int32) * 0) + ((f_X5_peek S) - 48))) + ((f_X5_peek (wI S 55 1 (((rI S 55 1) + 1)))) - 48))))) else (if (f_X5_isDigit ((f_X5_peek (wI (wI (wI S 55 1 (((rI S 55 1) + 1))) 55 1 ((((rI S 55 1) + 1) + 1))) 55 1 (((((rI S 55 1) + 1) + 1) + 1)))))) = 0 then (1, (wI (wI (wI (wI S 55 1 (((rI S 55 1) + 1))) 55 1 ((((rI S 55 1) + 1) + 1))) 55 1 (((((rI S 55 1) + 1) + 1) + 1))) (k + 1) i.toNatClampNeg ((((10 : Int32) * (((10 : Int32) * (((10 : Int32) * 0) + ((f_X5_peek S) - 48))) + ((f_X5_peek (wI S 55 1 (((rI S 55 1) + 1)))) - 48))) + ((f_X5_peek (wI (wI S 55 1 (((rI S 55 1) + 1))) 55 1 ((((rI S 55 1) + 1) + 1)))) - 48))))) else (1, (wI (wI (wI (wI (wI S 55 1 (((rI S 55 1) + 1))) 55 1 ((((rI S 55 1) + 1) + 1))) 55 1 (((((rI S 55 1) + 1) + 1) + 1))) 55 1 ((((((rI S 55 1) + 1) + 1) + 1) + 1))) (k + 1) i.toNatClampNeg ((((10 : Int32) * (((10 : Int32) * (((10 : Int32) * (((10 : Int32) * 0) + ((f_X5_peek S) - 48))) + ((f_X5_peek (wI S 55 1 (((rI S 55 1) + 1)))) - 48))) + ((f_X5_peek (wI (wI S 55 1 (((rI S 55 1) + 1))) 55 1 ((((rI S 55 1) + 1) + 1)))) - 48))) + ((f_X5_peek (wI (wI (wI S 55 1 (((rI S 55 1) + 1))) 55 1 ((((rI S 55 1) + 1) + 1))) 55 1 (((((rI S 55 1) + 1) + 1) + 1)))) - 48)))))))))
set_option maxRecDepth 100000 in
set_option maxHeartbeats 1000000 in
theorem ct_dig4 (S : gS) (k : Nat) (i : Int32) (hk : itm k) (hi : vp_in i 3) (ht : okQ S) : gF mX5_parseDigits [.ref 55, .ref k, .int i, .int 4] S (some (.int (f_dig4 S k i).1)) (f_dig4 S k i).2 := by
  refine go_enter [.ref 55, .ref k, .int i, .int 4] [(0, .ref 55), (1, .ref k), (2, .int i), (3, .int 4)] (by decide +kernel) rfl rfl (Nat.le_of_ble_eq_true rfl) rfl ?_
  refine go_iconst 1 (0) dX5_parseDigits_0 rfl (by decide) ?_
  refine go_istore 3 [(4, .int _), (0, .ref 55), (1, .ref k), (2, .int _), (3, .int _)] dX5_parseDigits_1 rfl (Nat.le_of_ble_eq_true rfl) rfl ?_
  refine go_iconst 4 (0) dX5_parseDigits_3 rfl (by decide) ?_
  refine go_istore 6 [(5, .int _), (4, .int _), (0, .ref 55), (1, .ref k), (2, .int _), (3, .int _)] dX5_parseDigits_4 rfl (Nat.le_of_ble_eq_true rfl) rfl ?_
  refine go_iload 8 dX5_parseDigits_6 rfl rfl ?_
  refine go_iload_n 9 dX5_parseDigits_8 rfl rfl ?_
  refine go_icmp_ge 12 53 dX5_parseDigits_9 rfl (by decide) (fun hc1 => absurd hc1 (by decide)) (fun _ => ?_)
  refine go_aload_n 13 dX5_parseDigits_12 rfl rfl ?_
  refine g_callV 16 [] [] dX5_parseDigits_13 rfl (ct_X5_peek _ ht) rfl sV_X5_parseDigits_40 rfl ly_55 rfl rfl (Nat.le_of_ble_eq_true rfl) (Nat.le_of_ble_eq_true rfl) (Nat.le_of_ble_eq_true rfl) ?_
  refine g_callS 19 [.int _] [] dX5_parseDigits_16 rfl (ct_X5_isDigit _ _) rfl sV_X5_parseDigits_70 rfl (Nat.le_of_ble_eq_true rfl) (Nat.le_of_ble_eq_true rfl) (Nat.le_of_ble_eq_true rfl) ?_
  refine go_if_eq 22 53 dX5_parseDigits_19 rfl (by decide) (fun hc2 => ?_) (fun hc2 => ?_)
  · refine go_aload_n 54 dX5_parseDigits_53 rfl rfl ?_
    refine g_getR 57 dX5_parseDigits_54 rfl fF_RX5_62 hk.1 rfl ?_
    refine go_iload_n 58 dX5_parseDigits_57 rfl rfl ?_
    refine go_iload 60 dX5_parseDigits_58 rfl rfl ?_
    refine g_iast2 61 _ dX5_parseDigits_60 rfl hk.2 hi rfl ?_
    refine go_iload 63 dX5_parseDigits_61 rfl rfl ?_
    refine go_if_le 66 70 dX5_parseDigits_63 rfl (by decide) (fun _ => ?_) (fun hc3 => absurd hc3 (by decide))
    refine go_iconst 71 (0) dX5_parseDigits_70 rfl (by decide) ?_
    refine go_ireturn dX5_parseDigits_71 rfl (by first | rfl | exact bi_nar) (Nat.le_of_ble_eq_true rfl) (Nat.le_of_ble_eq_true rfl) ?_
    exact ⟨congrArg (fun z => some (Value.int z)) (by unfold f_dig4; simp only [if_pos hc2]; try first | rfl | contradiction), congrArg hp (by unfold f_dig4; simp only [if_pos hc2]; try first | rfl | contradiction)⟩
  · have hd := okQ.dig ht hc2
    refine go_bipush 24 (10) dX5_parseDigits_22 rfl (by decide) ?_
    refine go_iload 26 dX5_parseDigits_24 rfl rfl ?_
    refine go_imul 27 dX5_parseDigits_26 rfl ?_
    refine go_aload_n 28 dX5_parseDigits_27 rfl rfl ?_
    refine g_callV 31 [] [.int _] dX5_parseDigits_28 rfl (ct_X5_peek _ ht) rfl sV_X5_parseDigits_40 rfl ly_55 rfl rfl (Nat.le_of_ble_eq_true rfl) (Nat.le_of_ble_eq_true rfl) (Nat.le_of_ble_eq_true rfl) ?_
    refine go_bipush 33 (48) dX5_parseDigits_31 rfl (by decide) ?_
    refine go_isub 34 dX5_parseDigits_33 rfl ?_
    refine go_iadd 35 dX5_parseDigits_34 rfl ?_
    refine go_istore 37 [(4, .int _), (5, .int _), (0, .ref 55), (1, .ref k), (2, .int _), (3, .int _)] dX5_parseDigits_35 rfl (Nat.le_of_ble_eq_true rfl) rfl ?_
    refine go_aload_n 38 dX5_parseDigits_37 rfl rfl ?_
    refine go_dup 39 dX5_parseDigits_38 rfl rfl ?_
    refine g_getI 42 dX5_parseDigits_39 rfl fF_RX5_15 ly_55 rfl ?_
    refine go_iconst 43 (1) dX5_parseDigits_42 rfl (by decide) ?_
    refine go_iadd 44 dX5_parseDigits_43 rfl ?_
    refine g_putI 47 dX5_parseDigits_44 rfl fF_RX5_15 ly_55 rfl (fun q hq => by cases hq; rfl) rfl rfl ?_
    replace ht := hd
    refine go_iinc 50 [(5, .int _), (4, .int _), (0, .ref 55), (1, .ref k), (2, .int _), (3, .int _)] (1) dX5_parseDigits_47 rfl (Nat.le_of_ble_eq_true rfl) rfl (by decide) rfl ?_
    refine go_goto 6 dX5_parseDigits_50 (by decide) ?_
    refine go_iload 8 dX5_parseDigits_6 rfl rfl ?_
    refine go_iload_n 9 dX5_parseDigits_8 rfl rfl ?_
    refine go_icmp_ge 12 53 dX5_parseDigits_9 rfl (by decide) (fun hc4 => absurd hc4 (by decide)) (fun _ => ?_)
    refine go_aload_n 13 dX5_parseDigits_12 rfl rfl ?_
    refine g_callV 16 [] [] dX5_parseDigits_13 rfl (ct_X5_peek _ ht) rfl sV_X5_parseDigits_40 rfl ly_55 rfl rfl (Nat.le_of_ble_eq_true rfl) (Nat.le_of_ble_eq_true rfl) (Nat.le_of_ble_eq_true rfl) ?_
    refine g_callS 19 [.int _] [] dX5_parseDigits_16 rfl (ct_X5_isDigit _ _) rfl sV_X5_parseDigits_70 rfl (Nat.le_of_ble_eq_true rfl) (Nat.le_of_ble_eq_true rfl) (Nat.le_of_ble_eq_true rfl) ?_
    refine go_if_eq 22 53 dX5_parseDigits_19 rfl (by decide) (fun hc5 => ?_) (fun hc5 => ?_)
    · refine go_aload_n 54 dX5_parseDigits_53 rfl rfl ?_
      refine g_getR 57 dX5_parseDigits_54 rfl fF_RX5_62 hk.1 rfl ?_
      refine go_iload_n 58 dX5_parseDigits_57 rfl rfl ?_
      refine go_iload 60 dX5_parseDigits_58 rfl rfl ?_
      refine g_iast2 61 _ dX5_parseDigits_60 rfl hk.2 hi rfl ?_
      refine go_iload 63 dX5_parseDigits_61 rfl rfl ?_
      refine go_if_le 66 70 dX5_parseDigits_63 rfl (by decide) (fun hc6 => absurd hc6 (by decide)) (fun _ => ?_)
      refine go_iconst 67 (1) dX5_parseDigits_66 rfl (by decide) ?_
      refine go_goto 71 dX5_parseDigits_67 (by decide) ?_
      refine go_ireturn dX5_parseDigits_71 rfl (by first | rfl | exact bi_nar) (Nat.le_of_ble_eq_true rfl) (Nat.le_of_ble_eq_true rfl) ?_
      exact ⟨congrArg (fun z => some (Value.int z)) (by unfold f_dig4; simp only [if_neg hc2, if_pos hc5]; try first | rfl | contradiction), congrArg hp (by unfold f_dig4; simp only [if_neg hc2, if_pos hc5]; try first | rfl | contradiction)⟩
    · have hd := okQ.dig ht hc5
      refine go_bipush 24 (10) dX5_parseDigits_22 rfl (by decide) ?_
      refine go_iload 26 dX5_parseDigits_24 rfl rfl ?_
      refine go_imul 27 dX5_parseDigits_26 rfl ?_
      refine go_aload_n 28 dX5_parseDigits_27 rfl rfl ?_
      refine g_callV 31 [] [.int _] dX5_parseDigits_28 rfl (ct_X5_peek _ ht) rfl sV_X5_parseDigits_40 rfl ly_55 rfl rfl (Nat.le_of_ble_eq_true rfl) (Nat.le_of_ble_eq_true rfl) (Nat.le_of_ble_eq_true rfl) ?_
      refine go_bipush 33 (48) dX5_parseDigits_31 rfl (by decide) ?_
      refine go_isub 34 dX5_parseDigits_33 rfl ?_
      refine go_iadd 35 dX5_parseDigits_34 rfl ?_
      refine go_istore 37 [(4, .int _), (5, .int _), (0, .ref 55), (1, .ref k), (2, .int _), (3, .int _)] dX5_parseDigits_35 rfl (Nat.le_of_ble_eq_true rfl) rfl ?_
      refine go_aload_n 38 dX5_parseDigits_37 rfl rfl ?_
      refine go_dup 39 dX5_parseDigits_38 rfl rfl ?_
      refine g_getI 42 dX5_parseDigits_39 rfl fF_RX5_15 ly_55 rfl ?_
      refine go_topi _ (rI_same _ _ _ _) ?_
      refine go_iconst 43 (1) dX5_parseDigits_42 rfl (by decide) ?_
      refine go_iadd 44 dX5_parseDigits_43 rfl ?_
      refine g_putI 47 dX5_parseDigits_44 rfl fF_RX5_15 ly_55 rfl (fun q hq => by cases hq; rfl) rfl rfl ?_
      replace ht := hd
      refine go_iinc 50 [(5, .int _), (4, .int _), (0, .ref 55), (1, .ref k), (2, .int _), (3, .int _)] (2) dX5_parseDigits_47 rfl (Nat.le_of_ble_eq_true rfl) rfl (by decide) rfl ?_
      refine go_goto 6 dX5_parseDigits_50 (by decide) ?_
      refine go_iload 8 dX5_parseDigits_6 rfl rfl ?_
      refine go_iload_n 9 dX5_parseDigits_8 rfl rfl ?_
      refine go_icmp_ge 12 53 dX5_parseDigits_9 rfl (by decide) (fun hc7 => absurd hc7 (by decide)) (fun _ => ?_)
      refine go_aload_n 13 dX5_parseDigits_12 rfl rfl ?_
      refine g_callV 16 [] [] dX5_parseDigits_13 rfl (ct_X5_peek _ ht) rfl sV_X5_parseDigits_40 rfl ly_55 rfl rfl (Nat.le_of_ble_eq_true rfl) (Nat.le_of_ble_eq_true rfl) (Nat.le_of_ble_eq_true rfl) ?_
      refine g_callS 19 [.int _] [] dX5_parseDigits_16 rfl (ct_X5_isDigit _ _) rfl sV_X5_parseDigits_70 rfl (Nat.le_of_ble_eq_true rfl) (Nat.le_of_ble_eq_true rfl) (Nat.le_of_ble_eq_true rfl) ?_
      refine go_if_eq 22 53 dX5_parseDigits_19 rfl (by decide) (fun hc8 => ?_) (fun hc8 => ?_)
      · refine go_aload_n 54 dX5_parseDigits_53 rfl rfl ?_
        refine g_getR 57 dX5_parseDigits_54 rfl fF_RX5_62 hk.1 rfl ?_
        refine go_iload_n 58 dX5_parseDigits_57 rfl rfl ?_
        refine go_iload 60 dX5_parseDigits_58 rfl rfl ?_
        refine g_iast2 61 _ dX5_parseDigits_60 rfl hk.2 hi rfl ?_
        refine go_iload 63 dX5_parseDigits_61 rfl rfl ?_
        refine go_if_le 66 70 dX5_parseDigits_63 rfl (by decide) (fun hc9 => absurd hc9 (by decide)) (fun _ => ?_)
        refine go_iconst 67 (1) dX5_parseDigits_66 rfl (by decide) ?_
        refine go_goto 71 dX5_parseDigits_67 (by decide) ?_
        refine go_ireturn dX5_parseDigits_71 rfl (by first | rfl | exact bi_nar) (Nat.le_of_ble_eq_true rfl) (Nat.le_of_ble_eq_true rfl) ?_
        exact ⟨congrArg (fun z => some (Value.int z)) (by unfold f_dig4; simp only [if_neg hc2, if_neg hc5, if_pos hc8]; try first | rfl | contradiction), congrArg hp (by unfold f_dig4; simp only [if_neg hc2, if_neg hc5, if_pos hc8]; try first | rfl | contradiction)⟩
      · have hd := okQ.dig ht hc8
        refine go_bipush 24 (10) dX5_parseDigits_22 rfl (by decide) ?_
        refine go_iload 26 dX5_parseDigits_24 rfl rfl ?_
        refine go_imul 27 dX5_parseDigits_26 rfl ?_
        refine go_aload_n 28 dX5_parseDigits_27 rfl rfl ?_
        refine g_callV 31 [] [.int _] dX5_parseDigits_28 rfl (ct_X5_peek _ ht) rfl sV_X5_parseDigits_40 rfl ly_55 rfl rfl (Nat.le_of_ble_eq_true rfl) (Nat.le_of_ble_eq_true rfl) (Nat.le_of_ble_eq_true rfl) ?_
        refine go_bipush 33 (48) dX5_parseDigits_31 rfl (by decide) ?_
        refine go_isub 34 dX5_parseDigits_33 rfl ?_
        refine go_iadd 35 dX5_parseDigits_34 rfl ?_
        refine go_istore 37 [(4, .int _), (5, .int _), (0, .ref 55), (1, .ref k), (2, .int _), (3, .int _)] dX5_parseDigits_35 rfl (Nat.le_of_ble_eq_true rfl) rfl ?_
        refine go_aload_n 38 dX5_parseDigits_37 rfl rfl ?_
        refine go_dup 39 dX5_parseDigits_38 rfl rfl ?_
        refine g_getI 42 dX5_parseDigits_39 rfl fF_RX5_15 ly_55 rfl ?_
        refine go_topi _ (rI_same _ _ _ _) ?_
        refine go_iconst 43 (1) dX5_parseDigits_42 rfl (by decide) ?_
        refine go_iadd 44 dX5_parseDigits_43 rfl ?_
        refine g_putI 47 dX5_parseDigits_44 rfl fF_RX5_15 ly_55 rfl (fun q hq => by cases hq; rfl) rfl rfl ?_
        replace ht := hd
        refine go_iinc 50 [(5, .int _), (4, .int _), (0, .ref 55), (1, .ref k), (2, .int _), (3, .int _)] (3) dX5_parseDigits_47 rfl (Nat.le_of_ble_eq_true rfl) rfl (by decide) rfl ?_
        refine go_goto 6 dX5_parseDigits_50 (by decide) ?_
        refine go_iload 8 dX5_parseDigits_6 rfl rfl ?_
        refine go_iload_n 9 dX5_parseDigits_8 rfl rfl ?_
        refine go_icmp_ge 12 53 dX5_parseDigits_9 rfl (by decide) (fun hc10 => absurd hc10 (by decide)) (fun _ => ?_)
        refine go_aload_n 13 dX5_parseDigits_12 rfl rfl ?_
        refine g_callV 16 [] [] dX5_parseDigits_13 rfl (ct_X5_peek _ ht) rfl sV_X5_parseDigits_40 rfl ly_55 rfl rfl (Nat.le_of_ble_eq_true rfl) (Nat.le_of_ble_eq_true rfl) (Nat.le_of_ble_eq_true rfl) ?_
        refine g_callS 19 [.int _] [] dX5_parseDigits_16 rfl (ct_X5_isDigit _ _) rfl sV_X5_parseDigits_70 rfl (Nat.le_of_ble_eq_true rfl) (Nat.le_of_ble_eq_true rfl) (Nat.le_of_ble_eq_true rfl) ?_
        refine go_if_eq 22 53 dX5_parseDigits_19 rfl (by decide) (fun hc11 => ?_) (fun hc11 => ?_)
        · refine go_aload_n 54 dX5_parseDigits_53 rfl rfl ?_
          refine g_getR 57 dX5_parseDigits_54 rfl fF_RX5_62 hk.1 rfl ?_
          refine go_iload_n 58 dX5_parseDigits_57 rfl rfl ?_
          refine go_iload 60 dX5_parseDigits_58 rfl rfl ?_
          refine g_iast2 61 _ dX5_parseDigits_60 rfl hk.2 hi rfl ?_
          refine go_iload 63 dX5_parseDigits_61 rfl rfl ?_
          refine go_if_le 66 70 dX5_parseDigits_63 rfl (by decide) (fun hc12 => absurd hc12 (by decide)) (fun _ => ?_)
          refine go_iconst 67 (1) dX5_parseDigits_66 rfl (by decide) ?_
          refine go_goto 71 dX5_parseDigits_67 (by decide) ?_
          refine go_ireturn dX5_parseDigits_71 rfl (by first | rfl | exact bi_nar) (Nat.le_of_ble_eq_true rfl) (Nat.le_of_ble_eq_true rfl) ?_
          exact ⟨congrArg (fun z => some (Value.int z)) (by unfold f_dig4; simp only [if_neg hc2, if_neg hc5, if_neg hc8, if_pos hc11]; try first | rfl | contradiction), congrArg hp (by unfold f_dig4; simp only [if_neg hc2, if_neg hc5, if_neg hc8, if_pos hc11]; try first | rfl | contradiction)⟩
        · have hd := okQ.dig ht hc11
          refine go_bipush 24 (10) dX5_parseDigits_22 rfl (by decide) ?_
          refine go_iload 26 dX5_parseDigits_24 rfl rfl ?_
          refine go_imul 27 dX5_parseDigits_26 rfl ?_
          refine go_aload_n 28 dX5_parseDigits_27 rfl rfl ?_
          refine g_callV 31 [] [.int _] dX5_parseDigits_28 rfl (ct_X5_peek _ ht) rfl sV_X5_parseDigits_40 rfl ly_55 rfl rfl (Nat.le_of_ble_eq_true rfl) (Nat.le_of_ble_eq_true rfl) (Nat.le_of_ble_eq_true rfl) ?_
          refine go_bipush 33 (48) dX5_parseDigits_31 rfl (by decide) ?_
          refine go_isub 34 dX5_parseDigits_33 rfl ?_
          refine go_iadd 35 dX5_parseDigits_34 rfl ?_
          refine go_istore 37 [(4, .int _), (5, .int _), (0, .ref 55), (1, .ref k), (2, .int _), (3, .int _)] dX5_parseDigits_35 rfl (Nat.le_of_ble_eq_true rfl) rfl ?_
          refine go_aload_n 38 dX5_parseDigits_37 rfl rfl ?_
          refine go_dup 39 dX5_parseDigits_38 rfl rfl ?_
          refine g_getI 42 dX5_parseDigits_39 rfl fF_RX5_15 ly_55 rfl ?_
          refine go_topi _ (rI_same _ _ _ _) ?_
          refine go_iconst 43 (1) dX5_parseDigits_42 rfl (by decide) ?_
          refine go_iadd 44 dX5_parseDigits_43 rfl ?_
          refine g_putI 47 dX5_parseDigits_44 rfl fF_RX5_15 ly_55 rfl (fun q hq => by cases hq; rfl) rfl rfl ?_
          replace ht := hd
          refine go_iinc 50 [(5, .int _), (4, .int _), (0, .ref 55), (1, .ref k), (2, .int _), (3, .int _)] (4) dX5_parseDigits_47 rfl (Nat.le_of_ble_eq_true rfl) rfl (by decide) rfl ?_
          refine go_goto 6 dX5_parseDigits_50 (by decide) ?_
          refine go_iload 8 dX5_parseDigits_6 rfl rfl ?_
          refine go_iload_n 9 dX5_parseDigits_8 rfl rfl ?_
          refine go_icmp_ge 12 53 dX5_parseDigits_9 rfl (by decide) (fun _ => ?_) (fun hc13 => absurd hc13 (by decide))
          refine go_aload_n 54 dX5_parseDigits_53 rfl rfl ?_
          refine g_getR 57 dX5_parseDigits_54 rfl fF_RX5_62 hk.1 rfl ?_
          refine go_iload_n 58 dX5_parseDigits_57 rfl rfl ?_
          refine go_iload 60 dX5_parseDigits_58 rfl rfl ?_
          refine g_iast2 61 _ dX5_parseDigits_60 rfl hk.2 hi rfl ?_
          refine go_iload 63 dX5_parseDigits_61 rfl rfl ?_
          refine go_if_le 66 70 dX5_parseDigits_63 rfl (by decide) (fun hc14 => absurd hc14 (by decide)) (fun _ => ?_)
          refine go_iconst 67 (1) dX5_parseDigits_66 rfl (by decide) ?_
          refine go_goto 71 dX5_parseDigits_67 (by decide) ?_
          refine go_ireturn dX5_parseDigits_71 rfl (by first | rfl | exact bi_nar) (Nat.le_of_ble_eq_true rfl) (Nat.le_of_ble_eq_true rfl) ?_
          exact ⟨congrArg (fun z => some (Value.int z)) (by unfold f_dig4; simp only [if_neg hc2, if_neg hc5, if_neg hc8, if_neg hc11]; try first | rfl | contradiction), congrArg hp (by unfold f_dig4; simp only [if_neg hc2, if_neg hc5, if_neg hc8, if_neg hc11]; try first | rfl | contradiction)⟩
theorem fr_f_dig4 {k : Nat} {a0 c0 : Nat} (h55_1 : ¬ (a0 = 55 ∧ c0 = 1)) (hk1 : a0 ≠ (k + 1)) (S : gS) (i : Int32) : rI (f_dig4 S k i).2 a0 c0 = rI S a0 c0 := by
  unfold f_dig4
  first | (simp only [snd_ite, rI_ite, ite_self, rI_wIc h55_1, rI_wIk hk1, rI_wRk hk1]; done) | ((repeat' split) <;> first | rfl | simp only [rI_wIc h55_1, rI_wIk hk1, rI_wRk hk1])

theorem zo_f_dig4 (S : gS) (k : Nat) (i : Int32) : (f_dig4 S k i).1 = 0 ∨ (f_dig4 S k i).1 = 1 := by
  unfold f_dig4
  (repeat' split) <;> dsimp only <;> first | exact Or.inl rfl | exact Or.inr rfl
theorem nb_f_dig4 (S : gS) (k : Nat) (i : Int32) : narrow .boolean (.int (f_dig4 S k i).1) = .int (f_dig4 S k i).1 := by
  rcases zo_f_dig4 _ _ _ with e | e <;> rw [e] <;> rfl

theorem okQ.dig4 {S : gS} {k : Nat} (hk : itm k) (i : Int32) (ht : okQ S) : okQ (f_dig4 S k i).2 := by
  have h9 := (itm_ne hk).2
  have hw : ∀ (T : gS) (j : Nat) (v : Int32), okQ T → okQ (wI T (k + 1) j v) := fun T j v h => okQ.of h (fun c _ => rI_wIk (fun q => h9 q.symm) T j v)
  unfold f_dig4
  split
  · exact hw _ _ _ ht
  rename_i h1
  have ht1 := okQ.dig ht h1
  split
  · exact hw _ _ _ ht1
  rename_i h2
  have ht2 := okQ.dig ht1 h2
  split
  · exact hw _ _ _ ht2
  rename_i h3
  have ht3 := okQ.dig ht2 h3
  split
  · exact hw _ _ _ ht3
  rename_i h4
  exact hw _ _ _ (okQ.dig ht3 h4)
def f_X5_parseSignal (S : gS) (k : Nat) (i : Int32) : Int32 × gS := ((f_dig2 S k i).1, (f_dig2 S k i).2)
set_option maxRecDepth 100000 in
set_option maxHeartbeats 1000000 in
theorem ct_X5_parseSignal (S : gS) (k : Nat) (i : Int32) (hk : itm k) (hi : vp_in i 3) (ht : okQ S) : gF mX5_parseSignal [.ref 55, .ref k, .int i] S (some (.int (f_X5_parseSignal S k i).1)) (f_X5_parseSignal S k i).2 := by
  refine go_enter [.ref 55, .ref k, .int i] [(0, .ref 55), (1, .ref k), (2, .int i)] (by decide +kernel) rfl rfl (Nat.le_of_ble_eq_true rfl) rfl ?_
  refine go_aload_n 1 dX5_parseSignal_0 rfl rfl ?_
  refine go_aload_n 2 dX5_parseSignal_1 rfl rfl ?_
  refine go_iload_n 3 dX5_parseSignal_2 rfl rfl ?_
  refine go_iconst 4 (2) dX5_parseSignal_3 rfl (by decide) ?_
  refine g_callV 7 [.ref k, .int _, .int _] [] dX5_parseSignal_4 rfl (ct_dig2 _ _ _ hk hi ht) rfl sV_X5_parseSignal_66 rfl ly_55 rfl rfl (Nat.le_of_ble_eq_true rfl) (Nat.le_of_ble_eq_true rfl) (Nat.le_of_ble_eq_true rfl) ?_
  refine go_ireturn dX5_parseSignal_7 rfl (nb_f_dig2 _ _ _) (Nat.le_of_ble_eq_true rfl) (Nat.le_of_ble_eq_true rfl) ?_
  exact ⟨congrArg (fun z => some (Value.int z)) rfl, congrArg hp rfl⟩
theorem fr_f_X5_parseSignal {k : Nat} {a0 c0 : Nat} (h55_1 : ¬ (a0 = 55 ∧ c0 = 1)) (hk1 : a0 ≠ (k + 1)) (S : gS) (i : Int32) : rI (f_X5_parseSignal S k i).2 a0 c0 = rI S a0 c0 := by
  unfold f_X5_parseSignal
  first | (simp only [snd_ite, rI_ite, ite_self, rI_wIc h55_1, rI_wIk hk1, rI_wRk hk1, fr_f_dig2 h55_1 hk1]; done) | ((repeat' split) <;> first | rfl | simp only [rI_wIc h55_1, rI_wIk hk1, rI_wRk hk1, fr_f_dig2 h55_1 hk1] | (apply fr_f_dig2 <;> assumption))

theorem zo_f_X5_parseSignal (S : gS) (k : Nat) (i : Int32) : (f_X5_parseSignal S k i).1 = 0 ∨ (f_X5_parseSignal S k i).1 = 1 := by
  unfold f_X5_parseSignal
  (repeat' split) <;> dsimp only <;> first | exact zo_f_dig2 _ _ _ | exact Or.inl rfl | exact Or.inr rfl
theorem nb_f_X5_parseSignal (S : gS) (k : Nat) (i : Int32) : narrow .boolean (.int (f_X5_parseSignal S k i).1) = .int (f_X5_parseSignal S k i).1 := by
  rcases zo_f_X5_parseSignal _ _ _ with e | e <;> rw [e] <;> rfl

theorem okQ.sig {S : gS} {k : Nat} (hk : itm k) (i : Int32) (ht : okQ S) : okQ (f_X5_parseSignal S k i).2 := okQ.dig2 hk i ht
def f_X5_parseNumber (S : gS) (k : Nat) (i : Int32) : Int32 × gS := (if (f_X5_take S 45).1 = 0 then ((f_dig4 (f_X5_take S 45).2 k i).1, (f_dig4 (f_X5_take S 45).2 k i).2) else ((f_dig4 (f_X5_take S 45).2 k i).1, (wI (f_dig4 (f_X5_take S 45).2 k i).2 (k + 1) i.toNatClampNeg ((-(rI (f_dig4 (f_X5_take S 45).2 k i).2 (k + 1) i.toNatClampNeg))))))
set_option maxRecDepth 100000 in
set_option maxHeartbeats 1000000 in
theorem ct_X5_parseNumber (S : gS) (k : Nat) (i : Int32) (hk : itm k) (hi : vp_in i 3) (ht : okQ S) : gF mX5_parseNumber [.ref 55, .ref k, .int i] S (some (.int (f_X5_parseNumber S k i).1)) (f_X5_parseNumber S k i).2 := by
  refine go_enter [.ref 55, .ref k, .int i] [(0, .ref 55), (1, .ref k), (2, .int i)] (by decide +kernel) rfl rfl (Nat.le_of_ble_eq_true rfl) rfl ?_
  refine go_aload_n 1 dX5_parseNumber_0 rfl rfl ?_
  refine go_bipush 3 (45) dX5_parseNumber_1 rfl (by decide) ?_
  refine g_callV 6 [.int _] [] dX5_parseNumber_3 rfl (ct_X5_take _ _ ht) rfl sV_X5_parseNumber_36 rfl ly_55 rfl rfl (Nat.le_of_ble_eq_true rfl) (Nat.le_of_ble_eq_true rfl) (Nat.le_of_ble_eq_true rfl) ?_
  refine go_istore_n 7 [(3, .int _), (0, .ref 55), (1, .ref k), (2, .int _)] dX5_parseNumber_6 rfl (Nat.le_of_ble_eq_true rfl) rfl ?_
  refine go_aload_n 8 dX5_parseNumber_7 rfl rfl ?_
  refine go_aload_n 9 dX5_parseNumber_8 rfl rfl ?_
  refine go_iload_n 10 dX5_parseNumber_9 rfl rfl ?_
  refine go_iconst 11 (4) dX5_parseNumber_10 rfl (by decide) ?_
  refine g_callV 14 [.ref k, .int _, .int _] [] dX5_parseNumber_11 rfl (ct_dig4 _ _ _ hk hi (okQ.take ht (by decide))) rfl sV_X5_parseNumber_66 rfl ly_55 rfl rfl (Nat.le_of_ble_eq_true rfl) (Nat.le_of_ble_eq_true rfl) (Nat.le_of_ble_eq_true rfl) ?_
  refine go_istore 16 [(4, .int _), (3, .int _), (0, .ref 55), (1, .ref k), (2, .int _)] dX5_parseNumber_14 rfl (Nat.le_of_ble_eq_true rfl) rfl ?_
  refine go_iload_n 17 dX5_parseNumber_16 rfl rfl ?_
  refine go_if_eq 20 33 dX5_parseNumber_17 rfl (by decide) (fun hc1 => ?_) (fun hc1 => ?_)
  · refine go_iload 35 dX5_parseNumber_33 rfl rfl ?_
    refine go_ireturn dX5_parseNumber_35 rfl (nb_f_dig4 _ _ _) (Nat.le_of_ble_eq_true rfl) (Nat.le_of_ble_eq_true rfl) ?_
    exact ⟨congrArg (fun z => some (Value.int z)) (by unfold f_X5_parseNumber; simp only [if_pos hc1]; try first | rfl | contradiction), congrArg hp (by unfold f_X5_parseNumber; simp only [if_pos hc1]; try first | rfl | contradiction)⟩
  · refine go_aload_n 21 dX5_parseNumber_20 rfl rfl ?_
    refine g_getR 24 dX5_parseNumber_21 rfl fF_RX5_62 hk.1 rfl ?_
    refine go_iload_n 25 dX5_parseNumber_24 rfl rfl ?_
    refine go_aload_n 26 dX5_parseNumber_25 rfl rfl ?_
    refine g_getR 29 dX5_parseNumber_26 rfl fF_RX5_62 hk.1 rfl ?_
    refine go_iload_n 30 dX5_parseNumber_29 rfl rfl ?_
    refine g_iald2 31 _ dX5_parseNumber_30 rfl hk.2 hi rfl ?_
    refine go_ineg 32 dX5_parseNumber_31 rfl ?_
    refine g_iast2 33 _ dX5_parseNumber_32 rfl hk.2 hi rfl ?_
    refine go_iload 35 dX5_parseNumber_33 rfl rfl ?_
    refine go_ireturn dX5_parseNumber_35 rfl (nb_f_dig4 _ _ _) (Nat.le_of_ble_eq_true rfl) (Nat.le_of_ble_eq_true rfl) ?_
    exact ⟨congrArg (fun z => some (Value.int z)) (by unfold f_X5_parseNumber; simp only [if_neg hc1]; try first | rfl | contradiction), congrArg hp (by unfold f_X5_parseNumber; simp only [if_neg hc1]; try first | rfl | contradiction)⟩
theorem fr_f_X5_parseNumber {k : Nat} {a0 c0 : Nat} (h55_1 : ¬ (a0 = 55 ∧ c0 = 1)) (hk1 : a0 ≠ (k + 1)) (S : gS) (i : Int32) : rI (f_X5_parseNumber S k i).2 a0 c0 = rI S a0 c0 := by
  unfold f_X5_parseNumber
  first | (simp only [snd_ite, rI_ite, ite_self, rI_wIc h55_1, rI_wIk hk1, rI_wRk hk1, fr_f_X5_take h55_1, fr_f_dig4 h55_1 hk1]; done) | ((repeat' split) <;> first | rfl | simp only [rI_wIc h55_1, rI_wIk hk1, rI_wRk hk1, fr_f_X5_take h55_1, fr_f_dig4 h55_1 hk1] | (apply fr_f_X5_take <;> assumption) | (apply fr_f_dig4 <;> assumption))

theorem zo_f_X5_parseNumber (S : gS) (k : Nat) (i : Int32) : (f_X5_parseNumber S k i).1 = 0 ∨ (f_X5_parseNumber S k i).1 = 1 := by
  unfold f_X5_parseNumber
  (repeat' split) <;> dsimp only <;> first | exact zo_f_dig4 _ _ _ | exact Or.inl rfl | exact Or.inr rfl
theorem nb_f_X5_parseNumber (S : gS) (k : Nat) (i : Int32) : narrow .boolean (.int (f_X5_parseNumber S k i).1) = .int (f_X5_parseNumber S k i).1 := by
  rcases zo_f_X5_parseNumber _ _ _ with e | e <;> rw [e] <;> rfl

theorem okQ.num {S : gS} {k : Nat} (hk : itm k) (i : Int32) (ht : okQ S) : okQ (f_X5_parseNumber S k i).2 := by
  have h9 := (itm_ne hk).2
  have h1 := okQ.dig4 hk i (okQ.take ht (w := 45) (by decide))
  unfold f_X5_parseNumber
  split
  · exact h1
  · exact okQ.of h1 (fun c _ => rI_wIk (fun q => h9 q.symm) _ _ _)
theorem okQ.bec {S : gS} {k : Nat} (hk : itm k) (kd a b c : Int32) (ht : okQ S) : okQ (f_X2_become S k kd a b c) := okQ.of ht (fun c _ => fr_f_X2_become (fun q => (itm_ne hk).1 q.1.symm) (fun q => (itm_ne hk).2 q.symm) _ _ _ _ _)
