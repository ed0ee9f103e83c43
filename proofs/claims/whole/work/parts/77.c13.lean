-- needs 
/-! contracts of the reference in the form of the walker that writes its defs -/
def ibF (v lo hi : Int64) : Int32 := bi (lo ≤ v ∧ v ≤ hi)
theorem ct_ib (S : gS) (v lo hi : Int64) : gF mX9_isBetween [.long v, .long lo, .long hi] S (some (.int (ibF v lo hi))) S := ct_X9_isBetween S v lo hi
def flF (S : gS) (c : Int32) : Int32 × gS := (0, wI S 115 0 c)
theorem ct_fl (S : gS) (c : Int32) : gF mX9_fails [.ref 115, .int c] S (some (.int (flF S c).1)) (flF S c).2 := ct_X9_fails S c
theorem fr_flF {a0 c0 : Nat} (h115_0 : ¬ (a0 = 115 ∧ c0 = 0)) (S : gS) (c : Int32) : rI (flF S c).2 a0 c0 = rI S a0 c0 := rI_wIc h115_0 _ _
def isF (S : gS) (s : Int32) : Int32 := bi (0 ≤ s ∧ s < rI S 115 10)
theorem ct_is (S : gS) (s : Int32) : gF mX9_isSignal [.ref 115, .int s] S (some (.int (isF S s))) S := ct_X9_isSignal S s
def bsG (S : gS) (kind a c d : Int32) : Int32 := bsF (rI S 115 10) kind a c d
theorem ct_bs (S : gS) (kind a c d : Int32) : gF mX9_badSignal [.ref 115, .int kind, .int a, .int c, .int d] S (some (.int (bsG S kind a c d))) S := ct_X9_badSignal S kind a c d
def f_X9_feed (S : gS) (c : Int32) : Int32 × gS := (if (rI S 115 34) = 80 then ((flF S 1).1, (flF S 1).2) else (((rI S 115 34) + 1), (wI (wI (wI S 115 0 0) 137 ((rI S 115 34)).toNatClampNeg c) 115 34 (((rI S 115 34) + 1)))))
set_option maxRecDepth 100000 in
set_option maxHeartbeats 1000000 in
theorem ct_X9_feed (S : gS) (c : Int32) (hl : ¬ rI S 115 34 = 80 → vp_in (rI S 115 34) 80) : gF mX9_feed [.ref 115, .int c] S (some (.int (f_X9_feed S c).1)) (f_X9_feed S c).2 := by
  refine go_enter [.ref 115, .int c] [(0, .ref 115), (1, .int c)] (by decide +kernel) rfl rfl (Nat.le_of_ble_eq_true rfl) rfl ?_
  refine go_aload_n 1 dX9_feed_0 rfl rfl ?_
  refine g_getI 4 dX9_feed_1 rfl fF_RX9_295 ly_115 rfl ?_
  refine go_bipush 6 (80) dX9_feed_4 rfl (by decide) ?_
  refine go_icmp_ne 9 15 dX9_feed_6 rfl (by decide) (fun hc1 => ?_) (fun hc1 => ?_)
  · refine go_aload_n 16 dX9_feed_15 rfl rfl ?_
    refine go_iconst 17 (0) dX9_feed_16 rfl (by decide) ?_
    refine g_putI 20 dX9_feed_17 rfl fF_RX9_98 ly_115 rfl (fun q hq => by cases hq; rfl) rfl rfl ?_
    refine go_aload_n 21 dX9_feed_20 rfl rfl ?_
    refine g_getR 24 dX9_feed_21 rfl fF_RX9_74 ly_115 rfl ?_
    refine go_aload_n 25 dX9_feed_24 rfl rfl ?_
    refine g_getI 28 dX9_feed_25 rfl fF_RX9_295 ly_115 rfl ?_
    refine go_topi (rI S 115 34) (rI_wIc (by decide) _ _) ?_
    refine go_iload_n 29 dX9_feed_28 rfl rfl ?_
    refine g_iast2 30 _ dX9_feed_29 rfl ly_137 (hl hc1) rfl ?_
    refine go_aload_n 31 dX9_feed_30 rfl rfl ?_
    refine go_dup 32 dX9_feed_31 rfl rfl ?_
    refine g_getI 35 dX9_feed_32 rfl fF_RX9_295 ly_115 rfl ?_
    refine go_topi (rI S 115 34) ((rI_wIk (by decide) _ _ _).trans (rI_wIc (by decide) _ _)) ?_
    refine go_iconst 36 (1) dX9_feed_35 rfl (by decide) ?_
    refine go_iadd 37 dX9_feed_36 rfl ?_
    refine g_putI 40 dX9_feed_37 rfl fF_RX9_295 ly_115 rfl (fun q hq => by cases hq; rfl) rfl rfl ?_
    refine go_aload_n 41 dX9_feed_40 rfl rfl ?_
    refine g_getI 44 dX9_feed_41 rfl fF_RX9_295 ly_115 rfl ?_
    refine go_topi _ (rI_same _ _ _ _) ?_
    refine go_ireturn dX9_feed_44 rfl (by first | rfl | exact bi_nar) (Nat.le_of_ble_eq_true rfl) (Nat.le_of_ble_eq_true rfl) ?_
    exact ⟨congrArg (fun z => some (Value.int z)) (by unfold f_X9_feed; simp only [if_neg hc1]; try first | rfl | contradiction), congrArg hp (by unfold f_X9_feed; simp only [if_neg hc1]; try first | rfl | contradiction)⟩
  · refine go_aload_n 10 dX9_feed_9 rfl rfl ?_
    refine go_iconst 11 (1) dX9_feed_10 rfl (by decide) ?_
    refine g_callV 14 [.int _] [] dX9_feed_11 rfl (ct_fl _ _) rfl sV_X9_feed_132 rfl ly_115 rfl rfl (Nat.le_of_ble_eq_true rfl) (Nat.le_of_ble_eq_true rfl) (Nat.le_of_ble_eq_true rfl) ?_
    refine go_ireturn dX9_feed_14 rfl (by first | rfl | exact bi_nar) (Nat.le_of_ble_eq_true rfl) (Nat.le_of_ble_eq_true rfl) ?_
    exact ⟨congrArg (fun z => some (Value.int z)) (by unfold f_X9_feed; simp only [if_pos hc1]; try first | rfl | contradiction), congrArg hp (by unfold f_X9_feed; simp only [if_pos hc1]; try first | rfl | contradiction)⟩
theorem fr_f_X9_feed {a0 c0 : Nat} (h115_0 : ¬ (a0 = 115 ∧ c0 = 0)) (h115_34 : ¬ (a0 = 115 ∧ c0 = 34)) (h115_0 : ¬ (a0 = 115 ∧ c0 = 0)) (h137 : a0 ≠ 137) (S : gS) (c : Int32) : rI (f_X9_feed S c).2 a0 c0 = rI S a0 c0 := by
  unfold f_X9_feed
  first | (simp only [snd_ite, rI_ite, ite_self, rI_wIc h115_0, rI_wIc h115_34, rI_wIc h115_0, rI_wIk h137, rI_wRk h137, fr_flF h115_0]; done) | ((repeat' split) <;> first | rfl | simp only [rI_wIc h115_0, rI_wIc h115_34, rI_wIc h115_0, rI_wIk h137, rI_wRk h137, fr_flF h115_0] | (apply fr_flF <;> assumption))

def f_X9_isDigit (S : gS)  : Int32 := (if (rI S 115 34) ≤ (rI S 115 35) then 0 else (if (ibF (((rI S 137 ((rI S 115 35)).toNatClampNeg)).toInt64) ((48 : Int64)) ((57 : Int64))) = 0 then 0 else 1))
set_option maxRecDepth 100000 in
set_option maxHeartbeats 1000000 in
theorem ct_X9_isDigit (S : gS)  (ht : okT S) : gF mX9_isDigit [.ref 115] S (some (.int (f_X9_isDigit S))) S := by
  refine go_enter [.ref 115] [(0, .ref 115)] (by decide +kernel) rfl rfl (Nat.le_of_ble_eq_true rfl) rfl ?_
  refine go_aload_n 1 dX9_isDigit_0 rfl rfl ?_
  refine g_getI 4 dX9_isDigit_1 rfl fF_RX9_298 ly_115 rfl ?_
  refine go_aload_n 5 dX9_isDigit_4 rfl rfl ?_
  refine g_getI 8 dX9_isDigit_5 rfl fF_RX9_295 ly_115 rfl ?_
  refine go_icmp_ge 11 37 dX9_isDigit_8 rfl (by decide) (fun hc1 => ?_) (fun hc1 => ?_)
  · refine go_iconst 38 (0) dX9_isDigit_37 rfl (by decide) ?_
    refine go_ireturn dX9_isDigit_38 rfl (by first | rfl | exact bi_nar) (Nat.le_of_ble_eq_true rfl) (Nat.le_of_ble_eq_true rfl) ?_
    exact ⟨congrArg (fun z => some (Value.int z)) (by unfold f_X9_isDigit; simp only [if_pos hc1]; try first | rfl | contradiction), rfl⟩
  · refine go_aload_n 12 dX9_isDigit_11 rfl rfl ?_
    refine g_getR 15 dX9_isDigit_12 rfl fF_RX9_74 ly_115 rfl ?_
    refine go_aload_n 16 dX9_isDigit_15 rfl rfl ?_
    refine g_getI 19 dX9_isDigit_16 rfl fF_RX9_298 ly_115 rfl ?_
    refine g_iald2 20 _ dX9_isDigit_19 rfl ly_137 (okT.in1 ht (Int32.not_le.mp hc1)) rfl ?_
    refine go_i2l 21 dX9_isDigit_20 rfl ?_
    refine go_ldc2 24 (48) dX9_isDigit_21 rfl wK_RX9_301 ?_
    refine go_ldc2 27 (57) dX9_isDigit_24 rfl wK_RX9_303 ?_
    refine g_callS 30 [.long _, .long _, .long _] [] dX9_isDigit_27 rfl (ct_ib _ _ _ _) rfl sV_X9_isDigit_109 rfl (Nat.le_of_ble_eq_true rfl) (Nat.le_of_ble_eq_true rfl) (Nat.le_of_ble_eq_true rfl) ?_
    refine go_if_eq 33 37 dX9_isDigit_30 rfl (by decide) (fun hc2 => ?_) (fun hc2 => ?_)
    · refine go_iconst 38 (0) dX9_isDigit_37 rfl (by decide) ?_
      refine go_ireturn dX9_isDigit_38 rfl (by first | rfl | exact bi_nar) (Nat.le_of_ble_eq_true rfl) (Nat.le_of_ble_eq_true rfl) ?_
      exact ⟨congrArg (fun z => some (Value.int z)) (by unfold f_X9_isDigit; simp only [if_neg hc1, if_pos hc2]; try first | rfl | contradiction), rfl⟩
    · refine go_iconst 34 (1) dX9_isDigit_33 rfl (by decide) ?_
      refine go_goto 38 dX9_isDigit_34 (by decide) ?_
      refine go_ireturn dX9_isDigit_38 rfl (by first | rfl | exact bi_nar) (Nat.le_of_ble_eq_true rfl) (Nat.le_of_ble_eq_true rfl) ?_
      exact ⟨congrArg (fun z => some (Value.int z)) (by unfold f_X9_isDigit; simp only [if_neg hc1, if_neg hc2]; try first | rfl | contradiction), rfl⟩

def f_X9_skips (S : gS) (c : Int32) : Int32 × gS := (if (rI S 115 35) = (rI S 115 34) then (0, S) else (if (rI S 137 ((rI S 115 35)).toNatClampNeg) = c then (1, (wI S 115 35 (((rI S 115 35) + 1)))) else (0, S)))
set_option maxRecDepth 100000 in
set_option maxHeartbeats 1000000 in
theorem ct_X9_skips (S : gS) (c : Int32) (ht : okT S) : gF mX9_skips [.ref 115, .int c] S (some (.int (f_X9_skips S c).1)) (f_X9_skips S c).2 := by
  refine go_enter [.ref 115, .int c] [(0, .ref 115), (1, .int c)] (by decide +kernel) rfl rfl (Nat.le_of_ble_eq_true rfl) rfl ?_
  refine go_aload_n 1 dX9_skips_0 rfl rfl ?_
  refine g_getI 4 dX9_skips_1 rfl fF_RX9_298 ly_115 rfl ?_
  refine go_aload_n 5 dX9_skips_4 rfl rfl ?_
  refine g_getI 8 dX9_skips_5 rfl fF_RX9_295 ly_115 rfl ?_
  refine go_icmp_eq 11 24 dX9_skips_8 rfl (by decide) (fun hc1 => ?_) (fun hc1 => ?_)
  · refine go_iconst 25 (0) dX9_skips_24 rfl (by decide) ?_
    refine go_ireturn dX9_skips_25 rfl (by first | rfl | exact bi_nar) (Nat.le_of_ble_eq_true rfl) (Nat.le_of_ble_eq_true rfl) ?_
    exact ⟨congrArg (fun z => some (Value.int z)) (by unfold f_X9_skips; simp only [if_pos hc1]; try first | rfl | contradiction), congrArg hp (by unfold f_X9_skips; simp only [if_pos hc1]; try first | rfl | contradiction)⟩
  · refine go_aload_n 12 dX9_skips_11 rfl rfl ?_
    refine g_getR 15 dX9_skips_12 rfl fF_RX9_74 ly_115 rfl ?_
    refine go_aload_n 16 dX9_skips_15 rfl rfl ?_
    refine g_getI 19 dX9_skips_16 rfl fF_RX9_298 ly_115 rfl ?_
    refine g_iald2 20 _ dX9_skips_19 rfl ly_137 (okT.in1 ht (okT.lt ht hc1)) rfl ?_
    refine go_iload_n 21 dX9_skips_20 rfl rfl ?_
    refine go_icmp_eq 24 26 dX9_skips_21 rfl (by decide) (fun hc2 => ?_) (fun hc2 => ?_)
    · refine go_aload_n 27 dX9_skips_26 rfl rfl ?_
      refine go_dup 28 dX9_skips_27 rfl rfl ?_
      refine g_getI 31 dX9_skips_28 rfl fF_RX9_298 ly_115 rfl ?_
      refine go_iconst 32 (1) dX9_skips_31 rfl (by decide) ?_
      refine go_iadd 33 dX9_skips_32 rfl ?_
      refine g_putI 36 dX9_skips_33 rfl fF_RX9_298 ly_115 rfl (fun q hq => by cases hq; rfl) rfl rfl ?_
      refine go_iconst 37 (1) dX9_skips_36 rfl (by decide) ?_
      refine go_ireturn dX9_skips_37 rfl (by first | rfl | exact bi_nar) (Nat.le_of_ble_eq_true rfl) (Nat.le_of_ble_eq_true rfl) ?_
      exact ⟨congrArg (fun z => some (Value.int z)) (by unfold f_X9_skips; simp only [if_neg hc1, if_pos hc2]; try first | rfl | contradiction), congrArg hp (by unfold f_X9_skips; simp only [if_neg hc1, if_pos hc2]; try first | rfl | contradiction)⟩
    · refine go_iconst 25 (0) dX9_skips_24 rfl (by decide) ?_
      refine go_ireturn dX9_skips_25 rfl (by first | rfl | exact bi_nar) (Nat.le_of_ble_eq_true rfl) (Nat.le_of_ble_eq_true rfl) ?_
      exact ⟨congrArg (fun z => some (Value.int z)) (by unfold f_X9_skips; simp only [if_neg hc1, if_neg hc2]; try first | rfl | contradiction), congrArg hp (by unfold f_X9_skips; simp only [if_neg hc1, if_neg hc2]; try first | rfl | contradiction)⟩
theorem fr_f_X9_skips {a0 c0 : Nat} (h115_35 : ¬ (a0 = 115 ∧ c0 = 35)) (S : gS) (c : Int32) : rI (f_X9_skips S c).2 a0 c0 = rI S a0 c0 := by
  unfold f_X9_skips
  first | (simp only [snd_ite, rI_ite, ite_self, rI_wIc h115_35]; done) | ((repeat' split) <;> first | rfl | simp only [rI_wIc h115_35])

theorem okT.dgl {S : gS} (h : ¬ f_X9_isDigit S = 0) : rI S 115 35 < rI S 115 34 := by
  unfold f_X9_isDigit at h
  by_cases q : rI S 115 34 ≤ rI S 115 35
  · rw [if_pos q] at h
    exact absurd rfl h
  · exact Int32.not_le.mp q
theorem okT.dig {S : gS} (ht : okT S) (h : ¬ f_X9_isDigit S = 0) : okT (wI S 115 35 (rI S 115 35 + 1)) := okT.at ht (okT.dgl h)
theorem okT.dgi {S : gS} (ht : okT S) (h : ¬ f_X9_isDigit S = 0) : vp_in (rI S 115 35) 80 := okT.in1 ht (okT.dgl h)
theorem okT.sk {S : gS} (ht : okT S) {c : Int32} : okT (f_X9_skips S c).2 := by
  unfold f_X9_skips
  split
  · exact ht
  · rename_i q
    split
    · exact okT.at ht (okT.lt ht q)
    · exact ht
def f_X9_kindOf (v : Int32) : Int32 := (if v = 38 then 6 else (if v = 42 then 5 else (if v = 43 then 3 else (if v = 45 then 4 else (if v = 60 then 11 else (if v = 63 then 12 else (if v = 94 then 8 else (if v = 104 then 10 else (if v = 108 then 9 else (if v = 124 then 7 else (-1)))))))))))
set_option maxRecDepth 100000 in
set_option maxHeartbeats 1000000 in
theorem ct_X9_kindOf (S : gS) (v : Int32)  : gF mX9_kindOf [.int v] S (some (.int (f_X9_kindOf v))) S := by
  refine go_enter [.int v] [(0, .int v)] (by decide +kernel) rfl rfl (Nat.le_of_ble_eq_true rfl) rfl ?_
  refine go_iload_n 1 dX9_kindOf_0 rfl rfl ?_
  refine go_lookS [(38, 98), (42, 96), (43, 92), (45, 94), (60, 113), (63, 116), (94, 104), (104, 110), (108, 107), (124, 101)] 119 dX9_kindOf_1 (by decide) (by decide) (by decide) (List.forall_mem_cons.mpr ⟨fun hc1 => ?_, List.forall_mem_cons.mpr ⟨fun hc1 => ?_, List.forall_mem_cons.mpr ⟨fun hc1 => ?_, List.forall_mem_cons.mpr ⟨fun hc1 => ?_, List.forall_mem_cons.mpr ⟨fun hc1 => ?_, List.forall_mem_cons.mpr ⟨fun hc1 => ?_, List.forall_mem_cons.mpr ⟨fun hc1 => ?_, List.forall_mem_cons.mpr ⟨fun hc1 => ?_, List.forall_mem_cons.mpr ⟨fun hc1 => ?_, List.forall_mem_cons.mpr ⟨fun hc1 => ?_, fun _ h => absurd h List.not_mem_nil⟩⟩⟩⟩⟩⟩⟩⟩⟩⟩) (fun hc1 => ?_)
  · have hc1 : v = 38 := hc1
    refine go_bipush 100 (6) dX9_kindOf_98 rfl (by decide) ?_
    refine go_ireturn dX9_kindOf_100 rfl (by first | rfl | exact bi_nar) (Nat.le_of_ble_eq_true rfl) (Nat.le_of_ble_eq_true rfl) ?_
    exact ⟨congrArg (fun z => some (Value.int z)) (by unfold f_X9_kindOf; simp only [if_pos hc1]; try first | rfl | contradiction), rfl⟩
  · have hc1 : v = 42 := hc1
    have hc1_0 : ¬ v = 38 := by rw [hc1]; decide
    refine go_iconst 97 (5) dX9_kindOf_96 rfl (by decide) ?_
    refine go_ireturn dX9_kindOf_97 rfl (by first | rfl | exact bi_nar) (Nat.le_of_ble_eq_true rfl) (Nat.le_of_ble_eq_true rfl) ?_
    exact ⟨congrArg (fun z => some (Value.int z)) (by unfold f_X9_kindOf; simp only [if_neg hc1_0, if_pos hc1]; try first | rfl | contradiction), rfl⟩
  · have hc1 : v = 43 := hc1
    have hc1_0 : ¬ v = 38 := by rw [hc1]; decide
    have hc1_1 : ¬ v = 42 := by rw [hc1]; decide
    refine go_iconst 93 (3) dX9_kindOf_92 rfl (by decide) ?_
    refine go_ireturn dX9_kindOf_93 rfl (by first | rfl | exact bi_nar) (Nat.le_of_ble_eq_true rfl) (Nat.le_of_ble_eq_true rfl) ?_
    exact ⟨congrArg (fun z => some (Value.int z)) (by unfold f_X9_kindOf; simp only [if_neg hc1_0, if_neg hc1_1, if_pos hc1]; try first | rfl | contradiction), rfl⟩
  · have hc1 : v = 45 := hc1
    have hc1_0 : ¬ v = 38 := by rw [hc1]; decide
    have hc1_1 : ¬ v = 42 := by rw [hc1]; decide
    have hc1_2 : ¬ v = 43 := by rw [hc1]; decide
    refine go_iconst 95 (4) dX9_kindOf_94 rfl (by decide) ?_
    refine go_ireturn dX9_kindOf_95 rfl (by first | rfl | exact bi_nar) (Nat.le_of_ble_eq_true rfl) (Nat.le_of_ble_eq_true rfl) ?_
    exact ⟨congrArg (fun z => some (Value.int z)) (by unfold f_X9_kindOf; simp only [if_neg hc1_0, if_neg hc1_1, if_neg hc1_2, if_pos hc1]; try first | rfl | contradiction), rfl⟩
  · have hc1 : v = 60 := hc1
    have hc1_0 : ¬ v = 38 := by rw [hc1]; decide
    have hc1_1 : ¬ v = 42 := by rw [hc1]; decide
    have hc1_2 : ¬ v = 43 := by rw [hc1]; decide
    have hc1_3 : ¬ v = 45 := by rw [hc1]; decide
    refine go_bipush 115 (11) dX9_kindOf_113 rfl (by decide) ?_
    refine go_ireturn dX9_kindOf_115 rfl (by first | rfl | exact bi_nar) (Nat.le_of_ble_eq_true rfl) (Nat.le_of_ble_eq_true rfl) ?_
    exact ⟨congrArg (fun z => some (Value.int z)) (by unfold f_X9_kindOf; simp only [if_neg hc1_0, if_neg hc1_1, if_neg hc1_2, if_neg hc1_3, if_pos hc1]; try first | rfl | contradiction), rfl⟩
  · have hc1 : v = 63 := hc1
    have hc1_0 : ¬ v = 38 := by rw [hc1]; decide
    have hc1_1 : ¬ v = 42 := by rw [hc1]; decide
    have hc1_2 : ¬ v = 43 := by rw [hc1]; decide
    have hc1_3 : ¬ v = 45 := by rw [hc1]; decide
    have hc1_4 : ¬ v = 60 := by rw [hc1]; decide
    refine go_bipush 118 (12) dX9_kindOf_116 rfl (by decide) ?_
    refine go_ireturn dX9_kindOf_118 rfl (by first | rfl | exact bi_nar) (Nat.le_of_ble_eq_true rfl) (Nat.le_of_ble_eq_true rfl) ?_
    exact ⟨congrArg (fun z => some (Value.int z)) (by unfold f_X9_kindOf; simp only [if_neg hc1_0, if_neg hc1_1, if_neg hc1_2, if_neg hc1_3, if_neg hc1_4, if_pos hc1]; try first | rfl | contradiction), rfl⟩
  · have hc1 : v = 94 := hc1
    have hc1_0 : ¬ v = 38 := by rw [hc1]; decide
    have hc1_1 : ¬ v = 42 := by rw [hc1]; decide
    have hc1_2 : ¬ v = 43 := by rw [hc1]; decide
    have hc1_3 : ¬ v = 45 := by rw [hc1]; decide
    have hc1_4 : ¬ v = 60 := by rw [hc1]; decide
    have hc1_5 : ¬ v = 63 := by rw [hc1]; decide
    refine go_bipush 106 (8) dX9_kindOf_104 rfl (by decide) ?_
    refine go_ireturn dX9_kindOf_106 rfl (by first | rfl | exact bi_nar) (Nat.le_of_ble_eq_true rfl) (Nat.le_of_ble_eq_true rfl) ?_
    exact ⟨congrArg (fun z => some (Value.int z)) (by unfold f_X9_kindOf; simp only [if_neg hc1_0, if_neg hc1_1, if_neg hc1_2, if_neg hc1_3, if_neg hc1_4, if_neg hc1_5, if_pos hc1]; try first | rfl | contradiction), rfl⟩
  · have hc1 : v = 104 := hc1
    have hc1_0 : ¬ v = 38 := by rw [hc1]; decide
    have hc1_1 : ¬ v = 42 := by rw [hc1]; decide
    have hc1_2 : ¬ v = 43 := by rw [hc1]; decide
    have hc1_3 : ¬ v = 45 := by rw [hc1]; decide
    have hc1_4 : ¬ v = 60 := by rw [hc1]; decide
    have hc1_5 : ¬ v = 63 := by rw [hc1]; decide
    have hc1_6 : ¬ v = 94 := by rw [hc1]; decide
    refine go_bipush 112 (10) dX9_kindOf_110 rfl (by decide) ?_
    refine go_ireturn dX9_kindOf_112 rfl (by first | rfl | exact bi_nar) (Nat.le_of_ble_eq_true rfl) (Nat.le_of_ble_eq_true rfl) ?_
    exact ⟨congrArg (fun z => some (Value.int z)) (by unfold f_X9_kindOf; simp only [if_neg hc1_0, if_neg hc1_1, if_neg hc1_2, if_neg hc1_3, if_neg hc1_4, if_neg hc1_5, if_neg hc1_6, if_pos hc1]; try first | rfl | contradiction), rfl⟩
  · have hc1 : v = 108 := hc1
    have hc1_0 : ¬ v = 38 := by rw [hc1]; decide
    have hc1_1 : ¬ v = 42 := by rw [hc1]; decide
    have hc1_2 : ¬ v = 43 := by rw [hc1]; decide
    have hc1_3 : ¬ v = 45 := by rw [hc1]; decide
    have hc1_4 : ¬ v = 60 := by rw [hc1]; decide
    have hc1_5 : ¬ v = 63 := by rw [hc1]; decide
    have hc1_6 : ¬ v = 94 := by rw [hc1]; decide
    have hc1_7 : ¬ v = 104 := by rw [hc1]; decide
    refine go_bipush 109 (9) dX9_kindOf_107 rfl (by decide) ?_
    refine go_ireturn dX9_kindOf_109 rfl (by first | rfl | exact bi_nar) (Nat.le_of_ble_eq_true rfl) (Nat.le_of_ble_eq_true rfl) ?_
    exact ⟨congrArg (fun z => some (Value.int z)) (by unfold f_X9_kindOf; simp only [if_neg hc1_0, if_neg hc1_1, if_neg hc1_2, if_neg hc1_3, if_neg hc1_4, if_neg hc1_5, if_neg hc1_6, if_neg hc1_7, if_pos hc1]; try first | rfl | contradiction), rfl⟩
  · have hc1 : v = 124 := hc1
    have hc1_0 : ¬ v = 38 := by rw [hc1]; decide
    have hc1_1 : ¬ v = 42 := by rw [hc1]; decide
    have hc1_2 : ¬ v = 43 := by rw [hc1]; decide
    have hc1_3 : ¬ v = 45 := by rw [hc1]; decide
    have hc1_4 : ¬ v = 60 := by rw [hc1]; decide
    have hc1_5 : ¬ v = 63 := by rw [hc1]; decide
    have hc1_6 : ¬ v = 94 := by rw [hc1]; decide
    have hc1_7 : ¬ v = 104 := by rw [hc1]; decide
    have hc1_8 : ¬ v = 108 := by rw [hc1]; decide
    refine go_bipush 103 (7) dX9_kindOf_101 rfl (by decide) ?_
    refine go_ireturn dX9_kindOf_103 rfl (by first | rfl | exact bi_nar) (Nat.le_of_ble_eq_true rfl) (Nat.le_of_ble_eq_true rfl) ?_
    exact ⟨congrArg (fun z => some (Value.int z)) (by unfold f_X9_kindOf; simp only [if_neg hc1_0, if_neg hc1_1, if_neg hc1_2, if_neg hc1_3, if_neg hc1_4, if_neg hc1_5, if_neg hc1_6, if_neg hc1_7, if_neg hc1_8, if_pos hc1]; try first | rfl | contradiction), rfl⟩
  · have hc1_0 : ¬ v = 38 := hc1 (38, 98) (List.mem_of_getElem? (i := 0) rfl)
    have hc1_1 : ¬ v = 42 := hc1 (42, 96) (List.mem_of_getElem? (i := 1) rfl)
    have hc1_2 : ¬ v = 43 := hc1 (43, 92) (List.mem_of_getElem? (i := 2) rfl)
    have hc1_3 : ¬ v = 45 := hc1 (45, 94) (List.mem_of_getElem? (i := 3) rfl)
    have hc1_4 : ¬ v = 60 := hc1 (60, 113) (List.mem_of_getElem? (i := 4) rfl)
    have hc1_5 : ¬ v = 63 := hc1 (63, 116) (List.mem_of_getElem? (i := 5) rfl)
    have hc1_6 : ¬ v = 94 := hc1 (94, 104) (List.mem_of_getElem? (i := 6) rfl)
    have hc1_7 : ¬ v = 104 := hc1 (104, 110) (List.mem_of_getElem? (i := 7) rfl)
    have hc1_8 : ¬ v = 108 := hc1 (108, 107) (List.mem_of_getElem? (i := 8) rfl)
    have hc1_9 : ¬ v = 124 := hc1 (124, 101) (List.mem_of_getElem? (i := 9) rfl)
    clear hc1
    refine go_iconst 120 (-1) dX9_kindOf_119 rfl (by decide) ?_
    refine go_ireturn dX9_kindOf_120 rfl (by first | rfl | exact bi_nar) (Nat.le_of_ble_eq_true rfl) (Nat.le_of_ble_eq_true rfl) ?_
    exact ⟨congrArg (fun z => some (Value.int z)) (by unfold f_X9_kindOf; simp only [if_neg hc1_0, if_neg hc1_1, if_neg hc1_2, if_neg hc1_3, if_neg hc1_4, if_neg hc1_5, if_neg hc1_6, if_neg hc1_7, if_neg hc1_8, if_neg hc1_9]; try first | rfl | contradiction), rfl⟩

def f_rdg2 (S : gS)  : Int32 × gS := (if (f_X9_isDigit S) = 0 then ((-1), S) else (if (f_X9_isDigit (wI S 115 35 (((rI S 115 35) + 1)))) = 0 then ((((0 : Int32) + (rI S 137 ((rI S 115 35)).toNatClampNeg)) - 48), (wI S 115 35 (((rI S 115 35) + 1)))) else (if (0 : Int32) ≤ (((0 : Int32) + (rI S 137 ((rI S 115 35)).toNatClampNeg)) - 48) then (((((10 : Int32) * (((0 : Int32) + (rI S 137 ((rI S 115 35)).toNatClampNeg)) - 48)) + (rI S 137 (((rI S 115 35) + 1)).toNatClampNeg)) - 48), (wI (wI S 115 35 (((rI S 115 35) + 1))) 115 35 ((((rI S 115 35) + 1) + 1)))) else ((((0 : Int32) + (rI S 137 (((rI S 115 35) + 1)).toNatClampNeg)) - 48), (wI (wI S 115 35 (((rI S 115 35) + 1))) 115 35 ((((rI S 115 35) + 1) + 1)))))))
set_option maxRecDepth 100000 in
set_option maxHeartbeats 1000000 in
theorem ct_rdg2 (S : gS)  (ht : okT S) : gF mX9_digits [.ref 115, .int 2] S (some (.int (f_rdg2 S).1)) (f_rdg2 S).2 := by
  refine go_enter [.ref 115, .int 2] [(0, .ref 115), (1, .int 2)] (by decide +kernel) rfl rfl (Nat.le_of_ble_eq_true rfl) rfl ?_
  refine go_iconst 1 (-1) dX9_digits_0 rfl (by decide) ?_
  refine go_istore_n 2 [(2, .int _), (0, .ref 115), (1, .int _)] dX9_digits_1 rfl (Nat.le_of_ble_eq_true rfl) rfl ?_
  refine go_iconst 3 (0) dX9_digits_2 rfl (by decide) ?_
  refine go_istore_n 4 [(3, .int _), (2, .int _), (0, .ref 115), (1, .int _)] dX9_digits_3 rfl (Nat.le_of_ble_eq_true rfl) rfl ?_
  refine go_iload_n 5 dX9_digits_4 rfl rfl ?_
  refine go_iload_n 6 dX9_digits_5 rfl rfl ?_
  refine go_icmp_ge 9 58 dX9_digits_6 rfl (by decide) (fun hc1 => absurd hc1 (by decide)) (fun _ => ?_)
  refine go_aload_n 10 dX9_digits_9 rfl rfl ?_
  refine g_callV 13 [] [] dX9_digits_10 rfl (ct_X9_isDigit _ ht) rfl sV_X9_digits_305 rfl ly_115 rfl rfl (Nat.le_of_ble_eq_true rfl) (Nat.le_of_ble_eq_true rfl) (Nat.le_of_ble_eq_true rfl) ?_
  refine go_if_eq 16 58 dX9_digits_13 rfl (by decide) (fun hc2 => ?_) (fun hc2 => ?_)
  · refine go_iload_n 59 dX9_digits_58 rfl rfl ?_
    refine go_ireturn dX9_digits_59 rfl (by first | rfl | exact bi_nar) (Nat.le_of_ble_eq_true rfl) (Nat.le_of_ble_eq_true rfl) ?_
    exact ⟨congrArg (fun z => some (Value.int z)) (by unfold f_rdg2; simp only [if_pos hc2]; try first | rfl | contradiction), congrArg hp (by unfold f_rdg2; simp only [if_pos hc2]; try first | rfl | contradiction)⟩
  · have hd := okT.dig ht hc2
    have hix := okT.dgi ht hc2
    refine go_iload_n 17 dX9_digits_16 rfl rfl ?_
    refine go_if_ge 20 24 dX9_digits_17 rfl (by decide) (fun hc3 => absurd hc3 (by decide)) (fun _ => ?_)
    refine go_iconst 21 (0) dX9_digits_20 rfl (by decide) ?_
    refine go_goto 28 dX9_digits_21 (by decide) ?_
    refine go_aload_n 29 dX9_digits_28 rfl rfl ?_
    refine g_getR 32 dX9_digits_29 rfl fF_RX9_74 ly_115 rfl ?_
    refine go_aload_n 33 dX9_digits_32 rfl rfl ?_
    refine g_getI 36 dX9_digits_33 rfl fF_RX9_298 ly_115 rfl ?_
    refine g_iald2 37 _ dX9_digits_36 rfl ly_137 hix rfl ?_
    refine go_iadd 38 dX9_digits_37 rfl ?_
    refine go_bipush 40 (48) dX9_digits_38 rfl (by decide) ?_
    refine go_isub 41 dX9_digits_40 rfl ?_
    refine go_istore_n 42 [(2, .int _), (3, .int _), (0, .ref 115), (1, .int _)] dX9_digits_41 rfl (Nat.le_of_ble_eq_true rfl) rfl ?_
    refine go_aload_n 43 dX9_digits_42 rfl rfl ?_
    refine go_dup 44 dX9_digits_43 rfl rfl ?_
    refine g_getI 47 dX9_digits_44 rfl fF_RX9_298 ly_115 rfl ?_
    refine go_iconst 48 (1) dX9_digits_47 rfl (by decide) ?_
    refine go_iadd 49 dX9_digits_48 rfl ?_
    refine g_putI 52 dX9_digits_49 rfl fF_RX9_298 ly_115 rfl (fun q hq => by cases hq; rfl) rfl rfl ?_
    replace ht := hd
    refine go_iinc 55 [(3, .int _), (2, .int _), (0, .ref 115), (1, .int _)] (1) dX9_digits_52 rfl (Nat.le_of_ble_eq_true rfl) rfl (by decide) rfl ?_
    refine go_goto 4 dX9_digits_55 (by decide) ?_
    refine go_iload_n 5 dX9_digits_4 rfl rfl ?_
    refine go_iload_n 6 dX9_digits_5 rfl rfl ?_
    refine go_icmp_ge 9 58 dX9_digits_6 rfl (by decide) (fun hc4 => absurd hc4 (by decide)) (fun _ => ?_)
    refine go_aload_n 10 dX9_digits_9 rfl rfl ?_
    refine g_callV 13 [] [] dX9_digits_10 rfl (ct_X9_isDigit _ ht) rfl sV_X9_digits_305 rfl ly_115 rfl rfl (Nat.le_of_ble_eq_true rfl) (Nat.le_of_ble_eq_true rfl) (Nat.le_of_ble_eq_true rfl) ?_
    refine go_if_eq 16 58 dX9_digits_13 rfl (by decide) (fun hc5 => ?_) (fun hc5 => ?_)
    · refine go_iload_n 59 dX9_digits_58 rfl rfl ?_
      refine go_ireturn dX9_digits_59 rfl (by first | rfl | exact bi_nar) (Nat.le_of_ble_eq_true rfl) (Nat.le_of_ble_eq_true rfl) ?_
      exact ⟨congrArg (fun z => some (Value.int z)) (by unfold f_rdg2; simp only [if_neg hc2, if_pos hc5]; try first | rfl | contradiction), congrArg hp (by unfold f_rdg2; simp only [if_neg hc2, if_pos hc5]; try first | rfl | contradiction)⟩
    · have hd := okT.dig ht hc5
      have hix := okT.dgi ht hc5
      refine go_iload_n 17 dX9_digits_16 rfl rfl ?_
      refine go_if_ge 20 24 dX9_digits_17 rfl (by decide) (fun hc6 => ?_) (fun hc6 => ?_)
      · refine go_bipush 26 (10) dX9_digits_24 rfl (by decide) ?_
        refine go_iload_n 27 dX9_digits_26 rfl rfl ?_
        refine go_imul 28 dX9_digits_27 rfl ?_
        refine go_aload_n 29 dX9_digits_28 rfl rfl ?_
        refine g_getR 32 dX9_digits_29 rfl fF_RX9_74 ly_115 rfl ?_
        refine go_aload_n 33 dX9_digits_32 rfl rfl ?_
        refine g_getI 36 dX9_digits_33 rfl fF_RX9_298 ly_115 rfl ?_
        refine go_topi _ (rI_same _ _ _ _) ?_
        refine g_iald2 37 _ dX9_digits_36 rfl ly_137 hix rfl ?_
        refine go_topi (rI S 137 (((rI S 115 35) + 1)).toNatClampNeg) (rI_wIk (by decide) _ _ _) ?_
        refine go_iadd 38 dX9_digits_37 rfl ?_
        refine go_bipush 40 (48) dX9_digits_38 rfl (by decide) ?_
        refine go_isub 41 dX9_digits_40 rfl ?_
        refine go_istore_n 42 [(2, .int _), (3, .int _), (0, .ref 115), (1, .int _)] dX9_digits_41 rfl (Nat.le_of_ble_eq_true rfl) rfl ?_
        refine go_aload_n 43 dX9_digits_42 rfl rfl ?_
        refine go_dup 44 dX9_digits_43 rfl rfl ?_
        refine g_getI 47 dX9_digits_44 rfl fF_RX9_298 ly_115 rfl ?_
        refine go_topi _ (rI_same _ _ _ _) ?_
        refine go_iconst 48 (1) dX9_digits_47 rfl (by decide) ?_
        refine go_iadd 49 dX9_digits_48 rfl ?_
        refine g_putI 52 dX9_digits_49 rfl fF_RX9_298 ly_115 rfl (fun q hq => by cases hq; rfl) rfl rfl ?_
        replace ht := hd
        refine go_iinc 55 [(3, .int _), (2, .int _), (0, .ref 115), (1, .int _)] (2) dX9_digits_52 rfl (Nat.le_of_ble_eq_true rfl) rfl (by decide) rfl ?_
        refine go_goto 4 dX9_digits_55 (by decide) ?_
        refine go_iload_n 5 dX9_digits_4 rfl rfl ?_
        refine go_iload_n 6 dX9_digits_5 rfl rfl ?_
        refine go_icmp_ge 9 58 dX9_digits_6 rfl (by decide) (fun _ => ?_) (fun hc7 => absurd hc7 (by decide))
        refine go_iload_n 59 dX9_digits_58 rfl rfl ?_
        refine go_ireturn dX9_digits_59 rfl (by first | rfl | exact bi_nar) (Nat.le_of_ble_eq_true rfl) (Nat.le_of_ble_eq_true rfl) ?_
        exact ⟨congrArg (fun z => some (Value.int z)) (by unfold f_rdg2; simp only [if_neg hc2, if_neg hc5, if_pos hc6]; try first | rfl | contradiction), congrArg hp (by unfold f_rdg2; simp only [if_neg hc2, if_neg hc5, if_pos hc6]; try first | rfl | contradiction)⟩
      · refine go_iconst 21 (0) dX9_digits_20 rfl (by decide) ?_
        refine go_goto 28 dX9_digits_21 (by decide) ?_
        refine go_aload_n 29 dX9_digits_28 rfl rfl ?_
        refine g_getR 32 dX9_digits_29 rfl fF_RX9_74 ly_115 rfl ?_
        refine go_aload_n 33 dX9_digits_32 rfl rfl ?_
        refine g_getI 36 dX9_digits_33 rfl fF_RX9_298 ly_115 rfl ?_
        refine go_topi _ (rI_same _ _ _ _) ?_
        refine g_iald2 37 _ dX9_digits_36 rfl ly_137 hix rfl ?_
        refine go_topi (rI S 137 (((rI S 115 35) + 1)).toNatClampNeg) (rI_wIk (by decide) _ _ _) ?_
        refine go_iadd 38 dX9_digits_37 rfl ?_
        refine go_bipush 40 (48) dX9_digits_38 rfl (by decide) ?_
        refine go_isub 41 dX9_digits_40 rfl ?_
        refine go_istore_n 42 [(2, .int _), (3, .int _), (0, .ref 115), (1, .int _)] dX9_digits_41 rfl (Nat.le_of_ble_eq_true rfl) rfl ?_
        refine go_aload_n 43 dX9_digits_42 rfl rfl ?_
        refine go_dup 44 dX9_digits_43 rfl rfl ?_
        refine g_getI 47 dX9_digits_44 rfl fF_RX9_298 ly_115 rfl ?_
        refine go_topi _ (rI_same _ _ _ _) ?_
        refine go_iconst 48 (1) dX9_digits_47 rfl (by decide) ?_
        refine go_iadd 49 dX9_digits_48 rfl ?_
        refine g_putI 52 dX9_digits_49 rfl fF_RX9_298 ly_115 rfl (fun q hq => by cases hq; rfl) rfl rfl ?_
        replace ht := hd
        refine go_iinc 55 [(3, .int _), (2, .int _), (0, .ref 115), (1, .int _)] (2) dX9_digits_52 rfl (Nat.le_of_ble_eq_true rfl) rfl (by decide) rfl ?_
        refine go_goto 4 dX9_digits_55 (by decide) ?_
        refine go_iload_n 5 dX9_digits_4 rfl rfl ?_
        refine go_iload_n 6 dX9_digits_5 rfl rfl ?_
        refine go_icmp_ge 9 58 dX9_digits_6 rfl (by decide) (fun _ => ?_) (fun hc8 => absurd hc8 (by decide))
        refine go_iload_n 59 dX9_digits_58 rfl rfl ?_
        refine go_ireturn dX9_digits_59 rfl (by first | rfl | exact bi_nar) (Nat.le_of_ble_eq_true rfl) (Nat.le_of_ble_eq_true rfl) ?_
        exact ⟨congrArg (fun z => some (Value.int z)) (by unfold f_rdg2; simp only [if_neg hc2, if_neg hc5, if_neg hc6]; try first | rfl | contradiction), congrArg hp (by unfold f_rdg2; simp only [if_neg hc2, if_neg hc5, if_neg hc6]; try first | rfl | contradiction)⟩
theorem fr_f_rdg2 {a0 c0 : Nat} (h115_35 : ¬ (a0 = 115 ∧ c0 = 35)) (S : gS)  : rI (f_rdg2 S).2 a0 c0 = rI S a0 c0 := by
  unfold f_rdg2
  first | (simp only [snd_ite, rI_ite, ite_self, rI_wIc h115_35]; done) | ((repeat' split) <;> first | rfl | simp only [rI_wIc h115_35])

theorem okT.rdg2 {S : gS} (ht : okT S) : okT (f_rdg2 S).2 := by
  unfold f_rdg2
  split
  · exact ht
  rename_i h1
  have ht1 := okT.dig ht h1
  split
  · exact ht1
  rename_i h2
  have ht2 := okT.dig ht1 h2
  (repeat' split) <;> exact ht2
def f_rdg4 (S : gS)  : Int32 × gS := (if (f_X9_isDigit S) = 0 then ((-1), S) else (if (f_X9_isDigit (wI S 115 35 (((rI S 115 35) + 1)))) = 0 then ((((0 : Int32) + (rI S 137 ((rI S 115 35)).toNatClampNeg)) - 48), (wI S 115 35 (((rI S 115 35) + 1)))) else (if (0 : Int32) ≤ (((0 : Int32) + (rI S 137 ((rI S 115 35)).toNatClampNeg)) - 48) then (if (f_X9_isDigit (wI (wI S 115 35 (((rI S 115 35) + 1))) 115 35 ((((rI S 115 35) + 1) + 1)))) = 0 then (((((10 : Int32) * (((0 : Int32) + (rI S 137 ((rI S 115 35)).toNatClampNeg)) - 48)) + (rI S 137 (((rI S 115 35) + 1)).toNatClampNeg)) - 48), (wI (wI S 115 35 (((rI S 115 35) + 1))) 115 35 ((((rI S 115 35) + 1) + 1)))) else (if (0 : Int32) ≤ ((((10 : Int32) * (((0 : Int32) + (rI S 137 ((rI S 115 35)).toNatClampNeg)) - 48)) + (rI S 137 (((rI S 115 35) + 1)).toNatClampNeg)) - 48) then (if (f_X9_isDigit (wI (wI (wI S 115 35 (((rI S 115 35) + 1))) 115 35 ((((rI S 115 35) + 1) + 1))) 115 35 (((((rI S 115 35) + 1) + 1) + 1)))) = 0 then (((((10 : Int32) * ((((10 : Int32) * (((0 : Int32) + (rI S 137 ((rI S 115 35)).toNatClampNeg)) - 48)) + (rI S 137 (((rI S 115 35) + 1)).toNatClampNeg)) - 48)) + (rI S 137 ((((rI S 115 35) + 1) + 1)).toNatClampNeg)) - 48), (wI (wI (wI S 115 35 (((rI S 115 35) + 1))) 115 35 ((((rI S 115 35) + 1) + 1))) 115 35 (((((rI S 115 35) + 1) + 1) + 1)))) else (if (0 : Int32) ≤ ((((10 : Int32) * ((((10 : Int32) * (((0 : Int32) + (rI S 137 ((rI S 115 35)).toNatClampNeg)) - 48)) + (rI S 137 (((rI S 115 35) + 1)).toNatClampNeg)) - 48)) + (rI S 137 ((((rI S 115 35) + 1) + 1)).toNatClampNeg)) - 48) then (((((10 : Int32) * ((((10 : Int32) * ((((10 : Int32) * (((0 : Int32) + (rI S 137 ((rI S 115 35)).toNatClampNeg)) - 48)) + (rI S 137 (((rI S 115 35) + 1)).toNatClampNeg)) - 48)) + (rI S 137 ((((rI S 115 35) + 1) + 1)).toNatClampNeg)) - 48)) + (rI S 137 (((((rI S 115 35) + 1) + 1) + 1)).toNatClampNeg)) - 48), (wI (wI (wI (wI S 115 35 (((rI S 115 35) + 1))) 115 35 ((((rI S 115 35) + 1) + 1))) 115 35 (((((rI S 115 35) + 1) + 1) + 1))) 115 35 ((((((rI S 115 35) + 1) + 1) + 1) + 1)))) else ((((0 : Int32) + (rI S 137 (((((rI S 115 35) + 1) + 1) + 1)).toNatClampNeg)) - 48), (wI (wI (wI (wI S 115 35 (((rI S 115 35) + 1))) 115 35 ((((rI S 115 35) + 1) + 1))) 115 35 (((((rI S 115 35) + 1) + 1) + 1))) 115 35 ((((((rI S 115 35) + 1) + 1) + 1) + 1)))))) else (if (f_X9_isDigit (wI (wI (wI S 115 35 (((rI S 115 35) + 1))) 115 35 ((((rI S 115 35) + 1) + 1))) 115 35 (((((rI S 115 35) + 1) + 1) + 1)))) = 0 then ((((0 : Int32) + (rI S 137 ((((rI S 115 35) + 1) + 1)).toNatClampNeg)) - 48), (wI (wI (wI S 115 35 (((rI S 115 35) + 1))) 115 35 ((((rI S 115 35) + 1) + 1))) 115 35 (((((rI S 115 35) + 1) + 1) + 1)))) else (if (0 : Int32) ≤ (((0 : Int32) + (rI S 137 ((((rI S 115 35) + 1) + 1)).toNatClampNeg)) - 48) then (((((10 : Int32) * (((0 : Int32) + (rI S 137 ((((rI S 115 35) + 1) + 1)).toNatClampNeg)) - 48)) + (rI S 137 (((((rI S 115 35) + 1) + 1) + 1)).toNatClampNeg)) - 48), (wI (wI (wI (wI S 115 35 (((rI S 115 35) + 1))) 115 35 ((((rI S 115 35) + 1) + 1))) 115 35 (((((rI S 115 35) + 1) + 1) + 1))) 115 35 ((((((rI S 115 35) + 1) + 1) + 1) + 1)))) else ((((0 : Int32) + (rI S 137 (((((rI S 115 35) + 1) + 1) + 1)).toNatClampNeg)) - 48), (wI (wI (wI (wI S 115 35 (((rI S 115 35) + 1))) 115 35 ((((rI S 115 35) + 1) + 1))) 115 35 (((((rI S 115 35) + 1) + 1) + 1))) 115 35 ((((((rI S 115 35) + 1) + 1) + 1) + 1)))))))) else (if (f_X9_isDigit (wI (wI S 115 35 (((rI S 115 35) + 1))) 115 35 ((((rI S 115 35) + 1) + 1)))) = 0 then ((((0 : Int32) + (rI S 137 (((rI S 115 35) + 1)).toNatClampNeg)) - 48), (wI (wI S 115 35 (((rI S 115 35) + 1))) 115 35 ((((rI S 115 35) + 1) + 1)))) else (if (0 : Int32) ≤ (((0 : Int32) + (rI S 137 (((rI S 115 35) + 1)).toNatClampNeg)) - 48) then (if (f_X9_isDigit (wI (wI (wI S 115 35 (((rI S 115 35) + 1))) 115 35 ((((rI S 115 35) + 1) + 1))) 115 35 (((((rI S 115 35) + 1) + 1) + 1)))) = 0 then (((((10 : Int32) * (((0 : Int32) + (rI S 137 (((rI S 115 35) + 1)).toNatClampNeg)) - 48)) + (rI S 137 ((((rI S 115 35) + 1) + 1)).toNatClampNeg)) - 48), (wI (wI (wI S 115 35 (((rI S 115 35) + 1))) 115 35 ((((rI S 115 35) + 1) + 1))) 115 35 (((((rI S 115 35) + 1) + 1) + 1)))) else (if (0 : Int32) ≤ ((((10 : Int32) * (((0 : Int32) + (rI S 137 (((rI S 115 35) + 1)).toNatClampNeg)) - 48)) + (rI S 137 ((((rI S 115 35) + 1) + 1)).toNatClampNeg)) - 48) then (((((10 : Int32) * ((((10 : Int32) * (((0 : Int32) + (rI S 137 (((rI S 115 35) + 1)).toNatClampNeg)) - 48)) + (rI S 137 ((((rI S 115 35) + 1) + 1)).toNatClampNeg)) - 48)) + (rI S 137 (((((rI S 115 35) + 1) + 1) + 1)).toNatClampNeg)) - 48), (wI (wI (wI (wI S 115 35 (((rI S 115 35) + 1))) 115 35 ((((rI S 115 35) + 1) + 1))) 115 35 (((((rI S 115 35) + 1) + 1) + 1))) 115 35 ((((((rI S 115 35) + 1) + 1) + 1) + 1)))) else ((((0 : Int32) + (rI S 137 (((((rI S 115 35) + 1) + 1) + 1)).toNatClampNeg)) - 48), (wI (wI (wI (wI S 115 35 (((rI S 115 35) + 1))) 115 35 ((((rI S 115 35) + 1) + 1))) 115 35 (((((rI S 115 35) + 1) + 1) + 1))) 115 35 ((((((rI S 115 35) + 1) + 1) + 1) + 1)))))) else (if (f_X9_isDigit (wI (wI (wI S 115 35 (((rI S 115 35) + 1))) 115 35 ((((rI S 115 35) + 1) + 1))) 115 35 (((((rI S 115 35) + 1) + 1) + 1)))) = 0 then ((((0 : Int32) + (rI S 137 ((((rI S 115 35) + 1) + 1)).toNatClampNeg)) - 48), (wI (wI (wI S 115 35 (((rI S 115 35) + 1))) 115 35 ((((rI S 115 35) + 1) + 1))) 115 35 (((((rI S 115 35) + 1) + 1) + 1)))) else (if (0 : Int32) ≤ (((0 : Int32) + (rI S 137 ((((rI S 115 35) + 1) + 1)).toNatClampNeg)) - 48) then (((((10 : Int32) * (((0 : Int32) + (rI S 137 ((((rI S 115 35) + 1) + 1)).toNatClampNeg)) - 48)) + (rI S 137 (((((rI S 115 35) + 1) + 1) + 1)).toNatClampNeg)) - 48), (wI (wI (wI (wI S 115 35 (((rI S 115 35) + 1))) 115 35 ((((rI S 115 35) + 1) + 1))) 115 35 (((((rI S 115 35) + 1) + 1) + 1))) 115 35 ((((((rI S 115 35) + 1) + 1) + 1) + 1)))) else ((((0 : Int32) + (rI S 137 (((((rI S 115 35) + 1) + 1) + 1)).toNatClampNeg)) - 48), (wI (wI (wI (wI S 115 35 (((rI S 115 35) + 1))) 115 35 ((((rI S 115 35) + 1) + 1))) 115 35 (((((rI S 115 35) + 1) + 1) + 1))) 115 35 ((((((rI S 115 35) + 1) + 1) + 1) + 1)))))))))))
set_option maxRecDepth 100000 in
set_option maxHeartbeats 1000000 in
theorem ct_rdg4 (S : gS)  (ht : okT S) : gF mX9_digits [.ref 115, .int 4] S (some (.int (f_rdg4 S).1)) (f_rdg4 S).2 := by
  refine go_enter [.ref 115, .int 4] [(0, .ref 115), (1, .int 4)] (by decide +kernel) rfl rfl (Nat.le_of_ble_eq_true rfl) rfl ?_
  refine go_iconst 1 (-1) dX9_digits_0 rfl (by decide) ?_
  refine go_istore_n 2 [(2, .int _), (0, .ref 115), (1, .int _)] dX9_digits_1 rfl (Nat.le_of_ble_eq_true rfl) rfl ?_
  refine go_iconst 3 (0) dX9_digits_2 rfl (by decide) ?_
  refine go_istore_n 4 [(3, .int _), (2, .int _), (0, .ref 115), (1, .int _)] dX9_digits_3 rfl (Nat.le_of_ble_eq_true rfl) rfl ?_
  refine go_iload_n 5 dX9_digits_4 rfl rfl ?_
  refine go_iload_n 6 dX9_digits_5 rfl rfl ?_
  refine go_icmp_ge 9 58 dX9_digits_6 rfl (by decide) (fun hc1 => absurd hc1 (by decide)) (fun _ => ?_)
  refine go_aload_n 10 dX9_digits_9 rfl rfl ?_
  refine g_callV 13 [] [] dX9_digits_10 rfl (ct_X9_isDigit _ ht) rfl sV_X9_digits_305 rfl ly_115 rfl rfl (Nat.le_of_ble_eq_true rfl) (Nat.le_of_ble_eq_true rfl) (Nat.le_of_ble_eq_true rfl) ?_
  refine go_if_eq 16 58 dX9_digits_13 rfl (by decide) (fun hc2 => ?_) (fun hc2 => ?_)
  · refine go_iload_n 59 dX9_digits_58 rfl rfl ?_
    refine go_ireturn dX9_digits_59 rfl (by first | rfl | exact bi_nar) (Nat.le_of_ble_eq_true rfl) (Nat.le_of_ble_eq_true rfl) ?_
    exact ⟨congrArg (fun z => some (Value.int z)) (by unfold f_rdg4; simp only [if_pos hc2]; try first | rfl | contradiction), congrArg hp (by unfold f_rdg4; simp only [if_pos hc2]; try first | rfl | contradiction)⟩
  · have hd := okT.dig ht hc2
    have hix := okT.dgi ht hc2
    refine go_iload_n 17 dX9_digits_16 rfl rfl ?_
    refine go_if_ge 20 24 dX9_digits_17 rfl (by decide) (fun hc3 => absurd hc3 (by decide)) (fun _ => ?_)
    refine go_iconst 21 (0) dX9_digits_20 rfl (by decide) ?_
    refine go_goto 28 dX9_digits_21 (by decide) ?_
    refine go_aload_n 29 dX9_digits_28 rfl rfl ?_
    refine g_getR 32 dX9_digits_29 rfl fF_RX9_74 ly_115 rfl ?_
    refine go_aload_n 33 dX9_digits_32 rfl rfl ?_
    refine g_getI 36 dX9_digits_33 rfl fF_RX9_298 ly_115 rfl ?_
    refine g_iald2 37 _ dX9_digits_36 rfl ly_137 hix rfl ?_
    refine go_iadd 38 dX9_digits_37 rfl ?_
    refine go_bipush 40 (48) dX9_digits_38 rfl (by decide) ?_
    refine go_isub 41 dX9_digits_40 rfl ?_
    refine go_istore_n 42 [(2, .int _), (3, .int _), (0, .ref 115), (1, .int _)] dX9_digits_41 rfl (Nat.le_of_ble_eq_true rfl) rfl ?_
    refine go_aload_n 43 dX9_digits_42 rfl rfl ?_
    refine go_dup 44 dX9_digits_43 rfl rfl ?_
    refine g_getI 47 dX9_digits_44 rfl fF_RX9_298 ly_115 rfl ?_
    refine go_iconst 48 (1) dX9_digits_47 rfl (by decide) ?_
    refine go_iadd 49 dX9_digits_48 rfl ?_
    refine g_putI 52 dX9_digits_49 rfl fF_RX9_298 ly_115 rfl (fun q hq => by cases hq; rfl) rfl rfl ?_
    replace ht := hd
    refine go_iinc 55 [(3, .int _), (2, .int _), (0, .ref 115), (1, .int _)] (1) dX9_digits_52 rfl (Nat.le_of_ble_eq_true rfl) rfl (by decide) rfl ?_
    refine go_goto 4 dX9_digits_55 (by decide) ?_
    refine go_iload_n 5 dX9_digits_4 rfl rfl ?_
    refine go_iload_n 6 dX9_digits_5 rfl rfl ?_
    refine go_icmp_ge 9 58 dX9_digits_6 rfl (by decide) (fun hc4 => absurd hc4 (by decide)) (fun _ => ?_)
    refine go_aload_n 10 dX9_digits_9 rfl rfl ?_
    refine g_callV 13 [] [] dX9_digits_10 rfl (ct_X9_isDigit _ ht) rfl sV_X9_digits_305 rfl ly_115 rfl rfl (Nat.le_of_ble_eq_true rfl) (Nat.le_of_ble_eq_true rfl) (Nat.le_of_ble_eq_true rfl) ?_
    refine go_if_eq 16 58 dX9_digits_13 rfl (by decide) (fun hc5 => ?_) (fun hc5 => ?_)
    · refine go_iload_n 59 dX9_digits_58 rfl rfl ?_
      refine go_ireturn dX9_digits_59 rfl (by first | rfl | exact bi_nar) (Nat.le_of_ble_eq_true rfl) (Nat.le_of_ble_eq_true rfl) ?_
      exact ⟨congrArg (fun z => some (Value.int z)) (by unfold f_rdg4; simp only [if_neg hc2, if_pos hc5]; try first | rfl | contradiction), congrArg hp (by unfold f_rdg4; simp only [if_neg hc2, if_pos hc5]; try first | rfl | contradiction)⟩
    · have hd := okT.dig ht hc5
      have hix := okT.dgi ht hc5
      refine go_iload_n 17 dX9_digits_16 rfl rfl ?_
      refine go_if_ge 20 24 dX9_digits_17 rfl (by decide) (fun hc6 => ?_) (fun hc6 => ?_)
      · refine go_bipush 26 (10) dX9_digits_24 rfl (by decide) ?_
        refine go_iload_n 27 dX9_digits_26 rfl rfl ?_
        refine go_imul 28 dX9_digits_27 rfl ?_
        refine go_aload_n 29 dX9_digits_28 rfl rfl ?_
        refine g_getR 32 dX9_digits_29 rfl fF_RX9_74 ly_115 rfl ?_
        refine go_aload_n 33 dX9_digits_32 rfl rfl ?_
        refine g_getI 36 dX9_digits_33 rfl fF_RX9_298 ly_115 rfl ?_
        refine go_topi _ (rI_same _ _ _ _) ?_
        refine g_iald2 37 _ dX9_digits_36 rfl ly_137 hix rfl ?_
        refine go_topi (rI S 137 (((rI S 115 35) + 1)).toNatClampNeg) (rI_wIk (by decide) _ _ _) ?_
        refine go_iadd 38 dX9_digits_37 rfl ?_
        refine go_bipush 40 (48) dX9_digits_38 rfl (by decide) ?_
        refine go_isub 41 dX9_digits_40 rfl ?_
        refine go_istore_n 42 [(2, .int _), (3, .int _), (0, .ref 115), (1, .int _)] dX9_digits_41 rfl (Nat.le_of_ble_eq_true rfl) rfl ?_
        refine go_aload_n 43 dX9_digits_42 rfl rfl ?_
        refine go_dup 44 dX9_digits_43 rfl rfl ?_
        refine g_getI 47 dX9_digits_44 rfl fF_RX9_298 ly_115 rfl ?_
        refine go_topi _ (rI_same _ _ _ _) ?_
        refine go_iconst 48 (1) dX9_digits_47 rfl (by decide) ?_
        refine go_iadd 49 dX9_digits_48 rfl ?_
        refine g_putI 52 dX9_digits_49 rfl fF_RX9_298 ly_115 rfl (fun q hq => by cases hq; rfl) rfl rfl ?_
        replace ht := hd
        refine go_iinc 55 [(3, .int _), (2, .int _), (0, .ref 115), (1, .int _)] (2) dX9_digits_52 rfl (Nat.le_of_ble_eq_true rfl) rfl (by decide) rfl ?_
        refine go_goto 4 dX9_digits_55 (by decide) ?_
        refine go_iload_n 5 dX9_digits_4 rfl rfl ?_
        refine go_iload_n 6 dX9_digits_5 rfl rfl ?_
        refine go_icmp_ge 9 58 dX9_digits_6 rfl (by decide) (fun hc7 => absurd hc7 (by decide)) (fun _ => ?_)
        refine go_aload_n 10 dX9_digits_9 rfl rfl ?_
        refine g_callV 13 [] [] dX9_digits_10 rfl (ct_X9_isDigit _ ht) rfl sV_X9_digits_305 rfl ly_115 rfl rfl (Nat.le_of_ble_eq_true rfl) (Nat.le_of_ble_eq_true rfl) (Nat.le_of_ble_eq_true rfl) ?_
        refine go_if_eq 16 58 dX9_digits_13 rfl (by decide) (fun hc8 => ?_) (fun hc8 => ?_)
        · refine go_iload_n 59 dX9_digits_58 rfl rfl ?_
          refine go_ireturn dX9_digits_59 rfl (by first | rfl | exact bi_nar) (Nat.le_of_ble_eq_true rfl) (Nat.le_of_ble_eq_true rfl) ?_
          exact ⟨congrArg (fun z => some (Value.int z)) (by unfold f_rdg4; simp only [if_neg hc2, if_neg hc5, if_pos hc6, if_pos hc8]; try first | rfl | contradiction), congrArg hp (by unfold f_rdg4; simp only [if_neg hc2, if_neg hc5, if_pos hc6, if_pos hc8]; try first | rfl | contradiction)⟩
        · have hd := okT.dig ht hc8
          have hix := okT.dgi ht hc8
          refine go_iload_n 17 dX9_digits_16 rfl rfl ?_
          refine go_if_ge 20 24 dX9_digits_17 rfl (by decide) (fun hc9 => ?_) (fun hc9 => ?_)
          · refine go_bipush 26 (10) dX9_digits_24 rfl (by decide) ?_
            refine go_iload_n 27 dX9_digits_26 rfl rfl ?_
            refine go_imul 28 dX9_digits_27 rfl ?_
            refine go_aload_n 29 dX9_digits_28 rfl rfl ?_
            refine g_getR 32 dX9_digits_29 rfl fF_RX9_74 ly_115 rfl ?_
            refine go_aload_n 33 dX9_digits_32 rfl rfl ?_
            refine g_getI 36 dX9_digits_33 rfl fF_RX9_298 ly_115 rfl ?_
            refine go_topi _ (rI_same _ _ _ _) ?_
            refine g_iald2 37 _ dX9_digits_36 rfl ly_137 hix rfl ?_
            refine go_topi (rI S 137 ((((rI S 115 35) + 1) + 1)).toNatClampNeg) ((rI_wIk (by decide) _ _ _).trans (rI_wIk (by decide) _ _ _)) ?_
            refine go_iadd 38 dX9_digits_37 rfl ?_
            refine go_bipush 40 (48) dX9_digits_38 rfl (by decide) ?_
            refine go_isub 41 dX9_digits_40 rfl ?_
            refine go_istore_n 42 [(2, .int _), (3, .int _), (0, .ref 115), (1, .int _)] dX9_digits_41 rfl (Nat.le_of_ble_eq_true rfl) rfl ?_
            refine go_aload_n 43 dX9_digits_42 rfl rfl ?_
            refine go_dup 44 dX9_digits_43 rfl rfl ?_
            refine g_getI 47 dX9_digits_44 rfl fF_RX9_298 ly_115 rfl ?_
            refine go_topi _ (rI_same _ _ _ _) ?_
            refine go_iconst 48 (1) dX9_digits_47 rfl (by decide) ?_
            refine go_iadd 49 dX9_digits_48 rfl ?_
            refine g_putI 52 dX9_digits_49 rfl fF_RX9_298 ly_115 rfl (fun q hq => by cases hq; rfl) rfl rfl ?_
            replace ht := hd
            refine go_iinc 55 [(3, .int _), (2, .int _), (0, .ref 115), (1, .int _)] (3) dX9_digits_52 rfl (Nat.le_of_ble_eq_true rfl) rfl (by decide) rfl ?_
            refine go_goto 4 dX9_digits_55 (by decide) ?_
            refine go_iload_n 5 dX9_digits_4 rfl rfl ?_
            refine go_iload_n 6 dX9_digits_5 rfl rfl ?_
            refine go_icmp_ge 9 58 dX9_digits_6 rfl (by decide) (fun hc10 => absurd hc10 (by decide)) (fun _ => ?_)
            refine go_aload_n 10 dX9_digits_9 rfl rfl ?_
            refine g_callV 13 [] [] dX9_digits_10 rfl (ct_X9_isDigit _ ht) rfl sV_X9_digits_305 rfl ly_115 rfl rfl (Nat.le_of_ble_eq_true rfl) (Nat.le_of_ble_eq_true rfl) (Nat.le_of_ble_eq_true rfl) ?_
            refine go_if_eq 16 58 dX9_digits_13 rfl (by decide) (fun hc11 => ?_) (fun hc11 => ?_)
            · refine go_iload_n 59 dX9_digits_58 rfl rfl ?_
              refine go_ireturn dX9_digits_59 rfl (by first | rfl | exact bi_nar) (Nat.le_of_ble_eq_true rfl) (Nat.le_of_ble_eq_true rfl) ?_
              exact ⟨congrArg (fun z => some (Value.int z)) (by unfold f_rdg4; simp only [if_neg hc2, if_neg hc5, if_pos hc6, if_neg hc8, if_pos hc9, if_pos hc11]; try first | rfl | contradiction), congrArg hp (by unfold f_rdg4; simp only [if_neg hc2, if_neg hc5, if_pos hc6, if_neg hc8, if_pos hc9, if_pos hc11]; try first | rfl | contradiction)⟩
            · have hd := okT.dig ht hc11
              have hix := okT.dgi ht hc11
              refine go_iload_n 17 dX9_digits_16 rfl rfl ?_
              refine go_if_ge 20 24 dX9_digits_17 rfl (by decide) (fun hc12 => ?_) (fun hc12 => ?_)
              · refine go_bipush 26 (10) dX9_digits_24 rfl (by decide) ?_
                refine go_iload_n 27 dX9_digits_26 rfl rfl ?_
                refine go_imul 28 dX9_digits_27 rfl ?_
                refine go_aload_n 29 dX9_digits_28 rfl rfl ?_
                refine g_getR 32 dX9_digits_29 rfl fF_RX9_74 ly_115 rfl ?_
                refine go_aload_n 33 dX9_digits_32 rfl rfl ?_
                refine g_getI 36 dX9_digits_33 rfl fF_RX9_298 ly_115 rfl ?_
                refine go_topi _ (rI_same _ _ _ _) ?_
                refine g_iald2 37 _ dX9_digits_36 rfl ly_137 hix rfl ?_
                refine go_topi (rI S 137 (((((rI S 115 35) + 1) + 1) + 1)).toNatClampNeg) ((rI_wIk (by decide) _ _ _).trans ((rI_wIk (by decide) _ _ _).trans (rI_wIk (by decide) _ _ _))) ?_
                refine go_iadd 38 dX9_digits_37 rfl ?_
                refine go_bipush 40 (48) dX9_digits_38 rfl (by decide) ?_
                refine go_isub 41 dX9_digits_40 rfl ?_
                refine go_istore_n 42 [(2, .int _), (3, .int _), (0, .ref 115), (1, .int _)] dX9_digits_41 rfl (Nat.le_of_ble_eq_true rfl) rfl ?_
                refine go_aload_n 43 dX9_digits_42 rfl rfl ?_
                refine go_dup 44 dX9_digits_43 rfl rfl ?_
                refine g_getI 47 dX9_digits_44 rfl fF_RX9_298 ly_115 rfl ?_
                refine go_topi _ (rI_same _ _ _ _) ?_
                refine go_iconst 48 (1) dX9_digits_47 rfl (by decide) ?_
                refine go_iadd 49 dX9_digits_48 rfl ?_
                refine g_putI 52 dX9_digits_49 rfl fF_RX9_298 ly_115 rfl (fun q hq => by cases hq; rfl) rfl rfl ?_
                replace ht := hd
                refine go_iinc 55 [(3, .int _), (2, .int _), (0, .ref 115), (1, .int _)] (4) dX9_digits_52 rfl (Nat.le_of_ble_eq_true rfl) rfl (by decide) rfl ?_
                refine go_goto 4 dX9_digits_55 (by decide) ?_
                refine go_iload_n 5 dX9_digits_4 rfl rfl ?_
                refine go_iload_n 6 dX9_digits_5 rfl rfl ?_
                refine go_icmp_ge 9 58 dX9_digits_6 rfl (by decide) (fun _ => ?_) (fun hc13 => absurd hc13 (by decide))
                refine go_iload_n 59 dX9_digits_58 rfl rfl ?_
                refine go_ireturn dX9_digits_59 rfl (by first | rfl | exact bi_nar) (Nat.le_of_ble_eq_true rfl) (Nat.le_of_ble_eq_true rfl) ?_
                exact ⟨congrArg (fun z => some (Value.int z)) (by unfold f_rdg4; simp only [if_neg hc2, if_neg hc5, if_pos hc6, if_neg hc8, if_pos hc9, if_neg hc11, if_pos hc12]; try first | rfl | contradiction), congrArg hp (by unfold f_rdg4; simp only [if_neg hc2, if_neg hc5, if_pos hc6, if_neg hc8, if_pos hc9, if_neg hc11, if_pos hc12]; try first | rfl | contradiction)⟩
              · refine go_iconst 21 (0) dX9_digits_20 rfl (by decide) ?_
                refine go_goto 28 dX9_digits_21 (by decide) ?_
                refine go_aload_n 29 dX9_digits_28 rfl rfl ?_
                refine g_getR 32 dX9_digits_29 rfl fF_RX9_74 ly_115 rfl ?_
                refine go_aload_n 33 dX9_digits_32 rfl rfl ?_
                refine g_getI 36 dX9_digits_33 rfl fF_RX9_298 ly_115 rfl ?_
                refine go_topi _ (rI_same _ _ _ _) ?_
                refine g_iald2 37 _ dX9_digits_36 rfl ly_137 hix rfl ?_
                refine go_topi (rI S 137 (((((rI S 115 35) + 1) + 1) + 1)).toNatClampNeg) ((rI_wIk (by decide) _ _ _).trans ((rI_wIk (by decide) _ _ _).trans (rI_wIk (by decide) _ _ _))) ?_
                refine go_iadd 38 dX9_digits_37 rfl ?_
                refine go_bipush 40 (48) dX9_digits_38 rfl (by decide) ?_
                refine go_isub 41 dX9_digits_40 rfl ?_
                refine go_istore_n 42 [(2, .int _), (3, .int _), (0, .ref 115), (1, .int _)] dX9_digits_41 rfl (Nat.le_of_ble_eq_true rfl) rfl ?_
                refine go_aload_n 43 dX9_digits_42 rfl rfl ?_
                refine go_dup 44 dX9_digits_43 rfl rfl ?_
                refine g_getI 47 dX9_digits_44 rfl fF_RX9_298 ly_115 rfl ?_
                refine go_topi _ (rI_same _ _ _ _) ?_
                refine go_iconst 48 (1) dX9_digits_47 rfl (by decide) ?_
                refine go_iadd 49 dX9_digits_48 rfl ?_
                refine g_putI 52 dX9_digits_49 rfl fF_RX9_298 ly_115 rfl (fun q hq => by cases hq; rfl) rfl rfl ?_
                replace ht := hd
                refine go_iinc 55 [(3, .int _), (2, .int _), (0, .ref 115), (1, .int _)] (4) dX9_digits_52 rfl (Nat.le_of_ble_eq_true rfl) rfl (by decide) rfl ?_
                refine go_goto 4 dX9_digits_55 (by decide) ?_
                refine go_iload_n 5 dX9_digits_4 rfl rfl ?_
                refine go_iload_n 6 dX9_digits_5 rfl rfl ?_
                refine go_icmp_ge 9 58 dX9_digits_6 rfl (by decide) (fun _ => ?_) (fun hc14 => absurd hc14 (by decide))
                refine go_iload_n 59 dX9_digits_58 rfl rfl ?_
                refine go_ireturn dX9_digits_59 rfl (by first | rfl | exact bi_nar) (Nat.le_of_ble_eq_true rfl) (Nat.le_of_ble_eq_true rfl) ?_
                exact ⟨congrArg (fun z => some (Value.int z)) (by unfold f_rdg4; simp only [if_neg hc2, if_neg hc5, if_pos hc6, if_neg hc8, if_pos hc9, if_neg hc11, if_neg hc12]; try first | rfl | contradiction), congrArg hp (by unfold f_rdg4; simp only [if_neg hc2, if_neg hc5, if_pos hc6, if_neg hc8, if_pos hc9, if_neg hc11, if_neg hc12]; try first | rfl | contradiction)⟩
          · refine go_iconst 21 (0) dX9_digits_20 rfl (by decide) ?_
            refine go_goto 28 dX9_digits_21 (by decide) ?_
            refine go_aload_n 29 dX9_digits_28 rfl rfl ?_
            refine g_getR 32 dX9_digits_29 rfl fF_RX9_74 ly_115 rfl ?_
            refine go_aload_n 33 dX9_digits_32 rfl rfl ?_
            refine g_getI 36 dX9_digits_33 rfl fF_RX9_298 ly_115 rfl ?_
            refine go_topi _ (rI_same _ _ _ _) ?_
            refine g_iald2 37 _ dX9_digits_36 rfl ly_137 hix rfl ?_
            refine go_topi (rI S 137 ((((rI S 115 35) + 1) + 1)).toNatClampNeg) ((rI_wIk (by decide) _ _ _).trans (rI_wIk (by decide) _ _ _)) ?_
            refine go_iadd 38 dX9_digits_37 rfl ?_
            refine go_bipush 40 (48) dX9_digits_38 rfl (by decide) ?_
            refine go_isub 41 dX9_digits_40 rfl ?_
            refine go_istore_n 42 [(2, .int _), (3, .int _), (0, .ref 115), (1, .int _)] dX9_digits_41 rfl (Nat.le_of_ble_eq_true rfl) rfl ?_
            refine go_aload_n 43 dX9_digits_42 rfl rfl ?_
            refine go_dup 44 dX9_digits_43 rfl rfl ?_
            refine g_getI 47 dX9_digits_44 rfl fF_RX9_298 ly_115 rfl ?_
            refine go_topi _ (rI_same _ _ _ _) ?_
            refine go_iconst 48 (1) dX9_digits_47 rfl (by decide) ?_
            refine go_iadd 49 dX9_digits_48 rfl ?_
            refine g_putI 52 dX9_digits_49 rfl fF_RX9_298 ly_115 rfl (fun q hq => by cases hq; rfl) rfl rfl ?_
            replace ht := hd
            refine go_iinc 55 [(3, .int _), (2, .int _), (0, .ref 115), (1, .int _)] (3) dX9_digits_52 rfl (Nat.le_of_ble_eq_true rfl) rfl (by decide) rfl ?_
            refine go_goto 4 dX9_digits_55 (by decide) ?_
            refine go_iload_n 5 dX9_digits_4 rfl rfl ?_
            refine go_iload_n 6 dX9_digits_5 rfl rfl ?_
            refine go_icmp_ge 9 58 dX9_digits_6 rfl (by decide) (fun hc15 => absurd hc15 (by decide)) (fun _ => ?_)
            refine go_aload_n 10 dX9_digits_9 rfl rfl ?_
            refine g_callV 13 [] [] dX9_digits_10 rfl (ct_X9_isDigit _ ht) rfl sV_X9_digits_305 rfl ly_115 rfl rfl (Nat.le_of_ble_eq_true rfl) (Nat.le_of_ble_eq_true rfl) (Nat.le_of_ble_eq_true rfl) ?_
            refine go_if_eq 16 58 dX9_digits_13 rfl (by decide) (fun hc16 => ?_) (fun hc16 => ?_)
            · refine go_iload_n 59 dX9_digits_58 rfl rfl ?_
              refine go_ireturn dX9_digits_59 rfl (by first | rfl | exact bi_nar) (Nat.le_of_ble_eq_true rfl) (Nat.le_of_ble_eq_true rfl) ?_
              exact ⟨congrArg (fun z => some (Value.int z)) (by unfold f_rdg4; simp only [if_neg hc2, if_neg hc5, if_pos hc6, if_neg hc8, if_neg hc9, if_pos hc16]; try first | rfl | contradiction), congrArg hp (by unfold f_rdg4; simp only [if_neg hc2, if_neg hc5, if_pos hc6, if_neg hc8, if_neg hc9, if_pos hc16]; try first | rfl | contradiction)⟩
            · have hd := okT.dig ht hc16
              have hix := okT.dgi ht hc16
              refine go_iload_n 17 dX9_digits_16 rfl rfl ?_
              refine go_if_ge 20 24 dX9_digits_17 rfl (by decide) (fun hc17 => ?_) (fun hc17 => ?_)
              · refine go_bipush 26 (10) dX9_digits_24 rfl (by decide) ?_
                refine go_iload_n 27 dX9_digits_26 rfl rfl ?_
                refine go_imul 28 dX9_digits_27 rfl ?_
                refine go_aload_n 29 dX9_digits_28 rfl rfl ?_
                refine g_getR 32 dX9_digits_29 rfl fF_RX9_74 ly_115 rfl ?_
                refine go_aload_n 33 dX9_digits_32 rfl rfl ?_
                refine g_getI 36 dX9_digits_33 rfl fF_RX9_298 ly_115 rfl ?_
                refine go_topi _ (rI_same _ _ _ _) ?_
                refine g_iald2 37 _ dX9_digits_36 rfl ly_137 hix rfl ?_
                refine go_topi (rI S 137 (((((rI S 115 35) + 1) + 1) + 1)).toNatClampNeg) ((rI_wIk (by decide) _ _ _).trans ((rI_wIk (by decide) _ _ _).trans (rI_wIk (by decide) _ _ _))) ?_
                refine go_iadd 38 dX9_digits_37 rfl ?_
                refine go_bipush 40 (48) dX9_digits_38 rfl (by decide) ?_
                refine go_isub 41 dX9_digits_40 rfl ?_
                refine go_istore_n 42 [(2, .int _), (3, .int _), (0, .ref 115), (1, .int _)] dX9_digits_41 rfl (Nat.le_of_ble_eq_true rfl) rfl ?_
                refine go_aload_n 43 dX9_digits_42 rfl rfl ?_
                refine go_dup 44 dX9_digits_43 rfl rfl ?_
                refine g_getI 47 dX9_digits_44 rfl fF_RX9_298 ly_115 rfl ?_
                refine go_topi _ (rI_same _ _ _ _) ?_
                refine go_iconst 48 (1) dX9_digits_47 rfl (by decide) ?_
                refine go_iadd 49 dX9_digits_48 rfl ?_
                refine g_putI 52 dX9_digits_49 rfl fF_RX9_298 ly_115 rfl (fun q hq => by cases hq; rfl) rfl rfl ?_
                replace ht := hd
                refine go_iinc 55 [(3, .int _), (2, .int _), (0, .ref 115), (1, .int _)] (4) dX9_digits_52 rfl (Nat.le_of_ble_eq_true rfl) rfl (by decide) rfl ?_
                refine go_goto 4 dX9_digits_55 (by decide) ?_
                refine go_iload_n 5 dX9_digits_4 rfl rfl ?_
                refine go_iload_n 6 dX9_digits_5 rfl rfl ?_
                refine go_icmp_ge 9 58 dX9_digits_6 rfl (by decide) (fun _ => ?_) (fun hc18 => absurd hc18 (by decide))
                refine go_iload_n 59 dX9_digits_58 rfl rfl ?_
                refine go_ireturn dX9_digits_59 rfl (by first | rfl | exact bi_nar) (Nat.le_of_ble_eq_true rfl) (Nat.le_of_ble_eq_true rfl) ?_
                exact ⟨congrArg (fun z => some (Value.int z)) (by unfold f_rdg4; simp only [if_neg hc2, if_neg hc5, if_pos hc6, if_neg hc8, if_neg hc9, if_neg hc16, if_pos hc17]; try first | rfl | contradiction), congrArg hp (by unfold f_rdg4; simp only [if_neg hc2, if_neg hc5, if_pos hc6, if_neg hc8, if_neg hc9, if_neg hc16, if_pos hc17]; try first | rfl | contradiction)⟩
              · refine go_iconst 21 (0) dX9_digits_20 rfl (by decide) ?_
                refine go_goto 28 dX9_digits_21 (by decide) ?_
                refine go_aload_n 29 dX9_digits_28 rfl rfl ?_
                refine g_getR 32 dX9_digits_29 rfl fF_RX9_74 ly_115 rfl ?_
                refine go_aload_n 33 dX9_digits_32 rfl rfl ?_
                refine g_getI 36 dX9_digits_33 rfl fF_RX9_298 ly_115 rfl ?_
                refine go_topi _ (rI_same _ _ _ _) ?_
                refine g_iald2 37 _ dX9_digits_36 rfl ly_137 hix rfl ?_
                refine go_topi (rI S 137 (((((rI S 115 35) + 1) + 1) + 1)).toNatClampNeg) ((rI_wIk (by decide) _ _ _).trans ((rI_wIk (by decide) _ _ _).trans (rI_wIk (by decide) _ _ _))) ?_
                refine go_iadd 38 dX9_digits_37 rfl ?_
                refine go_bipush 40 (48) dX9_digits_38 rfl (by decide) ?_
                refine go_isub 41 dX9_digits_40 rfl ?_
                refine go_istore_n 42 [(2, .int _), (3, .int _), (0, .ref 115), (1, .int _)] dX9_digits_41 rfl (Nat.le_of_ble_eq_true rfl) rfl ?_
                refine go_aload_n 43 dX9_digits_42 rfl rfl ?_
                refine go_dup 44 dX9_digits_43 rfl rfl ?_
                refine g_getI 47 dX9_digits_44 rfl fF_RX9_298 ly_115 rfl ?_
                refine go_topi _ (rI_same _ _ _ _) ?_
                refine go_iconst 48 (1) dX9_digits_47 rfl (by decide) ?_
                refine go_iadd 49 dX9_digits_48 rfl ?_
                refine g_putI 52 dX9_digits_49 rfl fF_RX9_298 ly_115 rfl (fun q hq => by cases hq; rfl) rfl rfl ?_
                replace ht := hd
                refine go_iinc 55 [(3, .int _), (2, .int _), (0, .ref 115), (1, .int _)] (4) dX9_digits_52 rfl (Nat.le_of_ble_eq_true rfl) rfl (by decide) rfl ?_
                refine go_goto 4 dX9_digits_55 (by decide) ?_
                refine go_iload_n 5 dX9_digits_4 rfl rfl ?_
                refine go_iload_n 6 dX9_digits_5 rfl rfl ?_
                refine go_icmp_ge 9 58 dX9_digits_6 rfl (by decide) (fun _ => ?_) (fun hc19 => absurd hc19 (by decide))
                refine go_iload_n 59 dX9_digits_58 rfl rfl ?_
                refine go_ireturn dX9_digits_59 rfl (by first | rfl | exact bi_nar) (Nat.le_of_ble_eq_true rfl) (Nat.le_of_ble_eq_true rfl) ?_
                exact ⟨congrArg (fun z => some (Value.int z)) (by unfold f_rdg4; simp only [if_neg hc2, if_neg hc5, if_pos hc6, if_neg hc8, if_neg hc9, if_neg hc16, if_neg hc17]; try first | rfl | contradiction), congrArg hp (by unfold f_rdg4; simp only [if_neg hc2, if_neg hc5, if_pos hc6, if_neg hc8, if_neg hc9, if_neg hc16, if_neg hc17]; try first | rfl | contradiction)⟩
      · refine go_iconst 21 (0) dX9_digits_20 rfl (by decide) ?_
        refine go_goto 28 dX9_digits_21 (by decide) ?_
        refine go_aload_n 29 dX9_digits_28 rfl rfl ?_
        refine g_getR 32 dX9_digits_29 rfl fF_RX9_74 ly_115 rfl ?_
        refine go_aload_n 33 dX9_digits_32 rfl rfl ?_
        refine g_getI 36 dX9_digits_33 rfl fF_RX9_298 ly_115 rfl ?_
        refine go_topi _ (rI_same _ _ _ _) ?_
        refine g_iald2 37 _ dX9_digits_36 rfl ly_137 hix rfl ?_
        refine go_topi (rI S 137 (((rI S 115 35) + 1)).toNatClampNeg) (rI_wIk (by decide) _ _ _) ?_
        refine go_iadd 38 dX9_digits_37 rfl ?_
        refine go_bipush 40 (48) dX9_digits_38 rfl (by decide) ?_
        refine go_isub 41 dX9_digits_40 rfl ?_
        refine go_istore_n 42 [(2, .int _), (3, .int _), (0, .ref 115), (1, .int _)] dX9_digits_41 rfl (Nat.le_of_ble_eq_true rfl) rfl ?_
        refine go_aload_n 43 dX9_digits_42 rfl rfl ?_
        refine go_dup 44 dX9_digits_43 rfl rfl ?_
        refine g_getI 47 dX9_digits_44 rfl fF_RX9_298 ly_115 rfl ?_
        refine go_topi _ (rI_same _ _ _ _) ?_
        refine go_iconst 48 (1) dX9_digits_47 rfl (by decide) ?_
        refine go_iadd 49 dX9_digits_48 rfl ?_
        refine g_putI 52 dX9_digits_49 rfl fF_RX9_298 ly_115 rfl (fun q hq => by cases hq; rfl) rfl rfl ?_
        replace ht := hd
        refine go_iinc 55 [(3, .int _), (2, .int _), (0, .ref 115), (1, .int _)] (2) dX9_digits_52 rfl (Nat.le_of_ble_eq_true rfl) rfl (by decide) rfl ?_
        refine go_goto 4 dX9_digits_55 (by decide) ?_
        refine go_iload_n 5 dX9_digits_4 rfl rfl ?_
        refine go_iload_n 6 dX9_digits_5 rfl rfl ?_
        refine go_icmp_ge 9 58 dX9_digits_6 rfl (by decide) (fun hc20 => absurd hc20 (by decide)) (fun _ => ?_)
        refine go_aload_n 10 dX9_digits_9 rfl rfl ?_
        refine g_callV 13 [] [] dX9_digits_10 rfl (ct_X9_isDigit _ ht) rfl sV_X9_digits_305 rfl ly_115 rfl rfl (Nat.le_of_ble_eq_true rfl) (Nat.le_of_ble_eq_true rfl) (Nat.le_of_ble_eq_true rfl) ?_
        refine go_if_eq 16 58 dX9_digits_13 rfl (by decide) (fun hc21 => ?_) (fun hc21 => ?_)
        · refine go_iload_n 59 dX9_digits_58 rfl rfl ?_
          refine go_ireturn dX9_digits_59 rfl (by first | rfl | exact bi_nar) (Nat.le_of_ble_eq_true rfl) (Nat.le_of_ble_eq_true rfl) ?_
          exact ⟨congrArg (fun z => some (Value.int z)) (by unfold f_rdg4; simp only [if_neg hc2, if_neg hc5, if_neg hc6, if_pos hc21]; try first | rfl | contradiction), congrArg hp (by unfold f_rdg4; simp only [if_neg hc2, if_neg hc5, if_neg hc6, if_pos hc21]; try first | rfl | contradiction)⟩
        · have hd := okT.dig ht hc21
          have hix := okT.dgi ht hc21
          refine go_iload_n 17 dX9_digits_16 rfl rfl ?_
          refine go_if_ge 20 24 dX9_digits_17 rfl (by decide) (fun hc22 => ?_) (fun hc22 => ?_)
          · refine go_bipush 26 (10) dX9_digits_24 rfl (by decide) ?_
            refine go_iload_n 27 dX9_digits_26 rfl rfl ?_
            refine go_imul 28 dX9_digits_27 rfl ?_
            refine go_aload_n 29 dX9_digits_28 rfl rfl ?_
            refine g_getR 32 dX9_digits_29 rfl fF_RX9_74 ly_115 rfl ?_
            refine go_aload_n 33 dX9_digits_32 rfl rfl ?_
            refine g_getI 36 dX9_digits_33 rfl fF_RX9_298 ly_115 rfl ?_
            refine go_topi _ (rI_same _ _ _ _) ?_
            refine g_iald2 37 _ dX9_digits_36 rfl ly_137 hix rfl ?_
            refine go_topi (rI S 137 ((((rI S 115 35) + 1) + 1)).toNatClampNeg) ((rI_wIk (by decide) _ _ _).trans (rI_wIk (by decide) _ _ _)) ?_
            refine go_iadd 38 dX9_digits_37 rfl ?_
            refine go_bipush 40 (48) dX9_digits_38 rfl (by decide) ?_
            refine go_isub 41 dX9_digits_40 rfl ?_
            refine go_istore_n 42 [(2, .int _), (3, .int _), (0, .ref 115), (1, .int _)] dX9_digits_41 rfl (Nat.le_of_ble_eq_true rfl) rfl ?_
            refine go_aload_n 43 dX9_digits_42 rfl rfl ?_
            refine go_dup 44 dX9_digits_43 rfl rfl ?_
            refine g_getI 47 dX9_digits_44 rfl fF_RX9_298 ly_115 rfl ?_
            refine go_topi _ (rI_same _ _ _ _) ?_
            refine go_iconst 48 (1) dX9_digits_47 rfl (by decide) ?_
            refine go_iadd 49 dX9_digits_48 rfl ?_
            refine g_putI 52 dX9_digits_49 rfl fF_RX9_298 ly_115 rfl (fun q hq => by cases hq; rfl) rfl rfl ?_
            replace ht := hd
            refine go_iinc 55 [(3, .int _), (2, .int _), (0, .ref 115), (1, .int _)] (3) dX9_digits_52 rfl (Nat.le_of_ble_eq_true rfl) rfl (by decide) rfl ?_
            refine go_goto 4 dX9_digits_55 (by decide) ?_
            refine go_iload_n 5 dX9_digits_4 rfl rfl ?_
            refine go_iload_n 6 dX9_digits_5 rfl rfl ?_
            refine go_icmp_ge 9 58 dX9_digits_6 rfl (by decide) (fun hc23 => absurd hc23 (by decide)) (fun _ => ?_)
            refine go_aload_n 10 dX9_digits_9 rfl rfl ?_
            refine g_callV 13 [] [] dX9_digits_10 rfl (ct_X9_isDigit _ ht) rfl sV_X9_digits_305 rfl ly_115 rfl rfl (Nat.le_of_ble_eq_true rfl) (Nat.le_of_ble_eq_true rfl) (Nat.le_of_ble_eq_true rfl) ?_
            refine go_if_eq 16 58 dX9_digits_13 rfl (by decide) (fun hc24 => ?_) (fun hc24 => ?_)
            · refine go_iload_n 59 dX9_digits_58 rfl rfl ?_
              refine go_ireturn dX9_digits_59 rfl (by first | rfl | exact bi_nar) (Nat.le_of_ble_eq_true rfl) (Nat.le_of_ble_eq_true rfl) ?_
              exact ⟨congrArg (fun z => some (Value.int z)) (by unfold f_rdg4; simp only [if_neg hc2, if_neg hc5, if_neg hc6, if_neg hc21, if_pos hc22, if_pos hc24]; try first | rfl | contradiction), congrArg hp (by unfold f_rdg4; simp only [if_neg hc2, if_neg hc5, if_neg hc6, if_neg hc21, if_pos hc22, if_pos hc24]; try first | rfl | contradiction)⟩
            · have hd := okT.dig ht hc24
              have hix := okT.dgi ht hc24
              refine go_iload_n 17 dX9_digits_16 rfl rfl ?_
              refine go_if_ge 20 24 dX9_digits_17 rfl (by decide) (fun hc25 => ?_) (fun hc25 => ?_)
              · refine go_bipush 26 (10) dX9_digits_24 rfl (by decide) ?_
                refine go_iload_n 27 dX9_digits_26 rfl rfl ?_
                refine go_imul 28 dX9_digits_27 rfl ?_
                refine go_aload_n 29 dX9_digits_28 rfl rfl ?_
                refine g_getR 32 dX9_digits_29 rfl fF_RX9_74 ly_115 rfl ?_
                refine go_aload_n 33 dX9_digits_32 rfl rfl ?_
                refine g_getI 36 dX9_digits_33 rfl fF_RX9_298 ly_115 rfl ?_
                refine go_topi _ (rI_same _ _ _ _) ?_
                refine g_iald2 37 _ dX9_digits_36 rfl ly_137 hix rfl ?_
                refine go_topi (rI S 137 (((((rI S 115 35) + 1) + 1) + 1)).toNatClampNeg) ((rI_wIk (by decide) _ _ _).trans ((rI_wIk (by decide) _ _ _).trans (rI_wIk (by decide) _ _ _))) ?_
                refine go_iadd 38 dX9_digits_37 rfl ?_
                refine go_bipush 40 (48) dX9_digits_38 rfl (by decide) ?_
                refine go_isub 41 dX9_digits_40 rfl ?_
                refine go_istore_n 42 [(2, .int _), (3, .int _), (0, .ref 115), (1, .int _)] dX9_digits_41 rfl (Nat.le_of_ble_eq_true rfl) rfl ?_
                refine go_aload_n 43 dX9_digits_42 rfl rfl ?_
                refine go_dup 44 dX9_digits_43 rfl rfl ?_
                refine g_getI 47 dX9_digits_44 rfl fF_RX9_298 ly_115 rfl ?_
                refine go_topi _ (rI_same _ _ _ _) ?_
                refine go_iconst 48 (1) dX9_digits_47 rfl (by decide) ?_
                refine go_iadd 49 dX9_digits_48 rfl ?_
                refine g_putI 52 dX9_digits_49 rfl fF_RX9_298 ly_115 rfl (fun q hq => by cases hq; rfl) rfl rfl ?_
                replace ht := hd
                refine go_iinc 55 [(3, .int _), (2, .int _), (0, .ref 115), (1, .int _)] (4) dX9_digits_52 rfl (Nat.le_of_ble_eq_true rfl) rfl (by decide) rfl ?_
                refine go_goto 4 dX9_digits_55 (by decide) ?_
                refine go_iload_n 5 dX9_digits_4 rfl rfl ?_
                refine go_iload_n 6 dX9_digits_5 rfl rfl ?_
                refine go_icmp_ge 9 58 dX9_digits_6 rfl (by decide) (fun _ => ?_) (fun hc26 => absurd hc26 (by decide))
                refine go_iload_n 59 dX9_digits_58 rfl rfl ?_
                refine go_ireturn dX9_digits_59 rfl (by first | rfl | exact bi_nar) (Nat.le_of_ble_eq_true rfl) (Nat.le_of_ble_eq_true rfl) ?_
                exact ⟨congrArg (fun z => some (Value.int z)) (by unfold f_rdg4; simp only [if_neg hc2, if_neg hc5, if_neg hc6, if_neg hc21, if_pos hc22, if_neg hc24, if_pos hc25]; try first | rfl | contradiction), congrArg hp (by unfold f_rdg4; simp only [if_neg hc2, if_neg hc5, if_neg hc6, if_neg hc21, if_pos hc22, if_neg hc24, if_pos hc25]; try first | rfl | contradiction)⟩
              · refine go_iconst 21 (0) dX9_digits_20 rfl (by decide) ?_
                refine go_goto 28 dX9_digits_21 (by decide) ?_
                refine go_aload_n 29 dX9_digits_28 rfl rfl ?_
                refine g_getR 32 dX9_digits_29 rfl fF_RX9_74 ly_115 rfl ?_
                refine go_aload_n 33 dX9_digits_32 rfl rfl ?_
                refine g_getI 36 dX9_digits_33 rfl fF_RX9_298 ly_115 rfl ?_
                refine go_topi _ (rI_same _ _ _ _) ?_
                refine g_iald2 37 _ dX9_digits_36 rfl ly_137 hix rfl ?_
                refine go_topi (rI S 137 (((((rI S 115 35) + 1) + 1) + 1)).toNatClampNeg) ((rI_wIk (by decide) _ _ _).trans ((rI_wIk (by decide) _ _ _).trans (rI_wIk (by decide) _ _ _))) ?_
                refine go_iadd 38 dX9_digits_37 rfl ?_
                refine go_bipush 40 (48) dX9_digits_38 rfl (by decide) ?_
                refine go_isub 41 dX9_digits_40 rfl ?_
                refine go_istore_n 42 [(2, .int _), (3, .int _), (0, .ref 115), (1, .int _)] dX9_digits_41 rfl (Nat.le_of_ble_eq_true rfl) rfl ?_
                refine go_aload_n 43 dX9_digits_42 rfl rfl ?_
                refine go_dup 44 dX9_digits_43 rfl rfl ?_
                refine g_getI 47 dX9_digits_44 rfl fF_RX9_298 ly_115 rfl ?_
                refine go_topi _ (rI_same _ _ _ _) ?_
                refine go_iconst 48 (1) dX9_digits_47 rfl (by decide) ?_
                refine go_iadd 49 dX9_digits_48 rfl ?_
                refine g_putI 52 dX9_digits_49 rfl fF_RX9_298 ly_115 rfl (fun q hq => by cases hq; rfl) rfl rfl ?_
                replace ht := hd
                refine go_iinc 55 [(3, .int _), (2, .int _), (0, .ref 115), (1, .int _)] (4) dX9_digits_52 rfl (Nat.le_of_ble_eq_true rfl) rfl (by decide) rfl ?_
                refine go_goto 4 dX9_digits_55 (by decide) ?_
                refine go_iload_n 5 dX9_digits_4 rfl rfl ?_
                refine go_iload_n 6 dX9_digits_5 rfl rfl ?_
                refine go_icmp_ge 9 58 dX9_digits_6 rfl (by decide) (fun _ => ?_) (fun hc27 => absurd hc27 (by decide))
                refine go_iload_n 59 dX9_digits_58 rfl rfl ?_
                refine go_ireturn dX9_digits_59 rfl (by first | rfl | exact bi_nar) (Nat.le_of_ble_eq_true rfl) (Nat.le_of_ble_eq_true rfl) ?_
                exact ⟨congrArg (fun z => some (Value.int z)) (by unfold f_rdg4; simp only [if_neg hc2, if_neg hc5, if_neg hc6, if_neg hc21, if_pos hc22, if_neg hc24, if_neg hc25]; try first | rfl | contradiction), congrArg hp (by unfold f_rdg4; simp only [if_neg hc2, if_neg hc5, if_neg hc6, if_neg hc21, if_pos hc22, if_neg hc24, if_neg hc25]; try first | rfl | contradiction)⟩
          · refine go_iconst 21 (0) dX9_digits_20 rfl (by decide) ?_
            refine go_goto 28 dX9_digits_21 (by decide) ?_
            refine go_aload_n 29 dX9_digits_28 rfl rfl ?_
            refine g_getR 32 dX9_digits_29 rfl fF_RX9_74 ly_115 rfl ?_
            refine go_aload_n 33 dX9_digits_32 rfl rfl ?_
            refine g_getI 36 dX9_digits_33 rfl fF_RX9_298 ly_115 rfl ?_
            refine go_topi _ (rI_same _ _ _ _) ?_
            refine g_iald2 37 _ dX9_digits_36 rfl ly_137 hix rfl ?_
            refine go_topi (rI S 137 ((((rI S 115 35) + 1) + 1)).toNatClampNeg) ((rI_wIk (by decide) _ _ _).trans (rI_wIk (by decide) _ _ _)) ?_
            refine go_iadd 38 dX9_digits_37 rfl ?_
            refine go_bipush 40 (48) dX9_digits_38 rfl (by decide) ?_
            refine go_isub 41 dX9_digits_40 rfl ?_
            refine go_istore_n 42 [(2, .int _), (3, .int _), (0, .ref 115), (1, .int _)] dX9_digits_41 rfl (Nat.le_of_ble_eq_true rfl) rfl ?_
            refine go_aload_n 43 dX9_digits_42 rfl rfl ?_
            refine go_dup 44 dX9_digits_43 rfl rfl ?_
            refine g_getI 47 dX9_digits_44 rfl fF_RX9_298 ly_115 rfl ?_
            refine go_topi _ (rI_same _ _ _ _) ?_
            refine go_iconst 48 (1) dX9_digits_47 rfl (by decide) ?_
            refine go_iadd 49 dX9_digits_48 rfl ?_
            refine g_putI 52 dX9_digits_49 rfl fF_RX9_298 ly_115 rfl (fun q hq => by cases hq; rfl) rfl rfl ?_
            replace ht := hd
            refine go_iinc 55 [(3, .int _), (2, .int _), (0, .ref 115), (1, .int _)] (3) dX9_digits_52 rfl (Nat.le_of_ble_eq_true rfl) rfl (by decide) rfl ?_
            refine go_goto 4 dX9_digits_55 (by decide) ?_
            refine go_iload_n 5 dX9_digits_4 rfl rfl ?_
            refine go_iload_n 6 dX9_digits_5 rfl rfl ?_
            refine go_icmp_ge 9 58 dX9_digits_6 rfl (by decide) (fun hc28 => absurd hc28 (by decide)) (fun _ => ?_)
            refine go_aload_n 10 dX9_digits_9 rfl rfl ?_
            refine g_callV 13 [] [] dX9_digits_10 rfl (ct_X9_isDigit _ ht) rfl sV_X9_digits_305 rfl ly_115 rfl rfl (Nat.le_of_ble_eq_true rfl) (Nat.le_of_ble_eq_true rfl) (Nat.le_of_ble_eq_true rfl) ?_
            refine go_if_eq 16 58 dX9_digits_13 rfl (by decide) (fun hc29 => ?_) (fun hc29 => ?_)
            · refine go_iload_n 59 dX9_digits_58 rfl rfl ?_
              refine go_ireturn dX9_digits_59 rfl (by first | rfl | exact bi_nar) (Nat.le_of_ble_eq_true rfl) (Nat.le_of_ble_eq_true rfl) ?_
              exact ⟨congrArg (fun z => some (Value.int z)) (by unfold f_rdg4; simp only [if_neg hc2, if_neg hc5, if_neg hc6, if_neg hc21, if_neg hc22, if_pos hc29]; try first | rfl | contradiction), congrArg hp (by unfold f_rdg4; simp only [if_neg hc2, if_neg hc5, if_neg hc6, if_neg hc21, if_neg hc22, if_pos hc29]; try first | rfl | contradiction)⟩
            · have hd := okT.dig ht hc29
              have hix := okT.dgi ht hc29
              refine go_iload_n 17 dX9_digits_16 rfl rfl ?_
              refine go_if_ge 20 24 dX9_digits_17 rfl (by decide) (fun hc30 => ?_) (fun hc30 => ?_)
              · refine go_bipush 26 (10) dX9_digits_24 rfl (by decide) ?_
                refine go_iload_n 27 dX9_digits_26 rfl rfl ?_
                refine go_imul 28 dX9_digits_27 rfl ?_
                refine go_aload_n 29 dX9_digits_28 rfl rfl ?_
                refine g_getR 32 dX9_digits_29 rfl fF_RX9_74 ly_115 rfl ?_
                refine go_aload_n 33 dX9_digits_32 rfl rfl ?_
                refine g_getI 36 dX9_digits_33 rfl fF_RX9_298 ly_115 rfl ?_
                refine go_topi _ (rI_same _ _ _ _) ?_
                refine g_iald2 37 _ dX9_digits_36 rfl ly_137 hix rfl ?_
                refine go_topi (rI S 137 (((((rI S 115 35) + 1) + 1) + 1)).toNatClampNeg) ((rI_wIk (by decide) _ _ _).trans ((rI_wIk (by decide) _ _ _).trans (rI_wIk (by decide) _ _ _))) ?_
                refine go_iadd 38 dX9_digits_37 rfl ?_
                refine go_bipush 40 (48) dX9_digits_38 rfl (by decide) ?_
                refine go_isub 41 dX9_digits_40 rfl ?_
                refine go_istore_n 42 [(2, .int _), (3, .int _), (0, .ref 115), (1, .int _)] dX9_digits_41 rfl (Nat.le_of_ble_eq_true rfl) rfl ?_
                refine go_aload_n 43 dX9_digits_42 rfl rfl ?_
                refine go_dup 44 dX9_digits_43 rfl rfl ?_
                refine g_getI 47 dX9_digits_44 rfl fF_RX9_298 ly_115 rfl ?_
                refine go_topi _ (rI_same _ _ _ _) ?_
                refine go_iconst 48 (1) dX9_digits_47 rfl (by decide) ?_
                refine go_iadd 49 dX9_digits_48 rfl ?_
                refine g_putI 52 dX9_digits_49 rfl fF_RX9_298 ly_115 rfl (fun q hq => by cases hq; rfl) rfl rfl ?_
                replace ht := hd
                refine go_iinc 55 [(3, .int _), (2, .int _), (0, .ref 115), (1, .int _)] (4) dX9_digits_52 rfl (Nat.le_of_ble_eq_true rfl) rfl (by decide) rfl ?_
                refine go_goto 4 dX9_digits_55 (by decide) ?_
                refine go_iload_n 5 dX9_digits_4 rfl rfl ?_
                refine go_iload_n 6 dX9_digits_5 rfl rfl ?_
                refine go_icmp_ge 9 58 dX9_digits_6 rfl (by decide) (fun _ => ?_) (fun hc31 => absurd hc31 (by decide))
                refine go_iload_n 59 dX9_digits_58 rfl rfl ?_
                refine go_ireturn dX9_digits_59 rfl (by first | rfl | exact bi_nar) (Nat.le_of_ble_eq_true rfl) (Nat.le_of_ble_eq_true rfl) ?_
                exact ⟨congrArg (fun z => some (Value.int z)) (by unfold f_rdg4; simp only [if_neg hc2, if_neg hc5, if_neg hc6, if_neg hc21, if_neg hc22, if_neg hc29, if_pos hc30]; try first | rfl | contradiction), congrArg hp (by unfold f_rdg4; simp only [if_neg hc2, if_neg hc5, if_neg hc6, if_neg hc21, if_neg hc22, if_neg hc29, if_pos hc30]; try first | rfl | contradiction)⟩
              · refine go_iconst 21 (0) dX9_digits_20 rfl (by decide) ?_
                refine go_goto 28 dX9_digits_21 (by decide) ?_
                refine go_aload_n 29 dX9_digits_28 rfl rfl ?_
                refine g_getR 32 dX9_digits_29 rfl fF_RX9_74 ly_115 rfl ?_
                refine go_aload_n 33 dX9_digits_32 rfl rfl ?_
                refine g_getI 36 dX9_digits_33 rfl fF_RX9_298 ly_115 rfl ?_
                refine go_topi _ (rI_same _ _ _ _) ?_
                refine g_iald2 37 _ dX9_digits_36 rfl ly_137 hix rfl ?_
                refine go_topi (rI S 137 (((((rI S 115 35) + 1) + 1) + 1)).toNatClampNeg) ((rI_wIk (by decide) _ _ _).trans ((rI_wIk (by decide) _ _ _).trans (rI_wIk (by decide) _ _ _))) ?_
                refine go_iadd 38 dX9_digits_37 rfl ?_
                refine go_bipush 40 (48) dX9_digits_38 rfl (by decide) ?_
                refine go_isub 41 dX9_digits_40 rfl ?_
                refine go_istore_n 42 [(2, .int _), (3, .int _), (0, .ref 115), (1, .int _)] dX9_digits_41 rfl (Nat.le_of_ble_eq_true rfl) rfl ?_
                refine go_aload_n 43 dX9_digits_42 rfl rfl ?_
                refine go_dup 44 dX9_digits_43 rfl rfl ?_
                refine g_getI 47 dX9_digits_44 rfl fF_RX9_298 ly_115 rfl ?_
                refine go_topi _ (rI_same _ _ _ _) ?_
                refine go_iconst 48 (1) dX9_digits_47 rfl (by decide) ?_
                refine go_iadd 49 dX9_digits_48 rfl ?_
                refine g_putI 52 dX9_digits_49 rfl fF_RX9_298 ly_115 rfl (fun q hq => by cases hq; rfl) rfl rfl ?_
                replace ht := hd
                refine go_iinc 55 [(3, .int _), (2, .int _), (0, .ref 115), (1, .int _)] (4) dX9_digits_52 rfl (Nat.le_of_ble_eq_true rfl) rfl (by decide) rfl ?_
                refine go_goto 4 dX9_digits_55 (by decide) ?_
                refine go_iload_n 5 dX9_digits_4 rfl rfl ?_
                refine go_iload_n 6 dX9_digits_5 rfl rfl ?_
                refine go_icmp_ge 9 58 dX9_digits_6 rfl (by decide) (fun _ => ?_) (fun hc32 => absurd hc32 (by decide))
                refine go_iload_n 59 dX9_digits_58 rfl rfl ?_
                refine go_ireturn dX9_digits_59 rfl (by first | rfl | exact bi_nar) (Nat.le_of_ble_eq_true rfl) (Nat.le_of_ble_eq_true rfl) ?_
                exact ⟨congrArg (fun z => some (Value.int z)) (by unfold f_rdg4; simp only [if_neg hc2, if_neg hc5, if_neg hc6, if_neg hc21, if_neg hc22, if_neg hc29, if_neg hc30]; try first | rfl | contradiction), congrArg hp (by unfold f_rdg4; simp only [if_neg hc2, if_neg hc5, if_neg hc6, if_neg hc21, if_neg hc22, if_neg hc29, if_neg hc30]; try first | rfl | contradiction)⟩
theorem fr_f_rdg4 {a0 c0 : Nat} (h115_35 : ¬ (a0 = 115 ∧ c0 = 35)) (S : gS)  : rI (f_rdg4 S).2 a0 c0 = rI S a0 c0 := by
  unfold f_rdg4
  first | (simp only [snd_ite, rI_ite, ite_self, rI_wIc h115_35]; done) | ((repeat' split) <;> first | rfl | simp only [rI_wIc h115_35])

theorem okT.rdg4 {S : gS} (ht : okT S) : okT (f_rdg4 S).2 := by
  unfold f_rdg4
  split
  · exact ht
  rename_i h1
  have ht1 := okT.dig ht h1
  split
  · exact ht1
  rename_i h2
  have ht2 := okT.dig ht1 h2
  have key : ∀ X Y : Int32 × gS, okT X.2 → okT Y.2 → ∀ (c : Prop) [Decidable c], okT (if c then X else Y).2 := fun X Y hX hY c _ => by split <;> assumption
  have fin : ∀ v : Int32, okT (v, wI (wI S 115 35 (rI S 115 35 + 1)) 115 35 (rI S 115 35 + 1 + 1)).2 := fun _ => ht2
  have fin3 : ¬ f_X9_isDigit (wI (wI S 115 35 (rI S 115 35 + 1)) 115 35 (rI S 115 35 + 1 + 1)) = 0 → okT (wI (wI (wI S 115 35 (rI S 115 35 + 1)) 115 35 (rI S 115 35 + 1 + 1)) 115 35 (rI S 115 35 + 1 + 1 + 1)) := fun h3 => okT.dig ht2 h3
  have fin4 : ∀ (h3 : ¬ f_X9_isDigit (wI (wI S 115 35 (rI S 115 35 + 1)) 115 35 (rI S 115 35 + 1 + 1)) = 0), ¬ f_X9_isDigit (wI (wI (wI S 115 35 (rI S 115 35 + 1)) 115 35 (rI S 115 35 + 1 + 1)) 115 35 (rI S 115 35 + 1 + 1 + 1)) = 0 → okT (wI (wI (wI (wI S 115 35 (rI S 115 35 + 1)) 115 35 (rI S 115 35 + 1 + 1)) 115 35 (rI S 115 35 + 1 + 1 + 1)) 115 35 (rI S 115 35 + 1 + 1 + 1 + 1)) := fun h3 h4 => okT.dig (okT.dig ht2 h3) h4
  (repeat' split) <;> first | exact ht2 | exact fin3 (by assumption) | exact fin4 (by assumption) (by assumption)
def f_X9_takesNumber (S : gS)  : Int32 × gS := (if (f_X9_skips S 45).1 = 0 then (if (f_rdg4 (f_X9_skips S 45).2).1 < 0 then (0, (wI (f_rdg4 (f_X9_skips S 45).2).2 115 39 ((f_rdg4 (f_X9_skips S 45).2).1))) else (1, (wI (f_rdg4 (f_X9_skips S 45).2).2 115 39 ((f_rdg4 (f_X9_skips S 45).2).1)))) else (if (f_rdg4 (f_X9_skips S 45).2).1 < 0 then (0, (wI (f_rdg4 (f_X9_skips S 45).2).2 115 39 ((-(f_rdg4 (f_X9_skips S 45).2).1)))) else (1, (wI (f_rdg4 (f_X9_skips S 45).2).2 115 39 ((-(f_rdg4 (f_X9_skips S 45).2).1))))))
set_option maxRecDepth 100000 in
set_option maxHeartbeats 1000000 in
theorem ct_X9_takesNumber (S : gS)  (ht : okT S) : gF mX9_takesNumber [.ref 115] S (some (.int (f_X9_takesNumber S).1)) (f_X9_takesNumber S).2 := by
  refine go_enter [.ref 115] [(0, .ref 115)] (by decide +kernel) rfl rfl (Nat.le_of_ble_eq_true rfl) rfl ?_
  refine go_aload_n 1 dX9_takesNumber_0 rfl rfl ?_
  refine go_bipush 3 (45) dX9_takesNumber_1 rfl (by decide) ?_
  refine g_callV 6 [.int _] [] dX9_takesNumber_3 rfl (ct_X9_skips _ _ ht) rfl sV_X9_takesNumber_309 rfl ly_115 rfl rfl (Nat.le_of_ble_eq_true rfl) (Nat.le_of_ble_eq_true rfl) (Nat.le_of_ble_eq_true rfl) ?_
  refine go_istore_n 7 [(1, .int _), (0, .ref 115)] dX9_takesNumber_6 rfl (Nat.le_of_ble_eq_true rfl) rfl ?_
  refine go_aload_n 8 dX9_takesNumber_7 rfl rfl ?_
  refine go_iconst 9 (4) dX9_takesNumber_8 rfl (by decide) ?_
  refine g_callV 12 [.int _] [] dX9_takesNumber_9 rfl (ct_rdg4 _ (okT.sk ht)) rfl sV_X9_takesNumber_312 rfl ly_115 rfl rfl (Nat.le_of_ble_eq_true rfl) (Nat.le_of_ble_eq_true rfl) (Nat.le_of_ble_eq_true rfl) ?_
  refine go_istore_n 13 [(2, .int _), (1, .int _), (0, .ref 115)] dX9_takesNumber_12 rfl (Nat.le_of_ble_eq_true rfl) rfl ?_
  refine go_aload_n 14 dX9_takesNumber_13 rfl rfl ?_
  refine go_iload_n 15 dX9_takesNumber_14 rfl rfl ?_
  refine go_if_eq 18 23 dX9_takesNumber_15 rfl (by decide) (fun hc1 => ?_) (fun hc1 => ?_)
  · refine go_iload_n 24 dX9_takesNumber_23 rfl rfl ?_
    refine g_putI 27 dX9_takesNumber_24 rfl fF_RX9_315 ly_115 rfl (fun q hq => by cases hq; rfl) rfl rfl ?_
    refine go_iload_n 28 dX9_takesNumber_27 rfl rfl ?_
    refine go_if_lt 31 35 dX9_takesNumber_28 rfl (by decide) (fun hc2 => ?_) (fun hc2 => ?_)
    · refine go_iconst 36 (0) dX9_takesNumber_35 rfl (by decide) ?_
      refine go_ireturn dX9_takesNumber_36 rfl (by first | rfl | exact bi_nar) (Nat.le_of_ble_eq_true rfl) (Nat.le_of_ble_eq_true rfl) ?_
      exact ⟨congrArg (fun z => some (Value.int z)) (by unfold f_X9_takesNumber; simp only [if_pos hc1, if_pos hc2]; try first | rfl | contradiction), congrArg hp (by unfold f_X9_takesNumber; simp only [if_pos hc1, if_pos hc2]; try first | rfl | contradiction)⟩
    · refine go_iconst 32 (1) dX9_takesNumber_31 rfl (by decide) ?_
      refine go_goto 36 dX9_takesNumber_32 (by decide) ?_
      refine go_ireturn dX9_takesNumber_36 rfl (by first | rfl | exact bi_nar) (Nat.le_of_ble_eq_true rfl) (Nat.le_of_ble_eq_true rfl) ?_
      exact ⟨congrArg (fun z => some (Value.int z)) (by unfold f_X9_takesNumber; simp only [if_pos hc1, if_neg hc2]; try first | rfl | contradiction), congrArg hp (by unfold f_X9_takesNumber; simp only [if_pos hc1, if_neg hc2]; try first | rfl | contradiction)⟩
  · refine go_iload_n 19 dX9_takesNumber_18 rfl rfl ?_
    refine go_ineg 20 dX9_takesNumber_19 rfl ?_
    refine go_goto 24 dX9_takesNumber_20 (by decide) ?_
    refine g_putI 27 dX9_takesNumber_24 rfl fF_RX9_315 ly_115 rfl (fun q hq => by cases hq; rfl) rfl rfl ?_
    refine go_iload_n 28 dX9_takesNumber_27 rfl rfl ?_
    refine go_if_lt 31 35 dX9_takesNumber_28 rfl (by decide) (fun hc3 => ?_) (fun hc3 => ?_)
    · refine go_iconst 36 (0) dX9_takesNumber_35 rfl (by decide) ?_
      refine go_ireturn dX9_takesNumber_36 rfl (by first | rfl | exact bi_nar) (Nat.le_of_ble_eq_true rfl) (Nat.le_of_ble_eq_true rfl) ?_
      exact ⟨congrArg (fun z => some (Value.int z)) (by unfold f_X9_takesNumber; simp only [if_neg hc1, if_pos hc3]; try first | rfl | contradiction), congrArg hp (by unfold f_X9_takesNumber; simp only [if_neg hc1, if_pos hc3]; try first | rfl | contradiction)⟩
    · refine go_iconst 32 (1) dX9_takesNumber_31 rfl (by decide) ?_
      refine go_goto 36 dX9_takesNumber_32 (by decide) ?_
      refine go_ireturn dX9_takesNumber_36 rfl (by first | rfl | exact bi_nar) (Nat.le_of_ble_eq_true rfl) (Nat.le_of_ble_eq_true rfl) ?_
      exact ⟨congrArg (fun z => some (Value.int z)) (by unfold f_X9_takesNumber; simp only [if_neg hc1, if_neg hc3]; try first | rfl | contradiction), congrArg hp (by unfold f_X9_takesNumber; simp only [if_neg hc1, if_neg hc3]; try first | rfl | contradiction)⟩
theorem fr_f_X9_takesNumber {a0 c0 : Nat} (h115_35 : ¬ (a0 = 115 ∧ c0 = 35)) (h115_39 : ¬ (a0 = 115 ∧ c0 = 39)) (S : gS)  : rI (f_X9_takesNumber S).2 a0 c0 = rI S a0 c0 := by
  unfold f_X9_takesNumber
  first | (simp only [snd_ite, rI_ite, ite_self, rI_wIc h115_35, rI_wIc h115_39, fr_f_X9_skips h115_35, fr_f_rdg4 h115_35]; done) | ((repeat' split) <;> first | rfl | simp only [rI_wIc h115_35, rI_wIc h115_39, fr_f_X9_skips h115_35, fr_f_rdg4 h115_35] | (apply fr_f_X9_skips <;> assumption) | (apply fr_f_rdg4 <;> assumption))

def f_X9_takesDigits (S : gS)  : Int32 × gS := (if ((f_rdg2 S).1) < 0 then (0, (wI (f_rdg2 S).2 115 39 ((f_rdg2 S).1))) else (1, (wI (f_rdg2 S).2 115 39 ((f_rdg2 S).1))))
set_option maxRecDepth 100000 in
set_option maxHeartbeats 1000000 in
theorem ct_X9_takesDigits (S : gS)  (ht : okT S) : gF mX9_takesDigits [.ref 115] S (some (.int (f_X9_takesDigits S).1)) (f_X9_takesDigits S).2 := by
  refine go_enter [.ref 115] [(0, .ref 115)] (by decide +kernel) rfl rfl (Nat.le_of_ble_eq_true rfl) rfl ?_
  refine go_aload_n 1 dX9_takesDigits_0 rfl rfl ?_
  refine go_aload_n 2 dX9_takesDigits_1 rfl rfl ?_
  refine go_iconst 3 (2) dX9_takesDigits_2 rfl (by decide) ?_
  refine g_callV 6 [.int _] [.ref 115] dX9_takesDigits_3 rfl (ct_rdg2 _ ht) rfl sV_X9_takesDigits_312 rfl ly_115 rfl rfl (Nat.le_of_ble_eq_true rfl) (Nat.le_of_ble_eq_true rfl) (Nat.le_of_ble_eq_true rfl) ?_
  refine g_putI 9 dX9_takesDigits_6 rfl fF_RX9_315 ly_115 rfl (fun q hq => by cases hq; rfl) rfl rfl ?_
  refine go_aload_n 10 dX9_takesDigits_9 rfl rfl ?_
  refine g_getI 13 dX9_takesDigits_10 rfl fF_RX9_315 ly_115 rfl ?_
  refine go_topi _ (rI_same _ _ _ _) ?_
  refine go_if_lt 16 20 dX9_takesDigits_13 rfl (by decide) (fun hc1 => ?_) (fun hc1 => ?_)
  · refine go_iconst 21 (0) dX9_takesDigits_20 rfl (by decide) ?_
    refine go_ireturn dX9_takesDigits_21 rfl (by first | rfl | exact bi_nar) (Nat.le_of_ble_eq_true rfl) (Nat.le_of_ble_eq_true rfl) ?_
    exact ⟨congrArg (fun z => some (Value.int z)) (by unfold f_X9_takesDigits; simp only [if_pos hc1]; try first | rfl | contradiction), congrArg hp (by unfold f_X9_takesDigits; simp only [if_pos hc1]; try first | rfl | contradiction)⟩
  · refine go_iconst 17 (1) dX9_takesDigits_16 rfl (by decide) ?_
    refine go_goto 21 dX9_takesDigits_17 (by decide) ?_
    refine go_ireturn dX9_takesDigits_21 rfl (by first | rfl | exact bi_nar) (Nat.le_of_ble_eq_true rfl) (Nat.le_of_ble_eq_true rfl) ?_
    exact ⟨congrArg (fun z => some (Value.int z)) (by unfold f_X9_takesDigits; simp only [if_neg hc1]; try first | rfl | contradiction), congrArg hp (by unfold f_X9_takesDigits; simp only [if_neg hc1]; try first | rfl | contradiction)⟩
theorem fr_f_X9_takesDigits {a0 c0 : Nat} (h115_35 : ¬ (a0 = 115 ∧ c0 = 35)) (h115_39 : ¬ (a0 = 115 ∧ c0 = 39)) (S : gS)  : rI (f_X9_takesDigits S).2 a0 c0 = rI S a0 c0 := by
  unfold f_X9_takesDigits
  first | (simp only [snd_ite, rI_ite, ite_self, rI_wIc h115_35, rI_wIc h115_39, fr_f_rdg2 h115_35]; done) | ((repeat' split) <;> first | rfl | simp only [rI_wIc h115_35, rI_wIc h115_39, fr_f_rdg2 h115_35] | (apply fr_f_rdg2 <;> assumption))

theorem zo_f_X9_takesNumber (S : gS) : (f_X9_takesNumber S).1 = 0 ∨ (f_X9_takesNumber S).1 = 1 := by
  unfold f_X9_takesNumber
  (repeat' split) <;> dsimp only <;> first | exact Or.inl rfl | exact Or.inr rfl
theorem nb_f_X9_takesNumber (S : gS) : narrow .boolean (.int (f_X9_takesNumber S).1) = .int (f_X9_takesNumber S).1 := by
  rcases zo_f_X9_takesNumber _ with e | e <;> rw [e] <;> rfl

theorem zo_f_X9_takesDigits (S : gS) : (f_X9_takesDigits S).1 = 0 ∨ (f_X9_takesDigits S).1 = 1 := by
  unfold f_X9_takesDigits
  (repeat' split) <;> dsimp only <;> first | exact Or.inl rfl | exact Or.inr rfl
theorem nb_f_X9_takesDigits (S : gS) : narrow .boolean (.int (f_X9_takesDigits S).1) = .int (f_X9_takesDigits S).1 := by
  rcases zo_f_X9_takesDigits _ with e | e <;> rw [e] <;> rfl

theorem okT.tn {S : gS} (ht : okT S) : okT (f_X9_takesNumber S).2 := by
  have h1 := okT.rdg4 (okT.sk ht (c := 45))
  unfold f_X9_takesNumber
  (repeat' split) <;> exact okT.w h1 _ _ _ (by decide)
theorem okT.td {S : gS} (ht : okT S) : okT (f_X9_takesDigits S).2 := by
  have h1 := okT.rdg2 ht
  unfold f_X9_takesDigits
  (repeat' split) <;> exact okT.w h1 _ _ _ (by decide)
