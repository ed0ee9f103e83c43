-- needs 
theorem okT.up {S T : gS} (h : okT S) (hl : rI S 115 35 < rI S 115 34) (e1 : rI T 115 34 = rI S 115 34) (e2 : rI T 115 35 = rI S 115 35 + 1) (e3 : rI T 115 36 = rI S 115 36) : okT T := by
  obtain ⟨len, a, it, h1, h2, h3, h4, h5, h6⟩ := h
  rw [h1, h2] at hl
  rw [nI_lt2 (by omega) (by omega)] at hl
  exact ⟨len, a + 1, it, e1.trans h1, by rw [e2, h2, nI_1], e3.trans h3, by omega, h5, h6⟩
theorem okT.of {S T : gS} (h : okT S) (e1 : rI T 115 34 = rI S 115 34) (e2 : rI T 115 35 = rI S 115 35) (e3 : rI T 115 36 = rI S 115 36) : okT T := by
  obtain ⟨len, a, it, h1, h2, h3, h4, h5, h6⟩ := h
  exact ⟨len, a, it, e1.trans h1, e2.trans h2, e3.trans h3, h4, h5, h6⟩
def f_pair1 (S : gS)  : Int32 × gS := (if (f_X9_takesNumber S).1 = 0 then (0, (f_X9_takesNumber S).2) else (if (f_X9_skips (wI (f_X9_takesNumber S).2 139 ((rI (f_X9_takesNumber S).2 115 36)).toNatClampNeg ((rI (f_X9_takesNumber S).2 115 39))) 58).1 = 0 then (0, (f_X9_skips (wI (f_X9_takesNumber S).2 139 ((rI (f_X9_takesNumber S).2 115 36)).toNatClampNeg ((rI (f_X9_takesNumber S).2 115 39))) 58).2) else (if (f_X9_takesNumber (f_X9_skips (wI (f_X9_takesNumber S).2 139 ((rI (f_X9_takesNumber S).2 115 36)).toNatClampNeg ((rI (f_X9_takesNumber S).2 115 39))) 58).2).1 = 0 then (0, (f_X9_takesNumber (f_X9_skips (wI (f_X9_takesNumber S).2 139 ((rI (f_X9_takesNumber S).2 115 36)).toNatClampNeg ((rI (f_X9_takesNumber S).2 115 39))) 58).2).2) else (1, (wI (f_X9_takesNumber (f_X9_skips (wI (f_X9_takesNumber S).2 139 ((rI (f_X9_takesNumber S).2 115 36)).toNatClampNeg ((rI (f_X9_takesNumber S).2 115 39))) 58).2).2 140 ((rI (f_X9_takesNumber (f_X9_skips (wI (f_X9_takesNumber S).2 139 ((rI (f_X9_takesNumber S).2 115 36)).toNatClampNeg ((rI (f_X9_takesNumber S).2 115 39))) 58).2).2 115 36)).toNatClampNeg ((rI (f_X9_takesNumber (f_X9_skips (wI (f_X9_takesNumber S).2 139 ((rI (f_X9_takesNumber S).2 115 36)).toNatClampNeg ((rI (f_X9_takesNumber S).2 115 39))) 58).2).2 115 39)))))))
set_option maxRecDepth 100000 in
set_option maxHeartbeats 1000000 in
theorem ct_pair1 (S : gS)  (ht : okT S) : gF mX9_takesPair [.ref 115, .int 1] S (some (.int (f_pair1 S).1)) (f_pair1 S).2 := by
  refine go_enter [.ref 115, .int 1] [(0, .ref 115), (1, .int 1)] (by decide +kernel) rfl rfl (Nat.le_of_ble_eq_true rfl) rfl ?_
  refine go_iload_n 1 dX9_takesPair_0 rfl rfl ?_
  refine go_if_eq 4 14 dX9_takesPair_1 rfl (by decide) (fun hc1 => absurd hc1 (by decide)) (fun _ => ?_)
  refine go_aload_n 5 dX9_takesPair_4 rfl rfl ?_
  refine g_callV 8 [] [] dX9_takesPair_5 rfl (ct_X9_takesNumber _ ht) rfl sV_X9_takesPair_318 rfl ly_115 rfl rfl (Nat.le_of_ble_eq_true rfl) (Nat.le_of_ble_eq_true rfl) (Nat.le_of_ble_eq_true rfl) ?_
  refine go_if_ne 11 23 dX9_takesPair_8 rfl (by decide) (fun hc2 => ?_) (fun hc2 => ?_)
  · refine go_aload_n 24 dX9_takesPair_23 rfl rfl ?_
    refine g_getR 27 dX9_takesPair_24 rfl fF_RX9_80 ly_115 rfl ?_
    refine go_aload_n 28 dX9_takesPair_27 rfl rfl ?_
    refine g_getI 31 dX9_takesPair_28 rfl fF_RX9_324 ly_115 rfl ?_
    refine go_aload_n 32 dX9_takesPair_31 rfl rfl ?_
    refine g_getI 35 dX9_takesPair_32 rfl fF_RX9_315 ly_115 rfl ?_
    refine g_iast2 36 _ dX9_takesPair_35 rfl ly_139 (okT.it (okT.tn ht)) rfl ?_
    have hA : okT (wI (f_X9_takesNumber S).2 139 ((rI (f_X9_takesNumber S).2 115 36)).toNatClampNeg ((rI (f_X9_takesNumber S).2 115 39))) := okT.of (okT.tn ht) (by simp [rI_wI]) (by simp [rI_wI]) (by simp [rI_wI])
    refine go_aload_n 37 dX9_takesPair_36 rfl rfl ?_
    refine go_bipush 39 (58) dX9_takesPair_37 rfl (by decide) ?_
    refine g_callV 42 [.int _] [] dX9_takesPair_39 rfl (ct_X9_skips _ _ hA) rfl sV_X9_takesPair_309 rfl ly_115 rfl rfl (Nat.le_of_ble_eq_true rfl) (Nat.le_of_ble_eq_true rfl) (Nat.le_of_ble_eq_true rfl) ?_
    refine go_if_eq 45 66 dX9_takesPair_42 rfl (by decide) (fun hc3 => ?_) (fun hc3 => ?_)
    · refine go_iconst 67 (0) dX9_takesPair_66 rfl (by decide) ?_
      refine go_ireturn dX9_takesPair_67 rfl (by first | rfl | exact bi_nar) (Nat.le_of_ble_eq_true rfl) (Nat.le_of_ble_eq_true rfl) ?_
      exact ⟨congrArg (fun z => some (Value.int z)) (by unfold f_pair1; simp only [if_neg hc2, if_pos hc3]; try first | rfl | contradiction), congrArg hp (by unfold f_pair1; simp only [if_neg hc2, if_pos hc3]; try first | rfl | contradiction)⟩
    · refine go_iload_n 46 dX9_takesPair_45 rfl rfl ?_
      refine go_if_eq 49 59 dX9_takesPair_46 rfl (by decide) (fun hc4 => absurd hc4 (by decide)) (fun _ => ?_)
      refine go_aload_n 50 dX9_takesPair_49 rfl rfl ?_
      refine g_callV 53 [] [] dX9_takesPair_50 rfl (ct_X9_takesNumber _ (okT.sk hA)) rfl sV_X9_takesPair_318 rfl ly_115 rfl rfl (Nat.le_of_ble_eq_true rfl) (Nat.le_of_ble_eq_true rfl) (Nat.le_of_ble_eq_true rfl) ?_
      refine go_if_ne 56 68 dX9_takesPair_53 rfl (by decide) (fun hc5 => ?_) (fun hc5 => ?_)
      · refine go_aload_n 69 dX9_takesPair_68 rfl rfl ?_
        refine g_getR 72 dX9_takesPair_69 rfl fF_RX9_83 ly_115 rfl ?_
        refine go_aload_n 73 dX9_takesPair_72 rfl rfl ?_
        refine g_getI 76 dX9_takesPair_73 rfl fF_RX9_324 ly_115 rfl ?_
        refine go_aload_n 77 dX9_takesPair_76 rfl rfl ?_
        refine g_getI 80 dX9_takesPair_77 rfl fF_RX9_315 ly_115 rfl ?_
        refine g_iast2 81 _ dX9_takesPair_80 rfl ly_140 (okT.it (okT.tn (okT.sk hA))) rfl ?_
        refine go_iconst 82 (1) dX9_takesPair_81 rfl (by decide) ?_
        refine go_ireturn dX9_takesPair_82 rfl (by first | rfl | exact bi_nar) (Nat.le_of_ble_eq_true rfl) (Nat.le_of_ble_eq_true rfl) ?_
        exact ⟨congrArg (fun z => some (Value.int z)) (by unfold f_pair1; simp only [if_neg hc2, if_neg hc3, if_neg hc5]; try first | rfl | contradiction), congrArg hp (by unfold f_pair1; simp only [if_neg hc2, if_neg hc3, if_neg hc5]; try first | rfl | contradiction)⟩
      · refine go_goto 66 dX9_takesPair_56 (by decide) ?_
        refine go_iconst 67 (0) dX9_takesPair_66 rfl (by decide) ?_
        refine go_ireturn dX9_takesPair_67 rfl (by first | rfl | exact bi_nar) (Nat.le_of_ble_eq_true rfl) (Nat.le_of_ble_eq_true rfl) ?_
        exact ⟨congrArg (fun z => some (Value.int z)) (by unfold f_pair1; simp only [if_neg hc2, if_neg hc3, if_pos hc5]; try first | rfl | contradiction), congrArg hp (by unfold f_pair1; simp only [if_neg hc2, if_neg hc3, if_pos hc5]; try first | rfl | contradiction)⟩
  · refine go_goto 21 dX9_takesPair_11 (by decide) ?_
    refine go_iconst 22 (0) dX9_takesPair_21 rfl (by decide) ?_
    refine go_ireturn dX9_takesPair_22 rfl (by first | rfl | exact bi_nar) (Nat.le_of_ble_eq_true rfl) (Nat.le_of_ble_eq_true rfl) ?_
    exact ⟨congrArg (fun z => some (Value.int z)) (by unfold f_pair1; simp only [if_pos hc2]; try first | rfl | contradiction), congrArg hp (by unfold f_pair1; simp only [if_pos hc2]; try first | rfl | contradiction)⟩

theorem zo_f_pair1 (S : gS) : (f_pair1 S).1 = 0 ∨ (f_pair1 S).1 = 1 := by
  unfold f_pair1
  (repeat' split) <;> dsimp only <;> first | exact Or.inl rfl | exact Or.inr rfl
theorem nb_f_pair1 (S : gS) : narrow .boolean (.int (f_pair1 S).1) = .int (f_pair1 S).1 := by
  rcases zo_f_pair1 _ with e | e <;> rw [e] <;> rfl

def f_pair0 (S : gS)  : Int32 × gS := (if (f_X9_takesDigits S).1 = 0 then (0, (f_X9_takesDigits S).2) else (if (f_X9_skips (wI (f_X9_takesDigits S).2 139 ((rI (f_X9_takesDigits S).2 115 36)).toNatClampNeg ((rI (f_X9_takesDigits S).2 115 39))) 58).1 = 0 then (0, (f_X9_skips (wI (f_X9_takesDigits S).2 139 ((rI (f_X9_takesDigits S).2 115 36)).toNatClampNeg ((rI (f_X9_takesDigits S).2 115 39))) 58).2) else (if (f_X9_takesDigits (f_X9_skips (wI (f_X9_takesDigits S).2 139 ((rI (f_X9_takesDigits S).2 115 36)).toNatClampNeg ((rI (f_X9_takesDigits S).2 115 39))) 58).2).1 = 0 then (0, (f_X9_takesDigits (f_X9_skips (wI (f_X9_takesDigits S).2 139 ((rI (f_X9_takesDigits S).2 115 36)).toNatClampNeg ((rI (f_X9_takesDigits S).2 115 39))) 58).2).2) else (1, (wI (f_X9_takesDigits (f_X9_skips (wI (f_X9_takesDigits S).2 139 ((rI (f_X9_takesDigits S).2 115 36)).toNatClampNeg ((rI (f_X9_takesDigits S).2 115 39))) 58).2).2 140 ((rI (f_X9_takesDigits (f_X9_skips (wI (f_X9_takesDigits S).2 139 ((rI (f_X9_takesDigits S).2 115 36)).toNatClampNeg ((rI (f_X9_takesDigits S).2 115 39))) 58).2).2 115 36)).toNatClampNeg ((rI (f_X9_takesDigits (f_X9_skips (wI (f_X9_takesDigits S).2 139 ((rI (f_X9_takesDigits S).2 115 36)).toNatClampNeg ((rI (f_X9_takesDigits S).2 115 39))) 58).2).2 115 39)))))))
set_option maxRecDepth 100000 in
set_option maxHeartbeats 1000000 in
theorem ct_pair0 (S : gS)  (ht : okT S) : gF mX9_takesPair [.ref 115, .int 0] S (some (.int (f_pair0 S).1)) (f_pair0 S).2 := by
  refine go_enter [.ref 115, .int 0] [(0, .ref 115), (1, .int 0)] (by decide +kernel) rfl rfl (Nat.le_of_ble_eq_true rfl) rfl ?_
  refine go_iload_n 1 dX9_takesPair_0 rfl rfl ?_
  refine go_if_eq 4 14 dX9_takesPair_1 rfl (by decide) (fun _ => ?_) (fun hc1 => absurd hc1 (by decide))
  refine go_aload_n 15 dX9_takesPair_14 rfl rfl ?_
  refine g_callV 18 [] [] dX9_takesPair_15 rfl (ct_X9_takesDigits _ ht) rfl sV_X9_takesPair_321 rfl ly_115 rfl rfl (Nat.le_of_ble_eq_true rfl) (Nat.le_of_ble_eq_true rfl) (Nat.le_of_ble_eq_true rfl) ?_
  refine go_if_ne 21 23 dX9_takesPair_18 rfl (by decide) (fun hc2 => ?_) (fun hc2 => ?_)
  · refine go_aload_n 24 dX9_takesPair_23 rfl rfl ?_
    refine g_getR 27 dX9_takesPair_24 rfl fF_RX9_80 ly_115 rfl ?_
    refine go_aload_n 28 dX9_takesPair_27 rfl rfl ?_
    refine g_getI 31 dX9_takesPair_28 rfl fF_RX9_324 ly_115 rfl ?_
    refine go_aload_n 32 dX9_takesPair_31 rfl rfl ?_
    refine g_getI 35 dX9_takesPair_32 rfl fF_RX9_315 ly_115 rfl ?_
    refine g_iast2 36 _ dX9_takesPair_35 rfl ly_139 (okT.it (okT.td ht)) rfl ?_
    have hA : okT (wI (f_X9_takesDigits S).2 139 ((rI (f_X9_takesDigits S).2 115 36)).toNatClampNeg ((rI (f_X9_takesDigits S).2 115 39))) := okT.of (okT.td ht) (by simp [rI_wI]) (by simp [rI_wI]) (by simp [rI_wI])
    refine go_aload_n 37 dX9_takesPair_36 rfl rfl ?_
    refine go_bipush 39 (58) dX9_takesPair_37 rfl (by decide) ?_
    refine g_callV 42 [.int _] [] dX9_takesPair_39 rfl (ct_X9_skips _ _ hA) rfl sV_X9_takesPair_309 rfl ly_115 rfl rfl (Nat.le_of_ble_eq_true rfl) (Nat.le_of_ble_eq_true rfl) (Nat.le_of_ble_eq_true rfl) ?_
    refine go_if_eq 45 66 dX9_takesPair_42 rfl (by decide) (fun hc3 => ?_) (fun hc3 => ?_)
    · refine go_iconst 67 (0) dX9_takesPair_66 rfl (by decide) ?_
      refine go_ireturn dX9_takesPair_67 rfl (by first | rfl | exact bi_nar) (Nat.le_of_ble_eq_true rfl) (Nat.le_of_ble_eq_true rfl) ?_
      exact ⟨congrArg (fun z => some (Value.int z)) (by unfold f_pair0; simp only [if_neg hc2, if_pos hc3]; try first | rfl | contradiction), congrArg hp (by unfold f_pair0; simp only [if_neg hc2, if_pos hc3]; try first | rfl | contradiction)⟩
    · refine go_iload_n 46 dX9_takesPair_45 rfl rfl ?_
      refine go_if_eq 49 59 dX9_takesPair_46 rfl (by decide) (fun _ => ?_) (fun hc4 => absurd hc4 (by decide))
      refine go_aload_n 60 dX9_takesPair_59 rfl rfl ?_
      refine g_callV 63 [] [] dX9_takesPair_60 rfl (ct_X9_takesDigits _ (okT.sk hA)) rfl sV_X9_takesPair_321 rfl ly_115 rfl rfl (Nat.le_of_ble_eq_true rfl) (Nat.le_of_ble_eq_true rfl) (Nat.le_of_ble_eq_true rfl) ?_
      refine go_if_ne 66 68 dX9_takesPair_63 rfl (by decide) (fun hc5 => ?_) (fun hc5 => ?_)
      · refine go_aload_n 69 dX9_takesPair_68 rfl rfl ?_
        refine g_getR 72 dX9_takesPair_69 rfl fF_RX9_83 ly_115 rfl ?_
        refine go_aload_n 73 dX9_takesPair_72 rfl rfl ?_
        refine g_getI 76 dX9_takesPair_73 rfl fF_RX9_324 ly_115 rfl ?_
        refine go_aload_n 77 dX9_takesPair_76 rfl rfl ?_
        refine g_getI 80 dX9_takesPair_77 rfl fF_RX9_315 ly_115 rfl ?_
        refine g_iast2 81 _ dX9_takesPair_80 rfl ly_140 (okT.it (okT.td (okT.sk hA))) rfl ?_
        refine go_iconst 82 (1) dX9_takesPair_81 rfl (by decide) ?_
        refine go_ireturn dX9_takesPair_82 rfl (by first | rfl | exact bi_nar) (Nat.le_of_ble_eq_true rfl) (Nat.le_of_ble_eq_true rfl) ?_
        exact ⟨congrArg (fun z => some (Value.int z)) (by unfold f_pair0; simp only [if_neg hc2, if_neg hc3, if_neg hc5]; try first | rfl | contradiction), congrArg hp (by unfold f_pair0; simp only [if_neg hc2, if_neg hc3, if_neg hc5]; try first | rfl | contradiction)⟩
      · refine go_iconst 67 (0) dX9_takesPair_66 rfl (by decide) ?_
        refine go_ireturn dX9_takesPair_67 rfl (by first | rfl | exact bi_nar) (Nat.le_of_ble_eq_true rfl) (Nat.le_of_ble_eq_true rfl) ?_
        exact ⟨congrArg (fun z => some (Value.int z)) (by unfold f_pair0; simp only [if_neg hc2, if_neg hc3, if_pos hc5]; try first | rfl | contradiction), congrArg hp (by unfold f_pair0; simp only [if_neg hc2, if_neg hc3, if_pos hc5]; try first | rfl | contradiction)⟩
  · refine go_iconst 22 (0) dX9_takesPair_21 rfl (by decide) ?_
    refine go_ireturn dX9_takesPair_22 rfl (by first | rfl | exact bi_nar) (Nat.le_of_ble_eq_true rfl) (Nat.le_of_ble_eq_true rfl) ?_
    exact ⟨congrArg (fun z => some (Value.int z)) (by unfold f_pair0; simp only [if_pos hc2]; try first | rfl | contradiction), congrArg hp (by unfold f_pair0; simp only [if_pos hc2]; try first | rfl | contradiction)⟩

theorem zo_f_pair0 (S : gS) : (f_pair0 S).1 = 0 ∨ (f_pair0 S).1 = 1 := by
  unfold f_pair0
  (repeat' split) <;> dsimp only <;> first | exact Or.inl rfl | exact Or.inr rfl
theorem nb_f_pair0 (S : gS) : narrow .boolean (.int (f_pair0 S).1) = .int (f_pair0 S).1 := by
  rcases zo_f_pair0 _ with e | e <;> rw [e] <;> rfl

def f_one1 (S : gS)  : Int32 × gS := (if (f_X9_takesNumber (wI S 138 ((rI S 115 36)).toNatClampNeg 1)).1 = 0 then (0, (f_X9_takesNumber (wI S 138 ((rI S 115 36)).toNatClampNeg 1)).2) else (1, (wI (f_X9_takesNumber (wI S 138 ((rI S 115 36)).toNatClampNeg 1)).2 139 ((rI (f_X9_takesNumber (wI S 138 ((rI S 115 36)).toNatClampNeg 1)).2 115 36)).toNatClampNeg ((rI (f_X9_takesNumber (wI S 138 ((rI S 115 36)).toNatClampNeg 1)).2 115 39)))))
set_option maxRecDepth 100000 in
set_option maxHeartbeats 1000000 in
theorem ct_one1 (S : gS)  (ht : okT S) : gF mX9_takesOne [.ref 115, .int 1] S (some (.int (f_one1 S).1)) (f_one1 S).2 := by
  refine go_enter [.ref 115, .int 1] [(0, .ref 115), (1, .int 1)] (by decide +kernel) rfl rfl (Nat.le_of_ble_eq_true rfl) rfl ?_
  refine go_aload_n 1 dX9_takesOne_0 rfl rfl ?_
  refine g_getR 4 dX9_takesOne_1 rfl fF_RX9_77 ly_115 rfl ?_
  refine go_aload_n 5 dX9_takesOne_4 rfl rfl ?_
  refine g_getI 8 dX9_takesOne_5 rfl fF_RX9_324 ly_115 rfl ?_
  refine go_iload_n 9 dX9_takesOne_8 rfl rfl ?_
  refine g_iast2 10 _ dX9_takesOne_9 rfl ly_138 (okT.it ht) rfl ?_
  have hA : okT (wI S 138 ((rI S 115 36)).toNatClampNeg 1) := okT.of ht (by simp [rI_wI]) (by simp [rI_wI]) (by simp [rI_wI])
  refine go_iload_n 11 dX9_takesOne_10 rfl rfl ?_
  refine go_bipush 13 (14) dX9_takesOne_11 rfl (by decide) ?_
  refine go_icmp_ne 16 26 dX9_takesOne_13 rfl (by decide) (fun _ => ?_) (fun hc1 => absurd hc1 (by decide))
  refine go_aload_n 27 dX9_takesOne_26 rfl rfl ?_
  refine g_callV 30 [] [] dX9_takesOne_27 rfl (ct_X9_takesNumber _ hA) rfl sV_X9_takesOne_318 rfl ly_115 rfl rfl (Nat.le_of_ble_eq_true rfl) (Nat.le_of_ble_eq_true rfl) (Nat.le_of_ble_eq_true rfl) ?_
  refine go_if_ne 33 35 dX9_takesOne_30 rfl (by decide) (fun hc2 => ?_) (fun hc2 => ?_)
  · refine go_aload_n 36 dX9_takesOne_35 rfl rfl ?_
    refine g_getR 39 dX9_takesOne_36 rfl fF_RX9_80 ly_115 rfl ?_
    refine go_aload_n 40 dX9_takesOne_39 rfl rfl ?_
    refine g_getI 43 dX9_takesOne_40 rfl fF_RX9_324 ly_115 rfl ?_
    refine go_aload_n 44 dX9_takesOne_43 rfl rfl ?_
    refine g_getI 47 dX9_takesOne_44 rfl fF_RX9_315 ly_115 rfl ?_
    refine g_iast2 48 _ dX9_takesOne_47 rfl ly_139 (okT.it (okT.tn hA)) rfl ?_
    refine go_iconst 49 (1) dX9_takesOne_48 rfl (by decide) ?_
    refine go_ireturn dX9_takesOne_49 rfl (by first | rfl | exact bi_nar) (Nat.le_of_ble_eq_true rfl) (Nat.le_of_ble_eq_true rfl) ?_
    exact ⟨congrArg (fun z => some (Value.int z)) (by unfold f_one1; simp only [if_neg hc2]; try first | rfl | contradiction), congrArg hp (by unfold f_one1; simp only [if_neg hc2]; try first | rfl | contradiction)⟩
  · refine go_iconst 34 (0) dX9_takesOne_33 rfl (by decide) ?_
    refine go_ireturn dX9_takesOne_34 rfl (by first | rfl | exact bi_nar) (Nat.le_of_ble_eq_true rfl) (Nat.le_of_ble_eq_true rfl) ?_
    exact ⟨congrArg (fun z => some (Value.int z)) (by unfold f_one1; simp only [if_pos hc2]; try first | rfl | contradiction), congrArg hp (by unfold f_one1; simp only [if_pos hc2]; try first | rfl | contradiction)⟩

theorem zo_f_one1 (S : gS) : (f_one1 S).1 = 0 ∨ (f_one1 S).1 = 1 := by
  unfold f_one1
  (repeat' split) <;> dsimp only <;> first | exact Or.inl rfl | exact Or.inr rfl
theorem nb_f_one1 (S : gS) : narrow .boolean (.int (f_one1 S).1) = .int (f_one1 S).1 := by
  rcases zo_f_one1 _ with e | e <;> rw [e] <;> rfl

def f_one2 (S : gS)  : Int32 × gS := (if (f_X9_takesNumber (wI S 138 ((rI S 115 36)).toNatClampNeg 2)).1 = 0 then (0, (f_X9_takesNumber (wI S 138 ((rI S 115 36)).toNatClampNeg 2)).2) else (1, (wI (f_X9_takesNumber (wI S 138 ((rI S 115 36)).toNatClampNeg 2)).2 139 ((rI (f_X9_takesNumber (wI S 138 ((rI S 115 36)).toNatClampNeg 2)).2 115 36)).toNatClampNeg ((rI (f_X9_takesNumber (wI S 138 ((rI S 115 36)).toNatClampNeg 2)).2 115 39)))))
set_option maxRecDepth 100000 in
set_option maxHeartbeats 1000000 in
theorem ct_one2 (S : gS)  (ht : okT S) : gF mX9_takesOne [.ref 115, .int 2] S (some (.int (f_one2 S).1)) (f_one2 S).2 := by
  refine go_enter [.ref 115, .int 2] [(0, .ref 115), (1, .int 2)] (by decide +kernel) rfl rfl (Nat.le_of_ble_eq_true rfl) rfl ?_
  refine go_aload_n 1 dX9_takesOne_0 rfl rfl ?_
  refine g_getR 4 dX9_takesOne_1 rfl fF_RX9_77 ly_115 rfl ?_
  refine go_aload_n 5 dX9_takesOne_4 rfl rfl ?_
  refine g_getI 8 dX9_takesOne_5 rfl fF_RX9_324 ly_115 rfl ?_
  refine go_iload_n 9 dX9_takesOne_8 rfl rfl ?_
  refine g_iast2 10 _ dX9_takesOne_9 rfl ly_138 (okT.it ht) rfl ?_
  have hA : okT (wI S 138 ((rI S 115 36)).toNatClampNeg 2) := okT.of ht (by simp [rI_wI]) (by simp [rI_wI]) (by simp [rI_wI])
  refine go_iload_n 11 dX9_takesOne_10 rfl rfl ?_
  refine go_bipush 13 (14) dX9_takesOne_11 rfl (by decide) ?_
  refine go_icmp_ne 16 26 dX9_takesOne_13 rfl (by decide) (fun _ => ?_) (fun hc1 => absurd hc1 (by decide))
  refine go_aload_n 27 dX9_takesOne_26 rfl rfl ?_
  refine g_callV 30 [] [] dX9_takesOne_27 rfl (ct_X9_takesNumber _ hA) rfl sV_X9_takesOne_318 rfl ly_115 rfl rfl (Nat.le_of_ble_eq_true rfl) (Nat.le_of_ble_eq_true rfl) (Nat.le_of_ble_eq_true rfl) ?_
  refine go_if_ne 33 35 dX9_takesOne_30 rfl (by decide) (fun hc2 => ?_) (fun hc2 => ?_)
  · refine go_aload_n 36 dX9_takesOne_35 rfl rfl ?_
    refine g_getR 39 dX9_takesOne_36 rfl fF_RX9_80 ly_115 rfl ?_
    refine go_aload_n 40 dX9_takesOne_39 rfl rfl ?_
    refine g_getI 43 dX9_takesOne_40 rfl fF_RX9_324 ly_115 rfl ?_
    refine go_aload_n 44 dX9_takesOne_43 rfl rfl ?_
    refine g_getI 47 dX9_takesOne_44 rfl fF_RX9_315 ly_115 rfl ?_
    refine g_iast2 48 _ dX9_takesOne_47 rfl ly_139 (okT.it (okT.tn hA)) rfl ?_
    refine go_iconst 49 (1) dX9_takesOne_48 rfl (by decide) ?_
    refine go_ireturn dX9_takesOne_49 rfl (by first | rfl | exact bi_nar) (Nat.le_of_ble_eq_true rfl) (Nat.le_of_ble_eq_true rfl) ?_
    exact ⟨congrArg (fun z => some (Value.int z)) (by unfold f_one2; simp only [if_neg hc2]; try first | rfl | contradiction), congrArg hp (by unfold f_one2; simp only [if_neg hc2]; try first | rfl | contradiction)⟩
  · refine go_iconst 34 (0) dX9_takesOne_33 rfl (by decide) ?_
    refine go_ireturn dX9_takesOne_34 rfl (by first | rfl | exact bi_nar) (Nat.le_of_ble_eq_true rfl) (Nat.le_of_ble_eq_true rfl) ?_
    exact ⟨congrArg (fun z => some (Value.int z)) (by unfold f_one2; simp only [if_pos hc2]; try first | rfl | contradiction), congrArg hp (by unfold f_one2; simp only [if_pos hc2]; try first | rfl | contradiction)⟩

theorem zo_f_one2 (S : gS) : (f_one2 S).1 = 0 ∨ (f_one2 S).1 = 1 := by
  unfold f_one2
  (repeat' split) <;> dsimp only <;> first | exact Or.inl rfl | exact Or.inr rfl
theorem nb_f_one2 (S : gS) : narrow .boolean (.int (f_one2 S).1) = .int (f_one2 S).1 := by
  rcases zo_f_one2 _ with e | e <;> rw [e] <;> rfl

def f_one14 (S : gS)  : Int32 × gS := (if (f_X9_takesDigits (wI S 138 ((rI S 115 36)).toNatClampNeg 14)).1 = 0 then (0, (f_X9_takesDigits (wI S 138 ((rI S 115 36)).toNatClampNeg 14)).2) else (1, (wI (f_X9_takesDigits (wI S 138 ((rI S 115 36)).toNatClampNeg 14)).2 139 ((rI (f_X9_takesDigits (wI S 138 ((rI S 115 36)).toNatClampNeg 14)).2 115 36)).toNatClampNeg ((rI (f_X9_takesDigits (wI S 138 ((rI S 115 36)).toNatClampNeg 14)).2 115 39)))))
set_option maxRecDepth 100000 in
set_option maxHeartbeats 1000000 in
theorem ct_one14 (S : gS)  (ht : okT S) : gF mX9_takesOne [.ref 115, .int 14] S (some (.int (f_one14 S).1)) (f_one14 S).2 := by
  refine go_enter [.ref 115, .int 14] [(0, .ref 115), (1, .int 14)] (by decide +kernel) rfl rfl (Nat.le_of_ble_eq_true rfl) rfl ?_
  refine go_aload_n 1 dX9_takesOne_0 rfl rfl ?_
  refine g_getR 4 dX9_takesOne_1 rfl fF_RX9_77 ly_115 rfl ?_
  refine go_aload_n 5 dX9_takesOne_4 rfl rfl ?_
  refine g_getI 8 dX9_takesOne_5 rfl fF_RX9_324 ly_115 rfl ?_
  refine go_iload_n 9 dX9_takesOne_8 rfl rfl ?_
  refine g_iast2 10 _ dX9_takesOne_9 rfl ly_138 (okT.it ht) rfl ?_
  have hA : okT (wI S 138 ((rI S 115 36)).toNatClampNeg 14) := okT.of ht (by simp [rI_wI]) (by simp [rI_wI]) (by simp [rI_wI])
  refine go_iload_n 11 dX9_takesOne_10 rfl rfl ?_
  refine go_bipush 13 (14) dX9_takesOne_11 rfl (by decide) ?_
  refine go_icmp_ne 16 26 dX9_takesOne_13 rfl (by decide) (fun hc1 => absurd hc1 (by decide)) (fun _ => ?_)
  refine go_aload_n 17 dX9_takesOne_16 rfl rfl ?_
  refine g_callV 20 [] [] dX9_takesOne_17 rfl (ct_X9_takesDigits _ hA) rfl sV_X9_takesOne_321 rfl ly_115 rfl rfl (Nat.le_of_ble_eq_true rfl) (Nat.le_of_ble_eq_true rfl) (Nat.le_of_ble_eq_true rfl) ?_
  refine go_if_ne 23 35 dX9_takesOne_20 rfl (by decide) (fun hc2 => ?_) (fun hc2 => ?_)
  · refine go_aload_n 36 dX9_takesOne_35 rfl rfl ?_
    refine g_getR 39 dX9_takesOne_36 rfl fF_RX9_80 ly_115 rfl ?_
    refine go_aload_n 40 dX9_takesOne_39 rfl rfl ?_
    refine g_getI 43 dX9_takesOne_40 rfl fF_RX9_324 ly_115 rfl ?_
    refine go_aload_n 44 dX9_takesOne_43 rfl rfl ?_
    refine g_getI 47 dX9_takesOne_44 rfl fF_RX9_315 ly_115 rfl ?_
    refine g_iast2 48 _ dX9_takesOne_47 rfl ly_139 (okT.it (okT.td hA)) rfl ?_
    refine go_iconst 49 (1) dX9_takesOne_48 rfl (by decide) ?_
    refine go_ireturn dX9_takesOne_49 rfl (by first | rfl | exact bi_nar) (Nat.le_of_ble_eq_true rfl) (Nat.le_of_ble_eq_true rfl) ?_
    exact ⟨congrArg (fun z => some (Value.int z)) (by unfold f_one14; simp only [if_neg hc2]; try first | rfl | contradiction), congrArg hp (by unfold f_one14; simp only [if_neg hc2]; try first | rfl | contradiction)⟩
  · refine go_goto 33 dX9_takesOne_23 (by decide) ?_
    refine go_iconst 34 (0) dX9_takesOne_33 rfl (by decide) ?_
    refine go_ireturn dX9_takesOne_34 rfl (by first | rfl | exact bi_nar) (Nat.le_of_ble_eq_true rfl) (Nat.le_of_ble_eq_true rfl) ?_
    exact ⟨congrArg (fun z => some (Value.int z)) (by unfold f_one14; simp only [if_pos hc2]; try first | rfl | contradiction), congrArg hp (by unfold f_one14; simp only [if_pos hc2]; try first | rfl | contradiction)⟩

theorem zo_f_one14 (S : gS) : (f_one14 S).1 = 0 ∨ (f_one14 S).1 = 1 := by
  unfold f_one14
  (repeat' split) <;> dsimp only <;> first | exact Or.inl rfl | exact Or.inr rfl
theorem nb_f_one14 (S : gS) : narrow .boolean (.int (f_one14 S).1) = .int (f_one14 S).1 := by
  rcases zo_f_one14 _ with e | e <;> rw [e] <;> rfl

def f_X9_takesSignal (S : gS)  : Int32 × gS := (if (f_X9_takesDigits S).1 = 0 then (0, (f_X9_takesDigits S).2) else (if (rI (f_X9_takesDigits S).2 115 34) ≤ (rI (f_X9_takesDigits S).2 115 35) then (0, (wI (f_X9_takesDigits S).2 139 ((rI (f_X9_takesDigits S).2 115 36)).toNatClampNeg ((rI (f_X9_takesDigits S).2 115 39)))) else (if (0 : Int32) ≤ (f_X9_kindOf ((rI (f_X9_takesDigits S).2 137 ((rI (f_X9_takesDigits S).2 115 35)).toNatClampNeg))) then (if (f_X9_takesDigits (wI (wI (wI (f_X9_takesDigits S).2 139 ((rI (f_X9_takesDigits S).2 115 36)).toNatClampNeg ((rI (f_X9_takesDigits S).2 115 39))) 138 ((rI (f_X9_takesDigits S).2 115 36)).toNatClampNeg ((f_X9_kindOf ((rI (f_X9_takesDigits S).2 137 ((rI (f_X9_takesDigits S).2 115 35)).toNatClampNeg))))) 115 35 (((rI (f_X9_takesDigits S).2 115 35) + 1)))).1 = 0 then (0, (f_X9_takesDigits (wI (wI (wI (f_X9_takesDigits S).2 139 ((rI (f_X9_takesDigits S).2 115 36)).toNatClampNeg ((rI (f_X9_takesDigits S).2 115 39))) 138 ((rI (f_X9_takesDigits S).2 115 36)).toNatClampNeg ((f_X9_kindOf ((rI (f_X9_takesDigits S).2 137 ((rI (f_X9_takesDigits S).2 115 35)).toNatClampNeg))))) 115 35 (((rI (f_X9_takesDigits S).2 115 35) + 1)))).2) else (if (f_X9_kindOf ((rI (f_X9_takesDigits S).2 137 ((rI (f_X9_takesDigits S).2 115 35)).toNatClampNeg))) = 12 then (if (f_X9_skips (wI (f_X9_takesDigits (wI (wI (wI (f_X9_takesDigits S).2 139 ((rI (f_X9_takesDigits S).2 115 36)).toNatClampNeg ((rI (f_X9_takesDigits S).2 115 39))) 138 ((rI (f_X9_takesDigits S).2 115 36)).toNatClampNeg ((f_X9_kindOf ((rI (f_X9_takesDigits S).2 137 ((rI (f_X9_takesDigits S).2 115 35)).toNatClampNeg))))) 115 35 (((rI (f_X9_takesDigits S).2 115 35) + 1)))).2 140 ((rI (f_X9_takesDigits (wI (wI (wI (f_X9_takesDigits S).2 139 ((rI (f_X9_takesDigits S).2 115 36)).toNatClampNeg ((rI (f_X9_takesDigits S).2 115 39))) 138 ((rI (f_X9_takesDigits S).2 115 36)).toNatClampNeg ((f_X9_kindOf ((rI (f_X9_takesDigits S).2 137 ((rI (f_X9_takesDigits S).2 115 35)).toNatClampNeg))))) 115 35 (((rI (f_X9_takesDigits S).2 115 35) + 1)))).2 115 36)).toNatClampNeg ((rI (f_X9_takesDigits (wI (wI (wI (f_X9_takesDigits S).2 139 ((rI (f_X9_takesDigits S).2 115 36)).toNatClampNeg ((rI (f_X9_takesDigits S).2 115 39))) 138 ((rI (f_X9_takesDigits S).2 115 36)).toNatClampNeg ((f_X9_kindOf ((rI (f_X9_takesDigits S).2 137 ((rI (f_X9_takesDigits S).2 115 35)).toNatClampNeg))))) 115 35 (((rI (f_X9_takesDigits S).2 115 35) + 1)))).2 115 39))) 58).1 = 0 then (0, (f_X9_skips (wI (f_X9_takesDigits (wI (wI (wI (f_X9_takesDigits S).2 139 ((rI (f_X9_takesDigits S).2 115 36)).toNatClampNeg ((rI (f_X9_takesDigits S).2 115 39))) 138 ((rI (f_X9_takesDigits S).2 115 36)).toNatClampNeg ((f_X9_kindOf ((rI (f_X9_takesDigits S).2 137 ((rI (f_X9_takesDigits S).2 115 35)).toNatClampNeg))))) 115 35 (((rI (f_X9_takesDigits S).2 115 35) + 1)))).2 140 ((rI (f_X9_takesDigits (wI (wI (wI (f_X9_takesDigits S).2 139 ((rI (f_X9_takesDigits S).2 115 36)).toNatClampNeg ((rI (f_X9_takesDigits S).2 115 39))) 138 ((rI (f_X9_takesDigits S).2 115 36)).toNatClampNeg ((f_X9_kindOf ((rI (f_X9_takesDigits S).2 137 ((rI (f_X9_takesDigits S).2 115 35)).toNatClampNeg))))) 115 35 (((rI (f_X9_takesDigits S).2 115 35) + 1)))).2 115 36)).toNatClampNeg ((rI (f_X9_takesDigits (wI (wI (wI (f_X9_takesDigits S).2 139 ((rI (f_X9_takesDigits S).2 115 36)).toNatClampNeg ((rI (f_X9_takesDigits S).2 115 39))) 138 ((rI (f_X9_takesDigits S).2 115 36)).toNatClampNeg ((f_X9_kindOf ((rI (f_X9_takesDigits S).2 137 ((rI (f_X9_takesDigits S).2 115 35)).toNatClampNeg))))) 115 35 (((rI (f_X9_takesDigits S).2 115 35) + 1)))).2 115 39))) 58).2) else (if (f_X9_takesDigits (f_X9_skips (wI (f_X9_takesDigits (wI (wI (wI (f_X9_takesDigits S).2 139 ((rI (f_X9_takesDigits S).2 115 36)).toNatClampNeg ((rI (f_X9_takesDigits S).2 115 39))) 138 ((rI (f_X9_takesDigits S).2 115 36)).toNatClampNeg ((f_X9_kindOf ((rI (f_X9_takesDigits S).2 137 ((rI (f_X9_takesDigits S).2 115 35)).toNatClampNeg))))) 115 35 (((rI (f_X9_takesDigits S).2 115 35) + 1)))).2 140 ((rI (f_X9_takesDigits (wI (wI (wI (f_X9_takesDigits S).2 139 ((rI (f_X9_takesDigits S).2 115 36)).toNatClampNeg ((rI (f_X9_takesDigits S).2 115 39))) 138 ((rI (f_X9_takesDigits S).2 115 36)).toNatClampNeg ((f_X9_kindOf ((rI (f_X9_takesDigits S).2 137 ((rI (f_X9_takesDigits S).2 115 35)).toNatClampNeg))))) 115 35 (((rI (f_X9_takesDigits S).2 115 35) + 1)))).2 115 36)).toNatClampNeg ((rI (f_X9_takesDigits (wI (wI (wI (f_X9_takesDigits S).2 139 ((rI (f_X9_takesDigits S).2 115 36)).toNatClampNeg ((rI (f_X9_takesDigits S).2 115 39))) 138 ((rI (f_X9_takesDigits S).2 115 36)).toNatClampNeg ((f_X9_kindOf ((rI (f_X9_takesDigits S).2 137 ((rI (f_X9_takesDigits S).2 115 35)).toNatClampNeg))))) 115 35 (((rI (f_X9_takesDigits S).2 115 35) + 1)))).2 115 39))) 58).2).1 = 0 then (0, (f_X9_takesDigits (f_X9_skips (wI (f_X9_takesDigits (wI (wI (wI (f_X9_takesDigits S).2 139 ((rI (f_X9_takesDigits S).2 115 36)).toNatClampNeg ((rI (f_X9_takesDigits S).2 115 39))) 138 ((rI (f_X9_takesDigits S).2 115 36)).toNatClampNeg ((f_X9_kindOf ((rI (f_X9_takesDigits S).2 137 ((rI (f_X9_takesDigits S).2 115 35)).toNatClampNeg))))) 115 35 (((rI (f_X9_takesDigits S).2 115 35) + 1)))).2 140 ((rI (f_X9_takesDigits (wI (wI (wI (f_X9_takesDigits S).2 139 ((rI (f_X9_takesDigits S).2 115 36)).toNatClampNeg ((rI (f_X9_takesDigits S).2 115 39))) 138 ((rI (f_X9_takesDigits S).2 115 36)).toNatClampNeg ((f_X9_kindOf ((rI (f_X9_takesDigits S).2 137 ((rI (f_X9_takesDigits S).2 115 35)).toNatClampNeg))))) 115 35 (((rI (f_X9_takesDigits S).2 115 35) + 1)))).2 115 36)).toNatClampNeg ((rI (f_X9_takesDigits (wI (wI (wI (f_X9_takesDigits S).2 139 ((rI (f_X9_takesDigits S).2 115 36)).toNatClampNeg ((rI (f_X9_takesDigits S).2 115 39))) 138 ((rI (f_X9_takesDigits S).2 115 36)).toNatClampNeg ((f_X9_kindOf ((rI (f_X9_takesDigits S).2 137 ((rI (f_X9_takesDigits S).2 115 35)).toNatClampNeg))))) 115 35 (((rI (f_X9_takesDigits S).2 115 35) + 1)))).2 115 39))) 58).2).2) else (1, (wI (f_X9_takesDigits (f_X9_skips (wI (f_X9_takesDigits (wI (wI (wI (f_X9_takesDigits S).2 139 ((rI (f_X9_takesDigits S).2 115 36)).toNatClampNeg ((rI (f_X9_takesDigits S).2 115 39))) 138 ((rI (f_X9_takesDigits S).2 115 36)).toNatClampNeg ((f_X9_kindOf ((rI (f_X9_takesDigits S).2 137 ((rI (f_X9_takesDigits S).2 115 35)).toNatClampNeg))))) 115 35 (((rI (f_X9_takesDigits S).2 115 35) + 1)))).2 140 ((rI (f_X9_takesDigits (wI (wI (wI (f_X9_takesDigits S).2 139 ((rI (f_X9_takesDigits S).2 115 36)).toNatClampNeg ((rI (f_X9_takesDigits S).2 115 39))) 138 ((rI (f_X9_takesDigits S).2 115 36)).toNatClampNeg ((f_X9_kindOf ((rI (f_X9_takesDigits S).2 137 ((rI (f_X9_takesDigits S).2 115 35)).toNatClampNeg))))) 115 35 (((rI (f_X9_takesDigits S).2 115 35) + 1)))).2 115 36)).toNatClampNeg ((rI (f_X9_takesDigits (wI (wI (wI (f_X9_takesDigits S).2 139 ((rI (f_X9_takesDigits S).2 115 36)).toNatClampNeg ((rI (f_X9_takesDigits S).2 115 39))) 138 ((rI (f_X9_takesDigits S).2 115 36)).toNatClampNeg ((f_X9_kindOf ((rI (f_X9_takesDigits S).2 137 ((rI (f_X9_takesDigits S).2 115 35)).toNatClampNeg))))) 115 35 (((rI (f_X9_takesDigits S).2 115 35) + 1)))).2 115 39))) 58).2).2 141 ((rI (f_X9_takesDigits (f_X9_skips (wI (f_X9_takesDigits (wI (wI (wI (f_X9_takesDigits S).2 139 ((rI (f_X9_takesDigits S).2 115 36)).toNatClampNeg ((rI (f_X9_takesDigits S).2 115 39))) 138 ((rI (f_X9_takesDigits S).2 115 36)).toNatClampNeg ((f_X9_kindOf ((rI (f_X9_takesDigits S).2 137 ((rI (f_X9_takesDigits S).2 115 35)).toNatClampNeg))))) 115 35 (((rI (f_X9_takesDigits S).2 115 35) + 1)))).2 140 ((rI (f_X9_takesDigits (wI (wI (wI (f_X9_takesDigits S).2 139 ((rI (f_X9_takesDigits S).2 115 36)).toNatClampNeg ((rI (f_X9_takesDigits S).2 115 39))) 138 ((rI (f_X9_takesDigits S).2 115 36)).toNatClampNeg ((f_X9_kindOf ((rI (f_X9_takesDigits S).2 137 ((rI (f_X9_takesDigits S).2 115 35)).toNatClampNeg))))) 115 35 (((rI (f_X9_takesDigits S).2 115 35) + 1)))).2 115 36)).toNatClampNeg ((rI (f_X9_takesDigits (wI (wI (wI (f_X9_takesDigits S).2 139 ((rI (f_X9_takesDigits S).2 115 36)).toNatClampNeg ((rI (f_X9_takesDigits S).2 115 39))) 138 ((rI (f_X9_takesDigits S).2 115 36)).toNatClampNeg ((f_X9_kindOf ((rI (f_X9_takesDigits S).2 137 ((rI (f_X9_takesDigits S).2 115 35)).toNatClampNeg))))) 115 35 (((rI (f_X9_takesDigits S).2 115 35) + 1)))).2 115 39))) 58).2).2 115 36)).toNatClampNeg ((rI (f_X9_takesDigits (f_X9_skips (wI (f_X9_takesDigits (wI (wI (wI (f_X9_takesDigits S).2 139 ((rI (f_X9_takesDigits S).2 115 36)).toNatClampNeg ((rI (f_X9_takesDigits S).2 115 39))) 138 ((rI (f_X9_takesDigits S).2 115 36)).toNatClampNeg ((f_X9_kindOf ((rI (f_X9_takesDigits S).2 137 ((rI (f_X9_takesDigits S).2 115 35)).toNatClampNeg))))) 115 35 (((rI (f_X9_takesDigits S).2 115 35) + 1)))).2 140 ((rI (f_X9_takesDigits (wI (wI (wI (f_X9_takesDigits S).2 139 ((rI (f_X9_takesDigits S).2 115 36)).toNatClampNeg ((rI (f_X9_takesDigits S).2 115 39))) 138 ((rI (f_X9_takesDigits S).2 115 36)).toNatClampNeg ((f_X9_kindOf ((rI (f_X9_takesDigits S).2 137 ((rI (f_X9_takesDigits S).2 115 35)).toNatClampNeg))))) 115 35 (((rI (f_X9_takesDigits S).2 115 35) + 1)))).2 115 36)).toNatClampNeg ((rI (f_X9_takesDigits (wI (wI (wI (f_X9_takesDigits S).2 139 ((rI (f_X9_takesDigits S).2 115 36)).toNatClampNeg ((rI (f_X9_takesDigits S).2 115 39))) 138 ((rI (f_X9_takesDigits S).2 115 36)).toNatClampNeg ((f_X9_kindOf ((rI (f_X9_takesDigits S).2 137 ((rI (f_X9_takesDigits S).2 115 35)).toNatClampNeg))))) 115 35 (((rI (f_X9_takesDigits S).2 115 35) + 1)))).2 115 39))) 58).2).2 115 39)))))) else (1, (wI (f_X9_takesDigits (wI (wI (wI (f_X9_takesDigits S).2 139 ((rI (f_X9_takesDigits S).2 115 36)).toNatClampNeg ((rI (f_X9_takesDigits S).2 115 39))) 138 ((rI (f_X9_takesDigits S).2 115 36)).toNatClampNeg ((f_X9_kindOf ((rI (f_X9_takesDigits S).2 137 ((rI (f_X9_takesDigits S).2 115 35)).toNatClampNeg))))) 115 35 (((rI (f_X9_takesDigits S).2 115 35) + 1)))).2 140 ((rI (f_X9_takesDigits (wI (wI (wI (f_X9_takesDigits S).2 139 ((rI (f_X9_takesDigits S).2 115 36)).toNatClampNeg ((rI (f_X9_takesDigits S).2 115 39))) 138 ((rI (f_X9_takesDigits S).2 115 36)).toNatClampNeg ((f_X9_kindOf ((rI (f_X9_takesDigits S).2 137 ((rI (f_X9_takesDigits S).2 115 35)).toNatClampNeg))))) 115 35 (((rI (f_X9_takesDigits S).2 115 35) + 1)))).2 115 36)).toNatClampNeg ((rI (f_X9_takesDigits (wI (wI (wI (f_X9_takesDigits S).2 139 ((rI (f_X9_takesDigits S).2 115 36)).toNatClampNeg ((rI (f_X9_takesDigits S).2 115 39))) 138 ((rI (f_X9_takesDigits S).2 115 36)).toNatClampNeg ((f_X9_kindOf ((rI (f_X9_takesDigits S).2 137 ((rI (f_X9_takesDigits S).2 115 35)).toNatClampNeg))))) 115 35 (((rI (f_X9_takesDigits S).2 115 35) + 1)))).2 115 39)))))) else (0, (wI (f_X9_takesDigits S).2 139 ((rI (f_X9_takesDigits S).2 115 36)).toNatClampNeg ((rI (f_X9_takesDigits S).2 115 39)))))))
set_option maxRecDepth 100000 in
set_option maxHeartbeats 1000000 in
theorem ct_X9_takesSignal (S : gS)  (ht : okT S) : gF mX9_takesSignal [.ref 115] S (some (.int (f_X9_takesSignal S).1)) (f_X9_takesSignal S).2 := by
  refine go_enter [.ref 115] [(0, .ref 115)] (by decide +kernel) rfl rfl (Nat.le_of_ble_eq_true rfl) rfl ?_
  refine go_aload_n 1 dX9_takesSignal_0 rfl rfl ?_
  refine g_callV 4 [] [] dX9_takesSignal_1 rfl (ct_X9_takesDigits _ ht) rfl sV_X9_takesSignal_321 rfl ly_115 rfl rfl (Nat.le_of_ble_eq_true rfl) (Nat.le_of_ble_eq_true rfl) (Nat.le_of_ble_eq_true rfl) ?_
  refine go_if_ne 7 9 dX9_takesSignal_4 rfl (by decide) (fun hc1 => ?_) (fun hc1 => ?_)
  · refine go_aload_n 10 dX9_takesSignal_9 rfl rfl ?_
    refine g_getR 13 dX9_takesSignal_10 rfl fF_RX9_80 ly_115 rfl ?_
    refine go_aload_n 14 dX9_takesSignal_13 rfl rfl ?_
    refine g_getI 17 dX9_takesSignal_14 rfl fF_RX9_324 ly_115 rfl ?_
    refine go_aload_n 18 dX9_takesSignal_17 rfl rfl ?_
    refine g_getI 21 dX9_takesSignal_18 rfl fF_RX9_315 ly_115 rfl ?_
    refine g_iast2 22 _ dX9_takesSignal_21 rfl ly_139 (okT.it (okT.td ht)) rfl ?_
    refine go_aload_n 23 dX9_takesSignal_22 rfl rfl ?_
    refine g_getI 26 dX9_takesSignal_23 rfl fF_RX9_298 ly_115 rfl ?_
    refine go_topi (rI (f_X9_takesDigits S).2 115 35) (rI_wIk (by decide) _ _ _) ?_
    refine go_aload_n 27 dX9_takesSignal_26 rfl rfl ?_
    refine g_getI 30 dX9_takesSignal_27 rfl fF_RX9_295 ly_115 rfl ?_
    refine go_topi (rI (f_X9_takesDigits S).2 115 34) (rI_wIk (by decide) _ _ _) ?_
    refine go_icmp_ge 33 48 dX9_takesSignal_30 rfl (by decide) (fun hc2 => ?_) (fun hc2 => ?_)
    · refine go_iconst 49 (-1) dX9_takesSignal_48 rfl (by decide) ?_
      refine go_istore_n 50 [(1, .int _), (0, .ref 115)] dX9_takesSignal_49 rfl (Nat.le_of_ble_eq_true rfl) rfl ?_
      refine go_iload_n 51 dX9_takesSignal_50 rfl rfl ?_
      refine go_if_ge 54 56 dX9_takesSignal_51 rfl (by decide) (fun hc3 => absurd hc3 (by decide)) (fun _ => ?_)
      refine go_iconst 55 (0) dX9_takesSignal_54 rfl (by decide) ?_
      refine go_ireturn dX9_takesSignal_55 rfl (by first | rfl | exact bi_nar) (Nat.le_of_ble_eq_true rfl) (Nat.le_of_ble_eq_true rfl) ?_
      exact ⟨congrArg (fun z => some (Value.int z)) (by unfold f_X9_takesSignal; simp only [if_neg hc1, if_pos hc2]; try first | rfl | contradiction), congrArg hp (by unfold f_X9_takesSignal; simp only [if_neg hc1, if_pos hc2]; try first | rfl | contradiction)⟩
    · refine go_aload_n 34 dX9_takesSignal_33 rfl rfl ?_
      refine g_getR 37 dX9_takesSignal_34 rfl fF_RX9_74 ly_115 rfl ?_
      refine go_aload_n 38 dX9_takesSignal_37 rfl rfl ?_
      refine g_getI 41 dX9_takesSignal_38 rfl fF_RX9_298 ly_115 rfl ?_
      refine go_topi (rI (f_X9_takesDigits S).2 115 35) (rI_wIk (by decide) _ _ _) ?_
      refine g_iald2 42 _ dX9_takesSignal_41 rfl ly_137 (okT.in1 (okT.td ht) (Int32.not_le.mp hc2)) rfl ?_
      refine go_topi (rI (f_X9_takesDigits S).2 137 ((rI (f_X9_takesDigits S).2 115 35)).toNatClampNeg) (rI_wIk (by decide) _ _ _) ?_
      refine g_callS 45 [.int _] [] dX9_takesSignal_42 rfl (ct_X9_kindOf _ _) rfl sV_X9_takesSignal_327 rfl (Nat.le_of_ble_eq_true rfl) (Nat.le_of_ble_eq_true rfl) (Nat.le_of_ble_eq_true rfl) ?_
      refine go_goto 49 dX9_takesSignal_45 (by decide) ?_
      refine go_istore_n 50 [(1, .int _), (0, .ref 115)] dX9_takesSignal_49 rfl (Nat.le_of_ble_eq_true rfl) rfl ?_
      refine go_iload_n 51 dX9_takesSignal_50 rfl rfl ?_
      refine go_if_ge 54 56 dX9_takesSignal_51 rfl (by decide) (fun hc4 => ?_) (fun hc4 => ?_)
      · refine go_aload_n 57 dX9_takesSignal_56 rfl rfl ?_
        refine g_getR 60 dX9_takesSignal_57 rfl fF_RX9_77 ly_115 rfl ?_
        refine go_aload_n 61 dX9_takesSignal_60 rfl rfl ?_
        refine g_getI 64 dX9_takesSignal_61 rfl fF_RX9_324 ly_115 rfl ?_
        refine go_topi (rI (f_X9_takesDigits S).2 115 36) (rI_wIk (by decide) _ _ _) ?_
        refine go_iload_n 65 dX9_takesSignal_64 rfl rfl ?_
        refine g_iast2 66 _ dX9_takesSignal_65 rfl ly_138 (okT.it (okT.td ht)) rfl ?_
        refine go_aload_n 67 dX9_takesSignal_66 rfl rfl ?_
        refine go_dup 68 dX9_takesSignal_67 rfl rfl ?_
        refine g_getI 71 dX9_takesSignal_68 rfl fF_RX9_298 ly_115 rfl ?_
        refine go_topi (rI (f_X9_takesDigits S).2 115 35) ((rI_wIk (by decide) _ _ _).trans (rI_wIk (by decide) _ _ _)) ?_
        refine go_iconst 72 (1) dX9_takesSignal_71 rfl (by decide) ?_
        refine go_iadd 73 dX9_takesSignal_72 rfl ?_
        refine g_putI 76 dX9_takesSignal_73 rfl fF_RX9_298 ly_115 rfl (fun q hq => by cases hq; rfl) rfl rfl ?_
        have hB : okT (wI (wI (wI (f_X9_takesDigits S).2 139 ((rI (f_X9_takesDigits S).2 115 36)).toNatClampNeg ((rI (f_X9_takesDigits S).2 115 39))) 138 ((rI (f_X9_takesDigits S).2 115 36)).toNatClampNeg ((f_X9_kindOf ((rI (f_X9_takesDigits S).2 137 ((rI (f_X9_takesDigits S).2 115 35)).toNatClampNeg))))) 115 35 (((rI (f_X9_takesDigits S).2 115 35) + 1))) := okT.up (okT.td ht) (Int32.not_le.mp hc2) (by simp [rI_wI]) (by simp [rI_wI]) (by simp [rI_wI])
        refine go_aload_n 77 dX9_takesSignal_76 rfl rfl ?_
        refine g_callV 80 [] [] dX9_takesSignal_77 rfl (ct_X9_takesDigits _ hB) rfl sV_X9_takesSignal_321 rfl ly_115 rfl rfl (Nat.le_of_ble_eq_true rfl) (Nat.le_of_ble_eq_true rfl) (Nat.le_of_ble_eq_true rfl) ?_
        refine go_if_ne 83 85 dX9_takesSignal_80 rfl (by decide) (fun hc5 => ?_) (fun hc5 => ?_)
        · refine go_aload_n 86 dX9_takesSignal_85 rfl rfl ?_
          refine g_getR 89 dX9_takesSignal_86 rfl fF_RX9_83 ly_115 rfl ?_
          refine go_aload_n 90 dX9_takesSignal_89 rfl rfl ?_
          refine g_getI 93 dX9_takesSignal_90 rfl fF_RX9_324 ly_115 rfl ?_
          refine go_aload_n 94 dX9_takesSignal_93 rfl rfl ?_
          refine g_getI 97 dX9_takesSignal_94 rfl fF_RX9_315 ly_115 rfl ?_
          refine g_iast2 98 _ dX9_takesSignal_97 rfl ly_140 (okT.it (okT.td hB)) rfl ?_
          have hC : okT (wI (f_X9_takesDigits (wI (wI (wI (f_X9_takesDigits S).2 139 ((rI (f_X9_takesDigits S).2 115 36)).toNatClampNeg ((rI (f_X9_takesDigits S).2 115 39))) 138 ((rI (f_X9_takesDigits S).2 115 36)).toNatClampNeg ((f_X9_kindOf ((rI (f_X9_takesDigits S).2 137 ((rI (f_X9_takesDigits S).2 115 35)).toNatClampNeg))))) 115 35 (((rI (f_X9_takesDigits S).2 115 35) + 1)))).2 140 ((rI (f_X9_takesDigits (wI (wI (wI (f_X9_takesDigits S).2 139 ((rI (f_X9_takesDigits S).2 115 36)).toNatClampNeg ((rI (f_X9_takesDigits S).2 115 39))) 138 ((rI (f_X9_takesDigits S).2 115 36)).toNatClampNeg ((f_X9_kindOf ((rI (f_X9_takesDigits S).2 137 ((rI (f_X9_takesDigits S).2 115 35)).toNatClampNeg))))) 115 35 (((rI (f_X9_takesDigits S).2 115 35) + 1)))).2 115 36)).toNatClampNeg ((rI (f_X9_takesDigits (wI (wI (wI (f_X9_takesDigits S).2 139 ((rI (f_X9_takesDigits S).2 115 36)).toNatClampNeg ((rI (f_X9_takesDigits S).2 115 39))) 138 ((rI (f_X9_takesDigits S).2 115 36)).toNatClampNeg ((f_X9_kindOf ((rI (f_X9_takesDigits S).2 137 ((rI (f_X9_takesDigits S).2 115 35)).toNatClampNeg))))) 115 35 (((rI (f_X9_takesDigits S).2 115 35) + 1)))).2 115 39))) := okT.of (okT.td hB) (by simp [rI_wI]) (by simp [rI_wI]) (by simp [rI_wI])
          refine go_iload_n 99 dX9_takesSignal_98 rfl rfl ?_
          refine go_bipush 101 (12) dX9_takesSignal_99 rfl (by decide) ?_
          refine go_icmp_eq 104 106 dX9_takesSignal_101 rfl (by decide) (fun hc6 => ?_) (fun hc6 => ?_)
          · refine go_aload_n 107 dX9_takesSignal_106 rfl rfl ?_
            refine go_bipush 109 (58) dX9_takesSignal_107 rfl (by decide) ?_
            refine g_callV 112 [.int _] [] dX9_takesSignal_109 rfl (ct_X9_skips _ _ hC) rfl sV_X9_takesSignal_309 rfl ly_115 rfl rfl (Nat.le_of_ble_eq_true rfl) (Nat.le_of_ble_eq_true rfl) (Nat.le_of_ble_eq_true rfl) ?_
            refine go_if_eq 115 122 dX9_takesSignal_112 rfl (by decide) (fun hc7 => ?_) (fun hc7 => ?_)
            · refine go_iconst 123 (0) dX9_takesSignal_122 rfl (by decide) ?_
              refine go_ireturn dX9_takesSignal_123 rfl (by first | rfl | exact bi_nar) (Nat.le_of_ble_eq_true rfl) (Nat.le_of_ble_eq_true rfl) ?_
              exact ⟨congrArg (fun z => some (Value.int z)) (by unfold f_X9_takesSignal; simp only [if_neg hc1, if_neg hc2, if_pos hc4, if_neg hc5, if_pos hc6, if_pos hc7]; try first | rfl | contradiction), congrArg hp (by unfold f_X9_takesSignal; simp only [if_neg hc1, if_neg hc2, if_pos hc4, if_neg hc5, if_pos hc6, if_pos hc7]; try first | rfl | contradiction)⟩
            · refine go_aload_n 116 dX9_takesSignal_115 rfl rfl ?_
              refine g_callV 119 [] [] dX9_takesSignal_116 rfl (ct_X9_takesDigits _ (okT.sk hC)) rfl sV_X9_takesSignal_321 rfl ly_115 rfl rfl (Nat.le_of_ble_eq_true rfl) (Nat.le_of_ble_eq_true rfl) (Nat.le_of_ble_eq_true rfl) ?_
              refine go_if_ne 122 124 dX9_takesSignal_119 rfl (by decide) (fun hc8 => ?_) (fun hc8 => ?_)
              · refine go_aload_n 125 dX9_takesSignal_124 rfl rfl ?_
                refine g_getR 128 dX9_takesSignal_125 rfl fF_RX9_86 ly_115 rfl ?_
                refine go_aload_n 129 dX9_takesSignal_128 rfl rfl ?_
                refine g_getI 132 dX9_takesSignal_129 rfl fF_RX9_324 ly_115 rfl ?_
                refine go_aload_n 133 dX9_takesSignal_132 rfl rfl ?_
                refine g_getI 136 dX9_takesSignal_133 rfl fF_RX9_315 ly_115 rfl ?_
                refine g_iast2 137 _ dX9_takesSignal_136 rfl ly_141 (okT.it (okT.td (okT.sk hC))) rfl ?_
                refine go_iconst 138 (1) dX9_takesSignal_137 rfl (by decide) ?_
                refine go_ireturn dX9_takesSignal_138 rfl (by first | rfl | exact bi_nar) (Nat.le_of_ble_eq_true rfl) (Nat.le_of_ble_eq_true rfl) ?_
                exact ⟨congrArg (fun z => some (Value.int z)) (by unfold f_X9_takesSignal; simp only [if_neg hc1, if_neg hc2, if_pos hc4, if_neg hc5, if_pos hc6, if_neg hc7, if_neg hc8]; try first | rfl | contradiction), congrArg hp (by unfold f_X9_takesSignal; simp only [if_neg hc1, if_neg hc2, if_pos hc4, if_neg hc5, if_pos hc6, if_neg hc7, if_neg hc8]; try first | rfl | contradiction)⟩
              · refine go_iconst 123 (0) dX9_takesSignal_122 rfl (by decide) ?_
                refine go_ireturn dX9_takesSignal_123 rfl (by first | rfl | exact bi_nar) (Nat.le_of_ble_eq_true rfl) (Nat.le_of_ble_eq_true rfl) ?_
                exact ⟨congrArg (fun z => some (Value.int z)) (by unfold f_X9_takesSignal; simp only [if_neg hc1, if_neg hc2, if_pos hc4, if_neg hc5, if_pos hc6, if_neg hc7, if_pos hc8]; try first | rfl | contradiction), congrArg hp (by unfold f_X9_takesSignal; simp only [if_neg hc1, if_neg hc2, if_pos hc4, if_neg hc5, if_pos hc6, if_neg hc7, if_pos hc8]; try first | rfl | contradiction)⟩
          · refine go_iconst 105 (1) dX9_takesSignal_104 rfl (by decide) ?_
            refine go_ireturn dX9_takesSignal_105 rfl (by first | rfl | exact bi_nar) (Nat.le_of_ble_eq_true rfl) (Nat.le_of_ble_eq_true rfl) ?_
            exact ⟨congrArg (fun z => some (Value.int z)) (by unfold f_X9_takesSignal; simp only [if_neg hc1, if_neg hc2, if_pos hc4, if_neg hc5, if_neg hc6]; try first | rfl | contradiction), congrArg hp (by unfold f_X9_takesSignal; simp only [if_neg hc1, if_neg hc2, if_pos hc4, if_neg hc5, if_neg hc6]; try first | rfl | contradiction)⟩
        · refine go_iconst 84 (0) dX9_takesSignal_83 rfl (by decide) ?_
          refine go_ireturn dX9_takesSignal_84 rfl (by first | rfl | exact bi_nar) (Nat.le_of_ble_eq_true rfl) (Nat.le_of_ble_eq_true rfl) ?_
          exact ⟨congrArg (fun z => some (Value.int z)) (by unfold f_X9_takesSignal; simp only [if_neg hc1, if_neg hc2, if_pos hc4, if_pos hc5]; try first | rfl | contradiction), congrArg hp (by unfold f_X9_takesSignal; simp only [if_neg hc1, if_neg hc2, if_pos hc4, if_pos hc5]; try first | rfl | contradiction)⟩
      · refine go_iconst 55 (0) dX9_takesSignal_54 rfl (by decide) ?_
        refine go_ireturn dX9_takesSignal_55 rfl (by first | rfl | exact bi_nar) (Nat.le_of_ble_eq_true rfl) (Nat.le_of_ble_eq_true rfl) ?_
        exact ⟨congrArg (fun z => some (Value.int z)) (by unfold f_X9_takesSignal; simp only [if_neg hc1, if_neg hc2, if_neg hc4]; try first | rfl | contradiction), congrArg hp (by unfold f_X9_takesSignal; simp only [if_neg hc1, if_neg hc2, if_neg hc4]; try first | rfl | contradiction)⟩
  · refine go_iconst 8 (0) dX9_takesSignal_7 rfl (by decide) ?_
    refine go_ireturn dX9_takesSignal_8 rfl (by first | rfl | exact bi_nar) (Nat.le_of_ble_eq_true rfl) (Nat.le_of_ble_eq_true rfl) ?_
    exact ⟨congrArg (fun z => some (Value.int z)) (by unfold f_X9_takesSignal; simp only [if_pos hc1]; try first | rfl | contradiction), congrArg hp (by unfold f_X9_takesSignal; simp only [if_pos hc1]; try first | rfl | contradiction)⟩

theorem zo_f_X9_takesSignal (S : gS) : (f_X9_takesSignal S).1 = 0 ∨ (f_X9_takesSignal S).1 = 1 := by
  unfold f_X9_takesSignal
  (repeat' split) <;> dsimp only <;> first | exact Or.inl rfl | exact Or.inr rfl
theorem nb_f_X9_takesSignal (S : gS) : narrow .boolean (.int (f_X9_takesSignal S).1) = .int (f_X9_takesSignal S).1 := by
  rcases zo_f_X9_takesSignal _ with e | e <;> rw [e] <;> rfl

def f_X9_takesItem (S : gS)  : Int32 × gS := (if (f_X9_skips (wI (wI S 140 ((rI S 115 36)).toNatClampNeg 0) 141 ((rI S 115 36)).toNatClampNeg 0) 105).1 = 0 then (if (f_X9_skips (f_X9_skips (wI (wI S 140 ((rI S 115 36)).toNatClampNeg 0) 141 ((rI S 115 36)).toNatClampNeg 0) 105).2 110).1 = 0 then (if (f_X9_skips (f_X9_skips (f_X9_skips (wI (wI S 140 ((rI S 115 36)).toNatClampNeg 0) 141 ((rI S 115 36)).toNatClampNeg 0) 105).2 110).2 107).1 = 0 then (if (f_X9_skips (f_X9_skips (f_X9_skips (f_X9_skips (wI (wI S 140 ((rI S 115 36)).toNatClampNeg 0) 141 ((rI S 115 36)).toNatClampNeg 0) 105).2 110).2 107).2 114).1 = 0 then (if (f_X9_skips (f_X9_skips (f_X9_skips (f_X9_skips (f_X9_skips (wI (wI S 140 ((rI S 115 36)).toNatClampNeg 0) 141 ((rI S 115 36)).toNatClampNeg 0) 105).2 110).2 107).2 114).2 111).1 = 0 then ((f_X9_takesSignal (f_X9_skips (f_X9_skips (f_X9_skips (f_X9_skips (f_X9_skips (wI (wI S 140 ((rI S 115 36)).toNatClampNeg 0) 141 ((rI S 115 36)).toNatClampNeg 0) 105).2 110).2 107).2 114).2 111).2).1, (f_X9_takesSignal (f_X9_skips (f_X9_skips (f_X9_skips (f_X9_skips (f_X9_skips (wI (wI S 140 ((rI S 115 36)).toNatClampNeg 0) 141 ((rI S 115 36)).toNatClampNeg 0) 105).2 110).2 107).2 114).2 111).2).2) else ((f_one14 (f_X9_skips (f_X9_skips (f_X9_skips (f_X9_skips (f_X9_skips (wI (wI S 140 ((rI S 115 36)).toNatClampNeg 0) 141 ((rI S 115 36)).toNatClampNeg 0) 105).2 110).2 107).2 114).2 111).2).1, (f_one14 (f_X9_skips (f_X9_skips (f_X9_skips (f_X9_skips (f_X9_skips (wI (wI S 140 ((rI S 115 36)).toNatClampNeg 0) 141 ((rI S 115 36)).toNatClampNeg 0) 105).2 110).2 107).2 114).2 111).2).2)) else ((f_one2 (f_X9_skips (f_X9_skips (f_X9_skips (f_X9_skips (wI (wI S 140 ((rI S 115 36)).toNatClampNeg 0) 141 ((rI S 115 36)).toNatClampNeg 0) 105).2 110).2 107).2 114).2).1, (f_one2 (f_X9_skips (f_X9_skips (f_X9_skips (f_X9_skips (wI (wI S 140 ((rI S 115 36)).toNatClampNeg 0) 141 ((rI S 115 36)).toNatClampNeg 0) 105).2 110).2 107).2 114).2).2)) else ((f_one1 (f_X9_skips (f_X9_skips (f_X9_skips (wI (wI S 140 ((rI S 115 36)).toNatClampNeg 0) 141 ((rI S 115 36)).toNatClampNeg 0) 105).2 110).2 107).2).1, (f_one1 (f_X9_skips (f_X9_skips (f_X9_skips (wI (wI S 140 ((rI S 115 36)).toNatClampNeg 0) 141 ((rI S 115 36)).toNatClampNeg 0) 105).2 110).2 107).2).2)) else ((f_pair0 (wI (f_X9_skips (f_X9_skips (wI (wI S 140 ((rI S 115 36)).toNatClampNeg 0) 141 ((rI S 115 36)).toNatClampNeg 0) 105).2 110).2 138 ((rI (f_X9_skips (f_X9_skips (wI (wI S 140 ((rI S 115 36)).toNatClampNeg 0) 141 ((rI S 115 36)).toNatClampNeg 0) 105).2 110).2 115 36)).toNatClampNeg 13)).1, (f_pair0 (wI (f_X9_skips (f_X9_skips (wI (wI S 140 ((rI S 115 36)).toNatClampNeg 0) 141 ((rI S 115 36)).toNatClampNeg 0) 105).2 110).2 138 ((rI (f_X9_skips (f_X9_skips (wI (wI S 140 ((rI S 115 36)).toNatClampNeg 0) 141 ((rI S 115 36)).toNatClampNeg 0) 105).2 110).2 115 36)).toNatClampNeg 13)).2)) else ((f_pair1 (wI (f_X9_skips (wI (wI S 140 ((rI S 115 36)).toNatClampNeg 0) 141 ((rI S 115 36)).toNatClampNeg 0) 105).2 138 ((rI (f_X9_skips (wI (wI S 140 ((rI S 115 36)).toNatClampNeg 0) 141 ((rI S 115 36)).toNatClampNeg 0) 105).2 115 36)).toNatClampNeg 0)).1, (f_pair1 (wI (f_X9_skips (wI (wI S 140 ((rI S 115 36)).toNatClampNeg 0) 141 ((rI S 115 36)).toNatClampNeg 0) 105).2 138 ((rI (f_X9_skips (wI (wI S 140 ((rI S 115 36)).toNatClampNeg 0) 141 ((rI S 115 36)).toNatClampNeg 0) 105).2 115 36)).toNatClampNeg 0)).2))
set_option maxRecDepth 100000 in
set_option maxHeartbeats 1000000 in
theorem ct_X9_takesItem (S : gS)  (ht : okT S) : gF mX9_takesItem [.ref 115] S (some (.int (f_X9_takesItem S).1)) (f_X9_takesItem S).2 := by
  refine go_enter [.ref 115] [(0, .ref 115)] (by decide +kernel) rfl rfl (Nat.le_of_ble_eq_true rfl) rfl ?_
  refine go_aload_n 1 dX9_takesItem_0 rfl rfl ?_
  refine g_getR 4 dX9_takesItem_1 rfl fF_RX9_83 ly_115 rfl ?_
  refine go_aload_n 5 dX9_takesItem_4 rfl rfl ?_
  refine g_getI 8 dX9_takesItem_5 rfl fF_RX9_324 ly_115 rfl ?_
  refine go_iconst 9 (0) dX9_takesItem_8 rfl (by decide) ?_
  refine g_iast2 10 _ dX9_takesItem_9 rfl ly_140 (okT.it ht) rfl ?_
  refine go_aload_n 11 dX9_takesItem_10 rfl rfl ?_
  refine g_getR 14 dX9_takesItem_11 rfl fF_RX9_86 ly_115 rfl ?_
  refine go_aload_n 15 dX9_takesItem_14 rfl rfl ?_
  refine g_getI 18 dX9_takesItem_15 rfl fF_RX9_324 ly_115 rfl ?_
  refine go_topi (rI S 115 36) (rI_wIk (by decide) _ _ _) ?_
  refine go_iconst 19 (0) dX9_takesItem_18 rfl (by decide) ?_
  refine g_iast2 20 _ dX9_takesItem_19 rfl ly_141 (okT.it ht) rfl ?_
  have hZ : okT (wI (wI S 140 ((rI S 115 36)).toNatClampNeg 0) 141 ((rI S 115 36)).toNatClampNeg 0) := okT.of ht (by simp [rI_wI]) (by simp [rI_wI]) (by simp [rI_wI])
  refine go_aload_n 21 dX9_takesItem_20 rfl rfl ?_
  refine go_bipush 23 (105) dX9_takesItem_21 rfl (by decide) ?_
  refine g_callV 26 [.int _] [] dX9_takesItem_23 rfl (ct_X9_skips _ _ hZ) rfl sV_X9_takesItem_309 rfl ly_115 rfl rfl (Nat.le_of_ble_eq_true rfl) (Nat.le_of_ble_eq_true rfl) (Nat.le_of_ble_eq_true rfl) ?_
  refine go_if_eq 29 45 dX9_takesItem_26 rfl (by decide) (fun hc1 => ?_) (fun hc1 => ?_)
  · refine go_aload_n 46 dX9_takesItem_45 rfl rfl ?_
    refine go_bipush 48 (110) dX9_takesItem_46 rfl (by decide) ?_
    refine g_callV 51 [.int _] [] dX9_takesItem_48 rfl (ct_X9_skips _ _ (okT.sk hZ (c := 105))) rfl sV_X9_takesItem_309 rfl ly_115 rfl rfl (Nat.le_of_ble_eq_true rfl) (Nat.le_of_ble_eq_true rfl) (Nat.le_of_ble_eq_true rfl) ?_
    refine go_if_eq 54 71 dX9_takesItem_51 rfl (by decide) (fun hc2 => ?_) (fun hc2 => ?_)
    · refine go_aload_n 72 dX9_takesItem_71 rfl rfl ?_
      refine go_bipush 74 (107) dX9_takesItem_72 rfl (by decide) ?_
      refine g_callV 77 [.int _] [] dX9_takesItem_74 rfl (ct_X9_skips _ _ (okT.sk (okT.sk hZ (c := 105)) (c := 110))) rfl sV_X9_takesItem_309 rfl ly_115 rfl rfl (Nat.le_of_ble_eq_true rfl) (Nat.le_of_ble_eq_true rfl) (Nat.le_of_ble_eq_true rfl) ?_
      refine go_if_eq 80 86 dX9_takesItem_77 rfl (by decide) (fun hc3 => ?_) (fun hc3 => ?_)
      · refine go_aload_n 87 dX9_takesItem_86 rfl rfl ?_
        refine go_bipush 89 (114) dX9_takesItem_87 rfl (by decide) ?_
        refine g_callV 92 [.int _] [] dX9_takesItem_89 rfl (ct_X9_skips _ _ (okT.sk (okT.sk (okT.sk hZ (c := 105)) (c := 110)) (c := 107))) rfl sV_X9_takesItem_309 rfl ly_115 rfl rfl (Nat.le_of_ble_eq_true rfl) (Nat.le_of_ble_eq_true rfl) (Nat.le_of_ble_eq_true rfl) ?_
        refine go_if_eq 95 101 dX9_takesItem_92 rfl (by decide) (fun hc4 => ?_) (fun hc4 => ?_)
        · refine go_aload_n 102 dX9_takesItem_101 rfl rfl ?_
          refine go_bipush 104 (111) dX9_takesItem_102 rfl (by decide) ?_
          refine g_callV 107 [.int _] [] dX9_takesItem_104 rfl (ct_X9_skips _ _ (okT.sk (okT.sk (okT.sk (okT.sk hZ (c := 105)) (c := 110)) (c := 107)) (c := 114))) rfl sV_X9_takesItem_309 rfl ly_115 rfl rfl (Nat.le_of_ble_eq_true rfl) (Nat.le_of_ble_eq_true rfl) (Nat.le_of_ble_eq_true rfl) ?_
          refine go_if_eq 110 119 dX9_takesItem_107 rfl (by decide) (fun hc5 => ?_) (fun hc5 => ?_)
          · refine go_aload_n 120 dX9_takesItem_119 rfl rfl ?_
            refine g_callV 123 [] [] dX9_takesItem_120 rfl (ct_X9_takesSignal _ (okT.sk (okT.sk (okT.sk (okT.sk (okT.sk hZ (c := 105)) (c := 110)) (c := 107)) (c := 114)) (c := 111))) rfl sV_X9_takesItem_337 rfl ly_115 rfl rfl (Nat.le_of_ble_eq_true rfl) (Nat.le_of_ble_eq_true rfl) (Nat.le_of_ble_eq_true rfl) ?_
            refine go_ireturn dX9_takesItem_123 rfl (nb_f_X9_takesSignal ..) (Nat.le_of_ble_eq_true rfl) (Nat.le_of_ble_eq_true rfl) ?_
            exact ⟨congrArg (fun z => some (Value.int z)) (by unfold f_X9_takesItem; simp only [if_pos hc1, if_pos hc2, if_pos hc3, if_pos hc4, if_pos hc5]; try first | rfl | contradiction), congrArg hp (by unfold f_X9_takesItem; simp only [if_pos hc1, if_pos hc2, if_pos hc3, if_pos hc4, if_pos hc5]; try first | rfl | contradiction)⟩
          · refine go_aload_n 111 dX9_takesItem_110 rfl rfl ?_
            refine go_bipush 113 (14) dX9_takesItem_111 rfl (by decide) ?_
            refine g_callV 116 [.int _] [] dX9_takesItem_113 rfl (ct_one14 _ (okT.sk (okT.sk (okT.sk (okT.sk (okT.sk hZ (c := 105)) (c := 110)) (c := 107)) (c := 114)) (c := 111))) rfl sV_X9_takesItem_334 rfl ly_115 rfl rfl (Nat.le_of_ble_eq_true rfl) (Nat.le_of_ble_eq_true rfl) (Nat.le_of_ble_eq_true rfl) ?_
            refine go_goto 123 dX9_takesItem_116 (by decide) ?_
            refine go_ireturn dX9_takesItem_123 rfl (nb_f_one14 ..) (Nat.le_of_ble_eq_true rfl) (Nat.le_of_ble_eq_true rfl) ?_
            exact ⟨congrArg (fun z => some (Value.int z)) (by unfold f_X9_takesItem; simp only [if_pos hc1, if_pos hc2, if_pos hc3, if_pos hc4, if_neg hc5]; try first | rfl | contradiction), congrArg hp (by unfold f_X9_takesItem; simp only [if_pos hc1, if_pos hc2, if_pos hc3, if_pos hc4, if_neg hc5]; try first | rfl | contradiction)⟩
        · refine go_aload_n 96 dX9_takesItem_95 rfl rfl ?_
          refine go_iconst 97 (2) dX9_takesItem_96 rfl (by decide) ?_
          refine g_callV 100 [.int _] [] dX9_takesItem_97 rfl (ct_one2 _ (okT.sk (okT.sk (okT.sk (okT.sk hZ (c := 105)) (c := 110)) (c := 107)) (c := 114))) rfl sV_X9_takesItem_334 rfl ly_115 rfl rfl (Nat.le_of_ble_eq_true rfl) (Nat.le_of_ble_eq_true rfl) (Nat.le_of_ble_eq_true rfl) ?_
          refine go_ireturn dX9_takesItem_100 rfl (nb_f_one2 ..) (Nat.le_of_ble_eq_true rfl) (Nat.le_of_ble_eq_true rfl) ?_
          exact ⟨congrArg (fun z => some (Value.int z)) (by unfold f_X9_takesItem; simp only [if_pos hc1, if_pos hc2, if_pos hc3, if_neg hc4]; try first | rfl | contradiction), congrArg hp (by unfold f_X9_takesItem; simp only [if_pos hc1, if_pos hc2, if_pos hc3, if_neg hc4]; try first | rfl | contradiction)⟩
      · refine go_aload_n 81 dX9_takesItem_80 rfl rfl ?_
        refine go_iconst 82 (1) dX9_takesItem_81 rfl (by decide) ?_
        refine g_callV 85 [.int _] [] dX9_takesItem_82 rfl (ct_one1 _ (okT.sk (okT.sk (okT.sk hZ (c := 105)) (c := 110)) (c := 107))) rfl sV_X9_takesItem_334 rfl ly_115 rfl rfl (Nat.le_of_ble_eq_true rfl) (Nat.le_of_ble_eq_true rfl) (Nat.le_of_ble_eq_true rfl) ?_
        refine go_ireturn dX9_takesItem_85 rfl (nb_f_one1 ..) (Nat.le_of_ble_eq_true rfl) (Nat.le_of_ble_eq_true rfl) ?_
        exact ⟨congrArg (fun z => some (Value.int z)) (by unfold f_X9_takesItem; simp only [if_pos hc1, if_pos hc2, if_neg hc3]; try first | rfl | contradiction), congrArg hp (by unfold f_X9_takesItem; simp only [if_pos hc1, if_pos hc2, if_neg hc3]; try first | rfl | contradiction)⟩
    · refine go_aload_n 55 dX9_takesItem_54 rfl rfl ?_
      refine g_getR 58 dX9_takesItem_55 rfl fF_RX9_77 ly_115 rfl ?_
      refine go_aload_n 59 dX9_takesItem_58 rfl rfl ?_
      refine g_getI 62 dX9_takesItem_59 rfl fF_RX9_324 ly_115 rfl ?_
      refine go_bipush 64 (13) dX9_takesItem_62 rfl (by decide) ?_
      refine g_iast2 65 _ dX9_takesItem_64 rfl ly_138 (okT.it (okT.sk (okT.sk hZ (c := 105)) (c := 110))) rfl ?_
      have hN : okT (wI (f_X9_skips (f_X9_skips (wI (wI S 140 ((rI S 115 36)).toNatClampNeg 0) 141 ((rI S 115 36)).toNatClampNeg 0) 105).2 110).2 138 ((rI (f_X9_skips (f_X9_skips (wI (wI S 140 ((rI S 115 36)).toNatClampNeg 0) 141 ((rI S 115 36)).toNatClampNeg 0) 105).2 110).2 115 36)).toNatClampNeg 13) := okT.of (okT.sk (okT.sk hZ (c := 105)) (c := 110)) (by simp [rI_wI]) (by simp [rI_wI]) (by simp [rI_wI])
      refine go_aload_n 66 dX9_takesItem_65 rfl rfl ?_
      refine go_iconst 67 (0) dX9_takesItem_66 rfl (by decide) ?_
      refine g_callV 70 [.int _] [] dX9_takesItem_67 rfl (ct_pair0 _ hN) rfl sV_X9_takesItem_330 rfl ly_115 rfl rfl (Nat.le_of_ble_eq_true rfl) (Nat.le_of_ble_eq_true rfl) (Nat.le_of_ble_eq_true rfl) ?_
      refine go_ireturn dX9_takesItem_70 rfl (nb_f_pair0 ..) (Nat.le_of_ble_eq_true rfl) (Nat.le_of_ble_eq_true rfl) ?_
      exact ⟨congrArg (fun z => some (Value.int z)) (by unfold f_X9_takesItem; simp only [if_pos hc1, if_neg hc2]; try first | rfl | contradiction), congrArg hp (by unfold f_X9_takesItem; simp only [if_pos hc1, if_neg hc2]; try first | rfl | contradiction)⟩
  · refine go_aload_n 30 dX9_takesItem_29 rfl rfl ?_
    refine g_getR 33 dX9_takesItem_30 rfl fF_RX9_77 ly_115 rfl ?_
    refine go_aload_n 34 dX9_takesItem_33 rfl rfl ?_
    refine g_getI 37 dX9_takesItem_34 rfl fF_RX9_324 ly_115 rfl ?_
    refine go_iconst 38 (0) dX9_takesItem_37 rfl (by decide) ?_
    refine g_iast2 39 _ dX9_takesItem_38 rfl ly_138 (okT.it (okT.sk hZ (c := 105))) rfl ?_
    have hI : okT (wI (f_X9_skips (wI (wI S 140 ((rI S 115 36)).toNatClampNeg 0) 141 ((rI S 115 36)).toNatClampNeg 0) 105).2 138 ((rI (f_X9_skips (wI (wI S 140 ((rI S 115 36)).toNatClampNeg 0) 141 ((rI S 115 36)).toNatClampNeg 0) 105).2 115 36)).toNatClampNeg 0) := okT.of (okT.sk hZ (c := 105)) (by simp [rI_wI]) (by simp [rI_wI]) (by simp [rI_wI])
    refine go_aload_n 40 dX9_takesItem_39 rfl rfl ?_
    refine go_iconst 41 (1) dX9_takesItem_40 rfl (by decide) ?_
    refine g_callV 44 [.int _] [] dX9_takesItem_41 rfl (ct_pair1 _ hI) rfl sV_X9_takesItem_330 rfl ly_115 rfl rfl (Nat.le_of_ble_eq_true rfl) (Nat.le_of_ble_eq_true rfl) (Nat.le_of_ble_eq_true rfl) ?_
    refine go_ireturn dX9_takesItem_44 rfl (nb_f_pair1 ..) (Nat.le_of_ble_eq_true rfl) (Nat.le_of_ble_eq_true rfl) ?_
    exact ⟨congrArg (fun z => some (Value.int z)) (by unfold f_X9_takesItem; simp only [if_neg hc1]; try first | rfl | contradiction), congrArg hp (by unfold f_X9_takesItem; simp only [if_neg hc1]; try first | rfl | contradiction)⟩

