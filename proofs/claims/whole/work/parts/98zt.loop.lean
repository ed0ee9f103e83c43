def gZ : gS := (fun _ _ => 0, fun _ _ => 0, fun _ _ => 0)
theorem Inv_Z : Inv gZ := by
  refine ⟨0, ⟨⟨okC_zero rfl, rfl, fun i hi => absurd hi (Nat.not_lt_zero i)⟩, fun c => Or.inl rfl, Or.inl rfl, fun c => Or.inl rfl, fun i hi => absurd hi (Nat.not_lt_zero i), fun i hi => absurd hi (Nat.not_lt_zero i), fun z => absurd rfl z, fun z => absurd rfl z⟩, ⟨rfl, fun i hi => absurd hi (Nat.not_lt_zero i), fun i hi => absurd hi (Nat.not_lt_zero i), fun i hi => absurd hi (Nat.not_lt_zero i), fun X _ i hi => absurd hi (Nat.not_lt_zero i)⟩, ⟨0, by omega, rfl, rfl, fun j hj => absurd hj (Nat.not_lt_zero j)⟩, ⟨0, by omega, rfl, fun l _ => ⟨fun _ => Nat.not_lt_zero l, fun _ => rfl⟩, fun l hl => absurd hl (Nat.not_lt_zero l)⟩, ⟨fun _ => rfl, fun _ => rfl⟩, fun z => absurd rfl z⟩
theorem sub5 {L : Nat} (h : L ≤ 2560) : (nI L - 5).toInt = (L : Int) - 5 := by
  rw [Int32.toInt_sub, nI_toInt (by omega), show (5 : Int32).toInt = 5 from rfl]
  exact Int.bmod_eq_of_le (by omega) (by omega)
theorem nI_pl (a b : Nat) : nI a + nI b = nI (a + b) := (Int32.ofNat_add a b).symm
set_option maxRecDepth 100000 in
theorem law_loop {z : Nat × Nat × (Nat → Int32)} {Q : go_Q} (hL : z.2.1 ≤ 2560) (kx : ∀ S k cl sl, cl ≤ 603072 → sl ≤ 7194730 → Gl z mL_law false Q cl sl 1666 [(5, .int (nI (5 * k))), (4, .ref 146), (3, .ref 145), (2, .ref 115), (1, .ref 0)] [] (hp S)) : ∀ f k S cl sl, f + k = z.2.1 / 5 → Inv S → cl + 4 * f ≤ 603072 → sl + 24 * f ≤ 7194730 → Gl z mL_law false Q cl sl 28 [(5, .int (nI (5 * k))), (4, .ref 146), (3, .ref 145), (2, .ref 115), (1, .ref 0)] [] (hp S) := by
  intro f
  induction f with
  | zero =>
    intro k S cl sl hf hI hc hs
    refine gl_iload 30 dL_law_28 rfl rfl ?_
    refine gl_slen 32 dL_law_30 dL_law_31 rfl ?_
    refine gl_iconst 33 (5) dL_law_32 rfl (by decide) ?_
    refine gl_isub 34 dL_law_33 rfl ?_
    refine gl_icmp_gt 37 1666 dL_law_34 rfl (by decide) (fun _ => kx S k cl sl (by omega) (by omega)) (fun q => absurd (show nI z.2.1 - 5 < nI (5 * k) by rw [il, sub5 hL, nI_toInt (by omega)]; omega) q)
  | succ f ih =>
    intro k S cl sl hf hI hc hs
    have h5 : 5 * k + 5 ≤ z.2.1 := by omega
    have v : ∀ c : Nat, c ≤ 4 → vp_in (nI (5 * k) + nI c) z.2.1 := fun c hc => by rw [nI_pl]; exact vp_in_nI (by omega) (by omega)
    have h0 : vp_in (nI (5 * k)) z.2.1 := vp_in_nI (by omega) (by omega)
    have h1 : vp_in (nI (5 * k) + 1) z.2.1 := v 1 (by omega)
    have h2 : vp_in (nI (5 * k) + 2) z.2.1 := v 2 (by omega)
    have h3 : vp_in (nI (5 * k) + 3) z.2.1 := v 3 (by omega)
    have h4 : vp_in (nI (5 * k) + 4) z.2.1 := v 4 (by omega)
    have hc4 : cl + 4 ≤ 603072 := by omega
    have hs24 : sl + 24 ≤ 7194730 := by omega
    have kn : ∀ T, Inv T → ∀ c2 s2, c2 ≤ cl + 4 → s2 ≤ sl + 24 → Gl z mL_law false Q c2 s2 1660 [(5, .int (nI (5 * k))), (4, .ref 146), (3, .ref 145), (2, .ref 115), (1, .ref 0)] [] (hp T) := by
      intro T hT c2 s2 hc2 hs2
      refine gl_iinc 1663 [(5, .int (nI (5 * (k + 1)))), (4, .ref 146), (3, .ref 145), (2, .ref 115), (1, .ref 0)] (nI (5 * (k + 1))) dL_law_1660 rfl (Nat.le_of_ble_eq_true rfl) (by decide) rfl (nI_pl (5 * k) 5) rfl ?_
      refine gl_goto 28 dL_law_1663 (by decide) ?_
      exact ih (k + 1) T c2 s2 (by omega) hT (by omega) (by omega)
    refine gl_iload 30 dL_law_28 rfl rfl ?_
    refine gl_slen 32 dL_law_30 dL_law_31 rfl ?_
    refine gl_iconst 33 (5) dL_law_32 rfl (by decide) ?_
    refine gl_isub 34 dL_law_33 rfl ?_
    refine gl_icmp_gt 37 1666 dL_law_34 rfl (by decide) (fun q => absurd q (by rw [il, sub5 hL, nI_toInt (by omega)]; omega)) (fun _ => ?_)
    refine gl_s0 41 (nI (5 * k)) dL_law_37 dL_law_38 dL_law_40 rfl rfl h0 ?_
    refine gl_bipush 43 (31) dL_law_41 rfl (by decide) ?_
    refine gl_iand 44 dL_law_43 rfl ?_
    exact gl_tableS [(0, 172), (1, 264), (2, 308), (3, 376), (4, 467), (5, 535), (6, 603), (7, 616), (8, 629), (9, 713), (10, 726), (11, 782), (12, 866), (13, 929), (14, 985), (15, 1041), (16, 1106), (17, 1119), (18, 1187), (19, 1243), (20, 1311), (21, 1367), (22, 1451), (23, 1464), (24, 1522), (25, 1535), (26, 1603), (27, 1616)] 1660 dL_law_44 rfl rfl (by decide) (by decide) rfl (by decide) (List.forall_mem_cons.mpr ⟨fun _ => lc_0 hI h1 h2 h3 h4 hc4 hs24 kn, List.forall_mem_cons.mpr ⟨fun _ => lc_1 hI h1 h2 h3 h4 hc4 hs24 kn, List.forall_mem_cons.mpr ⟨fun _ => lc_2 hI h1 h2 h3 h4 hc4 hs24 kn, List.forall_mem_cons.mpr ⟨fun _ => lc_3 hI h1 h2 h3 h4 hc4 hs24 kn, List.forall_mem_cons.mpr ⟨fun _ => lc_4 hI h1 h2 h3 h4 hc4 hs24 kn, List.forall_mem_cons.mpr ⟨fun _ => lc_5 hI h1 h2 h3 h4 hc4 hs24 kn, List.forall_mem_cons.mpr ⟨fun _ => lc_6 hI h1 h2 h3 h4 hc4 hs24 kn, List.forall_mem_cons.mpr ⟨fun _ => lc_7 hI h1 h2 h3 h4 hc4 hs24 kn, List.forall_mem_cons.mpr ⟨fun _ => lc_8 hI h1 h2 h3 h4 hc4 hs24 kn, List.forall_mem_cons.mpr ⟨fun _ => lc_9 hI h1 h2 h3 h4 hc4 hs24 kn, List.forall_mem_cons.mpr ⟨fun _ => lc_10 hI h1 h2 h3 h4 hc4 hs24 kn, List.forall_mem_cons.mpr ⟨fun _ => lc_11 hI h1 h2 h3 h4 hc4 hs24 kn, List.forall_mem_cons.mpr ⟨fun _ => lc_12 hI h1 h2 h3 h4 hc4 hs24 kn, List.forall_mem_cons.mpr ⟨fun _ => lc_13 hI h1 h2 h3 h4 hc4 hs24 kn, List.forall_mem_cons.mpr ⟨fun _ => lc_14 hI h1 h2 h3 h4 hc4 hs24 kn, List.forall_mem_cons.mpr ⟨fun _ => lc_15 hI h1 h2 h3 h4 hc4 hs24 kn, List.forall_mem_cons.mpr ⟨fun _ => lc_16 hI h1 h2 h3 h4 hc4 hs24 kn, List.forall_mem_cons.mpr ⟨fun _ => lc_17 hI h1 h2 h3 h4 hc4 hs24 kn, List.forall_mem_cons.mpr ⟨fun _ => lc_18 hI h1 h2 h3 h4 hc4 hs24 kn, List.forall_mem_cons.mpr ⟨fun _ => lc_19 hI h1 h2 h3 h4 hc4 hs24 kn, List.forall_mem_cons.mpr ⟨fun _ => lc_20 hI h1 h2 h3 h4 hc4 hs24 kn, List.forall_mem_cons.mpr ⟨fun _ => lc_21 hI h1 h2 h3 h4 hc4 hs24 kn, List.forall_mem_cons.mpr ⟨fun _ => lc_22 hI h1 h2 h3 h4 hc4 hs24 kn, List.forall_mem_cons.mpr ⟨fun _ => lc_23 hI h1 h2 h3 h4 hc4 hs24 kn, List.forall_mem_cons.mpr ⟨fun _ => lc_24 hI h1 h2 h3 h4 hc4 hs24 kn, List.forall_mem_cons.mpr ⟨fun _ => lc_25 hI h1 h2 h3 h4 hc4 hs24 kn, List.forall_mem_cons.mpr ⟨fun _ => lc_26 hI h1 h2 h3 h4 hc4 hs24 kn, List.forall_mem_cons.mpr ⟨fun _ => lc_27 hI h1 h2 h3 h4 hc4 hs24 kn, fun _ h => absurd h List.not_mem_nil⟩⟩⟩⟩⟩⟩⟩⟩⟩⟩⟩⟩⟩⟩⟩⟩⟩⟩⟩⟩⟩⟩⟩⟩⟩⟩⟩⟩) (fun _ => kn S hI cl sl (by omega) (by omega))
theorem gl_weak {z : Nat × Nat × (Nat → Int32)} {M : go_M} {Q : go_Q} {cl sl pc : Nat} {ls : List (Nat × Value)} {st : List Value} {h : go_H} (k : Gl z M false Q cl sl pc ls st h) : Gl z M true Q cl sl pc ls st h := by
  intro p l e s m args below meth c b kap D H locs ks hX hP hS hl hE
  exact k p l e s m args below meth c b kap D H locs ks hX ⟨hP.1, hP.2.1, fun q => by cases q⟩ hS hl hE
theorem len_8 : (ce_X8 0).length = 115 := by decide +kernel
theorem len_9 : (ce_X8 0 ++ ce_X9 115).length = 145 := by rw [List.length_append, len_8]; rfl
set_option maxRecDepth 100000 in
set_option maxHeartbeats 4000000 in
theorem hpZ : (ce_X8 0 ++ ce_X9 115 ++ [.inl (.long, 1, .inr (.inl (fun _ => 0)))]) ++ [.inl (.double, 1, .inr (.inr (.inr (.inl (fun _ => 0)))))] = hp gZ := by
  rw [hp_eq]
  rfl
set_option maxRecDepth 100000 in
theorem law_begin {z : Nat × Nat × (Nat → Int32)} {Q : go_Q} (kb : Gl z mL_law false Q (1 + 158 + (1 + 29) + 1 + 1) (13 + 22743 + (45 + 12760) + 1 + 1) 28 [(5, .int (nI (5 * 0))), (4, .ref 146), (3, .ref 145), (2, .ref 115), (1, .ref 0)] [] (hp gZ)) : Gl z mL_law true Q 0 0 0 [] [] [] := by
  refine gl_new 3 [.null, .null, .null, .null, .null, .null, .null, .null, .null, .null, .null, .int 0, .int 0] dL_law_0 rfl (ci := 8) rfl wJ_RL_8 wA_X8 wI_RX8 rfl (Nat.le_of_ble_eq_true rfl) (Nat.le_of_ble_eq_true rfl) ?_
  refine gl_dup 4 dL_law_3 rfl rfl ?_
  refine gl_callI 7 [] [.ref 0] (k := 0) dL_law_4 rfl (ci_X8 []) rfl sV_L_law_93 rfl (Nat.le_of_ble_eq_true rfl) (Nat.le_of_ble_eq_true rfl) (Nat.le_of_ble_eq_true rfl) (fun v h' hv => ?_)
  rw [hv.1, hv.2]
  show Gl z mL_law true Q _ _ 7 [] [.ref 0] (ce_X8 0)
  refine gl_astore_n 8 [(1, .ref 0)] dL_law_7 rfl (Nat.le_of_ble_eq_true rfl) (by decide) rfl ?_
  refine gl_new 11 [.int 0, .null, .null, .null, .null, .null, .null, .null, .null, .null, .int 0, .int 0, .null, .null, .int 0, .int 0, .long 0, .long 0, .null, .null, .null, .null, .null, .null, .null, .null, .int 0, .null, .null, .null, .null, .null, .null, .null, .int 0, .int 0, .int 0, .null, .null, .int 0, .int 0, .null, .int 0, .int 0, .int 0] dL_law_8 rfl (ci := 9) rfl wJ_RL_94 wA_X9 wI_RX9 rfl (Nat.le_of_ble_eq_true rfl) (Nat.le_of_ble_eq_true rfl) ?_
  have hC := ci_X9 (ce_X8 0)
  rw [len_8] at hC ⊢
  refine gl_dup 12 dL_law_11 rfl rfl ?_
  refine gl_callI 15 [] [.ref 115] (k := 115) dL_law_12 rfl hC rfl sV_L_law_96 rfl (Nat.le_of_ble_eq_true rfl) (Nat.le_of_ble_eq_true rfl) (Nat.le_of_ble_eq_true rfl) (fun v h' hv => ?_)
  rw [hv.1, hv.2]
  show Gl z mL_law true Q _ _ 15 [(1, .ref 0)] [.ref 115] (ce_X8 0 ++ ce_X9 115)
  refine gl_astore_n 16 [(2, .ref 115), (1, .ref 0)] dL_law_15 rfl (Nat.le_of_ble_eq_true rfl) (by decide) rfl ?_
  refine gl_iconst 17 (1) dL_law_16 rfl (by decide) ?_
  refine gl_newa 19 .long 1 1 (1, .inr (.inl (fun _ => 0))) dL_law_17 rfl rfl (fun C h => by cases h) wB_long (fun kap => rfl) (fun b cA => rfl) (by decide) rfl (Nat.le_of_ble_eq_true rfl) (Nat.le_of_ble_eq_true rfl) (Nat.le_of_ble_eq_true rfl) ?_
  rw [len_9]
  refine gl_astore_n 20 [(3, .ref 145), (2, .ref 115), (1, .ref 0)] dL_law_19 rfl (Nat.le_of_ble_eq_true rfl) (by decide) rfl ?_
  refine gl_iconst 21 (1) dL_law_20 rfl (by decide) ?_
  refine gl_newa 23 .double 4 1 (1, .inr (.inr (.inr (.inl (fun _ => 0))))) dL_law_21 rfl rfl (fun C h => by cases h) wB_double (fun kap => rfl) (fun b cA => rfl) (by decide) rfl (Nat.le_of_ble_eq_true rfl) (Nat.le_of_ble_eq_true rfl) (Nat.le_of_ble_eq_true rfl) ?_
  rw [List.length_append, len_9, hpZ]
  refine gl_astore 25 [(4, .ref 146), (3, .ref 145), (2, .ref 115), (1, .ref 0)] dL_law_23 rfl (Nat.le_of_ble_eq_true rfl) (by decide) rfl ?_
  refine gl_iconst 26 (0) dL_law_25 rfl (by decide) ?_
  refine gl_istore 28 [(5, .int (nI (5 * 0))), (4, .ref 146), (3, .ref 145), (2, .ref 115), (1, .ref 0)] dL_law_26 rfl (Nat.le_of_ble_eq_true rfl) (by decide) rfl ?_
  exact gl_weak (gl_wide _ _ (Nat.le_of_ble_eq_true rfl) (Nat.le_of_ble_eq_true rfl) kb)

