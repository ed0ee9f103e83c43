theorem k12_c {v : Int32} : ((0 : Int64) ≤ v.toInt64 ∧ v.toInt64 ≤ 12) ↔ (0 ≤ v ∧ v ≤ 12) := by
  rw [show (0 : Int64) = (0 : Int32).toInt64 from rfl, w_le, show (12 : Int64) = (12 : Int32).toInt64 from rfl, w_le]
theorem rL_rsF (S : gS) (n a c : Nat) : rL (rsF S n) a c = rL S a c := by unfold rsF; rw [rL_wR, rL_wR, rL_wI, rL_wI]
theorem rL_adF (S : gS) (is x y z : Int32) (a c : Nat) : rL (adF S is x y z) a c = rL S a c := by unfold adF; simp only [rL_wI]
theorem Inv.rd {S : gS} {n : Nat} (hA : IA S n) (hH : IH S n) : RD S S n := ⟨hA.1, hA.2.1, hA.2.2.2.2.1, hA.2.2.2.2.2.1, hH.2.1, hH.2.2.1⟩
theorem q_add {S : gS} (h : Inv S) (kd a b c : Int32) : A1 mL_add [.ref 0, .int kd, .int a, .int b, .int c, .ref 145] mX9_add [.ref 115, .int kd, .int a, .int b, .int c] S Int32.toInt64 := by
  obtain ⟨n, hA, hH, hX⟩ := h
  have hn := hA.1.1.1
  have h24 := hA.1.1.2.1
  have hct := ct_X8_add S kd a b c n hA.1.1
  by_cases hk : 0 ≤ kd ∧ kd ≤ 12
  · have hk0 : ¬ kd < 0 := Int32.not_lt.mpr hk.1
    obtain ⟨b0, b1, b2, b3⟩ := bcm_rd (S := S) (k := 34) (v := kd) (a := a) (b := b) (c := c) hk.1 hk.2
    have bf : ∀ a9 c9, a9 ≠ 34 → a9 ≠ 35 → rI (f_X2_become S 34 kd a b c) a9 c9 = rI S a9 c9 := fun a9 c9 z1 z2 => fr_f_X2_become (fun q => z1 q.1) z2 S kd a b c
    have bl : ∀ a9 c9, rL (f_X2_become S 34 kd a b c) a9 c9 = rL S a9 c9 := fun a9 c9 => fl_f_X2_become S 34 kd a b c a9 c9
    have e : f_X8_add S kd a b c n = (if (f_X2_hasWrongConstant (f_X2_become S 34 kd a b c) 34) = 0 then (if (f_X2_lacksSignal (f_X2_become S 34 kd a b c) 34 ((rI (f_X2_become S 34 kd a b c) 1 0))) = 0 then (if (f_X0_isFull (f_X2_become S 34 kd a b c)) = 0 then (0, ((rI (f_X8_beginAnew (f_X0_append (f_X2_become S 34 kd a b c) 34) ((n + 1))) 1 0) - 1), (f_X8_beginAnew (f_X0_append (f_X2_become S 34 kd a b c) 34) ((n + 1)))) else (3, 0, (f_X2_become S 34 kd a b c))) else (2, 0, (f_X2_become S 34 kd a b c))) else (1, 0, (f_X2_become S 34 kd a b c))) := by
      unfold f_X8_add; rw [if_neg hk0, if_pos hk.2]
    revert e b0 b1 b2 b3 bf bl
    generalize f_X2_become S 34 kd a b c = B
    intro b0 b1 b2 b3 bf bl e
    have bA : IA B n := hA.of (fun a c z1 z2 => bf a c (by omega) (by omega)) (fun a c z => bl a c)
    have bH : IH B n := hH.of (fun a c z => bf a c (by omega) (by omega))
    have bX : IX B := hX.of (fun a c z => bf a c (by omega) (by omega))
    have hn2 := bA.1.1.1
    have hW := hwc b0 b1 b2 hk.1 hk.2
    have hL := hls (n := nI n) b0 b1 b2 b3 hk.1 hk.2
    have eW : bcF kd a (if kd = 1 ∨ kd = 2 then 0 else b) = bcF kd a b := by
      by_cases q : kd = 1 ∨ kd = 2
      · exact bc_n b q
      · rw [if_neg q]
    have eL : bsF (nI n) kd a (if kd = 1 ∨ kd = 2 then 0 else b) (if kd = 12 then c else 0) = bsF (nI n) kd a b c := bs_n (fun q => if_neg q) (fun q => if_pos q)
    rw [eW] at hW
    rw [eL] at hL
    have kk : ¬ (¬ ((0 : Int64) ≤ kd.toInt64 ∧ kd.toInt64 ≤ 12)) := fun q => q (k12_c.mpr hk)
    by_cases p1 : bcF kd a b < 0
    · rw [if_pos (hW.mpr p1), hn2] at e
      by_cases p2 : bsF (nI n) kd a b c < 0
      · rw [if_pos (hL.mpr p2)] at e
        by_cases p3 : n = 24
        · have hf : ¬ f_X0_isFull B = 0 := by
            unfold f_X0_isFull
            rw [hn2, if_neg (by rw [show (24 : Int32) = nI 24 from rfl, nI_lt2 (by omega) (by omega)]; omega)]
            decide
          rw [if_neg hf] at e
          rw [e] at hct
          have hL9 := ct_L_add S B kd a b c 3 _ hct (Or.inr (Or.inr (Or.inr rfl)))
          rw [if_neg (by decide), if_neg (by decide), if_neg (by decide), if_neg (by decide)] at hL9
          have hR := ct_X9_add B kd a b c n bA.1.2.1 h24
          have hK : addK n kd a b c = 3 := by unfold addK; rw [if_neg (fun q => q.elim kk (fun u => u p1)), if_neg (fun u => u p2), if_pos p3]
          rw [hK, if_neg (by decide), if_neg (by decide)] at hR
          exact ⟨3, _, _, _, hL9, hR, rI_same _ _ _ _, fun z => absurd z (by decide), Inv.refuse bA bH bX 3⟩
        · have h24' : n < 24 := by omega
          have hf : f_X0_isFull B = 0 := by
            unfold f_X0_isFull
            rw [hn2, if_pos (by rw [show (24 : Int32) = nI 24 from rfl, nI_lt2 (by omega) (by omega)]; omega)]
          rw [if_pos hf] at e
          rw [e] at hct
          have w01 := hw_01 (hW.mpr p1)
          have apf : ∀ a c, ¬ (1 ≤ a ∧ a ≤ 9) → rI (f_X0_append B 34) a c = rI B a c := fun a c z => by rw [app_rd itm_34 hn2 h24', if_neg (by omega), if_neg (by omega), if_neg (by omega), if_neg (by omega), if_neg (by omega), if_neg (by omega), if_neg (by omega), if_neg (by omega), if_neg (by omega)]
          have ap10 : rI (f_X0_append B 34) 1 0 = nI (n + 1) := by rw [app_rd itm_34 hn2 h24', if_pos ⟨rfl, rfl⟩]
          have happ := fun Sr (hs : RD B Sr n) => RD.app (is := kd) (x := a) (y := b) (z := c) hs itm_34 h24' hk.1 hk.2 w01.1 w01.2 (hL.mpr p2) b0 b1 b2 b3
          clear e
          revert hct apf ap10 happ
          generalize f_X0_append B 34 = C
          intro hct apf ap10 happ
          have cf : ∀ a c, a ≠ 10 → a ≠ 11 → ¬ (a = 1 ∧ c = 1) → ¬ (a = 0 ∧ c = 12) → rI (f_X8_beginAnew C (n + 1)) a c = rI C a c := fun a c z1 z2 z3 z4 => ba_fr _ _ z1 z2 z3 z4
          have ev : rI (f_X8_beginAnew C (n + 1)) 1 0 - 1 = nI n := by rw [cf 1 0 (by decide) (by decide) (by decide) (by decide), ap10]; exact nI_pred n
          rw [ev] at hct
          have hL9 := ct_L_add S _ kd a b c 0 _ hct (Or.inl rfl)
          rw [if_pos rfl, if_pos rfl] at hL9
          have sf : ∀ a c, (a = 0 ∧ c ≠ 12) ∨ 12 ≤ a → a ≠ 34 → a ≠ 35 → ¬ (a = 115 ∧ c = 0) → rI (wI (wL (f_X8_beginAnew C (n + 1)) 145 0 (nI n).toInt64) 115 0 0) a c = rI S a c := fun a c z1 z2 z3 z4 => by rw [rI_wIc z4, rI_wL, cf a c (by omega) (by omega) (by omega) (by omega), apf a c (by omega), bf a c z2 z3]
          have sb : ∀ a c, a < 115 → rI (wI (wL (f_X8_beginAnew C (n + 1)) 145 0 (nI n).toInt64) 115 0 0) a c = rI (f_X8_beginAnew C (n + 1)) a c := fun a c z => by rw [rI_wIk (by omega), rI_wL]
          have sl : rL (wI (wL (f_X8_beginAnew C (n + 1)) 145 0 (nI n).toInt64) 115 0 0) 145 0 = (nI n).toInt64 := by rw [rL_wI, rL_wL, if_pos ⟨rfl, rfl⟩]
          have s0 : rI (wI (wL (f_X8_beginAnew C (n + 1)) 145 0 (nI n).toInt64) 115 0 0) 115 0 = 0 := rI_same _ _ _ _
          have hR := ct_X9_add (wL (f_X8_beginAnew C (n + 1)) 145 0 (nI n).toInt64) kd a b c n (by rw [rI_wL, cf 115 10 (by decide) (by decide) (by decide) (by decide), apf 115 10 (by decide)]; exact bA.1.2.1) h24
          have hK : addK n kd a b c = 0 := by unfold addK; rw [if_neg (fun q => q.elim kk (fun u => u p1)), if_neg (fun u => u p2), if_neg p3]
          rw [if_pos hK, if_pos hK] at hR
          refine ⟨0, _, _, _, hL9, hR, ?_, fun _ => ?_, ?_⟩
          · clear hR hL9 hct
            revert sf sb sl s0
            generalize wI (wL (f_X8_beginAnew C (n + 1)) 145 0 (nI n).toInt64) 115 0 0 = U
            intro sf sb sl s0
            have un : rI U 115 10 = nI n := (sf 115 10 (by omega) (by omega) (by omega) (by omega)).trans hA.1.2.1
            rw [rs_fr _ _ (by decide) (by decide) (by decide) (by decide), adn_rd un h24', if_neg (by omega), if_neg (by omega), if_neg (by omega), if_neg (by omega), if_neg (by omega), if_neg (by omega), if_neg (by omega), if_neg (by omega), if_neg (by omega)]
            exact s0
          · rw [rL_rsF, rL_adF]; exact sl
          · clear hR hL9 hct
            revert sf sb sl s0
            generalize wI (wL (f_X8_beginAnew C (n + 1)) 145 0 (nI n).toInt64) 115 0 0 = U
            intro sf sb sl s0
            have un : rI U 115 10 = nI n := (sf 115 10 (by omega) (by omega) (by omega) (by omega)).trans hA.1.2.1
            have rd := happ U ((Inv.rd hA hH).of (fun a c z1 z2 z3 => bf a c (by omega) (by omega)) (fun a c z => sf a c (by omega) (by omega) (by omega) (by omega)))
            have af : ∀ a9 c9, ¬ (116 ≤ a9 ∧ a9 ≤ 123) → ¬ (a9 = 115 ∧ c9 = 10) → rI (adF U kd a b c) a9 c9 = rI U a9 c9 := fun a9 c9 z1 z2 => by rw [adn_rd un h24', if_neg (by omega), if_neg (by omega), if_neg (by omega), if_neg (by omega), if_neg (by omega), if_neg (by omega), if_neg (by omega), if_neg (by omega), if_neg (by omega)]
            revert rd af
            generalize adF U kd a b c = R0
            intro rd af
            have rd2 : RD R0 R0 (n + 1) := rd.of (fun a c z1 z2 z3 => (af a c (by omega) (by omega)).trans ((sb a c (by omega)).trans (cf a c (by omega) (by omega) (by omega) (by omega)))) (fun a c z => rfl)
            have ff : ∀ a c, (a = 0 ∧ c ≠ 12) ∨ 12 ≤ a → a ≠ 34 → a ≠ 35 → ¬ (a = 115 ∧ (c = 0 ∨ c = 10)) → ¬ (116 ≤ a ∧ a ≤ 123) → rI R0 a c = rI S a c := fun a c z1 z2 z3 z4 z5 => (af a c (by omega) (by omega)).trans (sf a c (by omega) (by omega) (by omega) (by omega))
            obtain ⟨d1, d2, d3, d4, d5, d6⟩ := rd2
            exact anew2 (C := C) (n := n + 1) d1 d2 (by rw [ff 40 3 (by omega) (by omega) (by omega) (by omega) (by omega)]; exact hA.2.2.1) (fun c => by rw [ff 43 c (by omega) (by omega) (by omega) (by omega) (by omega)]; exact hA.2.2.2.1 c) d3 d4 d5 d6 (hX.of (fun a c z => ff a c (by omega) (by omega) (by omega) (by omega) (by omega))) (fun a c z => (af a c (by omega) (by omega)).trans (sb a c z))
      · rw [if_neg (fun z => p2 (hL.mp z))] at e
        rw [e] at hct
        have hL9 := ct_L_add S B kd a b c 2 _ hct (Or.inr (Or.inr (Or.inl rfl)))
        rw [if_neg (by decide), if_neg (by decide), if_pos rfl, if_neg (by decide)] at hL9
        have hR := ct_X9_add B kd a b c n bA.1.2.1 h24
        have hK : addK n kd a b c = 2 := by unfold addK; rw [if_neg (fun q => q.elim kk (fun u => u p1)), if_pos p2]
        rw [hK, if_neg (by decide), if_neg (by decide)] at hR
        exact ⟨2, _, _, _, hL9, hR, rI_same _ _ _ _, fun z => absurd z (by decide), Inv.refuse bA bH bX 2⟩
    · rw [if_neg (fun z => p1 (hW.mp z))] at e
      rw [e] at hct
      have hL9 := ct_L_add S B kd a b c 1 _ hct (Or.inr (Or.inl rfl))
      rw [if_neg (by decide), if_pos rfl, if_neg (by decide)] at hL9
      have hR := ct_X9_add B kd a b c n bA.1.2.1 h24
      have hK : addK n kd a b c = 1 := by unfold addK; rw [if_pos (Or.inr p1)]
      rw [hK, if_neg (by decide), if_neg (by decide)] at hR
      exact ⟨1, _, _, _, hL9, hR, rI_same _ _ _ _, fun z => absurd z (by decide), Inv.refuse bA bH bX 1⟩
  · have e : f_X8_add S kd a b c n = (1, 0, S) := by
      unfold f_X8_add
      by_cases q : kd < 0
      · rw [if_pos q]
      · rw [if_neg q, if_neg (fun z => hk ⟨Int32.not_lt.mp q, z⟩)]
    rw [e] at hct
    have hL9 := ct_L_add S S kd a b c 1 _ hct (Or.inr (Or.inl rfl))
    rw [if_neg (by decide), if_pos rfl, if_neg (by decide)] at hL9
    have hR := ct_X9_add S kd a b c n hA.1.2.1 h24
    have hK : addK n kd a b c = 1 := by unfold addK; rw [if_pos (Or.inl (fun z => hk (k12_c.mp z)))]
    rw [hK, if_neg (by decide), if_neg (by decide)] at hR
    exact ⟨1, _, _, _, hL9, hR, rI_same _ _ _ _, fun z => absurd z (by decide), Inv.refuse hA hH hX 1⟩

