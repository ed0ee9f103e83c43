/-- all ranges alike, and the number of rounds -/
def RA (Sc Sr : gS) (n : Nat) : Prop := RN Sc Sr n n ∧ rI Sr 115 14 = rI Sc 36 3
theorem wdT_rd (S : gS) (j : Nat) : rL (wdT S j) 125 j = wdl S j ∧ rL (wdT S j) 126 j = wdm S j := by
  unfold wdT
  refine ⟨?_, ?_⟩
  · rw [rL_wL, if_neg (by omega), rL_wL, if_pos ⟨rfl, rfl⟩]
  · rw [rL_wL, if_pos ⟨rfl, rfl⟩]
theorem wdT_ne (S : gS) (j a c : Nat) (h : c ≠ j) : rL (wdT S j) a c = rL S a c := by
  unfold wdT
  rw [rL_wL, if_neg (fun q => h q.2), rL_wL, if_neg (fun q => h q.2)]
theorem nxt {Sc Sr : gS} {n i : Nat} (hC : CI Sc Sr n) (hi : i < n) (h2 : rI Sc 2 i = 2) : ∃ p, p < n ∧ rI Sc 6 i = nI p ∧ (rI Sc 6 i).toNatClampNeg = p ∧ (rI Sr 120 i).toNatClampNeg = p := by
  have h24 := hC.1.2.1
  obtain ⟨p, hp, e⟩ := sgn_nI h24 (hC.1.2.2 i hi).2.2.2.2
  have h9 := (hC.2.2 i hi).1.2.2.2.2.1 h2
  have c : (nI p).toNatClampNeg = p := nI_c (by omega)
  exact ⟨p, hp, e, by rw [e]; exact c, by rw [h9, e]; exact c⟩
/-- one register of a round -/
theorem ra_1 {n k : Nat} {pc pr : Int32 × gS} (hC : CI pc.2 pr.2 n) (hk : k < n) (h : RA pc.2 pr.2 n) (hf : pc.1 = pr.1) : RA (bd_rjoin k pc).2 (f2 k pr).2 n ∧ (bd_rjoin k pc).1 = (f2 k pr).1 := by
  obtain ⟨⟨hI, hK, hR⟩, hr⟩ := h
  have h24 := hC.1.2.1
  have hs := (hC.2.2 k hk).1
  unfold bd_rjoin f2
  rw [hs.1]
  by_cases h2 : rI pc.2 2 k = 2
  · rw [if_pos h2, if_pos h2]
    obtain ⟨p, hp, e6, c6, c120⟩ := nxt hC hk h2
    obtain ⟨j1, j2⟩ := jn_rd pc.2 k (by omega) (rI pc.2 6 k)
    rw [c6] at j1 j2
    have R1 := hR k hk (Or.inl hk)
    have R2 := hR p hp (Or.inl hp)
    obtain ⟨w1, w2⟩ := wd_rd R1 R2 hr c120
    have w3 := wd_ch R1 R2 hr c120
    have hT : RA (f_X4_join pc.2 (nI k) (rI pc.2 6 k)).2 (wdT pr.2 k) n := by
      rw [j1]
      obtain ⟨t1, t2⟩ := wdT_rd pr.2 k
      have hfr : ∀ x c, x < 37 → rI (wI (wI pc.2 37 k (jl1 (rI pc.2 36 3) (rI pc.2 37 k) (rI pc.2 37 p))) 38 k (jh1 (rI pc.2 36 3) (rI pc.2 38 k) (rI pc.2 38 p))) x c = rI pc.2 x c := fun x c hx => (rI_wIk (by omega) _ _ _).trans (rI_wIk (by omega) _ _ _)
      have hne : ∀ x c, c ≠ k → rI (wI (wI pc.2 37 k (jl1 (rI pc.2 36 3) (rI pc.2 37 k) (rI pc.2 37 p))) 38 k (jh1 (rI pc.2 36 3) (rI pc.2 38 k) (rI pc.2 38 p))) x c = rI pc.2 x c := fun x c hx => (rI_wIc (fun q => hx q.2) _ _).trans (rI_wIc (fun q => hx q.2) _ _)
      refine ⟨⟨fun i hi q => ?_, fun i hi q => ?_, fun i hi q => ?_⟩, ?_⟩
      · rw [hfr 2 i (by decide)] at q
        have hik : i ≠ k := fun w => by rw [w, h2] at q; exact absurd q (by decide)
        rw [hne 37 i hik, hne 38 i hik, hne 3 i hik, hne 4 i hik]
        exact hI i hi q
      · rw [hfr 2 i (by decide)] at q
        have hik : i ≠ k := fun w => by rw [w, h2] at q; exact absurd q (by decide)
        rw [hne 37 i hik, hne 38 i hik, hne 3 i hik]
        exact hK i hi q
      · by_cases hik : i = k
        · subst hik
          refine ⟨?_, ?_, ?_⟩
          · rw [rI_wIk (by decide), rI_same, t1, w1]
          · rw [rI_same, t2, w2]
          · rw [rI_wIk (by decide), rI_same, rI_same, ile]
            have q1 := jl1_le (rI pc.2 36 3) (rI pc.2 37 i) (rI pc.2 37 p)
            have q2 := jh1_ge (rI pc.2 36 3) (rI pc.2 38 i) (rI pc.2 38 p)
            have q3 := R1.2.2
            rw [ile] at q3
            omega
        · exact RR.of (hR i hi (Or.inl hi)) (hne 37 i hik) (hne 38 i hik) (wdT_ne _ _ _ _ hik) (wdT_ne _ _ _ _ hik)
      · rw [rI_wdT, hfr 36 3 (by decide)]
        exact hr
    by_cases c : (f_X4_join pc.2 (nI k) (rI pc.2 6 k)).1 = 0
    · rw [if_pos c]
      have hw : ¬ wdC pr.2 k := fun q => (w3.mp q) (j2.mp c)
      rw [if_neg hw]
      exact ⟨hT, hf⟩
    · rw [if_neg c]
      have hw : wdC pr.2 k := w3.mpr (fun q => c (j2.mpr q))
      rw [if_pos hw]
      exact ⟨hT, rfl⟩
  · rw [if_neg h2, if_neg h2]
    exact ⟨⟨⟨hI, hK, hR⟩, hr⟩, hf⟩
theorem ra_p2 {Sc Sr : gS} {n : Nat} (hC : CI Sc Sr n) (h : RA Sc Sr n) : ∀ k, k ≤ n → RA (itr bd_rjoin k (0, Sc)).2 (ps2 Sr k).2 n ∧ (itr bd_rjoin k (0, Sc)).1 = (ps2 Sr k).1 := by
  intro k
  induction k with
  | zero => intro _; exact ⟨h, rfl⟩
  | succ k ih =>
    intro hk
    obtain ⟨i1, i2⟩ := ih (by omega)
    refine ra_1 (CI.of hC (fun a c h1 h2 h3 => fr_lp_rjoin (by omega) (by omega) _ _) (fun a c _ => rI_ps2 _ _ _ _)) (by omega) i1 i2
/-- a round -/
theorem ra_r {Sc Sr : gS} {n : Nat} (hC : CI Sc Sr n) (h : RN Sc Sr n 0) (hr : rI Sr 115 14 = rI Sc 36 3) : RA (rdC n Sc).2 (rnF Sr n).2 n ∧ (rdC n Sc).1 = (rnF Sr n).1 := by
  unfold rdC rnF
  have hC1 : CI (wI Sc 36 3 (rI Sc 36 3 + 1)) (wI Sr 115 14 (rI Sr 115 14 + 1)) n := CI.of hC (fun a c h1 h2 h3 => rI_wIk (by omega) _ _ _) (fun a c q => rI_wIc (by omega) _ _)
  have h1 : RN (wI Sc 36 3 (rI Sc 36 3 + 1)) (wI Sr 115 14 (rI Sr 115 14 + 1)) n 0 := by
    obtain ⟨q1, q2, q3⟩ := h
    have e : ∀ x c, x ≠ 36 → rI (wI Sc 36 3 (rI Sc 36 3 + 1)) x c = rI Sc x c := fun x c hx => rI_wIk hx _ _ _
    refine ⟨fun i hi q => ?_, fun i hi q => ?_, fun i hi q => ?_⟩
    · rw [e 2 i (by decide)] at q
      rw [e 37 i (by decide), e 38 i (by decide), e 3 i (by decide), e 4 i (by decide)]
      exact q1 i hi q
    · rw [e 2 i (by decide)] at q
      rw [e 37 i (by decide), e 38 i (by decide), e 3 i (by decide)]
      exact q2 i hi q
    · rw [e 2 i (by decide)] at q
      exact RR.of (q3 i hi q) (e 37 i (by decide)) (e 38 i (by decide)) rfl rfl
  have hp := rn_p1 hC1 h1 n (Nat.le_refl _)
  refine ra_p2 (CI.of hC1 (fun a c h1 h2 h3 => fr_lp_rone (by omega) (by omega) _ _) (fun a c _ => rI_ps1 _ _ _ _)) ⟨hp, ?_⟩ n (Nat.le_refl _)
  rw [rI_ps1, rI_same, fr_lp_rone (by decide) (by decide), rI_same, hr]
theorem RA.z {Sc Sr : gS} {n : Nat} (h : RA Sc Sr n) : RN Sc Sr n 0 := ⟨h.1.1, h.1.2.1, fun i hi _ => h.1.2.2 i hi (Or.inl hi)⟩
theorem ci_rc {Sc Sr : gS} {n : Nat} (hC : CI Sc Sr n) (k : Nat) : CI (rcS Sc n k) (rnS Sr n k) n := CI.of hC (fun a c h1 h2 h3 => fr_rcS (by omega) (by omega) (by omega) _ _ _) (fun a c q => rI_rnS _ _ _ _ _ (by omega))
/-- all rounds go alike -/
theorem ra_all {Sc Sr : gS} {n : Nat} (hC : CI Sc Sr n) (h : RN Sc Sr n 0) (hr : rI Sr 115 14 = rI Sc 36 3) : ∀ k, (RN (rcS Sc n k) (rnS Sr n k) n 0 ∧ rI (rnS Sr n k) 115 14 = rI (rcS Sc n k) 36 3 ∧ rcM Sc n k = rnM Sr n k) ∧ RA (rcS Sc n (k + 1)) (rnS Sr n (k + 1)) n := by
  intro k
  induction k with
  | zero => exact ⟨⟨h, hr, rfl⟩, (ra_r hC h hr).1⟩
  | succ k ih =>
    obtain ⟨⟨i1, i2, i3⟩, i4⟩ := ih
    have h5 := ra_r (ci_rc hC k) i1 i2
    have h6 := ra_r (ci_rc hC (k + 1)) i4.z i4.2
    exact ⟨⟨i4.z, i4.2, h5.2⟩, h6.1⟩
/-! the rounds end -/
def iP (v : Int32) : Bool := decide (f_X4_powerNotAbove v = v)
def iO (v : Int32) : Bool := decide (f_X4_onesNotBelow v = v)
def kl (v : Int32) : Nat := if 0 ≤ v.toInt then 0 else lg (-v.toInt - 1) + 1
def kh (v : Int32) : Nat := if v.toInt < 0 then 0 else lg v.toInt + 1
def sgl (v : Int32) : Nat := 2 * kl v + (if iP v = true then 1 else 0)
def sgh (v : Int32) : Nat := 2 * kh v + (if iO v = true then 1 else 0)
theorem lg_32 {x : Int} (h : x ≤ 2147483647) : lg x ≤ 31 := by
  rw [lg_le]
  have : (2 : Int) ^ 31 = 2147483648 := by decide
  omega
theorem lg_mono {x y : Int} (h : x ≤ y) : lg x ≤ lg y := by
  rw [lg_le]
  have h1 := (@lg_le y (lg y)).mp (Nat.le_refl _)
  omega
theorem sgl_le (v : Int32) : sgl v ≤ 65 := by
  unfold sgl kl
  have h := ib v
  have h1 := lg_32 (x := -v.toInt - 1) (by omega)
  split <;> split <;> omega
theorem sgh_le (v : Int32) : sgh v ≤ 65 := by
  unfold sgh kh
  have h := ib v
  have h1 := lg_32 (x := v.toInt) (by omega)
  split <;> split <;> omega
theorem pow_lg (m : Nat) : lg ((2 : Int) ^ m - 1) = m := by
  have h1 : lg ((2 : Int) ^ m - 1) ≤ m := by rw [lg_le]; omega
  have h2 : ¬ lg ((2 : Int) ^ m - 1) < m := by
    intro q
    have h3 : lg ((2 : Int) ^ m - 1) ≤ m - 1 := by omega
    rw [lg_le] at h3
    have h4 : (2 : Int) ^ m = 2 * 2 ^ (m - 1) := by
      have : m = (m - 1) + 1 := by omega
      rw [this, Int.pow_succ]
      simp
      omega
    have h5 := p2_pos (m - 1)
    omega
  omega
theorem pna_pna (v : Int32) : f_X4_powerNotAbove (f_X4_powerNotAbove v) = f_X4_powerNotAbove v := by
  by_cases h : v < 0
  · have h1 := pna_i h
    have h2 : f_X4_powerNotAbove v < 0 := by
      rw [il, h1]
      have := p2_pos (lg (-v.toInt - 1))
      have z0 : (0 : Int32).toInt = 0 := rfl
      omega
    rw [ieq, pna_i h2, h1]
    have e : -(-(2 : Int) ^ lg (-v.toInt - 1)) - 1 = 2 ^ lg (-v.toInt - 1) - 1 := by omega
    rw [e, pow_lg]
  · rw [pna_nn h]
    rfl
theorem onb_onb (v : Int32) : f_X4_onesNotBelow (f_X4_onesNotBelow v) = f_X4_onesNotBelow v := by
  rw [ieq, onb_i, onb_i, pow_lg]
/-- a least value that falls, widened, ranks higher -/
theorem sgl_lt {la ln : Int32} (h : ¬ la ≤ ln) : sgl la < sgl (f_X4_powerNotAbove ln) := by
  have hp : iP (f_X4_powerNotAbove ln) = true := by unfold iP; exact decide_eq_true (pna_pna ln)
  have hle := pna_le ln
  rw [ile] at h
  have hlt : (f_X4_powerNotAbove ln).toInt < la.toInt := by omega
  unfold sgl
  rw [if_pos hp]
  have hk : kl la ≤ kl (f_X4_powerNotAbove ln) := by
    unfold kl
    split
    · omega
    · rw [if_neg (by omega)]
      have := lg_mono (x := -la.toInt - 1) (y := -(f_X4_powerNotAbove ln).toInt - 1) (by omega)
      omega
  by_cases hi : iP la = true
  · rw [if_pos hi]
    have hla : f_X4_powerNotAbove la = la := of_decide_eq_true hi
    have : kl la ≠ kl (f_X4_powerNotAbove ln) := by
      intro q
      have hn : f_X4_powerNotAbove ln < 0 ∨ ¬ f_X4_powerNotAbove ln < 0 := Classical.em _
      have z0 : (0 : Int32).toInt = 0 := rfl
      unfold kl at q
      by_cases c1 : 0 ≤ la.toInt
      · rw [if_pos c1] at q
        have hl0 : ¬ la < 0 := by rw [il]; omega
        rw [pna_nn hl0] at hla
        rw [if_neg (by rw [← hla] at hlt; omega)] at q
        omega
      · rw [if_neg c1, if_neg (by omega)] at q
        have g1 : la < 0 := by rw [il]; omega
        have g2 : f_X4_powerNotAbove ln < 0 := by rw [il]; omega
        have e1 := pna_i g1
        have e2 := pna_i g2
        rw [hla] at e1
        rw [pna_pna] at e2
        have e3 : lg (-la.toInt - 1) = lg (-(f_X4_powerNotAbove ln).toInt - 1) := by omega
        rw [e3, ← e2] at e1
        omega
    omega
  · rw [if_neg hi]
    omega
theorem sgh_lt {ha hn : Int32} (h : ¬ hn ≤ ha) : sgh ha < sgh (f_X4_onesNotBelow hn) := by
  have hp : iO (f_X4_onesNotBelow hn) = true := by unfold iO; exact decide_eq_true (onb_onb hn)
  have hle := onb_ge hn
  rw [ile] at h
  have hlt : ha.toInt < (f_X4_onesNotBelow hn).toInt := by omega
  have hnn := onb_nn hn
  unfold sgh
  rw [if_pos hp]
  have hk : kh ha ≤ kh (f_X4_onesNotBelow hn) := by
    unfold kh
    split
    · omega
    · rw [if_neg (by omega)]
      have := lg_mono (x := ha.toInt) (y := (f_X4_onesNotBelow hn).toInt) (by omega)
      omega
  by_cases hi : iO ha = true
  · rw [if_pos hi]
    have hla : f_X4_onesNotBelow ha = ha := of_decide_eq_true hi
    have : kh ha ≠ kh (f_X4_onesNotBelow hn) := by
      intro q
      have h0 := onb_nn ha
      rw [hla] at h0
      unfold kh at q
      rw [if_neg (by omega), if_neg (by omega)] at q
      have e1 := onb_i ha
      have e2 := onb_i (f_X4_onesNotBelow hn)
      rw [hla] at e1
      rw [onb_onb] at e2
      have e3 : lg ha.toInt = lg (f_X4_onesNotBelow hn).toInt := by omega
      rw [e3, ← e2] at e1
      omega
    omega
  · rw [if_neg hi]
    omega
