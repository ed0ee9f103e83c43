theorem rL_poF (S : gS) (j a c : Nat) : rL (poF S j).2 a c = rL S a c := by
  unfold poF
  split
  · rfl
  split
  · rfl
  split
  · rfl
  split
  · rfl
  split
  · rfl
  split
  · rfl
  split
  · rfl
  split
  · rfl
  rfl
theorem rL_pq (S : gS) (n k a c : Nat) : rL (pq S n k).2 a c = rL S a c := by
  induction k with
  | zero => rfl
  | succ k ih => exact (rL_poF _ _ a c).trans ih
theorem rL_pqS (S : gS) (n k a c : Nat) : rL (pqS S n k) a c = rL S a c := by
  induction k with
  | zero => rfl
  | succ k ih => exact (rL_pq _ _ _ a c).trans ih
theorem rL_rfO (S : gS) (k a c : Nat) : rL (rfO S k) a c = rL S a c := by
  induction k with
  | zero => rfl
  | succ k ih =>
    show rL (o1 k (rfO S k)) a c = _
    unfold o1
    split
    · exact ih
    · exact ih
theorem fill_rd (S : gS) (v : Int32) : ∀ k i, rI (itr (bd_fill v) k S) 41 i = if i < k then v else rI S 41 i := by
  intro k
  induction k with
  | zero => intro i; simp [itr]
  | succ k ih =>
    intro i
    have hi := ih i
    show rI (bd_fill v k (itr (bd_fill v) k S)) 41 i = _
    revert hi
    generalize itr (bd_fill v) k S = p
    intro hi
    unfold bd_fill
    by_cases e : i = k
    · subst e; rw [rI_same, if_pos (Nat.lt_succ_self i)]
    · rw [rI_wIc (fun w => e w.2), hi]
      have hl : i < k + 1 ↔ i < k := by omega
      simp only [hl]
theorem rwid_rd (S : gS) : ∀ k i, k ≤ 24 → rI (itr bd_rwid k S) 39 i = if i < k then f_X4_widthOf S (nI i) else rI S 39 i := by
  intro k
  induction k with
  | zero => intro i _; simp [itr]
  | succ k ih =>
    intro i hk
    have hi := ih i (by omega)
    have e0 : f_X4_widthOf (itr bd_rwid k S) (nI k) = f_X4_widthOf S (nI k) := by
      unfold f_X4_widthOf f_X4_isSignedRange
      rw [fr_lp_rwid (by decide), fr_lp_rwid (by decide)]
    show rI (bd_rwid k (itr bd_rwid k S)) 39 i = _
    revert hi e0
    generalize itr bd_rwid k S = p
    intro hi e0
    unfold bd_rwid
    rw [e0]
    by_cases e : i = k
    · subst e; rw [rI_same, if_pos (Nat.lt_succ_self i)]
    · rw [rI_wIc (fun w => e w.2), hi]
      have hl : i < k + 1 ↔ i < k := by omega
      simp only [hl]
def wn43 (S : gS) (i : Nat) : Int32 := bi (¬ 0 ≤ rI S 37 i ∧ f_X8_bitLength (rI S 41 i) = rI S 39 i)
theorem wnar_rd (S : gS) : ∀ k i, k ≤ 24 → rI (itr bd_wnar k S) 42 i = (if i < k then f_X8_bitLength (rI S 41 i) else rI S 42 i) ∧ rI (itr bd_wnar k S) 43 i = (if i < k then wn43 S i else rI S 43 i) := by
  intro k
  induction k with
  | zero => intro i _; simp [itr]
  | succ k ih =>
    intro i hk
    have hi := ih i (by omega)
    have f41 : rI (itr bd_wnar k S) 41 k = rI S 41 k := fr_lp_wnar (by decide) (by decide) _ _
    have f39 : rI (itr bd_wnar k S) 39 k = rI S 39 k := fr_lp_wnar (by decide) (by decide) _ _
    have f37 : rI (itr bd_wnar k S) 37 k = rI S 37 k := fr_lp_wnar (by decide) (by decide) _ _
    show rI (bd_wnar k (itr bd_wnar k S)) 42 i = _ ∧ rI (bd_wnar k (itr bd_wnar k S)) 43 i = _
    revert hi f41 f39 f37
    generalize itr bd_wnar k S = p
    intro hi f41 f39 f37
    have hsg : f_X4_isSignedRange (wI p 42 k (f_X8_bitLength (rI p 41 k))) (nI k) = 0 ↔ 0 ≤ rI S 37 k := by
      rw [sg_0 (by omega), rI_wIk (by decide), f37]
    have e : bd_wnar k p = wI (wI p 42 k (f_X8_bitLength (rI S 41 k))) 43 k (wn43 S k) := by
      unfold bd_wnar wn43
      by_cases c1 : 0 ≤ rI S 37 k
      · rw [if_pos (hsg.mpr c1), bi_f (fun z => z.1 c1), f41]
        rfl
      · rw [if_neg (fun z => c1 (hsg.mp z)), rI_same, rI_wIk (by decide), f39, f41]
        by_cases c2 : f_X8_bitLength (rI S 41 k) = rI S 39 k
        · rw [if_pos c2, bi_t ⟨c1, c2⟩]
          rfl
        · rw [if_neg c2, bi_f (fun z => c2 z.2)]
          rfl
    rw [e]
    by_cases ek : i = k
    · subst ek
      rw [rI_wIk (by decide), rI_same, rI_same, if_pos (Nat.lt_succ_self i), if_pos (Nat.lt_succ_self i)]
      exact ⟨rfl, rfl⟩
    · have hl : i < k + 1 ↔ i < k := by omega
      simp only [hl]
      rw [rI_wIc (fun w => ek w.2), rI_wIc (fun w => ek w.2), rI_wIc (fun w => ek w.2), rI_wIc (fun w => ek w.2)]
      exact hi
/-- the analyses are alike -/
def AN (Sc Sr : gS) (n : Nat) : Prop := (∀ i, i < n → RR Sc Sr i ∧ rI Sc 39 i = rI Sr 127 i ∧ rI Sc 41 i = rI Sr 128 i ∧ rI Sc 42 i = woF Sr i ∧ rI Sc 43 i = bi (nsP Sr i) ∧ ∃ w : Nat, 1 ≤ w ∧ w ≤ 32 ∧ rI Sr 127 i = nI w) ∧ rI Sc 36 3 = rI Sr 115 14
theorem wo_bl (v : Int32) : f_X8_bitLength v = (if v = 0 then 0 else nI (hiN v) + 1) := by
  rw [bl_eq]
  split
  · rfl
  · exact (nI_1 _).symm
/-- the outputs ask -/
theorem out_s {Sc Sr : gS} {n : Nat} (hC : CI Sc Sr n) (h01 : ∀ i, i < n → rI Sc 7 i = 0 ∨ rI Sc 7 i = 1) (h : DQ Sc Sr n) (hf : rI Sc 40 3 = 0 ∨ rI Sc 40 3 = 1) : ∀ k, k ≤ n → DQ (itr bd_wout k Sc) (rfO Sr k) n ∧ (rI (itr bd_wout k Sc) 40 3 = 0 ∨ rI (itr bd_wout k Sc) 40 3 = 1) := by
  have hn := hC.1.2.1
  intro k
  induction k with
  | zero => intro _; exact ⟨h, hf⟩
  | succ k ih =>
    intro hk
    obtain ⟨i1, i2⟩ := ih (by omega)
    have f7 : rI (itr bd_wout k Sc) 7 k = rI Sc 7 k := fr_lp_wout (by omega) (by decide) _ _
    have f121 : rI (rfO Sr k) 121 k = rI Sr 121 k := rI_rfO _ _ _ _ (by decide)
    have hc := (hC.2.2 k (by omega)).1.2.2.2.2.2
    show DQ (bd_wout k (itr bd_wout k Sc)) (o1 k (rfO Sr k)) n ∧ _
    rw [show itr bd_wout (k + 1) Sc = bd_wout k (itr bd_wout k Sc) from rfl]
    revert i1 i2 f7 f121
    generalize itr bd_wout k Sc = p
    generalize rfO Sr k = q
    intro i1 i2 f7 f121
    unfold bd_wout o1
    rw [f7, f121, hc]
    rcases h01 k (by omega) with q | q
    · rw [q, if_pos rfl, if_neg (by decide)]
      exact ⟨i1, i2⟩
    · rw [q, if_neg (by decide), if_pos rfl]
      obtain ⟨g1, g2, g3⟩ := dq_ask hn i1 (p := k) (by omega) (-1) i2
      exact ⟨g1, g3⟩
abbrev aC (Sc : gS) (n K : Nat) : gS := wI (itr (bd_wout) n (f_fill (f_X4_find Sc n K) 0)) 40 3 1
abbrev aR (Sr : gS) (n K : Nat) : gS := rfO (rfW (rnS (wI (iniF (wI Sr 115 15 1) n) 115 14 0) n (K + 1)) n) n
/-- THE ANALYSIS: ranges, widths, demanded bits, class and reference -/
theorem analysis {Sc Sr : gS} {n : Nat} (hC : CI Sc Sr n) (h01 : ∀ i, i < n → rI Sc 7 i = 0 ∨ rI Sc 7 i = 1) (hf : rI Sc 40 3 = 0 ∨ rI Sc 40 3 = 1) : ∃ K G, rcEnd (wI (itr (bd_rini) n Sc) 36 3 0) n K ∧ wpEnd (aC Sc n K) n G ∧ rnEnd (wI (iniF (wI Sr 115 15 1) n) 115 14 0) n K ∧ (∀ i, i < n → lg (-(rL (rnS (wI (iniF (wI Sr 115 15 1) n) 115 14 0) n (K + 1)) 125 i).toInt - 1) ≤ 40 ∧ lg (rL (rnS (wI (iniF (wI Sr 115 15 1) n) 115 14 0) n (K + 1)) 126 i).toInt ≤ 40) ∧ pqEnd (aR Sr n K) n G ∧ AN (f_X7_find (f_X4_find Sc n K) n G) (rfT Sr n K G) n ∧ rI (f_X7_find (f_X4_find Sc n K) n G) 40 3 = 0 := by
  have hn := hC.1.2.1
  have hC1 : CI Sc (wI Sr 115 15 1) n := CI.of hC (fun a c _ _ _ => rfl) (fun a c q => rI_wIc (by omega) _ _)
  obtain ⟨K, hK1, hK2, hRA⟩ := ranges hC1
  -- the class behind the rounds, the reference behind them
  obtain ⟨A, hA⟩ : ∃ A, A = rcS (rS0 Sc n) n (K + 1) := ⟨_, rfl⟩
  obtain ⟨Rr, hR⟩ : ∃ Rr, Rr = rnS (rR0 (wI Sr 115 15 1) n) n (K + 1) := ⟨_, rfl⟩
  rw [← hA, ← hR] at hRA
  have hAfr : ∀ a c, a < 36 ∨ 38 < a → rI A a c = rI Sc a c := fun a c h => by
    rw [hA, fr_rcS (by omega) (by omega) (by omega)]
    exact (rI_wIk (by omega) _ _ _).trans (fr_lp_rini (by omega) (by omega) _ _)
  have hRfr : ∀ a c, ¬ (a = 115 ∧ (c = 14 ∨ c = 15)) → rI Rr a c = rI Sr a c := fun a c h => by
    rw [hR, rI_rnS _ _ _ _ _ (by omega)]
    show rI (wI (iniF (wI Sr 115 15 1) n) 115 14 0) a c = _
    rw [rI_wIc (by omega), rI_iniF, rI_wIc (by omega)]
  have hRR : ∀ i, i < n → RR A Rr i := fun i hi => hRA.1.2.2 i hi (Or.inl hi)
  have hw : ∀ i, i < n → _ := fun i hi => wid_eq (i := i) (by omega) (hRR i hi)
  have hfind : f_X4_find Sc n K = itr bd_rwid n A := by rw [hA]; rfl
  obtain ⟨B, hB⟩ : ∃ B, B = f_fill (f_X4_find Sc n K) 0 := ⟨_, rfl⟩
  have hB41 : ∀ i, i < 24 → rI B 41 i = 0 := fun i hi => by
    rw [hB]
    show rI (itr (bd_fill 0) 24 (f_X4_find Sc n K)) 41 i = 0
    rw [fill_rd, if_pos hi]
  have hBfr : ∀ a c, a ≠ 41 → a ≠ 39 → rI B a c = rI A a c := fun a c h1 h2 => by
    rw [hB, fr_f_fill h1, hfind, fr_lp_rwid h2]
  have hB39 : ∀ i, i < n → rI B 39 i = f_X4_widthOf A (nI i) := fun i hi => by
    rw [hB, fr_f_fill (by decide), hfind, rwid_rd A n i hn, if_pos hi]
  have hW127 : ∀ i, i < n → rI (rfW Rr n) 127 i = nI (wrN (rL Rr 125 i) (rL Rr 126 i)) := fun i hi => by
    unfold rfW
    rw [rI_wR, if_neg (by decide), rI_wR, if_pos rfl, if_pos hi]
  have hW128 : ∀ i, i < n → rI (rfW Rr n) 128 i = 0 := fun i hi => by
    unfold rfW
    rw [rI_wR, if_pos rfl, if_pos hi]
  have hCB : CI B (rfW Rr n) n := CI.of hC (fun a c h1 h2 h3 => (hBfr a c (by omega) (by omega)).trans (hAfr a c (by omega))) (fun a c q => (rI_rfW _ _ _ _ (by omega) (by omega)).trans (hRfr a c (by omega)))
  have hDB : DQ B (rfW Rr n) n := fun i hi => by
    obtain ⟨w1, w2, w3, -⟩ := hw i hi
    refine ⟨by rw [hB41 i (by omega), hW128 i hi], by rw [hB39 i hi, hW127 i hi, w1], ⟨_, w2, w3, hW127 i hi⟩, ?_⟩
    rw [hBfr 37 i (by decide) (by decide), rL_rfW, ← (hRR i hi).1]
    have h9 := @w_lt (rI A 37 i) 0
    constructor
    · intro q z
      exact absurd (h9.mp z) (Int32.not_lt.mpr q)
    · intro q
      exact Int32.not_lt.mp (fun z => q (h9.mpr z))
  have hBf : rI B 40 3 = 0 ∨ rI B 40 3 = 1 := by rw [hBfr 40 3 (by decide) (by decide), hAfr 40 3 (by omega)]; exact hf
  have hB7 : ∀ i, i < n → rI B 7 i = 0 ∨ rI B 7 i = 1 := fun i hi => by rw [hBfr 7 i (by decide) (by decide), hAfr 7 i (by omega)]; exact h01 i hi
  obtain ⟨hO, -⟩ := out_s hCB hB7 hDB hBf n (Nat.le_refl _)
  obtain ⟨C, hCe⟩ : ∃ C, C = wI (itr (bd_wout) n B) 40 3 1 := ⟨_, rfl⟩
  have hCfr : ∀ a c, ¬ (a = 40 ∧ c = 3) → a ≠ 41 → rI C a c = rI B a c := fun a c h1 h2 => by
    rw [hCe, rI_wIc h1, fr_lp_wout h1 h2]
  have hDC : DQ C (rfO (rfW Rr n) n) n := fun i hi => by
    obtain ⟨d1, d2, d3, d4⟩ := hO i hi
    unfold DS
    rw [hCe, rI_wIk (by decide), rI_wIk (by decide), rI_wIk (by decide)]
    exact ⟨d1, d2, d3, d4⟩
  have hCC : CI C (rfO (rfW Rr n) n) n := CI.of hCB (fun a c h1 h2 h3 => hCfr a c (by omega) (by omega)) (fun a c q => rI_rfO _ _ _ _ (by omega))
  have hC1' : rI C 40 3 = 1 := by rw [hCe]; exact rI_same _ _ _ _
  obtain ⟨G, hG⟩ := wp_end hCC.1 hC1'
  have hpa := pass_all hCC hDC hC1'
  have hpq : pqEnd (rfO (rfW Rr n) n) n G := ⟨fun k hk => by rw [← (hpa k).2]; exact hG.1 k hk, by rw [← (hpa (G + 1)).2]; exact hG.2.1⟩
  have eC : aC Sc n K = C := by rw [hCe, hB]
  have eR : aR Sr n K = rfO (rfW Rr n) n := by rw [hR]
  refine ⟨K, G, hK1, by rw [eC]; exact hG, hK2, fun i hi => ?_, by rw [eR]; exact hpq, ?_, ?_⟩
  · have h9 := (hw i hi).2.2.2
    rw [hR] at h9
    exact h9
  · have eT : rfT Sr n K G = pqS (rfO (rfW Rr n) n) n (G + 1) := by unfold rfT; rw [hR]
    have eE : f_X7_find (f_X4_find Sc n K) n G = itr bd_wnar n (wpS C n (G + 1)) := by unfold f_X7_find; rw [← eC]
    rw [eT, eE]
    obtain ⟨d1, -⟩ := hpa (G + 1)
    have hDfr : ∀ a c, ¬ (a = 40 ∧ c = 3) → a ≠ 41 → a ≠ 42 → a ≠ 43 → rI (itr bd_wnar n (wpS C n (G + 1))) a c = rI B a c := fun a c h1 h2 h3 h4 => by
      rw [fr_lp_wnar h3 h4, fr_wpS h1 h2, hCfr a c h1 h2]
    have hQL : ∀ a c, rL (pqS (rfO (rfW Rr n) n) n (G + 1)) a c = rL Rr a c := fun a c => by rw [rL_pqS, rL_rfO, rL_rfW]
    refine ⟨fun i hi => ?_, ?_⟩
    · obtain ⟨e1, e2, e3, e4⟩ := d1 i hi
      obtain ⟨n1, n2⟩ := wnar_rd (wpS C n (G + 1)) n i hn
      rw [if_pos hi] at n1 n2
      have h39 : rI (itr bd_wnar n (wpS C n (G + 1))) 39 i = rI (wpS C n (G + 1)) 39 i := fr_lp_wnar (by decide) (by decide) _ _
      have h41 : rI (itr bd_wnar n (wpS C n (G + 1))) 41 i = rI (wpS C n (G + 1)) 41 i := fr_lp_wnar (by decide) (by decide) _ _
      have hwo : f_X8_bitLength (rI (wpS C n (G + 1)) 41 i) = woF (pqS (rfO (rfW Rr n) n) n (G + 1)) i := by
        unfold woF
        rw [wo_bl, e1]
      refine ⟨RR.of (hRR i hi) ?_ ?_ (hQL _ _) (hQL _ _), by rw [h39]; exact e2, by rw [h41]; exact e1, by rw [n1]; exact hwo, ?_, e3⟩
      · rw [hDfr 37 i (by omega) (by decide) (by decide) (by decide), hBfr 37 i (by decide) (by decide)]
      · rw [hDfr 38 i (by omega) (by decide) (by decide) (by decide), hBfr 38 i (by decide) (by decide)]
      · rw [n2]
        unfold wn43
        have hiff : (¬ 0 ≤ rI (wpS C n (G + 1)) 37 i ∧ f_X8_bitLength (rI (wpS C n (G + 1)) 41 i) = rI (wpS C n (G + 1)) 39 i) ↔ nsP (pqS (rfO (rfW Rr n) n) n (G + 1)) i := by
          rw [hwo, e2]
          constructor
          · intro ⟨q1, q2⟩
            exact ⟨Classical.byContradiction fun z => q1 (e4.mpr z), q2⟩
          · intro ⟨q1, q2⟩
            exact ⟨fun z => (e4.mp z) q1, q2⟩
        by_cases q : nsP (pqS (rfO (rfW Rr n) n) n (G + 1)) i
        · rw [bi_t q, bi_t (hiff.mpr q)]
        · rw [bi_f q, bi_f (fun z => q (hiff.mp z))]
    · rw [hDfr 36 3 (by decide) (by decide) (by decide) (by decide), hBfr 36 3 (by decide) (by decide), rI_pqS _ _ _ _ _ (by decide), rI_rfO _ _ _ _ (by decide), rI_rfW _ _ _ _ (by decide) (by decide)]
      exact hRA.2.symm
  · have eE : f_X7_find (f_X4_find Sc n K) n G = itr bd_wnar n (wpS C n (G + 1)) := by unfold f_X7_find; rw [← eC]
    rw [eE, fr_lp_wnar (by decide) (by decide)]
    exact hG.2.1
