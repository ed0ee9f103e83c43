/-- the circuits are alike, and sound -/
def CI (Sc Sr : gS) (n : Nat) : Prop := okC Sc n ∧ rI Sr 115 10 = nI n ∧ ∀ i, i < n → CS Sc Sr i ∧ cB Sc i
theorem CI.of {Sc Sr Tc Tr : gS} {n : Nat} (h : CI Sc Sr n) (e1 : ∀ a c, a < 8 → ¬ (a = 1 ∧ c = 1) → a ≠ 0 → rI Tc a c = rI Sc a c) (e2 : ∀ a c, (a = 115 ∧ c = 10) ∨ (116 ≤ a ∧ a ≤ 121) → rI Tr a c = rI Sr a c) : CI Tc Tr n := by
  obtain ⟨h1, h2, h3⟩ := h
  refine ⟨okC.of h1 (fun a c q => e1 a c (by omega) (by omega) (by omega)), (e2 115 10 (Or.inl ⟨rfl, rfl⟩)).trans h2, fun i hi => ?_⟩
  obtain ⟨h4, h5⟩ := h3 i hi
  unfold CS cB at *
  rw [e1 2 i (by decide) (by omega) (by decide), e1 3 i (by decide) (by omega) (by decide), e1 4 i (by decide) (by omega) (by decide), e1 5 i (by decide) (by omega) (by decide), e1 6 i (by decide) (by omega) (by decide), e1 7 i (by decide) (by omega) (by decide)]
  rw [e2 116 i (Or.inr ⟨by decide, by decide⟩), e2 117 i (Or.inr ⟨by decide, by decide⟩), e2 118 i (Or.inr ⟨by decide, by decide⟩), e2 119 i (Or.inr ⟨by decide, by decide⟩), e2 120 i (Or.inr ⟨by decide, by decide⟩), e2 121 i (Or.inr ⟨by decide, by decide⟩)]
  exact ⟨h4, h5⟩
/-- what the class holds of inputs and constants; registers are alike, and all signals before k -/
def RN (Sc Sr : gS) (n k : Nat) : Prop := (∀ i, i < n → rI Sc 2 i = 0 → rI Sc 37 i = rI Sc 3 i ∧ rI Sc 38 i = rI Sc 4 i) ∧ (∀ i, i < n → rI Sc 2 i = 1 → rI Sc 37 i = rI Sc 3 i ∧ rI Sc 38 i = rI Sc 3 i) ∧ ∀ i, i < n → (i < k ∨ rI Sc 2 i = 2) → RR Sc Sr i
theorem fo_low {S : gS} {j : Nat} (h0 : 0 ≤ rI S 2 j) (h : ¬ 3 ≤ rI S 2 j) : f_X4_findOne S j = S := by
  unfold f_X4_findOne
  have g : ∀ v : Int32, 3 ≤ v → ¬ rI S 2 j = v := fun v hv q => h (by rw [q]; exact hv)
  rw [if_neg (g 3 (by decide)), if_neg (g 4 (by decide)), if_neg (g 5 (by decide)), if_neg (g 6 (by decide)), if_neg (g 7 (by decide)), if_neg (g 8 (by decide)), if_neg (g 9 (by decide)), if_neg (g 10 (by decide)), if_neg (g 11 (by decide)), if_neg (g 12 (by decide))]
theorem RR.of {Sc Sr Tc Tr : gS} {i : Nat} (h : RR Sc Sr i) (e1 : rI Tc 37 i = rI Sc 37 i) (e2 : rI Tc 38 i = rI Sc 38 i) (e3 : rL Tr 125 i = rL Sr 125 i) (e4 : rL Tr 126 i = rL Sr 126 i) : RR Tc Tr i := by
  unfold RR
  rw [e1, e2, e3, e4]
  exact h
theorem low_k {v : Int32} (h0 : 0 ≤ v) (h : ¬ 3 ≤ v) : v = 0 ∨ v = 1 ∨ v = 2 := by
  simp only [ieq, ile] at *
  simp at *
  omega
/-- one signal of a round -/
theorem rn_1 {Sc Sr : gS} {n k : Nat} (hC : CI Sc Sr n) (hk : k < n) (h : RN Sc Sr n k) : RN (bd_rone k Sc) (f1 k Sr) n (k + 1) := by
  obtain ⟨hok, hn, hcs⟩ := hC
  have h24 := hok.2.1
  obtain ⟨hI, hK, hR⟩ := h
  have hki := hok.2.2 k hk
  obtain ⟨hs, hb⟩ := hcs k hk
  unfold bd_rone f1
  rw [hs.1]
  by_cases h3 : 3 ≤ rI Sc 2 k
  · have hne : ¬ rI Sc 2 k = 2 := fun q => by rw [q] at h3; exact absurd h3 (by decide)
    rw [if_neg hne]
    obtain ⟨l, g, e1, e2, e3, e4⟩ := st_all (by omega) hs hki hb (fun i hi => hR i (by omega) (Or.inl hi)) h3
    rw [e1]
    have hv := bec_v Sc k (by omega) e2
    have hfr : ∀ x c, x < 37 → rI (f_X4_become Sc (nI k) l g) x c = rI Sc x c := fun x c hx => fr_f_X4_become (by omega) (by omega) _ _ _ _
    refine ⟨fun i hi q => ?_, fun i hi q => ?_, fun i hi q => ?_⟩
    · rw [hfr 2 i (by decide)] at q
      have hik : i ≠ k := fun w => by rw [w] at q; rw [q] at h3; exact absurd h3 (by decide)
      rw [bec_ne _ _ (by omega) _ _ _ _ hik, bec_ne _ _ (by omega) _ _ _ _ hik, bec_ne _ _ (by omega) _ _ _ _ hik, bec_ne _ _ (by omega) _ _ _ _ hik]
      exact hI i hi q
    · rw [hfr 2 i (by decide)] at q
      have hik : i ≠ k := fun w => by rw [w] at q; rw [q] at h3; exact absurd h3 (by decide)
      rw [bec_ne _ _ (by omega) _ _ _ _ hik, bec_ne _ _ (by omega) _ _ _ _ hik, bec_ne _ _ (by omega) _ _ _ _ hik]
      exact hK i hi q
    · rw [hfr 2 i (by decide)] at q
      by_cases hik : i = k
      · subst hik
        obtain ⟨t1, t2⟩ := frT_rd Sr i
        refine ⟨?_, ?_, hv.2.2⟩
        · rw [hv.1, t1, e3]
        · rw [hv.2.1, t2, e4]
      · exact RR.of (hR i hi (q.imp (fun w => by omega) id)) (bec_ne _ _ (by omega) _ _ _ _ hik) (bec_ne _ _ (by omega) _ _ _ _ hik) (frT_ne _ _ _ _ (by decide) hik) (frT_ne _ _ _ _ (by decide) hik)
  · rw [fo_low hki.1.1 h3]
    rcases low_k hki.1.1 h3 with q0 | q1 | q2
    · have hne : ¬ rI Sc 2 k = 2 := by rw [q0]; decide
      rw [if_neg hne]
      refine ⟨hI, hK, fun i hi q => ?_⟩
      by_cases hik : i = k
      · subst hik
        obtain ⟨t1, t2⟩ := frT_rd Sr i
        have e : frF Sr i = fndF Sr (rI Sc 3 i).toInt64 (rI Sc 4 i).toInt64 := by rw [frF_0 (hs.1.trans q0), hs.2.1, hs.2.2.1]
        obtain ⟨a1, a2⟩ := hI i hi q0
        refine ⟨?_, ?_, ?_⟩
        · rw [t1, e, a1]; rfl
        · rw [t2, e, a2]; rfl
        · rw [a1, a2]; exact hb.1 q0
      · exact RR.of (hR i hi (q.imp (fun w => by omega) id)) rfl rfl (frT_ne _ _ _ _ (by decide) hik) (frT_ne _ _ _ _ (by decide) hik)
    · have hne : ¬ rI Sc 2 k = 2 := by rw [q1]; decide
      rw [if_neg hne]
      refine ⟨hI, hK, fun i hi q => ?_⟩
      by_cases hik : i = k
      · subst hik
        obtain ⟨t1, t2⟩ := frT_rd Sr i
        have e : frF Sr i = fndF Sr (rI Sc 3 i).toInt64 (rI Sc 3 i).toInt64 := by rw [frF_1 (hs.1.trans q1), hs.2.1]
        obtain ⟨a1, a2⟩ := hK i hi q1
        refine ⟨?_, ?_, ?_⟩
        · rw [t1, e, a1]; rfl
        · rw [t2, e, a2]; rfl
        · rw [a1, a2]; exact Int32.le_refl _
      · exact RR.of (hR i hi (q.imp (fun w => by omega) id)) rfl rfl (frT_ne _ _ _ _ (by decide) hik) (frT_ne _ _ _ _ (by decide) hik)
    · rw [if_pos q2]
      refine ⟨hI, hK, fun i hi q => hR i hi ?_⟩
      by_cases hik : i = k
      · subst hik; exact Or.inr q2
      · exact q.imp (fun w => by omega) id
theorem rn_p1 {Sc Sr : gS} {n : Nat} (hC : CI Sc Sr n) (h : RN Sc Sr n 0) : ∀ k, k ≤ n → RN (itr bd_rone k Sc) (ps1 Sr k) n k := by
  intro k
  induction k with
  | zero => intro _; exact h
  | succ k ih =>
    intro hk
    refine rn_1 (CI.of hC (fun a c h1 h2 h3 => fr_lp_rone (by omega) (by omega) _ _) (fun a c _ => rI_ps1 _ _ _ _)) (by omega) (ih (by omega))
theorem pna_le (v : Int32) : (f_X4_powerNotAbove v).toInt ≤ v.toInt := by
  by_cases h : v < 0
  · rw [pna_i h]
    have h1 := @lg_le (-v.toInt - 1) (lg (-v.toInt - 1))
    have h2 := h1.mp (Nat.le_refl _)
    omega
  · have h2 := h
    rw [il] at h2
    have z0 : (0 : Int32).toInt = 0 := rfl
    unfold f_X4_powerNotAbove
    simp only [if_neg h]
    omega
theorem onb_ge (v : Int32) : v.toInt ≤ (f_X4_onesNotBelow v).toInt := by
  rw [onb_i]
  have h1 := @lg_le v.toInt (lg v.toInt)
  have h2 := h1.mp (Nat.le_refl _)
  omega
theorem pna_nn {v : Int32} (h : ¬ v < 0) : f_X4_powerNotAbove v = 0 := by
  unfold f_X4_powerNotAbove
  simp only [if_neg h]
/-- a register's new least value, its new greatest one -/
def jl1 (r : Int32) (la ln : Int32) : Int32 := if la ≤ ln then la else (if r < 4 then ln else f_X4_powerNotAbove ln)
def jh1 (r : Int32) (ha hn : Int32) : Int32 := if hn ≤ ha then ha else (if r < 4 then hn else f_X4_onesNotBelow hn)
theorem jl1_le (r la ln : Int32) : (jl1 r la ln).toInt ≤ la.toInt := by
  unfold jl1
  split
  · exact Int.le_refl _
  · rename_i h
    rw [ile] at h
    split
    · omega
    · have := pna_le ln
      omega
theorem jh1_ge (r ha hn : Int32) : ha.toInt ≤ (jh1 r ha hn).toInt := by
  unfold jh1
  split
  · exact Int.le_refl _
  · rename_i h
    rw [ile] at h
    split
    · omega
    · have := onb_ge hn
      omega
theorem jn_rd (S : gS) (i : Nat) (hi : i < 24) (t : Int32) : (f_X4_join S (nI i) t).2 = wI (wI S 37 i (jl1 (rI S 36 3) (rI S 37 i) (rI S 37 t.toNatClampNeg))) 38 i (jh1 (rI S 36 3) (rI S 38 i) (rI S 38 t.toNatClampNeg)) ∧ ((f_X4_join S (nI i) t).1 = 0 ↔ rI S 37 i ≤ rI S 37 t.toNatClampNeg ∧ rI S 38 t.toNatClampNeg ≤ rI S 38 i) := by
  have hc := nI_c (n := i) (by omega)
  have hid : ∀ T : gS, wI T 38 i (rI T 38 i) = T := fun T => wI_id rfl
  have h37 : wI S 37 i (rI S 37 i) = S := wI_id rfl
  unfold f_X4_join jl1 jh1
  rw [hc]
  by_cases c0 : rI S 36 3 < 4
  · simp only [if_pos c0]
    by_cases c1 : rI S 37 i ≤ rI S 37 t.toNatClampNeg
    · simp only [if_pos c1, h37]
      by_cases c2 : rI S 38 t.toNatClampNeg ≤ rI S 38 i
      · simp only [if_pos c2, hid]
        exact ⟨trivial, ⟨fun _ => ⟨c1, c2⟩, fun _ => trivial⟩⟩
      · simp only [if_neg c2]
        exact ⟨trivial, ⟨fun q => absurd q (by decide), fun q => absurd q.2 c2⟩⟩
    · simp only [if_neg c1]
      by_cases c2 : rI S 38 t.toNatClampNeg ≤ rI S 38 i
      · simp only [if_pos c2]
        refine ⟨?_, ⟨fun q => absurd q (by decide), fun q => absurd q.1 c1⟩⟩
        rw [wI_id (k := 38) (rI_wIk (by decide) _ _ _)]
      · simp only [if_neg c2]
        exact ⟨trivial, ⟨fun q => absurd q (by decide), fun q => absurd q.1 c1⟩⟩
  · simp only [if_neg c0]
    by_cases c1 : rI S 37 i ≤ rI S 37 t.toNatClampNeg
    · simp only [if_pos c1, h37]
      by_cases c2 : rI S 38 t.toNatClampNeg ≤ rI S 38 i
      · simp only [if_pos c2, hid]
        exact ⟨trivial, ⟨fun _ => ⟨c1, c2⟩, fun _ => trivial⟩⟩
      · simp only [if_neg c2]
        exact ⟨trivial, ⟨fun q => absurd q (by decide), fun q => absurd q.2 c2⟩⟩
    · simp only [if_neg c1]
      by_cases c2 : rI S 38 t.toNatClampNeg ≤ rI S 38 i
      · simp only [if_pos c2]
        refine ⟨?_, ⟨fun q => absurd q (by decide), fun q => absurd q.1 c1⟩⟩
        rw [wI_id (k := 38) (rI_wIk (by decide) _ _ _)]
      · simp only [if_neg c2]
        exact ⟨trivial, ⟨fun q => absurd q (by decide), fun q => absurd q.1 c1⟩⟩
/-- what the reference makes of a register's ends -/
theorem wd_rd {Sc Sr : gS} {i p : Nat} (h1 : RR Sc Sr i) (h2 : RR Sc Sr p) (hr : rI Sr 115 14 = rI Sc 36 3) (hp : (rI Sr 120 i).toNatClampNeg = p) : wdl Sr i = (jl1 (rI Sc 36 3) (rI Sc 37 i) (rI Sc 37 p)).toInt64 ∧ wdm Sr i = (jh1 (rI Sc 36 3) (rI Sc 38 i) (rI Sc 38 p)).toInt64 := by
  obtain ⟨a1, a2, a3⟩ := h1
  obtain ⟨b1, b2, b3⟩ := h2
  unfold wdl wdm jl1 jh1
  rw [hp, ← a1, ← a2, ← b1, ← b2, hr, ← mn64, ← mx64]
  have z1 : (0 : Int64) = (0 : Int32).toInt64 := rfl
  rw [z1]
  simp only [w_lt]
  refine ⟨?_, ?_⟩
  · by_cases c : rI Sc 37 i ≤ rI Sc 37 p
    · have e : mni (rI Sc 37 i) (rI Sc 37 p) = rI Sc 37 i := by
        rw [ile] at c
        rw [ieq, mni_i]; omega
      rw [if_pos c, e, if_neg (fun q => absurd q.2 (by rw [il]; omega))]
    · have e : mni (rI Sc 37 i) (rI Sc 37 p) = rI Sc 37 p := by
        rw [ile] at c
        rw [ieq, mni_i]; omega
      have hlt : rI Sc 37 p < rI Sc 37 i := Int32.not_le.mp c
      rw [if_neg c, e]
      by_cases r4 : rI Sc 36 3 < 4
      · rw [if_pos r4, if_neg (fun q => q.1 r4)]
      · rw [if_neg r4, if_pos ⟨r4, hlt⟩]
        by_cases ng : rI Sc 37 p < 0
        · rw [if_pos ng, pna_j ng]
        · rw [if_neg ng, pna_nn ng]
  · by_cases c : rI Sc 38 p ≤ rI Sc 38 i
    · have e : mxi (rI Sc 38 i) (rI Sc 38 p) = rI Sc 38 i := by
        rw [ile] at c
        rw [ieq, mxi_i]; omega
      rw [if_pos c, e, if_neg (fun q => absurd q.2 (by rw [il]; omega))]
    · have e : mxi (rI Sc 38 i) (rI Sc 38 p) = rI Sc 38 p := by
        rw [ile] at c
        rw [ieq, mxi_i]; omega
      have hlt : rI Sc 38 i < rI Sc 38 p := Int32.not_le.mp c
      rw [if_neg c, e]
      by_cases r4 : rI Sc 36 3 < 4
      · rw [if_pos r4, if_neg (fun q => q.1 r4)]
      · rw [if_neg r4, if_pos ⟨r4, hlt⟩, onb_j]
theorem wd_ch {Sc Sr : gS} {i p : Nat} (h1 : RR Sc Sr i) (h2 : RR Sc Sr p) (hr : rI Sr 115 14 = rI Sc 36 3) (hp : (rI Sr 120 i).toNatClampNeg = p) : wdC Sr i ↔ ¬ (rI Sc 37 i ≤ rI Sc 37 p ∧ rI Sc 38 p ≤ rI Sc 38 i) := by
  obtain ⟨e1, e2⟩ := wd_rd h1 h2 hr hp
  unfold wdC
  rw [e1, e2, ← h1.1, ← h1.2.1, w_eq, w_eq]
  apply not_congr
  unfold jl1 jh1
  constructor
  · intro ⟨q1, q2⟩
    refine ⟨?_, ?_⟩
    · by_cases c : rI Sc 37 i ≤ rI Sc 37 p
      · exact c
      · exfalso
        rw [if_neg c] at q1
        rw [ile] at c
        have hb := pna_le (rI Sc 37 p)
        split at q1
        · rw [ieq] at q1; omega
        · rw [ieq] at q1; omega
    · by_cases c : rI Sc 38 p ≤ rI Sc 38 i
      · exact c
      · exfalso
        rw [if_neg c] at q2
        rw [ile] at c
        have hb := onb_ge (rI Sc 38 p)
        split at q2
        · rw [ieq] at q2; omega
        · rw [ieq] at q2; omega
  · intro ⟨q1, q2⟩
    rw [if_pos q1, if_pos q2]
    exact ⟨rfl, rfl⟩
