def tm (S : gS) (i : Nat) : Nat := if rI S 2 i = 2 then sgl (rI S 37 i) + sgh (rI S 38 i) else 0
def totC (S : gS) : Nat → Nat
  | 0 => 0
  | i + 1 => totC S i + tm S i
theorem tm_le (S : gS) (i : Nat) : tm S i ≤ 130 := by
  unfold tm
  have h1 := sgl_le (rI S 37 i)
  have h2 := sgh_le (rI S 38 i)
  split <;> omega
theorem tot_le (S : gS) : ∀ n, totC S n ≤ 130 * n := by
  intro n
  induction n with
  | zero => exact Nat.le_refl _
  | succ n ih =>
    show totC S n + tm S n ≤ _
    have := tm_le S n
    omega
theorem tot_mono {S T : gS} : ∀ n, (∀ i, i < n → tm S i ≤ tm T i) → totC S n ≤ totC T n := by
  intro n
  induction n with
  | zero => intro _; exact Nat.le_refl _
  | succ n ih =>
    intro h
    have h1 := ih (fun i hi => h i (by omega))
    have h2 := h n (by omega)
    show totC S n + tm S n ≤ totC T n + tm T n
    omega
theorem tot_lt {S T : gS} : ∀ n, (∀ i, i < n → tm S i ≤ tm T i) → ∀ k, k < n → tm S k < tm T k → totC S n < totC T n := by
  intro n
  induction n with
  | zero => intro _ k hk; exact absurd hk (Nat.not_lt_zero k)
  | succ n ih =>
    intro h k hk hlt
    have h2 := h n (by omega)
    show totC S n + tm S n < totC T n + tm T n
    by_cases e : k = n
    · subst e
      have h1 := tot_mono k (fun i hi => h i (by omega))
      omega
    · have h1 := ih (fun i hi => h i (by omega)) k (by omega) hlt
      omega
/-- one register, from the fourth round on -/
theorem tot_1 {n k : Nat} {p : Int32 × gS} (hn : n ≤ 24) (hk : k < n) (hr : ¬ rI p.2 36 3 < 4) : totC p.2 n ≤ totC (bd_rjoin k p).2 n ∧ ((bd_rjoin k p).1 = p.1 ∨ totC p.2 n < totC (bd_rjoin k p).2 n) := by
  unfold bd_rjoin
  by_cases h2 : rI p.2 2 k = 2
  · rw [if_pos h2]
    obtain ⟨j1, j2⟩ := jn_rd p.2 k (by omega) (rI p.2 6 k)
    have hne : ∀ i, i ≠ k → tm (f_X4_join p.2 (nI k) (rI p.2 6 k)).2 i = tm p.2 i := fun i hi => by
      unfold tm
      rw [j1, rI_wIk (by decide), rI_wIk (by decide), rI_wIk (by decide), rI_wIc (fun q => hi q.2), rI_wIc (fun q => hi q.2), rI_wIk (by decide)]
    have hk1 : tm (f_X4_join p.2 (nI k) (rI p.2 6 k)).2 k = sgl (jl1 (rI p.2 36 3) (rI p.2 37 k) (rI p.2 37 (rI p.2 6 k).toNatClampNeg)) + sgh (jh1 (rI p.2 36 3) (rI p.2 38 k) (rI p.2 38 (rI p.2 6 k).toNatClampNeg)) := by
      unfold tm
      rw [j1, rI_wIk (by decide), rI_wIk (by decide), if_pos h2, rI_wIk (by decide), rI_same, rI_same]
    have hk0 : tm p.2 k = sgl (rI p.2 37 k) + sgh (rI p.2 38 k) := by
      unfold tm
      rw [if_pos h2]
    have hl : sgl (rI p.2 37 k) ≤ sgl (jl1 (rI p.2 36 3) (rI p.2 37 k) (rI p.2 37 (rI p.2 6 k).toNatClampNeg)) ∧ (¬ rI p.2 37 k ≤ rI p.2 37 (rI p.2 6 k).toNatClampNeg → sgl (rI p.2 37 k) < sgl (jl1 (rI p.2 36 3) (rI p.2 37 k) (rI p.2 37 (rI p.2 6 k).toNatClampNeg))) := by
      unfold jl1
      by_cases c : rI p.2 37 k ≤ rI p.2 37 (rI p.2 6 k).toNatClampNeg
      · rw [if_pos c]; exact ⟨Nat.le_refl _, fun q => absurd c q⟩
      · rw [if_neg c, if_neg hr]
        have := sgl_lt c
        exact ⟨by omega, fun _ => this⟩
    have hh : sgh (rI p.2 38 k) ≤ sgh (jh1 (rI p.2 36 3) (rI p.2 38 k) (rI p.2 38 (rI p.2 6 k).toNatClampNeg)) ∧ (¬ rI p.2 38 (rI p.2 6 k).toNatClampNeg ≤ rI p.2 38 k → sgh (rI p.2 38 k) < sgh (jh1 (rI p.2 36 3) (rI p.2 38 k) (rI p.2 38 (rI p.2 6 k).toNatClampNeg))) := by
      unfold jh1
      by_cases c : rI p.2 38 (rI p.2 6 k).toNatClampNeg ≤ rI p.2 38 k
      · rw [if_pos c]; exact ⟨Nat.le_refl _, fun q => absurd c q⟩
      · rw [if_neg c, if_neg hr]
        have := sgh_lt c
        exact ⟨by omega, fun _ => this⟩
    have hall : ∀ i, i < n → tm p.2 i ≤ tm (f_X4_join p.2 (nI k) (rI p.2 6 k)).2 i := fun i hi => by
      by_cases e : i = k
      · subst e; rw [hk0, hk1]; have := hl.1; have := hh.1; omega
      · rw [hne i e]; exact Nat.le_refl _
    by_cases c : (f_X4_join p.2 (nI k) (rI p.2 6 k)).1 = 0
    · rw [if_pos c]
      exact ⟨tot_mono n hall, Or.inl rfl⟩
    · rw [if_neg c]
      refine ⟨tot_mono n hall, Or.inr (tot_lt n hall k hk ?_)⟩
      rw [hk0, hk1]
      have hc2 : ¬ (rI p.2 37 k ≤ rI p.2 37 (rI p.2 6 k).toNatClampNeg ∧ rI p.2 38 (rI p.2 6 k).toNatClampNeg ≤ rI p.2 38 k) := fun q => c (j2.mpr q)
      by_cases d : rI p.2 37 k ≤ rI p.2 37 (rI p.2 6 k).toNatClampNeg
      · have := hh.2 (fun q => hc2 ⟨d, q⟩)
        have := hl.1
        omega
      · have := hl.2 d
        have := hh.1
        omega
  · rw [if_neg h2]
    exact ⟨Nat.le_refl _, Or.inl rfl⟩
theorem tot_p {n : Nat} (S : gS) (hn : n ≤ 24) (hr : ¬ rI S 36 3 < 4) : ∀ k, k ≤ n → totC S n ≤ totC (itr bd_rjoin k (0, S)).2 n ∧ ((itr bd_rjoin k (0, S)).1 = 0 ∨ totC S n < totC (itr bd_rjoin k (0, S)).2 n) := by
  intro k
  induction k with
  | zero => intro _; exact ⟨Nat.le_refl _, Or.inl rfl⟩
  | succ k ih =>
    intro hk
    obtain ⟨i1, i2⟩ := ih (by omega)
    have hr2 : ¬ rI (itr bd_rjoin k (0, S)).2 36 3 < 4 := by rw [fr_lp_rjoin (by decide) (by decide)]; exact hr
    obtain ⟨t1, t2⟩ := tot_1 (n := n) (k := k) (p := itr bd_rjoin k (0, S)) hn (by omega) hr2
    show totC S n ≤ totC (bd_rjoin k (itr bd_rjoin k (0, S))).2 n ∧ ((bd_rjoin k (itr bd_rjoin k (0, S))).1 = 0 ∨ totC S n < totC (bd_rjoin k (itr bd_rjoin k (0, S))).2 n)
    refine ⟨by omega, ?_⟩
    rcases t2 with q | q
    · rcases i2 with w | w
      · exact Or.inl (q.trans w)
      · exact Or.inr (by omega)
    · exact Or.inr (by omega)
theorem fo_ne (S : gS) (j : Nat) (hj : j < 1000) (x c : Nat) (h : c ≠ j) : rI (f_X4_findOne S j) x c = rI S x c := by
  have hb : ∀ l g, rI (f_X4_become S (nI j) l g) x c = rI S x c := fun l g => bec_ne S j hj l g x c h
  unfold f_X4_findOne f_X4_findProduct f_X4_findBitwise f_X4_findChoice
  simp only [rI_ite, hb, ite_self]
theorem fo_reg {S : gS} {j : Nat} (h : rI S 2 j = 2) : f_X4_findOne S j = S := fo_low (by rw [h]; decide) (by rw [h]; decide)
theorem rone_reg (S : gS) (i : Nat) (h : rI S 2 i = 2) (x : Nat) : ∀ k, k ≤ 24 → rI (itr bd_rone k S) x i = rI S x i := by
  intro k
  induction k with
  | zero => intro _; rfl
  | succ k ih =>
    intro hk
    have h2 := ih (by omega)
    show rI (f_X4_findOne (itr bd_rone k S) k) x i = _
    by_cases e : i = k
    · subst e
      rw [fo_reg ((fr_lp_rone (by decide) (by decide) _ _).trans h)]
      exact h2
    · rw [fo_ne _ _ (by omega) _ _ e]
      exact h2
theorem tot_one (S : gS) (n : Nat) (hn : n ≤ 24) : totC (itr bd_rone n S) n = totC S n := by
  have h : ∀ i, tm (itr bd_rone n S) i = tm S i := fun i => by
    unfold tm
    rw [fr_lp_rone (by decide) (by decide)]
    by_cases q : rI S 2 i = 2
    · rw [if_pos q, if_pos q, rone_reg S i q 37 n hn, rone_reg S i q 38 n hn]
    · rw [if_neg q, if_neg q]
  exact Nat.le_antisymm (tot_mono n (fun i _ => Nat.le_of_eq (h i))) (tot_mono n (fun i _ => Nat.le_of_eq (h i).symm))
/-- a round from the fourth on -/
theorem tot_r (S : gS) (n : Nat) (hn : n ≤ 24) (hr : ¬ rI S 36 3 + 1 < 4) : totC S n ≤ totC (rdC n S).2 n ∧ ((rdC n S).1 = 0 ∨ totC S n < totC (rdC n S).2 n) := by
  unfold rdC
  have e0 : totC (wI S 36 3 (rI S 36 3 + 1)) n = totC S n := by
    have h : ∀ i, tm (wI S 36 3 (rI S 36 3 + 1)) i = tm S i := fun i => by
      unfold tm
      rw [rI_wIk (by decide), rI_wIk (by decide), rI_wIk (by decide)]
    exact Nat.le_antisymm (tot_mono n (fun i _ => Nat.le_of_eq (h i))) (tot_mono n (fun i _ => Nat.le_of_eq (h i).symm))
  have e1 := tot_one (wI S 36 3 (rI S 36 3 + 1)) n hn
  have h := tot_p (itr bd_rone n (wI S 36 3 (rI S 36 3 + 1))) hn (by rw [fr_lp_rone (by decide) (by decide), rI_same]; exact hr) n (Nat.le_refl _)
  rw [e1, e0] at h
  exact h
theorem nI_4 {k : Nat} (h3 : 3 ≤ k) (hk : k < 100000) : ¬ nI k + 1 < 4 := by
  have e : nI k + 1 = nI (k + 1) := nI_1 k
  rw [e, il, nI_toInt (by omega)]
  have e4 : (4 : Int32).toInt = 4 := rfl
  omega
theorem tot_all (S : gS) (n : Nat) (hn : n ≤ 24) (h0 : rI S 36 3 = 0) : ∀ m, m < 5000 → (∀ k, k ≤ 3 + m → rcM S n k ≠ 0) → m ≤ totC (rcS S n (3 + m)) n := by
  intro m
  induction m with
  | zero => intro _ _; exact Nat.zero_le _
  | succ m ih =>
    intro hm h
    have h1 := ih (by omega) (fun k hk => h k (by omega))
    have hr := tot_r (rcS S n (3 + m)) n hn (by rw [rcS_rc S n h0]; exact nI_4 (by omega) (by omega))
    have h2 : rcM S n (3 + m + 1) ≠ 0 := h (3 + m + 1) (by omega)
    rcases hr.2 with q | q
    · exact absurd q h2
    · show m + 1 ≤ totC (rdC n (rcS S n (3 + m))).2 n
      omega
theorem least (p : Nat → Prop) (N : Nat) (h0 : ¬ p 0) (h : ∃ k, k ≤ N ∧ p k) : ∃ K, K < N ∧ (∀ k, k ≤ K → ¬ p k) ∧ p (K + 1) := by
  induction N with
  | zero =>
    obtain ⟨k, hk, hp⟩ := h
    have : k = 0 := by omega
    subst this
    exact absurd hp h0
  | succ N ih =>
    by_cases q : ∃ k, k ≤ N ∧ p k
    · obtain ⟨K, h1, h2, h3⟩ := ih q
      exact ⟨K, by omega, h2, h3⟩
    · obtain ⟨k, hk, hp⟩ := h
      have e : k = N + 1 := by
        rcases Nat.lt_or_ge N k with w | w
        · omega
        · exact absurd ⟨k, w, hp⟩ q
      subst e
      exact ⟨N, by omega, fun k hk w => q ⟨k, hk, w⟩, hp⟩
/-- the class's rounds end -/
theorem rc_end (S : gS) (n : Nat) (hn : n ≤ 24) (h0 : rI S 36 3 = 0) : ∃ K, rcEnd S n K := by
  have hex : ∃ k, k ≤ 3 + 3121 ∧ rcM S n k = 0 := by
    apply Classical.byContradiction
    intro q
    have h := tot_all S n hn h0 3121 (by decide) (fun k hk w => q ⟨k, hk, w⟩)
    have h2 := tot_le (rcS S n (3 + 3121)) n
    omega
  obtain ⟨K, h1, h2, h3⟩ := least (fun k => rcM S n k = 0) (3 + 3121) (by show ¬ (1 : Int32) = 0; decide) hex
  exact ⟨K, h2, h3, by omega⟩
/-! the start of the rounds -/
theorem rini_rd (S : gS) : ∀ k i, rI (itr bd_rini k S) 37 i = (if i < k then rI S 3 i else rI S 37 i) ∧ rI (itr bd_rini k S) 38 i = (if i < k then (if rI S 2 i = 0 then rI S 4 i else rI S 3 i) else rI S 38 i) := by
  intro k
  induction k with
  | zero => intro i; simp [itr]
  | succ k ih =>
    intro i
    have hi := ih i
    have f2' : rI (itr bd_rini k S) 2 k = rI S 2 k := fr_lp_rini (by decide) (by decide) _ _
    have f3' : rI (itr bd_rini k S) 3 k = rI S 3 k := fr_lp_rini (by decide) (by decide) _ _
    have f4' : rI (itr bd_rini k S) 4 k = rI S 4 k := fr_lp_rini (by decide) (by decide) _ _
    show rI (bd_rini k (itr bd_rini k S)) 37 i = _ ∧ rI (bd_rini k (itr bd_rini k S)) 38 i = _
    revert hi f2' f3' f4'
    generalize itr bd_rini k S = p
    intro hi f2' f3' f4'
    unfold bd_rini
    rw [rI_wIk (by decide), rI_wIk (by decide), rI_wIk (by decide), f2', f3', f4']
    by_cases e : i = k
    · subst e
      have hl : i < i + 1 := Nat.lt_succ_self i
      by_cases q : rI S 2 i = 0
      · rw [if_pos q, if_pos hl, if_pos hl, if_pos q, rI_wIk (by decide), rI_same, rI_same]
        exact ⟨rfl, rfl⟩
      · rw [if_neg q, if_pos hl, if_pos hl, if_neg q, rI_wIk (by decide), rI_same, rI_same]
        exact ⟨rfl, rfl⟩
    · have hl : i < k + 1 ↔ i < k := by omega
      simp only [hl]
      by_cases q : rI S 2 k = 0
      · rw [if_pos q, rI_wIc (fun w => e w.2), rI_wIc (fun w => e w.2), rI_wIc (fun w => e w.2), rI_wIc (fun w => e w.2)]
        exact hi
      · rw [if_neg q, rI_wIc (fun w => e w.2), rI_wIc (fun w => e w.2), rI_wIc (fun w => e w.2), rI_wIc (fun w => e w.2)]
        exact hi
abbrev rS0 (Sc : gS) (n : Nat) : gS := wI (itr (bd_rini) n Sc) 36 3 0
abbrev rR0 (Sr : gS) (n : Nat) : gS := wI (iniF Sr n) 115 14 0
theorem rS0_fr (Sc : gS) (n : Nat) (a c : Nat) (h : a < 36) : rI (rS0 Sc n) a c = rI Sc a c := (rI_wIk (by omega) _ _ _).trans (fr_lp_rini (by omega) (by omega) _ _)
/-- THE RANGES: both find them in as many rounds, and alike -/
theorem ranges {Sc Sr : gS} {n : Nat} (hC : CI Sc Sr n) : ∃ K, rcEnd (rS0 Sc n) n K ∧ rnEnd (rR0 Sr n) n K ∧ RA (rcS (rS0 Sc n) n (K + 1)) (rnS (rR0 Sr n) n (K + 1)) n := by
  have h24 := hC.1.2.1
  have hC0 : CI (rS0 Sc n) (rR0 Sr n) n := CI.of hC (fun a c h1 h2 h3 => rS0_fr Sc n a c (by omega)) (fun a c q => rI_wIc (by omega) _ _)
  have z : rI (rS0 Sc n) 36 3 = 0 := rI_same _ _ _ _
  have hN : RN (rS0 Sc n) (rR0 Sr n) n 0 := by
    have e37 : ∀ i, i < n → rI (rS0 Sc n) 37 i = rI Sc 3 i := fun i hi => by
      show rI (wI (itr (bd_rini) n Sc) 36 3 0) 37 i = _
      rw [rI_wIk (by decide), (rini_rd Sc n i).1, if_pos hi]
    have e38 : ∀ i, i < n → rI (rS0 Sc n) 38 i = (if rI Sc 2 i = 0 then rI Sc 4 i else rI Sc 3 i) := fun i hi => by
      show rI (wI (itr (bd_rini) n Sc) 36 3 0) 38 i = _
      rw [rI_wIk (by decide), (rini_rd Sc n i).2, if_pos hi]
    refine ⟨fun i hi q => ?_, fun i hi q => ?_, fun i hi q => ?_⟩
    · rw [rS0_fr Sc n 2 i (by decide)] at q
      rw [e37 i hi, e38 i hi, if_pos q, rS0_fr Sc n 3 i (by decide), rS0_fr Sc n 4 i (by decide)]
      exact ⟨rfl, rfl⟩
    · rw [rS0_fr Sc n 2 i (by decide)] at q
      rw [e37 i hi, e38 i hi, if_neg (by rw [q]; decide), rS0_fr Sc n 3 i (by decide)]
      exact ⟨rfl, rfl⟩
    · rw [rS0_fr Sc n 2 i (by decide)] at q
      have q2 : rI Sc 2 i = 2 := q.elim (fun w => absurd w (Nat.not_lt_zero i)) id
      have ha := (hC.2.2 i hi).1.2.1
      have h125 : rL (rR0 Sr n) 125 i = (rI Sc 3 i).toInt64 := by
        show rL (iniF Sr n) 125 i = _
        unfold iniF
        rw [rL_wRL, if_neg (by decide), rL_wRL, if_pos rfl, if_pos hi, ha]
      have h126 : rL (rR0 Sr n) 126 i = (rI Sc 3 i).toInt64 := by
        show rL (iniF Sr n) 126 i = _
        unfold iniF
        rw [rL_wRL, if_pos rfl, if_pos hi, ha]
      refine ⟨?_, ?_, ?_⟩
      · rw [e37 i hi, h125]
      · rw [e38 i hi, if_neg (by rw [q2]; decide), h126]
      · rw [e37 i hi, e38 i hi, if_neg (by rw [q2]; decide)]; exact Int32.le_refl _
  have hr : rI (rR0 Sr n) 115 14 = rI (rS0 Sc n) 36 3 := by rw [z]; exact rI_same _ _ _ _
  obtain ⟨K, hK⟩ := rc_end (rS0 Sc n) n h24 z
  have hall := ra_all hC0 hN hr
  refine ⟨K, hK, ⟨fun k hk => ?_, ?_⟩, (hall K).2⟩
  · rw [← (hall k).1.2.2]; exact hK.1 k hk
  · rw [← (hall (K + 1)).1.2.2]; exact hK.2.1
