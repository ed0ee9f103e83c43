theorem CI.okR {Sc Sr : gS} {n : Nat} (h : CI Sc Sr n) : okR Sr n := by
  obtain ⟨⟨o1, o2, o3⟩, h2, h3⟩ := h
  refine ⟨h2, o2, fun i hi => ?_⟩
  obtain ⟨s1, s2, s3, s4, s5, s6⟩ := (h3 i hi).1
  obtain ⟨k1, k2, k3, k4, k5⟩ := o3 i hi
  have v : ∀ {s : Int32} {m : Nat}, m ≤ 24 → sgn (nI m) s → vp_in s 24 := by
    intro s m hm hs
    obtain ⟨p, p1, p2, p3⟩ := nI_ofInt hs hm
    rw [p2]
    exact nI_i (by omega) (by omega)
  unfold okS
  rw [s1, s2, s3, s4]
  exact ⟨⟨fun z => v (by omega) (k2 z), fun z1 z2 z3 => v (by omega) (k3 z1 z2 z3), fun z => v (by omega) (k4 z), k1⟩, fun z => by rw [s5 z]; exact v o2 k5⟩
theorem rcEnd_u {S : gS} {n K K2 : Nat} (h : rcEnd S n K) (h2 : rcEnd S n K2) : K = K2 := by
  rcases Nat.lt_trichotomy K K2 with q | q | q
  · exact absurd h.2.1 (h2.1 (K + 1) q)
  · exact q
  · exact absurd h2.2.1 (h.1 (K2 + 1) q)
theorem wpEnd_u {S : gS} {n K K2 : Nat} (h : wpEnd S n K) (h2 : wpEnd S n K2) : K = K2 := by
  rcases Nat.lt_trichotomy K K2 with q | q | q
  · exact absurd h.2.1 (h2.1 (K + 1) q)
  · exact q
  · exact absurd h2.2.1 (h.1 (K2 + 1) q)
theorem rnEnd_u {S : gS} {n K K2 : Nat} (h : rnEnd S n K) (h2 : rnEnd S n K2) : K = K2 := by
  rcases Nat.lt_trichotomy K K2 with q | q | q
  · exact absurd h.2 (h2.1 (K + 1) q)
  · exact q
  · exact absurd h2.2 (h.1 (K2 + 1) q)
theorem pqEnd_u {S : gS} {n K K2 : Nat} (h : pqEnd S n K) (h2 : pqEnd S n K2) : K = K2 := by
  rcases Nat.lt_trichotomy K K2 with q | q | q
  · exact absurd h.2 (h2.1 (K + 1) q)
  · exact q
  · exact absurd h2.2 (h.1 (K2 + 1) q)
abbrev rR1 (Sr : gS) (n : Nat) : gS := wI (iniF (wI Sr 115 15 1) n) 115 14 0
/-- X is what the reference finds about the circuit of S -/
def AR (S X : gS) (n : Nat) : Prop := ∃ Sr K G, CI S Sr n ∧ rnEnd (rR1 Sr n) n K ∧ pqEnd (aR Sr n K) n G ∧ X = rfT Sr n K G
def RE (S X : gS) (n : Nat) : Prop := (∀ i, i < n → rL S 125 i = rL X 125 i ∧ rL S 126 i = rL X 126 i ∧ rI S 127 i = rI X 127 i ∧ rI S 128 i = rI X 128 i) ∧ rI S 115 14 = rI X 115 14
def PH (Sc Sr : gS) (n : Nat) : Prop := ∀ i, i < n → rI Sr 122 i = rI Sc 8 i
def UN (Sc R : gS) (n : Nat) : Prop := ∃ m, m ≤ n ∧ UQ Sc (unF R n) m ∧ ∀ i, i < n → rI Sc 50 i = rI (unF R n) 134 i
/-- the invariant of the analysis -/
def IA (S : gS) (n : Nat) : Prop := CI S S n ∧ (∀ c, rI S 7 c = 0 ∨ rI S 7 c = 1) ∧ (rI S 40 3 = 0 ∨ rI S 40 3 = 1) ∧ (∀ c, rI S 43 c = 0 ∨ rI S 43 c = 1) ∧ (∀ i, i < n → ∃ k, k < 4 ∧ rI S 8 i = nI k) ∧ PH S S n ∧ (rI S 0 12 ≠ 0 → (∀ X, AR S X n → AN S X n) ∧ ∀ R, CI S R n → AN S R n → PH S R n → UN S R n) ∧ (rI S 115 15 ≠ 0 → ∀ X, AR S X n → RE S X n)
theorem AR.of {S T X : gS} {n : Nat} (h : AR S X n) (e : ∀ a c, a < 8 → ¬ (a = 1 ∧ c = 1) → a ≠ 0 → rI T a c = rI S a c) : AR T X n := by
  obtain ⟨Sr, K, G, h1, h2, h3, h4⟩ := h
  exact ⟨Sr, K, G, h1.of e (fun a c _ => rfl), h2, h3, h4⟩
theorem AN.re {S X Y : gS} {n : Nat} (h : AN S X n) (r : RE Y X n) : AN S Y n := by
  refine ⟨fun i hi => ?_, h.2.trans r.2.symm⟩
  obtain ⟨a1, a2, a3, a4, a5, a6⟩ := h.1 i hi
  obtain ⟨r1, r2, r3, r4⟩ := r.1 i hi
  refine ⟨?_, a2.trans r3.symm, a3.trans r4.symm, a4.trans (wo_of r4).symm, a5.trans (bi_ns r4 r3 r1).symm, by rw [r3]; exact a6⟩
  exact ⟨a1.1.trans r1.symm, a1.2.1.trans r2.symm, a1.2.2⟩
theorem AN.ofc {S T X : gS} {n : Nat} (h : AN S X n) (e : ∀ a c, (a = 36 ∧ c = 3) ∨ (37 ≤ a ∧ a ≤ 39) ∨ (41 ≤ a ∧ a ≤ 43) → rI T a c = rI S a c) : AN T X n := by
  refine ⟨fun i hi => ?_, (e 36 3 (by omega)).trans h.2⟩
  obtain ⟨a1, a2, a3, a4, a5, a6⟩ := h.1 i hi
  refine ⟨?_, (e 39 i (by omega)).trans a2, (e 41 i (by omega)).trans a3, (e 42 i (by omega)).trans a4, (e 43 i (by omega)).trans a5, a6⟩
  unfold RR
  rw [e 37 i (by omega), e 38 i (by omega)]
  exact a1
theorem AN.two {A X Y : gS} {n : Nat} (h : AN A X n) (g : AN A Y n) : RE X Y n := by
  refine ⟨fun i hi => ?_, h.2.symm.trans g.2⟩
  obtain ⟨a1, a2, a3, a4, a5, a6⟩ := h.1 i hi
  obtain ⟨b1, b2, b3, b4, b5, b6⟩ := g.1 i hi
  exact ⟨a1.1.symm.trans b1.1, a1.2.1.symm.trans b1.2.1, a2.symm.trans b2, a3.symm.trans b3⟩
theorem RE.of {S T X : gS} {n : Nat} (h : RE S X n) (e1 : ∀ i, rL T 125 i = rL S 125 i) (e2 : ∀ i, rL T 126 i = rL S 126 i) (e3 : ∀ i, rI T 127 i = rI S 127 i) (e4 : ∀ i, rI T 128 i = rI S 128 i) (e5 : rI T 115 14 = rI S 115 14) : RE T X n := by
  refine ⟨fun i hi => ?_, e5.trans h.2⟩
  rw [e1, e2, e3, e4]
  exact h.1 i hi
theorem an_any {S : gS} {n K G : Nat} (h01 : ∀ i, i < n → rI S 7 i = 0 ∨ rI S 7 i = 1) (hf : rI S 40 3 = 0 ∨ rI S 40 3 = 1) (hK : rcEnd (wI (itr (bd_rini) n S) 36 3 0) n K) (hG : wpEnd (aC S n K) n G) (X : gS) (hX : AR S X n) : AN (f_X7_find (f_X4_find S n K) n G) X n := by
  obtain ⟨Sr, K1, G1, h1, h2, h3, h4⟩ := hX
  obtain ⟨K2, G2, g1, g2, g3, g4, g5, g6, g7⟩ := analysis h1 h01 hf
  have e1 : K2 = K := rcEnd_u g1 hK
  subst e1
  have e2 : G2 = G := wpEnd_u g2 hG
  subst e2
  have e3 : K1 = K2 := rnEnd_u h2 g3
  subst e3
  have e4 : G1 = G2 := pqEnd_u h3 g5
  subst e4
  rw [h4]
  exact g6
theorem ar_ex {S : gS} {n : Nat} (h : IA S n) : ∃ X, AR S X n := by
  obtain ⟨K, G, g1, g2, g3, g4, g5, g6, g7⟩ := analysis h.1 (fun i _ => h.2.1 i) h.2.2.1
  exact ⟨rfT S n K G, S, K, G, h.1, g3, g5, rfl⟩
/-- both have analysed: alike -/
theorem IA.alike {S : gS} {n : Nat} (h : IA S n) (ha : rI S 0 12 ≠ 0) (hf : rI S 115 15 ≠ 0) : AN S S n := by
  obtain ⟨X, hX⟩ := ar_ex h
  exact ((h.2.2.2.2.2.2.1 ha).1 X hX).re (h.2.2.2.2.2.2.2 hf X hX)
theorem IA.units {S : gS} {n : Nat} (h : IA S n) (ha : rI S 0 12 ≠ 0) (hf : rI S 115 15 ≠ 0) : UN S S n := (h.2.2.2.2.2.2.1 ha).2 S h.1 (h.alike ha hf) h.2.2.2.2.2.1
theorem UN.ofc {S T R : gS} {n : Nat} (h : UN S R n) (e : ∀ a c, 44 ≤ a ∧ a ≤ 50 → rI T a c = rI S a c) : UN T R n := by
  obtain ⟨m, m1, m2, m3⟩ := h
  refine ⟨m, m1, ⟨(e 44 0 (by omega)).trans m2.1, m2.2.1, fun u hu => ?_⟩, fun i hi => (e 50 i (by omega)).trans (m3 i hi)⟩
  rw [e 45 u (by omega), e 46 u (by omega), e 47 u (by omega), e 48 u (by omega), e 49 u (by omega)]
  exact m2.2.2 u hu
/-- cells that the analysis' invariant does not see may change -/
theorem IA.of {S T : gS} {n : Nat} (h : IA S n) (e : ∀ a c, ¬ (a = 1 ∧ c = 1) → (1 ≤ a ∧ a ≤ 8) ∨ (a = 0 ∧ c = 12) ∨ (36 ≤ a ∧ a ≤ 50) ∨ (a = 115 ∧ (c = 10 ∨ c = 14 ∨ c = 15)) ∨ (116 ≤ a ∧ a ≤ 122) ∨ (a = 127 ∨ a = 128) → rI T a c = rI S a c) (l : ∀ a c, a = 125 ∨ a = 126 → rL T a c = rL S a c) : IA T n := by
  obtain ⟨h1, h2, h3, h4, h5, h6, h7, h8⟩ := h
  have back : ∀ a c, a < 8 → ¬ (a = 1 ∧ c = 1) → a ≠ 0 → rI S a c = rI T a c := fun a c z1 z2 z3 => (e a c z2 (by omega)).symm
  refine ⟨h1.of (fun a c z1 z2 z3 => e a c z2 (by omega)) (fun a c z => e a c (by omega) (by omega)), fun c => by rw [e 7 c (by omega) (by omega)]; exact h2 c, by rw [e 40 3 (by omega) (by omega)]; exact h3, fun c => by rw [e 43 c (by omega) (by omega)]; exact h4 c, fun i hi => by rw [e 8 i (by omega) (by omega)]; exact h5 i hi, fun i hi => by rw [e 8 i (by omega) (by omega), e 122 i (by omega) (by omega)]; exact h6 i hi, ?_, ?_⟩
  · rw [e 0 12 (by omega) (by omega)]
    intro z
    obtain ⟨w1, w2⟩ := h7 z
    refine ⟨fun X hX => (w1 X (hX.of back)).ofc (fun a c q => e a c (by omega) (by omega)), fun R r1 r2 r3 => ?_⟩
    refine (w2 R (r1.of back (fun a c _ => rfl)) (r2.ofc (fun a c q => (e a c (by omega) (by omega)).symm)) (fun i hi => (r3 i hi).trans (e 8 i (by omega) (by omega)))).ofc (fun a c q => e a c (by omega) (by omega))
  · rw [e 115 15 (by omega) (by omega)]
    intro z X hX
    exact (h8 z X (hX.of back)).of (fun i => l 125 i (by omega)) (fun i => l 126 i (by omega)) (fun i => e 127 i (by omega) (by omega)) (fun i => e 128 i (by omega) (by omega)) (e 115 14 (by omega) (by omega))
/-- THE CLASS ANALYSES -/
theorem anC {S : gS} {n : Nat} (h : IA S n) : ∃ T, gF mX8_analyse [.ref 0] S none T ∧ IA T n ∧ rI T 0 12 ≠ 0 ∧ (∀ a c, ¬ (a = 0 ∧ c = 12) → ¬ (36 ≤ a ∧ a ≤ 50) → rI T a c = rI S a c) ∧ (∀ a c, rL T a c = rL S a c) := by
  by_cases ha : rI S 0 12 = 0
  · obtain ⟨K, G, g1, g2, g3, g4, g5, g6, g7⟩ := analysis h.1 (fun i _ => h.2.1 i) h.2.2.1
    have hct := ct_X8_analyse S n K G h.1.1 (fun _ => g1) (fun _ => g2)
    have fr : ∀ a c, ¬ (a = 0 ∧ c = 12) → ¬ (36 ≤ a ∧ a ≤ 50) → rI (f_X8_analyse S n K G) a c = rI S a c := fun a c z1 z2 => fr_f_X8_analyse z1 (by omega) (by omega) (by omega) (by omega) (by omega) (by omega) (by omega) (by omega) (by omega) (by omega) (by omega) (by omega) (by omega) (by omega) (by omega) S n K G
    have fl : ∀ a c, rL (f_X8_analyse S n K G) a c = rL S a c := fun a c => fl_f_X8_analyse S n K G a c
    have eT : f_X8_analyse S n K G = wI (f_X6_assign (f_X7_find (f_X4_find S n K) n G) n) 0 12 1 := by unfold f_X8_analyse; rw [if_pos ha]
    have fF : ∀ a c, ¬ (36 ≤ a ∧ a ≤ 43) → rI (f_X7_find (f_X4_find S n K) n G) a c = rI S a c := fun a c z => (fr_f_X7_find (by omega) (by omega) (by omega) (by omega) _ _ _).trans (fr_f_X4_find (by omega) (by omega) (by omega) (by omega) _ _ _)
    have h43 : ∀ c, rI (f_X7_find (f_X4_find S n K) n G) 43 c = 0 ∨ rI (f_X7_find (f_X4_find S n K) n G) 43 c = 1 := by
      intro c
      unfold f_X7_find
      rw [(wnar_rd _ n c h.1.1.2.1).2]
      split
      · unfold wn43 bi
        split
        · exact Or.inr rfl
        · exact Or.inl rfl
      · rw [fr_wpS (by omega) (by decide), rI_wIk (by decide), fr_lp_wout (by omega) (by decide), fr_f_fill (by decide), fr_f_X4_find (by omega) (by decide) (by decide) (by decide)]
        exact h.2.2.2.1 c
    have hany := an_any (fun i _ => h.2.1 i) h.2.2.1 g1 g2
    refine ⟨_, hct, ?_⟩
    rw [eT] at fr fl ⊢
    revert fr fl fF h43 hany g7
    generalize f_X7_find (f_X4_find S n K) n G = F
    intro g7 fr fl fF h43 hany
    have fA : ∀ a c, ¬ (44 ≤ a ∧ a ≤ 50) → ¬ (a = 0 ∧ c = 12) → rI (wI (f_X6_assign F n) 0 12 1) a c = rI F a c := fun a c z1 z2 => (rI_wIc z2 _ _).trans (fr_f_X6_assign (by omega) (by omega) (by omega) (by omega) (by omega) (by omega) (by omega) _ _)
    have hun : ∀ R, CI F R n → AN F R n → PH F R n → UN (wI (f_X6_assign F n) 0 12 1) R n := by
      intro R r1 r2 r3
      obtain ⟨m, m1, m2, m3, m4⟩ := units r1 (fun i hi => (r2.1 i hi).2.2.2.1) (fun i hi => by rw [fF 8 i (by omega)]; exact h.2.2.2.2.1 i hi) r3 n (Nat.le_refl n)
      have hu : UN (f_X6_assign F n) R n := ⟨m, m1, m2, m3⟩
      exact hu.ofc (fun a c z => rI_wIc (by omega) _ _)
    revert fA hun fr fl
    have e1 : rI (wI (f_X6_assign F n) 0 12 1) 0 12 = 1 := rI_same _ _ _ _
    revert e1
    generalize wI (f_X6_assign F n) 0 12 1 = T
    intro e1 fr fl fA hun
    obtain ⟨h1, h2, h3, h4, h5, h6, h7, h8⟩ := h
    have back : ∀ a c, a < 8 → ¬ (a = 1 ∧ c = 1) → a ≠ 0 → rI S a c = rI T a c := fun a c z1 z2 z3 => (fr a c (by omega) (by omega)).symm
    refine ⟨⟨h1.of (fun a c z1 z2 z3 => fr a c (by omega) (by omega)) (fun a c z => fr a c (by omega) (by omega)), fun c => by rw [fr 7 c (by omega) (by omega)]; exact h2 c, by rw [fA 40 3 (by omega) (by omega)]; exact Or.inl g7, fun c => by rw [fA 43 c (by omega) (by omega)]; exact h43 c, fun i hi => by rw [fr 8 i (by omega) (by omega)]; exact h5 i hi, fun i hi => by rw [fr 8 i (by omega) (by omega), fr 122 i (by omega) (by omega)]; exact h6 i hi, ?_, ?_⟩, by rw [e1]; decide, fr, fl⟩
    · intro _
      refine ⟨fun X hX => (hany X (hX.of back)).ofc (fun a c q => fA a c (by omega) (by omega)), fun R r1 r2 r3 => ?_⟩
      refine hun R (r1.of (fun a c z1 z2 z3 => (fA a c (by omega) (by omega)).symm) (fun a c _ => rfl)) (r2.ofc (fun a c q => (fA a c (by omega) (by omega)).symm)) (fun i hi => (r3 i hi).trans (fA 8 i (by omega) (by omega)))
    · rw [fr 115 15 (by omega) (by omega)]
      intro z X hX
      exact (h8 z X (hX.of back)).of (fun i => fl 125 i) (fun i => fl 126 i) (fun i => fr 127 i (by omega) (by omega)) (fun i => fr 128 i (by omega) (by omega)) (fr 115 14 (by omega) (by omega))
  · have hct := ct_X8_analyse S n 0 0 h.1.1 (fun z => absurd z ha) (fun z => absurd z ha)
    have eT : f_X8_analyse S n 0 0 = S := by unfold f_X8_analyse; rw [if_neg ha]
    rw [eT] at hct
    exact ⟨S, hct, h, ha, fun a c _ _ => rfl, fun a c => rfl⟩
theorem rI_rfT (S : gS) (n K G a c : Nat) (h1 : a ≠ 127) (h2 : a ≠ 128) (h3 : ¬ (a = 115 ∧ (c = 14 ∨ c = 15))) : rI (rfT S n K G) a c = rI S a c := by
  unfold rfT
  rw [rI_pqS _ _ _ _ _ h2, rI_rfO _ _ _ _ h2, rI_rfW _ _ _ _ h1 h2, rI_rnS _ _ _ _ _ (by omega), rI_wIc (by omega), rI_iniF, rI_wIc (by omega)]
theorem rL_f1 (i : Nat) (T : gS) (a c : Nat) (h1 : a ≠ 115) (h2 : a ≠ 125) (h3 : a ≠ 126) : rL (f1 i T) a c = rL T a c := by
  unfold f1 frT
  split
  · rfl
  · rw [rL_wL, if_neg (fun z => h3 z.1), rL_wL, if_neg (fun z => h2 z.1), frF_ne _ _ _ _ h1]
theorem rL_f2 (i : Nat) (p : Int32 × gS) (a c : Nat) (h2 : a ≠ 125) (h3 : a ≠ 126) : rL (f2 i p).2 a c = rL p.2 a c := by
  unfold f2 wdT
  split
  · rw [rL_wL, if_neg (fun z => h3 z.1), rL_wL, if_neg (fun z => h2 z.1)]
  · rfl
theorem rL_ps1 (S : gS) (i a c : Nat) (h1 : a ≠ 115) (h2 : a ≠ 125) (h3 : a ≠ 126) : rL (ps1 S i) a c = rL S a c := by
  induction i with
  | zero => rfl
  | succ i ih => exact (rL_f1 i _ a c h1 h2 h3).trans ih
theorem rL_ps2 (S : gS) (i a c : Nat) (h2 : a ≠ 125) (h3 : a ≠ 126) : rL (ps2 S i).2 a c = rL S a c := by
  induction i with
  | zero => rfl
  | succ i ih => exact (rL_f2 i _ a c h2 h3).trans ih
theorem rL_rnS (S : gS) (n k a c : Nat) (h1 : a ≠ 115) (h2 : a ≠ 125) (h3 : a ≠ 126) : rL (rnS S n k) a c = rL S a c := by
  induction k with
  | zero => rfl
  | succ k ih =>
    show rL (ps2 (ps1 (wI (rnS S n k) 115 14 (rI (rnS S n k) 115 14 + 1)) n) n).2 a c = _
    rw [rL_ps2 _ _ _ _ h2 h3, rL_ps1 _ _ _ _ h1 h2 h3, rL_wI, ih]
theorem rL_rfT (S : gS) (n K G a c : Nat) (h1 : a ≠ 115) (h2 : a ≠ 125) (h3 : a ≠ 126) : rL (rfT S n K G) a c = rL S a c := by
  unfold rfT
  rw [rL_pqS, rL_rfO, rL_rfW, rL_rnS _ _ _ _ _ h1 h2 h3, rL_wI]
  unfold iniF
  rw [rL_wRL, if_neg h3, rL_wRL, if_neg h2, rL_wI]
/-- THE REFERENCE ANALYSES -/
theorem anR {S : gS} {n : Nat} (h : IA S n) : ∃ T, gF mX9_refreshes [.ref 115] S none T ∧ IA T n ∧ rI T 115 15 ≠ 0 ∧ (∀ a c, a ≠ 127 → a ≠ 128 → ¬ (a = 115 ∧ (c = 14 ∨ c = 15)) → rI T a c = rI S a c) ∧ (∀ a c, a ≠ 115 → a ≠ 125 → a ≠ 126 → rL T a c = rL S a c) := by
  by_cases hf : rI S 115 15 = 0
  · obtain ⟨K, G, g1, g2, g3, g4, g5, g6, g7⟩ := analysis h.1 (fun i _ => h.2.1 i) h.2.2.1
    have hct := ct_X9_refreshes S n h.1.okR K g3 g4 G g5
    rw [if_pos hf] at hct
    have fr : ∀ a c, a ≠ 127 → a ≠ 128 → ¬ (a = 115 ∧ (c = 14 ∨ c = 15)) → rI (rfT S n K G) a c = rI S a c := fun a c z1 z2 z3 => rI_rfT S n K G a c z1 z2 z3
    have fl : ∀ a c, a ≠ 115 → a ≠ 125 → a ≠ 126 → rL (rfT S n K G) a c = rL S a c := fun a c z1 z2 z3 => rL_rfT S n K G a c z1 z2 z3
    have e15 : rI (rfT S n K G) 115 15 = 1 := by
      unfold rfT
      rw [rI_pqS _ _ _ _ _ (by decide), rI_rfO _ _ _ _ (by decide), rI_rfW _ _ _ _ (by decide) (by decide), rI_rnS _ _ _ _ _ (by decide), rI_wIc (by decide), rI_iniF, rI_same]
    have hany := an_any (fun i _ => h.2.1 i) h.2.2.1 g1 g2
    refine ⟨_, hct, ?_⟩
    revert fr fl e15 g6
    generalize rfT S n K G = T
    intro g6 fr fl e15
    obtain ⟨h1, h2, h3, h4, h5, h6, h7, h8⟩ := h
    have back : ∀ a c, a < 8 → ¬ (a = 1 ∧ c = 1) → a ≠ 0 → rI S a c = rI T a c := fun a c z1 z2 z3 => (fr a c (by omega) (by omega) (by omega)).symm
    refine ⟨⟨h1.of (fun a c z1 z2 z3 => fr a c (by omega) (by omega) (by omega)) (fun a c z => fr a c (by omega) (by omega) (by omega)), fun c => by rw [fr 7 c (by omega) (by omega) (by omega)]; exact h2 c, by rw [fr 40 3 (by omega) (by omega) (by omega)]; exact h3, fun c => by rw [fr 43 c (by omega) (by omega) (by omega)]; exact h4 c, fun i hi => by rw [fr 8 i (by omega) (by omega) (by omega)]; exact h5 i hi, fun i hi => by rw [fr 8 i (by omega) (by omega) (by omega), fr 122 i (by omega) (by omega) (by omega)]; exact h6 i hi, ?_, ?_⟩, by rw [e15]; decide, fr, fl⟩
    · rw [fr 0 12 (by omega) (by omega) (by omega)]
      intro z
      obtain ⟨w1, w2⟩ := h7 z
      refine ⟨fun X hX => (w1 X (hX.of back)).ofc (fun a c q => fr a c (by omega) (by omega) (by omega)), fun R r1 r2 r3 => ?_⟩
      exact (w2 R (r1.of back (fun a c _ => rfl)) (r2.ofc (fun a c q => (fr a c (by omega) (by omega) (by omega)).symm)) (fun i hi => (r3 i hi).trans (fr 8 i (by omega) (by omega) (by omega)))).ofc (fun a c q => fr a c (by omega) (by omega) (by omega))
    · intro _ X hX
      exact AN.two g6 (hany X (hX.of back))
  · exact ⟨S, ct_X9_refreshes_f S hf, h, hf, fun a c _ _ _ => rfl, fun a c _ _ _ => rfl⟩

