def FC (Sc C : gS) : Prop := ∀ a c, ¬ (1 ≤ a ∧ a ≤ 9) → rI C a c = rI Sc a c
def FQ (Sr R : gS) : Prop := ∀ a c, ¬ (a = 115 ∧ (c = 10 ∨ c = 40)) → ¬ (116 ≤ a ∧ a ≤ 123) → rI R a c = rI Sr a c
/-- carrying out the items: both through, or both refuse -/
def CY (Sc Sr : gS) (p r : Int32 × gS) : Prop := (∃ C R n', RD C R n' ∧ FC Sc C ∧ FQ Sr R ∧ p = (rI (f_X8_beginAnew C n') 55 2, f_X8_beginAnew C n') ∧ r = (rI (rsF R n') 115 36, rsF R n')) ∨ (∃ C R n' j why op, (∀ c, rI C 7 c = 0 ∨ rI C 7 c = 1) ∧ FC Sc C ∧ FQ Sr R ∧ ¬ why = 0 ∧ p = (-1, f_copy1_23 (f_X1_addCause (f_X1_become C (nI j) 3 (nI n')) why op)) ∧ r = (-1, f_pass10 (f_X9_faults R (nI j) 3 (nI n') why op)))
theorem cyry : ∀ f i Sc Sr n, f + i ≤ 27 → RD Sc Sr n → (∀ j, i ≤ j → j < i + f → IT Sc Sr j) → CY Sc Sr (cyF f i Sc) (ryF f i Sr) := by
  intro f
  induction f with
  | zero =>
    intro i Sc Sr n _ h _
    have h24 := h.1.1.2.1
    have e1 : (rI Sc 1 0).toNatClampNeg = n := by rw [h.1.1.1]; exact nI_c (by omega)
    have e2 : (rI Sr 115 10).toNatClampNeg = n := by rw [h.1.2.1]; exact nI_c (by omega)
    refine Or.inl ⟨Sc, Sr, n, h, fun a c _ => rfl, fun a c _ _ => rfl, ?_, ?_⟩
    · show (rI (f_X8_beginAnew Sc (rI Sc 1 0).toNatClampNeg) 55 2, f_X8_beginAnew Sc (rI Sc 1 0).toNatClampNeg) = _
      rw [e1]
    · show (rI (rsF Sr (rI Sr 115 10).toNatClampNeg) 115 36, rsF Sr (rI Sr 115 10).toNatClampNeg) = _
      rw [e2]
  | succ f ih =>
    intro i Sc Sr n hf h hi
    rcases carry h (hi i (Nat.le_refl i) (by omega)) (by omega) with ⟨why, op, g1, g2, g3, g4⟩ | ⟨g1, g2, g3, _, n', g5⟩
    · rw [cyF_0 _ _ _ (by rw [g1]), ryF_0 _ _ _ (by rw [g2]; exact g3), g1, g2, g4, nd_fr (x := 115) (y := 10) (by omega), h.1.2.1]
      exact Or.inr ⟨Sc, (f_X9_notDone Sr i).2, n, i, why, op, h.2.1, fun a c _ => rfl, fun a c z1 _ => nd_fr (by omega), fun z => g3 (by rw [z]; decide), rfl, rfl⟩
    · rw [cyF_1 _ _ _ g1, ryF_1 _ _ _ g2]
      have fq : ∀ a c, ¬ (a = 115 ∧ (c = 10 ∨ c = 40)) → ¬ (116 ≤ a ∧ a ≤ 123) → rI (f_X9_does (f_X9_notDone Sr i).2 i) a c = rI Sr a c := fun a c z1 z2 => (do_fr (by omega)).trans (nd_fr (by omega))
      have hi2 : ∀ j, i + 1 ≤ j → j < i + 1 + f → IT (f_X8_carryOut Sc (58 + 2 * i) (nI i)).2 (f_X9_does (f_X9_notDone Sr i).2 i) j := fun j z1 z2 => (hi j (by omega) (by omega)).of (fun c => g3 _ c (by omega)) (fun c => g3 _ c (by omega)) (fun p q1 q2 => fq p j (by omega) (by omega))
      rcases ih (i + 1) _ _ n' (by omega) g5 hi2 with ⟨C, R, m, c1, c2, c3, c4, c5⟩ | ⟨C, R, m, j, why, op, c1, c2, c3, c4, c5, c6⟩
      · exact Or.inl ⟨C, R, m, c1, fun a c z => (c2 a c z).trans (g3 a c z), fun a c z1 z2 => (c3 a c z1 z2).trans (fq a c z1 z2), c4, c5⟩
      · exact Or.inr ⟨C, R, m, j, why, op, c1, fun a c z => (c2 a c z).trans (g3 a c z), fun a c z1 z2 => (c3 a c z1 z2).trans (fq a c z1 z2), c4, c5, c6⟩
theorem cp1_23_fr {S : gS} {x y : Nat} (h : 11 < x) : rI (f_copy1_23 S) x y = rI S x y := by
  unfold f_copy1_23
  rw [fr_lp_cpo1_23 (by omega), cr_ne (by omega), cr_ne (by omega), cr_ne (by omega), cr_ne (by omega), cr_ne (by omega), cr_ne (by omega), cr_ne (by omega), cr_ne (by omega), cr_ne (by omega), rI_wIk (by omega), rI_wIk (by omega)]
theorem cy_fr {x y : Nat} (h : 115 ≤ x) : ∀ f i S, rI (cyF f i S).2 x y = rI S x y := by
  intro f
  induction f with
  | zero =>
    intro i S
    show rI (f_X8_beginAnew S (rI S 1 0).toNatClampNeg) x y = _
    exact ba_fr _ _ (by omega) (by omega) (by omega) (by omega)
  | succ f ih =>
    intro i S
    by_cases q : (f_X8_carryOut S (58 + 2 * i) (nI i)).1 = 0
    · rw [cyF_0 _ _ _ q]
      show rI (f_copy1_23 _) x y = _
      rw [cp1_23_fr (by omega), co_fr (by omega) (by omega)]
    · rw [cyF_1 _ _ _ q, ih, co_fr (by omega) (by omega)]
theorem fgt_fr {x y : Nat} (h : ¬ (x = 112 ∧ y = 0)) (S : gS) : rI (f_X1_forget S) x y = rI S x y := by
  unfold f_X1_forget
  exact rI_wIc h _ _
theorem rd_fr (S : gS) (L : Nat) {x y : Nat} (h : 115 ≤ x) : rI (f_X8_read S L).2 x y = rI S x y := by
  have hp : ∀ c, rI (pzS c L 27 0 0 (f_X1_forget S)).2 x y = rI S x y := fun c => by rw [pz_fr c L x y (by omega) (by omega) 27 0 0 _ (by omega), fgt_fr (by omega)]
  unfold f_X8_read
  by_cases q : (pzS (rI S 56) L 27 0 0 (f_X1_forget S)).1 = 0
  · rw [if_pos q]
    show rI (f_X1_become _ _ _ _) x y = _
    unfold f_X1_become
    rw [rI_wIk (by omega), rI_wIk (by omega), rI_wIk (by omega), rI_wIk (by omega), rI_wIk (by omega), rI_wIk (by omega), hp]
  · rw [if_neg q, cy_fr h, cp23_fr (by omega), rI_wIk (by omega), hp]
abbrev r0S (T : gS) : gS := wI (wI (wI (wI (wI (wI T 115 0 0) 142 0 0) 142 1 0) 142 2 0) 115 35 0) 115 36 0
theorem r0_fr {T : gS} {x y : Nat} (h1 : ¬ (x = 115 ∧ (y = 0 ∨ y = 35 ∨ y = 36))) (h2 : ¬ (x = 142 ∧ y < 3)) : rI (r0S T) x y = rI T x y := by
  unfold r0S
  rw [rI_wIc (by omega), rI_wIc (by omega), rI_wIc (by omega), rI_wIc (by omega), rI_wIc (by omega), rI_wIc (by omega)]
theorem r0_142 {T : gS} {l : Nat} (h : l < 3) : rI (r0S T) 142 l = 0 := by
  unfold r0S
  rw [rI_wIk (by omega), rI_wIk (by omega)]
  have : l = 0 ∨ l = 1 ∨ l = 2 := by omega
  rcases this with q | q | q <;> subst q
  · rw [rI_wIc (by omega), rI_wIc (by omega), rI_same]
  · rw [rI_wIc (by omega), rI_same]
  · rw [rI_same]
theorem i4_ofb {S T : gS} {n : Nat} (h7 : rI S 0 12 ≠ 0 → (∀ X, AR S X n → AN S X n) ∧ ∀ R, CI S R n → AN S R n → PH S R n → UN S R n) (h24 : n ≤ 24) (e1 : ∀ a c, c < 24 → (a = 1 ∧ c = 0) ∨ (2 ≤ a ∧ a ≤ 8) → rI T a c = rI S a c) (e2 : ∀ a c, (a = 0 ∧ c = 12) ∨ (36 ≤ a ∧ a ≤ 50) → rI T a c = rI S a c) : rI T 0 12 ≠ 0 → (∀ X, AR T X n → AN T X n) ∧ ∀ R, CI T R n → AN T R n → PH T R n → UN T R n := by
  rw [e2 0 12 (by omega)]
  intro z
  obtain ⟨w1, w2⟩ := h7 z
  refine ⟨fun X hX => (w1 X (hX.ofb (fun a c z1 z2 => (e1 a c z1 (by omega)).symm))).ofc (fun a c q => e2 a c (by omega)), fun R r1 r2 r3 => ?_⟩
  exact (w2 R (r1.ofb (fun a c z1 z2 => (e1 a c z1 (by omega)).symm) (fun a c _ _ => rfl)) (r2.ofc (fun a c q => (e2 a c (by omega)).symm)) (fun i hi => (r3 i hi).trans (e1 8 i (by omega) (by omega)))).ofc (fun a c q => e2 a c (by omega))
/-- the text is used up: what stays of the invariant's rest -/
theorem IX.used {S T : gS} (h : IX S) (t1 : rI T 55 0 = 0) (t2 : rI T 115 34 = 0) (hv : ∃ v : Nat, v ≤ 3 ∧ rI T 112 0 = nI v ∧ (∀ l, l < 3 → (rI T 142 l = 0 ↔ ¬ l < v)) ∧ ∀ l, l < v → rI T 113 l = rI T 142 l ∧ rI T 114 l = rI T 143 l) (e : ∀ a c, (a = 0 ∧ c = 11) ∨ (12 ≤ a ∧ a ≤ 22) ∨ (a = 115 ∧ c = 42) ∨ (a = 144 ∧ c < 218) → rI T a c = rI S a c) : IX T := by
  obtain ⟨_, _, h3, h4⟩ := h
  refine ⟨⟨0, by omega, t1, t2, fun j hj => absurd hj (Nat.not_lt_zero j)⟩, hv, by rw [e 0 11 (by omega), e 115 42 (by omega)]; exact h3, ?_⟩
  rw [e 115 42 (by omega)]
  intro z
  obtain ⟨Q, n, q1, q2, q3, q4, q5⟩ := h4 z
  exact ⟨Q, n, q1, fun a c z1 z2 => (e (11 + a) c (by omega)).trans (q2 a c z1 z2), fun k j z1 z2 => (e 144 _ (by omega)).trans (q3 k j z1 z2), (e 144 216 (by omega)).trans q4, (e 144 217 (by omega)).trans q5⟩
theorem fb_rd (S : gS) (a b c : Int32) (x y : Nat) : rI (f_X1_become S a b c) x y = if x = 112 ∧ y = 0 then 2 else if x = 114 ∧ y = 1 then c else if x = 113 ∧ y = 1 then b else if x = 114 ∧ y = 0 then a else if x = 113 ∧ y = 0 then 1 else rI S x y := by
  unfold f_X1_become
  simp only [rI_wI]
theorem fa_rd (S : gS) (a b : Int32) (x y : Nat) : rI (f_X1_addCause S a b) x y = if x = 112 ∧ y = 0 then 3 else if x = 114 ∧ y = 2 then b else if x = 113 ∧ y = 2 then a else rI S x y := by
  unfold f_X1_addCause
  simp only [rI_wI]
theorem ft_rd (S : gS) (i k p c r : Int32) (x y : Nat) : rI (f_X9_faults S i k p c r) x y = if x = 143 ∧ y = 2 then r else if x = 142 ∧ y = 2 then c else if x = 143 ∧ y = 1 then p else if x = 142 ∧ y = 1 then k else if x = 143 ∧ y = 0 then i else if x = 142 ∧ y = 0 then 1 else rI S x y := by
  unfold f_X9_faults
  simp only [rI_wI]
/-- the text is no text -/
theorem read_a {S Pz Rz : gS} {n : Nat} (hA : IA S n) (hH : IH S n) (hX : IX S) (u v : Int32) (hP : ∀ x y, ¬ (x = 55 ∧ (y = 1 ∨ y = 2)) → ¬ (58 ≤ x ∧ x < 112) → ¬ (x = 112 ∧ y = 0) → rI Pz x y = rI S x y) (hR : FR (r0S (f_X1_become (wI Pz 55 0 0) u 2 v)) Rz) (hl : ∀ x y, rL Pz x y = rL S x y) : Inv (f_X9_faults (wI Rz 115 34 0) u 2 v 0 0) := by
  have q := ft_rd (wI Rz 115 34 0) u 2 v 0 0
  have ql : ∀ x y, rL (f_X9_faults (wI Rz 115 34 0) u 2 v 0 0) x y = rL S x y := fun x y => by
    rw [fl_f_X9_faults, rL_wI, hR.2]
    show rL (f_X1_become (wI Pz 55 0 0) u 2 v) x y = _
    rw [fl_f_X1_become, rL_wI, hl]
  have b := fb_rd (wI Pz 55 0 0) u 2 v
  have fz : ∀ x y, (x < 115 ∨ (115 < x ∧ x < 138) ∨ 143 < x ∨ (x = 115 ∧ y ≠ 0 ∧ y ≠ 34 ∧ y ≠ 35 ∧ y ≠ 36 ∧ y ≠ 39)) → rI (f_X9_faults (wI Rz 115 34 0) u 2 v 0 0) x y = rI (f_X1_become (wI Pz 55 0 0) u 2 v) x y := fun x y h => by
    rw [q, if_neg (by omega), if_neg (by omega), if_neg (by omega), if_neg (by omega), if_neg (by omega), if_neg (by omega), rI_wIc (by omega), hR.1 x y (by omega), r0_fr (by omega) (by omega)]
  have t34 : rI (f_X9_faults (wI Rz 115 34 0) u 2 v 0 0) 115 34 = 0 := by rw [q, if_neg (by omega), if_neg (by omega), if_neg (by omega), if_neg (by omega), if_neg (by omega), if_neg (by omega), rI_same]
  have p0 : rI (f_X9_faults (wI Rz 115 34 0) u 2 v 0 0) 142 0 = 1 ∧ rI (f_X9_faults (wI Rz 115 34 0) u 2 v 0 0) 142 1 = 2 ∧ rI (f_X9_faults (wI Rz 115 34 0) u 2 v 0 0) 142 2 = 0 ∧ rI (f_X9_faults (wI Rz 115 34 0) u 2 v 0 0) 143 0 = u ∧ rI (f_X9_faults (wI Rz 115 34 0) u 2 v 0 0) 143 1 = v := by
    refine ⟨?_, ?_, ?_, ?_, ?_⟩ <;> rw [q] <;> simp (decide := true) only [if_false, if_true]
  have c0 : rI (f_X1_become (wI Pz 55 0 0) u 2 v) 112 0 = 2 ∧ rI (f_X1_become (wI Pz 55 0 0) u 2 v) 113 0 = 1 ∧ rI (f_X1_become (wI Pz 55 0 0) u 2 v) 113 1 = 2 ∧ rI (f_X1_become (wI Pz 55 0 0) u 2 v) 114 0 = u ∧ rI (f_X1_become (wI Pz 55 0 0) u 2 v) 114 1 = v := by
    refine ⟨?_, ?_, ?_, ?_, ?_⟩ <;> rw [b] <;> simp (decide := true) only [if_false, if_true]
  have c1 : ∀ x y, ¬ (x = 55 ∧ y < 3) → ¬ (58 ≤ x ∧ x < 115) → rI (f_X1_become (wI Pz 55 0 0) u 2 v) x y = rI S x y := fun x y z1 z2 => by
    rw [b, if_neg (by omega), if_neg (by omega), if_neg (by omega), if_neg (by omega), if_neg (by omega), rI_wIc (by omega), hP x y (by omega) (by omega) (by omega)]
  have c55 : rI (f_X1_become (wI Pz 55 0 0) u 2 v) 55 0 = 0 := by rw [b, if_neg (by omega), if_neg (by omega), if_neg (by omega), if_neg (by omega), if_neg (by omega), rI_same]
  clear hR q b
  revert ql fz t34 p0 c0 c1 c55
  generalize f_X9_faults (wI Rz 115 34 0) u 2 v 0 0 = T
  generalize f_X1_become (wI Pz 55 0 0) u 2 v = T1
  intro ql fz t34 p0 c0 c1 c55
  have f : ∀ x y, (x < 55 ∨ (115 < x ∧ x < 138) ∨ 143 < x ∨ (x = 115 ∧ y ≠ 0 ∧ y ≠ 34 ∧ y ≠ 35 ∧ y ≠ 36 ∧ y ≠ 39)) → rI T x y = rI S x y := fun x y z => (fz x y (by omega)).trans (c1 x y (by omega) (by omega))
  refine ⟨n, hA.of (fun a c z1 z2 => f a c (by omega)) (fun a c _ => ql a c), hH.of (fun a c z => f a c (by omega)), hX.used ((fz 55 0 (by omega)).trans c55) t34 ⟨2, by omega, (fz 112 0 (by omega)).trans c0.1, fun l hl => ?_, fun l hl => ?_⟩ (fun a c z => f a c (by omega))⟩
  · have : l = 0 ∨ l = 1 ∨ l = 2 := by omega
    rcases this with y | y | y <;> subst y
    · rw [p0.1]; decide
    · rw [p0.2.1]; decide
    · rw [p0.2.2.1]; decide
  · have : l = 0 ∨ l = 1 := by omega
    rcases this with y | y <;> subst y
    · rw [fz 113 0 (by omega), fz 114 0 (by omega), p0.1, p0.2.2.2.1, c0.2.1, c0.2.2.2.1]; exact ⟨rfl, rfl⟩
    · rw [fz 113 1 (by omega), fz 114 1 (by omega), p0.2.1, p0.2.2.2.2, c0.2.2.1, c0.2.2.2.2]; exact ⟨rfl, rfl⟩
/-- the items are carried out -/
theorem read_b {S C0 T1 R0 C R : gS} {n n' : Nat} (hA : IA S n) (hX : IX S) (hC0 : ∀ x y, x < 23 ∨ (33 < x ∧ x < 55) ∨ (112 < x ∧ x < 115) → rI C0 x y = rI S x y) (c55 : rI C0 55 0 = 0) (c112 : rI C0 112 0 = 0) (hT1 : T1 = f_X8_beginAnew C n') (hR0 : ∀ x y, x < 115 → rI R0 x y = rI T1 x y) (hR1 : ∀ x y, (115 < x ∧ x < 138) ∨ x = 143 ∨ (x = 144 ∧ y < 218) ∨ (x = 115 ∧ y = 42) → rI R0 x y = rI S x y) (r34 : rI R0 115 34 = 0) (r142 : ∀ l, l < 3 → rI R0 142 l = 0) (rd : RD C R n') (fc : FC C0 C) (fq : FQ R0 R) : Inv (rsF R n') := by
  subst hT1
  have e : ∀ a c, a < 115 → rI R a c = rI (f_X8_beginAnew C n') a c := fun a c z => (fq a c (by omega) (by omega)).trans (hR0 a c z)
  have e1 : ∀ a c, a < 115 → a ≠ 10 → a ≠ 11 → ¬ (a = 1 ∧ c = 1) → ¬ (a = 0 ∧ c = 12) → rI R a c = rI C a c := fun a c z1 z2 z3 z4 z5 => (e a c z1).trans (ba_fr _ _ z2 z3 z4 z5)
  have e2 : ∀ a c, (12 ≤ a ∧ a < 23) ∨ (33 < a ∧ a < 55) ∨ (112 < a ∧ a < 115) ∨ (a = 0 ∧ c ≠ 12) → rI R a c = rI S a c := fun a c z => (e1 a c (by omega) (by omega) (by omega) (by omega) (by omega)).trans ((fc a c (by omega)).trans (hC0 a c (by omega)))
  obtain ⟨d1, d2, d3, d4, d5, d6⟩ := rd.of (Tc := R) (Tr := R) (fun a c z1 z2 z3 => e1 a c (by omega) (by omega) (by omega) (by omega) (by omega)) (fun a c _ => rfl)
  refine anew2 (C := C) (n := n') d1 d2 (by rw [e2 40 3 (by omega)]; exact hA.2.2.1) (fun c => by rw [e2 43 c (by omega)]; exact hA.2.2.2.1 c) d3 d4 d5 d6 (hX.used ?_ ?_ ⟨0, by omega, ?_, fun l hl => ?_, fun l hl => absurd hl (Nat.not_lt_zero l)⟩ (fun a c z => ?_)) e
  · rw [e1 55 0 (by omega) (by omega) (by omega) (by omega) (by omega), fc 55 0 (by omega)]; exact c55
  · rw [fq 115 34 (by omega) (by omega)]; exact r34
  · rw [e1 112 0 (by omega) (by omega) (by omega) (by omega) (by omega), fc 112 0 (by omega)]; exact c112
  · rw [fq 142 l (by omega) (by omega), r142 l hl]
    exact ⟨fun _ => Nat.not_lt_zero l, fun _ => rfl⟩
  · by_cases z2 : a < 115
    · exact e2 a c (by omega)
    · exact (fq a c (by omega) (by omega)).trans (hR1 a c (by omega))
/-- an item is refused -/
theorem read_c {S C0 T1 R0 C R : gS} {n : Nat} {j m why op : Int32} (hA : IA S n) (hH : IH S n) (hX : IX S) (hC0 : ∀ x y, x < 23 ∨ (33 < x ∧ x < 55) → rI C0 x y = rI S x y) (c23 : rI C0 23 0 = rI S 1 0 ∧ rI C0 23 1 = rI S 1 1) (cr : ∀ r c, 1 ≤ r → r ≤ 10 → c < 24 → rI C0 (23 + r) c = rI S (1 + r) c) (c55 : rI C0 55 0 = 0) (hT1 : T1 = f_copy1_23 (f_X1_addCause (f_X1_become C j 3 m) why op)) (hR0 : ∀ x y, x < 115 → rI R0 x y = rI T1 x y) (hR1 : ∀ x y, (x = 144 ∧ y < 218) ∨ (x = 115 ∧ y = 42) → rI R0 x y = rI S x y) (r34 : rI R0 115 34 = 0) (kr : ∀ k j, k < 9 → j < 24 → rI R0 144 (220 + 24 * k + j) = rI S (116 + k) j) (k10 : rI R0 144 (220 + 216) = rI S 115 10) (k11 : rI R0 144 (220 + 217) = rI S 115 11) (hw : ¬ why = 0) (h7 : ∀ c, rI C 7 c = 0 ∨ rI C 7 c = 1) (fc : FC C0 C) (fq : FQ R0 R) : Inv (f_pass10 (f_X9_faults R j 3 m why op)) := by
  have a := fa_rd (f_X1_become C j 3 m) why op
  have b := fb_rd C j 3 m
  have F0 : rI (f_X1_addCause (f_X1_become C j 3 m) why op) 112 0 = 3 ∧ rI (f_X1_addCause (f_X1_become C j 3 m) why op) 113 0 = 1 ∧ rI (f_X1_addCause (f_X1_become C j 3 m) why op) 113 1 = 3 ∧ rI (f_X1_addCause (f_X1_become C j 3 m) why op) 113 2 = why ∧ rI (f_X1_addCause (f_X1_become C j 3 m) why op) 114 0 = j ∧ rI (f_X1_addCause (f_X1_become C j 3 m) why op) 114 1 = m ∧ rI (f_X1_addCause (f_X1_become C j 3 m) why op) 114 2 = op := by
    refine ⟨?_, ?_, ?_, ?_, ?_, ?_, ?_⟩ <;> rw [a] <;> (try rw [b]) <;> simp (decide := true) only [if_false, if_true]
  have F1 : ∀ x y, x < 112 ∨ 114 < x → rI (f_X1_addCause (f_X1_become C j 3 m) why op) x y = rI C x y := fun x y z => by rw [a, if_neg (by omega), if_neg (by omega), if_neg (by omega), b, if_neg (by omega), if_neg (by omega), if_neg (by omega), if_neg (by omega), if_neg (by omega)]
  clear a b
  revert hT1 F0 F1
  generalize f_X1_addCause (f_X1_become C j 3 m) why op = F
  intro hT1 F0 F1
  have s7 := hA.2.1
  obtain ⟨p1, ⟨p2, p3⟩, p4, p5⟩ := cp_1_23 F (fun c hc => by
    rw [F1 29 c (by omega), fc 29 c (by omega)]
    have := cr 6 c (by omega) (by omega) hc
    rw [show 23 + 6 = 29 from rfl] at this
    rw [this]
    exact s7 _)
  rw [← hT1] at p1 p2 p3 p4 p5
  have q := ft_rd R j 3 m why op
  have P0 : rI (f_X9_faults R j 3 m why op) 142 0 = 1 ∧ rI (f_X9_faults R j 3 m why op) 142 1 = 3 ∧ rI (f_X9_faults R j 3 m why op) 142 2 = why ∧ rI (f_X9_faults R j 3 m why op) 143 0 = j ∧ rI (f_X9_faults R j 3 m why op) 143 1 = m ∧ rI (f_X9_faults R j 3 m why op) 143 2 = op := by
    refine ⟨?_, ?_, ?_, ?_, ?_, ?_⟩ <;> rw [q] <;> simp (decide := true) only [if_false, if_true]
  have Q1 : ∀ x y, x < 142 ∨ 143 < x → rI (f_X9_faults R j 3 m why op) x y = rI R x y := fun x y z => by rw [q, if_neg (by omega), if_neg (by omega), if_neg (by omega), if_neg (by omega), if_neg (by omega), if_neg (by omega)]
  clear q hT1
  revert P0 Q1
  generalize f_X9_faults R j 3 m why op = G
  intro P0 Q1
  obtain ⟨g1, g2, g3, g4, g5⟩ := d_pass10 G
  revert g1 g2 g3 g4 g5
  generalize f_pass10 G = T
  intro g1 g2 g3 g4 g5
  -- the class's cells
  have t1 : ∀ x y, x < 115 → rI T x y = rI T1 x y := fun x y z => (g5 x y (by omega) (by omega)).trans ((Q1 x y (by omega)).trans ((fq x y (by omega) (by omega)).trans (hR0 x y z)))
  have t2 : ∀ x y, (11 < x ∧ x < 23) ∨ (33 < x ∧ x < 55) ∨ x = 0 → rI T x y = rI S x y := fun x y z => (t1 x y (by omega)).trans ((p4 x y (by omega)).trans ((F1 x y (by omega)).trans ((fc x y (by omega)).trans (hC0 x y (by omega)))))
  have t3 : ∀ r c, 1 ≤ r → r ≤ 10 → c < 24 → rI T (1 + r) c = rI S (1 + r) c := fun r c z1 z2 z3 => (t1 (1 + r) c (by omega)).trans ((p1 r c z1 z2 z3).trans ((F1 (23 + r) c (by omega)).trans ((fc (23 + r) c (by omega)).trans (cr r c z1 z2 z3))))
  have t4 : rI T 1 0 = rI S 1 0 := (t1 1 0 (by omega)).trans (p2.trans ((F1 23 0 (by omega)).trans ((fc 23 0 (by omega)).trans c23.1)))
  have t5 : rI T 1 1 = rI S 1 1 := (t1 1 1 (by omega)).trans (p3.trans ((F1 23 1 (by omega)).trans ((fc 23 1 (by omega)).trans c23.2)))
  have k144 : ∀ y, rI G 144 y = rI R0 144 y := fun y => (Q1 144 y (by omega)).trans (fq 144 y (by omega) (by omega))
  have tC : IC T n := by
    refine IC.ofb (S := S) ⟨hA.1, hA.2.1, hA.2.2.2.2.1, hA.2.2.2.2.2.1, hH⟩ (fun a c z1 z2 => ?_) (fun c z => ?_)
    · by_cases y1 : a = 1 ∧ c < 2
      · obtain ⟨y1, y2⟩ := y1
        subst y1
        have : c = 0 ∨ c = 1 := by omega
        rcases this with y | y <;> subst y
        · exact t4
        · exact t5
      · by_cases y2 : 2 ≤ a ∧ a ≤ 11
        · have := t3 (a - 1) c (by omega) (by omega) z1
          rw [show 1 + (a - 1) = a by omega] at this
          exact this
        · by_cases y3 : 116 ≤ a
          · have := g1 (a - 116) c (by omega) z1
            rw [show 116 + (a - 116) = a by omega, k144, kr (a - 116) c (by omega) z1, show 116 + (a - 116) = a by omega] at this
            exact this
          · have ya : a = 115 := by omega
            subst ya
            have : c = 10 ∨ c = 11 := by omega
            rcases this with y | y <;> subst y
            · rw [g2, k144, k10]
            · rw [g3, k144, k11]
    · rw [t1 7 c (by omega), p5 c z, F1 7 c (by omega)]
      exact h7 c
  have e1 : ∀ a c, c < 24 → (a = 1 ∧ c = 0) ∨ (2 ≤ a ∧ a ≤ 8) → rI T a c = rI S a c := fun a c z1 z2 => by
    by_cases y : a = 1 ∧ c = 0
    · rw [y.1, y.2]; exact t4
    · have := t3 (a - 1) c (by omega) (by omega) z1
      rw [show 1 + (a - 1) = a by omega] at this
      exact this
  refine ⟨n, ⟨tC.1, tC.2.1, by rw [t2 40 3 (by omega)]; exact hA.2.2.1, fun c => by rw [t2 43 c (by omega)]; exact hA.2.2.2.1 c, tC.2.2.1, tC.2.2.2.1, i4_ofb hA.2.2.2.2.2.2.1 hA.1.1.2.1 e1 (fun a c z => t2 a c (by omega)), fun z => absurd g4 z⟩, tC.2.2.2.2, hX.used ?_ ?_ ⟨3, by omega, ?_, fun l hl => ?_, fun l hl => ?_⟩ (fun a c z => ?_)⟩
  · rw [t1 55 0 (by omega), p4 55 0 (by omega), F1 55 0 (by omega), fc 55 0 (by omega)]; exact c55
  · rw [g5 115 34 (by omega) (by omega), Q1 115 34 (by omega), fq 115 34 (by omega) (by omega)]; exact r34
  · rw [t1 112 0 (by omega), p4 112 0 (by omega)]; exact F0.1
  · rw [g5 142 l (by omega) (by omega)]
    have : l = 0 ∨ l = 1 ∨ l = 2 := by omega
    rcases this with y | y | y <;> subst y
    · rw [P0.1]; decide
    · rw [P0.2.1]; decide
    · rw [P0.2.2.1]; exact ⟨fun z => absurd z hw, fun z => absurd (by omega) z⟩
  · rw [g5 142 l (by omega) (by omega), g5 143 l (by omega) (by omega), t1 113 l (by omega), t1 114 l (by omega), p4 113 l (by omega), p4 114 l (by omega)]
    have : l = 0 ∨ l = 1 ∨ l = 2 := by omega
    rcases this with y | y | y <;> subst y
    · rw [P0.1, P0.2.2.2.1, F0.2.1, F0.2.2.2.2.1]; exact ⟨rfl, rfl⟩
    · rw [P0.2.1, P0.2.2.2.2.1, F0.2.2.1, F0.2.2.2.2.2.1]; exact ⟨rfl, rfl⟩
    · rw [P0.2.2.1, P0.2.2.2.2.2, F0.2.2.2.1, F0.2.2.2.2.2.2]; exact ⟨rfl, rfl⟩
  · by_cases y : a < 115
    · exact t2 a c (by omega)
    · exact (g5 a c (by omega) (by omega)).trans ((Q1 a c (by omega)).trans ((fq a c (by omega) (by omega)).trans (hR1 a c (by omega))))

