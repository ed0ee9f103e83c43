theorem rD_poF (S : gS) (j a c : Nat) : rD (poF S j).2 a c = rD S a c := by
  unfold poF
  split
  · rfl
  split
  · rfl
  split
  · rfl
  split
  · rfl
  split
  · rfl
  split
  · rfl
  split
  · rfl
  split
  · rfl
  rfl
theorem rD_pq (S : gS) (n k a c : Nat) : rD (pq S n k).2 a c = rD S a c := by
  induction k with
  | zero => rfl
  | succ k ih => exact (rD_poF _ _ a c).trans ih
theorem rD_pqS (S : gS) (n k a c : Nat) : rD (pqS S n k) a c = rD S a c := by
  induction k with
  | zero => rfl
  | succ k ih => exact (rD_pq _ _ _ a c).trans ih
theorem rD_rfO (S : gS) (k a c : Nat) : rD (rfO S k) a c = rD S a c := by
  induction k with
  | zero => rfl
  | succ k ih =>
    show rD (o1 k (rfO S k)) a c = _
    unfold o1
    split
    · exact ih
    · exact ih
theorem rD_rfW (S : gS) (i a c : Nat) : rD (rfW S i) a c = rD S a c := rfl
theorem rD_frF (S : gS) (j a c : Nat) : rD (frF S j) a c = rD S a c := by
  have hf : ∀ x y : Int64, rD (fndF S x y) a c = rD S a c := fun x y => rfl
  have hw : ∀ x y : Int64, rD (witF S x y) a c = rD S a c := fun x y => by
    unfold witF
    split <;> exact hf _ _
  unfold frF
  split
  · exact hf _ _
  split
  · exact hf _ _
  split
  · exact hw _ _
  split
  · unfold logF
    split
    · exact hf _ _
    split
    · exact hf _ _
    · exact hf _ _
  split
  · exact hw _ _
  split
  · exact hw _ _
  split
  · exact hf _ _
  · unfold choF
    split
    · exact hf _ _
    split
    · exact hf _ _
    · exact hf _ _
theorem rD_f1 (i : Nat) (T : gS) (a c : Nat) : rD (f1 i T) a c = rD T a c := by
  unfold f1 frT
  split
  · rfl
  · rw [rD_wL, rD_wL, rD_frF]
theorem rD_f2 (i : Nat) (p : Int32 × gS) (a c : Nat) : rD (f2 i p).2 a c = rD p.2 a c := by
  unfold f2 wdT
  split
  · rfl
  · rfl
theorem rD_ps1 (S : gS) (i a c : Nat) : rD (ps1 S i) a c = rD S a c := by
  induction i with
  | zero => rfl
  | succ i ih => exact (rD_f1 i _ a c).trans ih
theorem rD_ps2 (S : gS) (i a c : Nat) : rD (ps2 S i).2 a c = rD S a c := by
  induction i with
  | zero => rfl
  | succ i ih => exact (rD_f2 i _ a c).trans ih
theorem rD_rnS (S : gS) (n k a c : Nat) : rD (rnS S n k) a c = rD S a c := by
  induction k with
  | zero => rfl
  | succ k ih =>
    show rD (ps2 (ps1 (wI (rnS S n k) 115 14 (rI (rnS S n k) 115 14 + 1)) n) n).2 a c = _
    rw [rD_ps2, rD_ps1, rD_wI, ih]
theorem rD_rfT (S : gS) (n K G a c : Nat) : rD (rfT S n K G) a c = rD S a c := by
  unfold rfT
  rw [rD_pqS, rD_rfO, rD_rfW, rD_rnS, rD_wI]
  rfl
theorem rD_unF (S : gS) (i a c : Nat) : rD (unF S i) a c = rD S a c := by
  induction i with
  | zero => rfl
  | succ i ih =>
    show rD (un2 i (wI (unF S i) 134 i (-1))) a c = _
    rw [← ih]
    unfold un2
    split
    · rfl
    split <;> rfl
theorem anRd {S : gS} {n : Nat} (h : IA S n) : ∃ T, gF mX9_refreshes [.ref 115] S none T ∧ IA T n ∧ rI T 115 15 ≠ 0 ∧ (∀ a c, a ≠ 127 → a ≠ 128 → ¬ (a = 115 ∧ (c = 14 ∨ c = 15)) → rI T a c = rI S a c) ∧ (∀ a c, a ≠ 115 → a ≠ 125 → a ≠ 126 → rL T a c = rL S a c) ∧ (∀ a c, rD T a c = rD S a c) := by
  by_cases hf : rI S 115 15 = 0
  · obtain ⟨K, G, g1, g2, g3, g4, g5, g6, g7⟩ := analysis h.1 (fun i _ => h.2.1 i) h.2.2.1
    have hct := ct_X9_refreshes S n h.1.okR K g3 g4 G g5
    rw [if_pos hf] at hct
    have fr : ∀ a c, a ≠ 127 → a ≠ 128 → ¬ (a = 115 ∧ (c = 14 ∨ c = 15)) → rI (rfT S n K G) a c = rI S a c := fun a c z1 z2 z3 => rI_rfT S n K G a c z1 z2 z3
    have fl : ∀ a c, a ≠ 115 → a ≠ 125 → a ≠ 126 → rL (rfT S n K G) a c = rL S a c := fun a c z1 z2 z3 => rL_rfT S n K G a c z1 z2 z3
    have fd : ∀ a c, rD (rfT S n K G) a c = rD S a c := fun a c => rD_rfT S n K G a c
    have e15 : rI (rfT S n K G) 115 15 = 1 := by
      unfold rfT
      rw [rI_pqS _ _ _ _ _ (by decide), rI_rfO _ _ _ _ (by decide), rI_rfW _ _ _ _ (by decide) (by decide), rI_rnS _ _ _ _ _ (by decide), rI_wIc (by decide), rI_iniF, rI_same]
    have hany := an_any (fun i _ => h.2.1 i) h.2.2.1 g1 g2
    refine ⟨_, hct, ?_⟩
    revert fr fl fd e15 g6
    generalize rfT S n K G = T
    intro g6 fr fl fd e15
    obtain ⟨h1, h2, h3, h4, h5, h6, h7, h8⟩ := h
    have back : ∀ a c, a < 8 → ¬ (a = 1 ∧ c = 1) → a ≠ 0 → rI S a c = rI T a c := fun a c z1 z2 z3 => (fr a c (by omega) (by omega) (by omega)).symm
    refine ⟨⟨h1.of (fun a c z1 z2 z3 => fr a c (by omega) (by omega) (by omega)) (fun a c z => fr a c (by omega) (by omega) (by omega)), fun c => by rw [fr 7 c (by omega) (by omega) (by omega)]; exact h2 c, by rw [fr 40 3 (by omega) (by omega) (by omega)]; exact h3, fun c => by rw [fr 43 c (by omega) (by omega) (by omega)]; exact h4 c, fun i hi => by rw [fr 8 i (by omega) (by omega) (by omega)]; exact h5 i hi, fun i hi => by rw [fr 8 i (by omega) (by omega) (by omega), fr 122 i (by omega) (by omega) (by omega)]; exact h6 i hi, ?_, ?_⟩, by rw [e15]; decide, fr, fl, fd⟩
    · rw [fr 0 12 (by omega) (by omega) (by omega)]
      intro z
      obtain ⟨w1, w2⟩ := h7 z
      refine ⟨fun X hX => (w1 X (hX.of back)).ofc (fun a c q => fr a c (by omega) (by omega) (by omega)), fun R r1 r2 r3 => ?_⟩
      exact (w2 R (r1.of back (fun a c _ => rfl)) (r2.ofc (fun a c q => (fr a c (by omega) (by omega) (by omega)).symm)) (fun i hi => (r3 i hi).trans (fr 8 i (by omega) (by omega) (by omega)))).ofc (fun a c q => fr a c (by omega) (by omega) (by omega))
    · intro _ X hX
      exact AN.two g6 (hany X (hX.of back))
  · exact ⟨S, ct_X9_refreshes_f S hf, h, hf, fun a c _ _ _ => rfl, fun a c _ _ _ => rfl, fun a c => rfl⟩
theorem behindGd {T U : gS} {n : Nat} (tA : IA T n) (tH : IH T n) (tX : IX T) (ta : rI T 0 12 ≠ 0) (e : ∀ a c, ¬ (a = 115 ∧ c = 0) → rI U a c = rI T a c) (l : ∀ a c, a ≠ 145 → rL U a c = rL T a c) : ∃ V, gF mX9_refreshes [.ref 115] U none V ∧ IA V n ∧ IH V n ∧ IX V ∧ AN V V n ∧ UN V V n ∧ rI V 115 15 ≠ 0 ∧ rI V 115 0 = rI U 115 0 ∧ rL V 145 0 = rL U 145 0 ∧ (∀ a c, a < 115 → rI V a c = rI T a c) ∧ (∀ a c, 116 ≤ a → a ≤ 124 → rI V a c = rI T a c) ∧ (∀ c, c ≠ 0 → c ≠ 14 → c ≠ 15 → rI V 115 c = rI T 115 c) ∧ (∀ a c, rD V a c = rD U a c) := by
  have uA : IA U n := tA.of (fun a c z1 z2 => e a c (by omega)) (fun a c z => l a c (by omega))
  obtain ⟨V, v1, v2, v3, v4, v5, v6⟩ := anRd uA
  have va : rI V 0 12 ≠ 0 := by rw [v4 0 12 (by decide) (by decide) (by decide), e 0 12 (by decide)]; exact ta
  exact ⟨V, v1, v2, tH.of (fun a c z => (v4 a c (by omega) (by omega) (by omega)).trans (e a c (by omega))), tX.of (fun a c z => (v4 a c (by omega) (by omega) (by omega)).trans (e a c (by omega))), v2.alike va v3, v2.units va v3, v3, v4 115 0 (by decide) (by decide) (by decide), v5 145 0 (by decide) (by decide) (by decide), fun a c z => (v4 a c (by omega) (by omega) (by omega)).trans (e a c (by omega)), fun a c z1 z2 => (v4 a c (by omega) (by omega) (by omega)).trans (e a c (by omega)), fun c z1 z2 z3 => (v4 115 c (by decide) (by decide) (by omega)).trans (e 115 c (by omega)), v6⟩
/-- behind a call of the class, the reference finds its units -/
theorem behindUd {T U0 : gS} {n : Nat} (tA : IA T n) (tH : IH T n) (tX : IX T) (ta : rI T 0 12 ≠ 0) (e : ∀ a c, ¬ (a = 115 ∧ c = 0) → rI U0 a c = rI T a c) (l : ∀ a c, a ≠ 145 → rL U0 a c = rL T a c) : ∃ U m, gF mX9_findUnits [.ref 115] U0 none U ∧ IA U n ∧ IH U n ∧ IX U ∧ CI T U n ∧ (∀ i, i < n → rI T 42 i = woF U i) ∧ m ≤ n ∧ UQ T U m ∧ (∀ i, i < n → rI T 50 i = rI U 134 i) ∧ okR U n ∧ rI U 115 0 = rI U0 115 0 ∧ rL U 145 0 = rL U0 145 0 ∧ rI U 115 15 ≠ 0 ∧ (∀ a c, a < 115 → rI U a c = rI T a c) ∧ (∀ a c, rD U a c = rD U0 a c) := by
  obtain ⟨V, v1, vA, vH, vX, vN, vU, vf, v0, vo, vc, vr, vz, vd⟩ := behindGd tA tH tX ta e l
  have f : ∀ a c, a < 129 ∨ 134 < a → ¬ (a = 115 ∧ c = 26) → rI (unF V n) a c = rI V a c := fun a c z1 z2 => rI_unF _ _ _ _ z1 z2
  have g : ∀ a c, rL (unF V n) a c = rL V a c := fun a c => rL_unF _ _ _ _
  have gd : ∀ a c, rD (unF V n) a c = rD V a c := fun a c => rD_unF _ _ _ _
  have hct := ct_X9_findUnits U0 V n v1 vA.1.okR
  obtain ⟨m, m1, m2, m3⟩ := vU
  revert f g gd hct m2 m3
  generalize unF V n = U
  intro f g gd hct m2 m3
  have uA : IA U n := vA.of (fun a c z1 z2 => f a c (by omega) (by omega)) (fun a c z => g a c)
  refine ⟨U, m, hct, uA, vH.of (fun a c z => f a c (by omega) (by omega)), vX.of (fun a c z => f a c (by omega) (by omega)), ?_, fun i hi => ?_, m1, ⟨(vc 44 0 (by decide)).symm.trans m2.1, m2.2.1, fun u hu => ?_⟩, fun i hi => (vc 50 i (by decide)).symm.trans (m3 i hi), uA.1.okR, (f 115 0 (by decide) (by decide)).trans v0, (g 145 0).trans vo, by rw [f 115 15 (by decide) (by decide)]; exact vf, fun a c z => (f a c (by omega) (by omega)).trans (vc a c z), fun a c => (gd a c).trans (vd a c)⟩
  · exact vA.1.of (fun a c z1 z2 z3 => (vc a c (by omega)).symm) (fun a c z => f a c (by omega) (by omega))
  · rw [← vc 42 i (by decide), (vN.1 i hi).2.2.2.1, wo_of (f 128 i (by decide) (by omega))]
  · rw [← vc 45 u (by decide), ← vc 46 u (by decide), ← vc 47 u (by decide), ← vc 48 u (by decide), ← vc 49 u (by decide)]
    exact m2.2.2 u hu
/-- share by the wrapper of the law, and by the reference -/
def AD (S : gS) : Prop := ∃ k T1 b T2, gF mL_share [.ref 0, .ref 146] S (some (.int k)) T1 ∧ gF mX9_share [.ref 115] T1 (some (.double b)) T2 ∧ rI T2 115 0 = k ∧ (k = 0 → rD T2 146 0 = b ∧ FP.dcmp b b = some .eq) ∧ Inv T2
theorem toN_1 (U : gS) (n m : Nat) : toN U n m 1 = tsN U 1 n := rfl
theorem toN_0 (U : gS) (n m : Nat) : toN U n m 0 = tsN U 0 n := rfl
theorem q_share {S : gS} (h : Inv S) : AD S := by
  obtain ⟨n, T, hn, h24, ho, hA, hH, hX, t1, tA, tH, tX, ta, tF⟩ := front h
  have hct := ct_X8_share S T n tA.1.1 t1 (fun z => fp_n64 _ _ z)
  by_cases hz : f_X8_fullCost T n = 0
  · have e : f_X8_share S T n = (6, 0, T) := by unfold f_X8_share; rw [if_pos hz]
    rw [e] at hct
    have hL := ct_L_share S T 6 _ hct (Or.inr rfl)
    rw [if_neg (by decide), if_neg (by decide)] at hL
    obtain ⟨U, m, u1, uA, uH, uX, uC, u42, um, uQ, u50, uok, u0, uo, uf, uc, ud⟩ := behindUd (U0 := T) tA tH tX ta (fun a c z => rfl) (fun a c z => rfl)
    have hF := ct_X9_totalOf T U 1 n m u1 uok uQ.2.1 (by omega)
    rw [toN_1, ← sum_1 uC, hz] at hF
    have hR := ct_X9_share_z T U 0 rfl hF
    exact ⟨1, _, _, _, hL, hR, rI_same _ _ _ _, fun z => absurd z (by decide), Inv.refuse uA uH uX 1⟩
  · have e : f_X8_share S T n = (0, (FP.ddiv (FP.i2d ((f_X7_costOfAll T n))) (FP.i2d ((f_X8_fullCost T n)))), T) := by unfold f_X8_share; rw [if_neg hz]
    rw [e] at hct
    have hL := ct_L_share S T 0 _ hct (Or.inl rfl)
    rw [if_pos rfl, if_pos rfl] at hL
    obtain ⟨U, m, u1, uA, uH, uX, uC, u42, um, uQ, u50, uok, u0, uo, uf, uc, ud⟩ := behindUd (U0 := wD T 146 0 (FP.ddiv (FP.i2d ((f_X7_costOfAll T n))) (FP.i2d ((f_X8_fullCost T n))))) tA tH tX ta (fun a c z => rfl) (fun a c z => rfl)
    have hF := ct_X9_totalOf _ U 1 n m u1 uok uQ.2.1 (by omega)
    rw [toN_1, ← sum_1 uC] at hF
    have ua : rI U 0 12 ≠ 0 := by rw [uc 0 12 (by decide)]; exact ta
    obtain ⟨V, m2, v1, vA, vH, vX, vC, v42, vm, vQ, v50, vok, v0, vo, vf, vc, vd⟩ := behindUd (U0 := wI U 115 0 0) uA uH uX ua (fun a c z => rI_wIc z _ _) (fun a c z => rfl)
    have hG := ct_X9_totalOf _ V 0 n m2 v1 vok vQ.2.1 (by omega)
    have c0 : f_X7_costOfAll T n = tsN V 0 n := sum_0 (vC.of (fun a c z1 z2 z3 => (uc a c (by omega)).symm) (fun a c z => rfl)) (fun i hi => (uc 42 i (by decide)).symm.trans (v42 i hi))
    rw [toN_0, ← c0] at hG
    have hR := ct_X9_share _ U V (f_X8_fullCost T n) (f_X7_costOfAll T n) hz hF hG (fp_n64 _ _ hz)
    refine ⟨0, _, _, _, hL, hR, v0.trans (rI_same _ _ _ _), fun _ => ⟨?_, fp_eq _ _ hz⟩, ⟨n, vA, vH, vX⟩⟩
    rw [vd, rD_wI, ud, rD_wD, if_pos ⟨rfl, rfl⟩]
