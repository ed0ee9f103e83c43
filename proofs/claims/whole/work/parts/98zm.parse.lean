theorem dN_x {c c2 : Nat → Int32} {L : Nat} (h : ∀ a, pk c L a = pk c2 L a) : ∀ m a, dN c L m a = dN c2 L m a := by
  intro m
  induction m with
  | zero => intro a; rfl
  | succ m ih =>
    intro a
    show (if dg (pk c L a) = true then dN c L m (a + 1) + 1 else 0) = (if dg (pk c2 L a) = true then dN c2 L m (a + 1) + 1 else 0)
    rw [h, ih]
theorem dV_x {c c2 : Nat → Int32} {L : Nat} (h : ∀ a, pk c L a = pk c2 L a) : ∀ m a v, dV c L m a v = dV c2 L m a v := by
  intro m
  induction m with
  | zero => intro a v; rfl
  | succ m ih =>
    intro a v
    show (if dg (pk c L a) = true then dV c L m (a + 1) (10 * v + (pk c L a - 48)) else v) = (if dg (pk c2 L a) = true then dV c2 L m (a + 1) (10 * v + (pk c2 L a - 48)) else v)
    rw [h, ih]
theorem pIt_x {c c2 : Nat → Int32} {L : Nat} (h : ∀ a, pk c L a = pk c2 L a) (a : Nat) : pIt c L a = pIt c2 L a := by
  have e1 := dN_x h
  have e2 := dV_x h
  have nb : ∀ a, nB c L a = nB c2 L a := fun a => by unfold nB; rw [h]
  have ne : ∀ a, nE c L a = nE c2 L a := fun a => by unfold nE; rw [nb, e1]
  have nv : ∀ a, nV c L a = nV c2 L a := fun a => by unfold nV; rw [h, nb, e2]
  have fn : fNum c L = fNum c2 L := by
    funext a
    unfold fNum nO
    simp only [nb, e1, ne, nv]
  have fs : fSig c L = fSig c2 L := by
    funext a
    unfold fSig
    simp only [e1, e2]
  unfold pIt pOp pPair nO
  simp only [h, e1, e2, nb, ne, nv, fn, fs]
theorem pz_x {c c2 : Nat → Int32} {L : Nat} (h : ∀ a, pk c L a = pk c2 L a) : ∀ f n a S, pzS c L f n a S = pzS c2 L f n a S := by
  have hp := pIt_x h
  have hi : ∀ S a n, itX S c L a n = itX S c2 L a n := fun S a n => by unfold itX; rw [hp]
  intro f
  induction f with
  | zero => intro n a S; rfl
  | succ f ih =>
    intro n a S
    by_cases h1 : (pIt c L a).1 = 0
    · rw [pz_0 _ _ _ _ _ _ h1, pz_0 _ _ _ _ _ _ (by rw [← hp]; exact h1), hi, hp]
    by_cases h2 : (pIt c L a).2.1 = L
    · rw [pz_1 _ _ _ _ _ _ h1 h2, pz_1 _ _ _ _ _ _ (by rw [← hp]; exact h1) (by rw [← hp]; exact h2), hi, hp]
    by_cases h3 : pk c L (pIt c L a).2.1 = 59
    · rw [pz_2 _ _ _ _ _ _ h1 h2 h3, pz_2 _ _ _ _ _ _ (by rw [← hp]; exact h1) (by rw [← hp]; exact h2) (by rw [← hp, ← h]; exact h3), hi, hp, ih]
    · rw [pz_3 _ _ _ _ _ _ h1 h2 h3, pz_3 _ _ _ _ _ _ (by rw [← hp]; exact h1) (by rw [← hp]; exact h2) (by rw [← hp, ← h]; exact h3), hi, hp]
theorem ko_rng (v : Int32) (h : ¬ f_X5_kindOf v = -1) : 3 ≤ f_X5_kindOf v ∧ f_X5_kindOf v ≤ 12 := by
  revert h
  unfold f_X5_kindOf
  (repeat' split) <;> decide
/-- what an item that is right looks like -/
def nfI (v y z : Int32) : Prop := v ≤ 14 ∧ (v = 1 ∨ v = 2 → y = 0) ∧ (¬ v = 12 → z = 0)
theorem nf_3 {v : Int32} (h : 3 ≤ v) : ¬ (v = 1 ∨ v = 2) := fun q => by rcases q with q | q <;> rw [q] at h <;> exact absurd h (by decide)
theorem pOp_nf {c : Nat → Int32} {L a : Nat} {x : Int32} (h : ¬ (pOp c L a x).1 = 0) : nfI (pOp c L a x).2.2.1 (pOp c L a x).2.2.2.2.1 (pOp c L a x).2.2.2.2.2 := by
  unfold pOp at h ⊢
  by_cases h1 : f_X5_kindOf (pk c L a) = -1
  · rw [if_pos h1] at h; exact absurd rfl h
  · have r := ko_rng _ h1
    rw [if_neg h1] at h ⊢
    by_cases h2 : 0 < dN c L 2 (a + 1)
    · rw [if_pos h2] at h ⊢
      by_cases h3 : f_X5_kindOf (pk c L a) = 12
      · rw [if_pos h3] at h ⊢
        by_cases h4 : pk c L (a + 1 + dN c L 2 (a + 1)) = 58
        · rw [if_pos h4]
          exact ⟨(show (12 : Int32) ≤ 14 by decide), fun q => absurd q (show ¬ ((12 : Int32) = 1 ∨ (12 : Int32) = 2) by decide), fun q => absurd rfl q⟩
        · rw [if_neg h4] at h; exact absurd rfl h
      · rw [if_neg h3]
        exact ⟨le_14 r.2, fun q => absurd q (nf_3 r.1), fun _ => rfl⟩
    · rw [if_neg h2] at h; exact absurd rfl h
theorem pPair_nf {p : Prop} [Decidable p] {a1 : Nat} {v1 : Int32} {c : Nat → Int32} {L : Nat} {f : Nat → Int32 × Nat × Int32} {kd : Int32} (hk : kd ≤ 14) (h12 : ¬ (kd = 1 ∨ kd = 2)) : nfI (pPair p a1 v1 c L f kd).2.2.1 (pPair p a1 v1 c L f kd).2.2.2.2.1 (pPair p a1 v1 c L f kd).2.2.2.2.2 := by
  unfold pPair
  by_cases h1 : p
  · rw [if_pos h1]
    by_cases h2 : pk c L a1 = 58
    · rw [if_pos h2]; exact ⟨hk, fun q => absurd q h12, fun _ => rfl⟩
    · rw [if_neg h2]; exact ⟨hk, fun q => absurd q h12, fun _ => rfl⟩
  · rw [if_neg h1]; exact ⟨hk, fun q => absurd q h12, fun _ => rfl⟩
theorem pIt_nf {c : Nat → Int32} {L a : Nat} (h : ¬ (pIt c L a).1 = 0) : nfI (pIt c L a).2.2.1 (pIt c L a).2.2.2.2.1 (pIt c L a).2.2.2.2.2 := by
  unfold pIt at h ⊢
  by_cases h1 : pk c L a = 105
  · rw [if_pos h1]; exact pPair_nf (by decide) (by decide)
  rw [if_neg h1] at h ⊢
  by_cases h1 : pk c L a = 107
  · rw [if_pos h1]; exact ⟨(show (1 : Int32) ≤ 14 by decide), fun _ => rfl, fun _ => rfl⟩
  rw [if_neg h1] at h ⊢
  by_cases h1 : pk c L a = 114
  · rw [if_pos h1]; exact ⟨(show (2 : Int32) ≤ 14 by decide), fun _ => rfl, fun _ => rfl⟩
  rw [if_neg h1] at h ⊢
  by_cases h1 : pk c L a = 110
  · rw [if_pos h1]; exact pPair_nf (by decide) (by decide)
  rw [if_neg h1] at h ⊢
  by_cases h1 : pk c L a = 111
  · rw [if_pos h1]; exact ⟨(show (14 : Int32) ≤ 14 by decide), fun _ => rfl, fun _ => rfl⟩
  rw [if_neg h1] at h ⊢
  by_cases h2 : 0 < dN c L 2 a
  · rw [if_pos h2] at h ⊢; exact pOp_nf h
  · rw [if_neg h2] at h; exact absurd rfl h
theorem rX_rd (S : gS) (n : Nat) (kd x y z : Int32) (e : Nat) (m : Int32) (p q : Nat) (hp : p ≠ 115) : rI (rX S n kd x y z e m) p q = if p = 141 ∧ q = n then z else if p = 140 ∧ q = n then y else if p = 139 ∧ q = n then x else if p = 138 ∧ q = n then kd else rI S p q := by
  unfold rX
  rw [rp_fr (fun u => hp u.1) (fun u => hp u.1)]
  unfold rtS
  simp only [rI_wI]
/-- what the reference's parser leaves alone -/
def FR (S T : gS) : Prop := (∀ x y, (x < 115 ∨ (115 < x ∧ x < 138) ∨ 141 < x ∨ (x = 115 ∧ y ≠ 35 ∧ y ≠ 36 ∧ y ≠ 39)) → rI T x y = rI S x y) ∧ ∀ x y, rL T x y = rL S x y
theorem IT.of {Sc Sr Tc Tr : gS} {j : Nat} (h : IT Sc Sr j) (e1 : ∀ c, rI Tc (58 + 2 * j) c = rI Sc (58 + 2 * j) c) (e2 : ∀ c, rI Tc (58 + 2 * j + 1) c = rI Sc (58 + 2 * j + 1) c) (e3 : ∀ p, 138 ≤ p → p ≤ 141 → rI Tr p j = rI Sr p j) : IT Tc Tr j := by
  unfold IT at h ⊢
  rw [e1, e2, e2, e2, e3 138 (by omega) (by omega), e3 139 (by omega) (by omega), e3 140 (by omega) (by omega), e3 141 (by omega) (by omega)]
  exact h
theorem ix_x (S : gS) (c : Nat → Int32) (L a n : Nat) : rI (itX S c L a n) (58 + 2 * n + 1) 0 = (pIt c L a).2.2.2.1 ∧ rI (itX S c L a n) (58 + 2 * n + 1) 1 = (pIt c L a).2.2.2.2.1 ∧ rI (itX S c L a n) (58 + 2 * n + 1) 2 = (pIt c L a).2.2.2.2.2 := by
  unfold itX
  refine ⟨?_, ?_, ?_⟩
  · rw [it_rd, if_neg (by omega), if_neg (by omega), if_pos ⟨rfl, rfl⟩]
  · rw [it_rd, if_neg (by omega), if_pos ⟨rfl, rfl⟩]
  · rw [it_rd, if_pos ⟨rfl, rfl⟩]
def PS (Sr : gS) (p r : Int32 × gS) : Prop := (p.1 = 0 ↔ r.1 = 0) ∧ (∃ m, m ≤ 27 ∧ rI p.2 55 2 = nI m ∧ rI r.2 115 36 = nI m ∧ (¬ p.1 = 0 → ∀ j, j < m → IT p.2 r.2 j)) ∧ rI p.2 55 1 = rI r.2 115 35 ∧ FR Sr r.2
theorem parse2 (c : Nat → Int32) (L : Nat) (h80 : L ≤ 80) : ∀ f n a Sc Sr g, f + n = 27 → rPl Sr c L a n → L + 3 ≤ 3 * g + a → (∀ j, j < n → IT Sc Sr j) → PS Sr (pzS c L f n a Sc) (rzS g Sr) := by
  intro f
  induction f with
  | zero =>
    intro n a Sc Sr g hf hr hg hi
    have h1 := hr.2.2.1
    have h2 := hr.2.2.2
    exact absurd h80 (by omega)
  | succ f ih =>
    intro n a Sc Sr g hf hr hg hi
    have hal := hr.2.2.1
    have hna := hr.2.2.2
    obtain ⟨g, rfl⟩ : ∃ g', g = g' + 1 := ⟨g - 1, by omega⟩
    obtain ⟨m', k', x', y', z', e1, e2⟩ := hr.it
    have hT := hr.1.rX k' x' y' z' (pIt c L a).2.1 m'
    have ha := xa Sr n k' x' y' z' (pIt c L a).2.1 m'
    have hle := pIt_le (c := c) hal
    have frT : FR Sr (rX Sr n k' x' y' z' (pIt c L a).2.1 m') := by
      refine ⟨fun x y h => ?_, fun x y => rfl⟩
      unfold rX
      by_cases q : x = 115
      · subst q; rw [rp_fr (by omega) (by omega), rt_fr (by omega)]
      · rw [rp_fr (by omega) (by omega), rt_fr (by omega)]
    have itT : ¬ (pIt c L a).1 = 0 → ∀ j, j < n + 1 → IT (itX Sc c L a n) (rX Sr n k' x' y' z' (pIt c L a).2.1 m') j := by
      intro hk j hj
      by_cases e : j = n
      · subst e
        have e3 := e2 hk
        obtain ⟨x0, x1, x2⟩ := ix_x Sc c L a j
        have nf := pIt_nf hk
        have kd := pIt_kd hk
        rw [← e3] at nf kd x0 x1 x2
        have k0 := ix_k Sc c L a j
        rw [← e3] at k0
        unfold IT
        rw [k0, x0, x1, x2, rX_rd _ _ _ _ _ _ _ _ 138 j (by decide), rX_rd _ _ _ _ _ _ _ _ 139 j (by decide), rX_rd _ _ _ _ _ _ _ _ 140 j (by decide), rX_rd _ _ _ _ _ _ _ _ 141 j (by decide), if_neg (by omega), if_neg (by omega), if_neg (by omega), if_pos (by omega), if_neg (by omega), if_neg (by omega), if_pos (by omega), if_neg (by omega), if_pos (by omega), if_pos (by omega)]
        exact ⟨rfl, rfl, rfl, rfl, ⟨kd, nf.1⟩, nf.2.1, nf.2.2⟩
      · refine (hi j (by omega)).of (fun c => ix_fr (by omega) (by omega)) (fun c => ix_fr (by omega) (by omega)) (fun p h1 h2 => ?_)
        rw [rX_rd _ _ _ _ _ _ _ _ p j (by omega), if_neg (by omega), if_neg (by omega), if_neg (by omega), if_neg (by omega)]
    have hxc : ∀ j, rI (rX Sr n k' x' y' z' (pIt c L a).2.1 m') 137 j = c j := fun j => congrFun hT.2.2.2.2 j
    by_cases h1 : (pIt c L a).1 = 0
    · rw [pz_0 _ _ _ _ _ _ h1, rz_0 _ _ (by rw [e1]; exact h1), e1]
      exact ⟨Iff.rfl, ⟨n, by omega, cn_n _ _ _, hT.2.2.1, fun z => absurd rfl z⟩, (cn_a _ _ _).trans ha.symm, frT⟩
    have hU := hr.U (by rw [e1]; exact h1)
    have hV := hr.V (by rw [e1]; exact h1)
    rw [e1] at hU hV
    have adv := pIt_adv h1
    have hz := fun q => rz_1 g Sr (by rw [e1]; exact h1) q
    have hz2 := fun q => rz_2 g Sr (by rw [e1]; exact h1) q
    have hz3 := fun q => rz_3 g Sr (by rw [e1]; exact h1) q
    rw [e1] at hz hz2 hz3
    have it2 := itT h1
    clear itT e1 e2
    revert hT ha frT it2 hU hV hz hz2 hz3 hxc
    generalize rX Sr n k' x' y' z' (pIt c L a).2.1 m' = T
    intro hT ha frT hxc hU hV hz hz2 hz3 it2
    have hU1 := hU.1
    have h35 := hU.2.1
    have skU : f_X9_skips (wI T 115 36 (rI T 115 36 + 1)) 59 = if pk c L (pIt c L a).2.1 = 59 then (1, rfP (wI T 115 36 (rI T 115 36 + 1)) ((pIt c L a).2.1 + 1) (rI (wI T 115 36 (rI T 115 36 + 1)) 115 39)) else (0, wI T 115 36 (rI T 115 36 + 1)) := by
      have e2 := rsk (S := wI T 115 36 (rI T 115 36 + 1)) (m := rI (wI T 115 36 (rI T 115 36 + 1)) 115 39) (w := 59) ⟨hU1.1, hU1.2.1⟩ hle (by decide)
      rw [rp_id h35, hU1.2.2.2.2] at e2
      exact e2
    have frU : FR Sr (wI T 115 36 (rI T 115 36 + 1)) := ⟨fun x y h => (rI_wIc (by omega) _ _).trans (frT.1 x y h), fun x y => frT.2 x y⟩
    have itU : ∀ j, j < n + 1 → IT (itX Sc c L a n) (wI T 115 36 (rI T 115 36 + 1)) j := fun j hj => (it2 j hj).of (fun _ => rfl) (fun _ => rfl) (fun p q1 q2 => rI_wIk (by omega) _ _ _)
    revert skU frU itU hU1 h35 hU hV hz2 hz3
    generalize wI T 115 36 (rI T 115 36 + 1) = U
    intro hU hV hz2 hz3 hU1 h35 skU frU itU
    by_cases h2 : (pIt c L a).2.1 = L
    · have np : ¬ pk c L (pIt c L a).2.1 = 59 := by
        unfold pk
        rw [if_neg (by omega)]
        decide
      rw [if_neg np] at skU
      rw [pz_1 _ _ _ _ _ _ h1 h2, hz2 (Or.inl (by rw [hT.1, ha, h2, nI_le2 (by omega) (by omega)]; omega)) (by rw [skU]), skU]
      refine ⟨⟨fun z => absurd z (show ¬ (1 : Int32) = 0 by decide), fun z => absurd z (show ¬ (1 : Int32) = 0 by decide)⟩, ⟨n + 1, by omega, cn_n _ _ _, hU1.2.2.1, fun _ j hj => ?_⟩, (cn_a _ _ _).trans h35.symm, frU⟩
      exact (itU j hj).of (fun c => cn_fr (by omega) (by omega) _ _ _) (fun c => cn_fr (by omega) (by omega) _ _ _) (fun _ _ _ => rfl)
    by_cases h3 : pk c L (pIt c L a).2.1 = 59
    · have hlt : (pIt c L a).2.1 < L := by omega
      rw [if_pos h3] at skU
      have ce : c (pIt c L a).2.1 = 59 := by unfold pk at h3; rw [if_pos hlt] at h3; exact h3
      have n0 : ¬ (f_X9_skips U 59).1 = 0 := by rw [skU]; exact (show ¬ (1 : Int32) = 0 by decide)
      have hV2 := (hV n0).1
      rw [pz_2 _ _ _ _ _ _ h1 h2 h3, hz3 (Or.inr (by rw [ha, nI_c (by omega), hxc]; exact ce)) n0]
      rw [skU] at hV2 ⊢
      have frV : FR Sr (rfP U ((pIt c L a).2.1 + 1) (rI U 115 39)) := ⟨fun x y h => (rp_fr (by omega) (by omega) _ _ _).trans (frU.1 x y h), fun x y => frU.2 x y⟩
      have itV : ∀ j, j < n + 1 → IT (itX Sc c L a n) (rfP U ((pIt c L a).2.1 + 1) (rI U 115 39)) j := fun j hj => (itU j hj).of (fun _ => rfl) (fun _ => rfl) (fun p q1 q2 => rp_fr (by omega) (by omega) _ _ _)
      obtain ⟨r1, r2, r3, r4⟩ := ih (n + 1) ((pIt c L a).2.1 + 1) (itX Sc c L a n) (rfP U ((pIt c L a).2.1 + 1) (rI U 115 39)) g (by omega) hV2 (by omega) itV
      exact ⟨r1, r2, r3, fun x y h => (r4.1 x y h).trans (frV.1 x y h), fun x y => (r4.2 x y).trans (frV.2 x y)⟩
    · have hlt : (pIt c L a).2.1 < L := by omega
      have ce : ¬ c (pIt c L a).2.1 = 59 := by unfold pk at h3; rw [if_pos hlt] at h3; exact h3
      rw [pz_3 _ _ _ _ _ _ h1 h2 h3, hz (fun q => by
        rcases q with q | q
        · rw [hT.1, ha, nI_le2 (by omega) (by omega)] at q; omega
        · rw [ha, nI_c (by omega), hxc] at q; exact ce q)]
      exact ⟨Iff.rfl, ⟨n, by omega, cn_n _ _ _, hT.2.2.1, fun z => absurd rfl z⟩, (cn_a _ _ _).trans ha.symm, frT⟩

