theorem q_read {S : gS} (h : Inv S) : A0 mX8_read mX9_read S := by
  obtain ⟨n, hA, hH, hX⟩ := h
  obtain ⟨L, l1, l2, l3, l4⟩ := hX.1
  have hct := ct_X8_read S L n hA.1.1 ⟨l2, l1⟩
  have hpk : ∀ a, pk (rI S 56) L a = pk (rI S 137) L a := fun a => by
    unfold pk
    by_cases q : a < L
    · rw [if_pos q, if_pos q, l4 a q]
    · rw [if_neg q, if_neg q]
  have hT : ∀ x y, 115 ≤ x → rI (f_X8_read S L).2 x y = rI S x y := fun x y z => rd_fr S L z
  have hpl : rPl (r0S (f_X8_read S L).2) (rI S 137) L 0 0 := by
    refine ⟨⟨?_, l1, ?_, by omega, ?_⟩, ?_, by omega, by omega⟩
    · rw [r0_fr (by omega) (by omega), hT 115 34 (by omega)]; exact l3
    · exact rI_same _ _ _ _
    · funext j; rw [r0_fr (by omega) (by omega), hT 137 j (by omega)]
    · unfold r0S; rw [rI_wIc (by omega), rI_same]; rfl
  have hps := parse2 (rI S 137) L l1 27 0 0 (f_X1_forget S) (r0S (f_X8_read S L).2) 28 (by omega) hpl (by omega) (fun j hj => absurd hj (Nat.not_lt_zero j))
  rw [← pz_x hpk] at hps
  have e8 : f_X8_read S L = (if (pzS (rI S 56) L 27 0 0 (f_X1_forget S)).1 = 0 then ((-1), (f_X1_become (wI (pzS (rI S 56) L 27 0 0 (f_X1_forget S)).2 55 0 0) ((rI (pzS (rI S 56) L 27 0 0 (f_X1_forget S)).2 55 2)) 2 ((rI (pzS (rI S 56) L 27 0 0 (f_X1_forget S)).2 55 1)))) else (cyF (rI (f_copy23_1 (wI (pzS (rI S 56) L 27 0 0 (f_X1_forget S)).2 55 0 0)) 55 2).toNatClampNeg 0 (f_copy23_1 (wI (pzS (rI S 56) L 27 0 0 (f_X1_forget S)).2 55 0 0)))) := rfl
  have hP : ∀ x y, ¬ (x = 55 ∧ (y = 1 ∨ y = 2)) → ¬ (58 ≤ x ∧ x < 112) → ¬ (x = 112 ∧ y = 0) → rI (pzS (rI S 56) L 27 0 0 (f_X1_forget S)).2 x y = rI S x y := fun x y z1 z2 z3 => by rw [pz_fr _ _ _ _ (by omega) (by omega) 27 0 0 _ (by omega), fgt_fr z3]
  have hP112 : rI (pzS (rI S 56) L 27 0 0 (f_X1_forget S)).2 112 0 = 0 := by
    rw [pz_fr _ _ _ _ (by omega) (by omega) 27 0 0 _ (by omega)]
    exact rI_same _ _ _ _
  have hPl : ∀ x y, rL (pzS (rI S 56) L 27 0 0 (f_X1_forget S)).2 x y = rL S x y := fun x y => by rw [fl_pzS]; rfl
  revert e8 hP hP112 hPl hps
  generalize pzS (rI S 56) L 27 0 0 (f_X1_forget S) = pz
  obtain ⟨pb, Pz⟩ := pz
  intro hps e8 hP hP112 hPl
  obtain ⟨s1, ⟨m, m1, m2, m3, m4⟩, s3, s4⟩ := hps
  have e9 : ∀ T, f_X9_read T L = (if (rzS 28 (r0S T)).1 = 0 then ((-1), (f_X9_faults (wI (rzS 28 (r0S T)).2 115 34 0) ((rI (rzS 28 (r0S T)).2 115 36)) 2 ((rI (rzS 28 (r0S T)).2 115 35)) 0 0)) else (ryF (rI (f_pass11 (wI (rzS 28 (r0S T)).2 115 34 0)) 115 36).toNatClampNeg 0 (f_pass11 (wI (rzS 28 (r0S T)).2 115 34 0)))) := fun T => rfl
  have e9 := e9 (f_X8_read S L).2
  by_cases hz : pb = 0
  · have hz2 := s1.mp hz
    have hR := ct_X9_read (f_X8_read S L).2 L ((hT 115 34 (by omega)).trans l3) l1 (fun z => absurd hz2 z)
    have e8 : f_X8_read S L = (-1, f_X1_become (wI Pz 55 0 0) (rI Pz 55 2) 2 (rI Pz 55 1)) := by rw [e8]; exact if_pos hz
    have m2' : rI Pz 55 2 = nI m := m2
    have s3' : rI Pz 55 1 = rI (rzS 28 (r0S (f_X8_read S L).2)).2 115 35 := s3
    rw [if_pos hz2, m3, ← m2', ← s3'] at e9
    rw [e9] at hR
    rw [e8] at hct
    have hv1 : (f_X8_read S L).1 = -1 := by rw [e8]
    rw [e8] at hR
    refine ⟨-1, _, _, hct, hR, ?_⟩
    · have s4' : FR (r0S (f_X1_become (wI Pz 55 0 0) (rI Pz 55 2) 2 (rI Pz 55 1))) (rzS 28 (r0S (f_X1_become (wI Pz 55 0 0) (rI Pz 55 2) 2 (rI Pz 55 1)))).2 := by rw [e8] at s4; exact s4
      exact read_a hA hH hX _ _ hP s4' hPl
  · have hz2 : ¬ (rzS 28 (r0S (f_X8_read S L).2)).1 = 0 := fun q => hz (s1.mpr q)
    have e8 : f_X8_read S L = cyF (rI (f_copy23_1 (wI Pz 55 0 0)) 55 2).toNatClampNeg 0 (f_copy23_1 (wI Pz 55 0 0)) := by rw [e8]; exact if_neg hz
    rw [if_neg hz2] at e9
    have it := m4 hz
    have m2' : rI Pz 55 2 = nI m := m2
    clear m2 m4 s3 s1
    have p1 : ∀ x y, x < 55 → rI (wI Pz 55 0 0) x y = rI S x y := fun x y z => by rw [rI_wIk (by omega), hP x y (by omega) (by omega) (by omega)]
    obtain ⟨c1, ⟨c2, c3⟩, c4, c5⟩ := cp_23_1 (wI Pz 55 0 0) (fun c _ => by rw [p1 7 c (by omega)]; exact hA.2.1 c)
    have hC0 : ∀ x y, x < 23 ∨ (33 < x ∧ x < 55) ∨ (112 < x ∧ x < 115) → rI (f_copy23_1 (wI Pz 55 0 0)) x y = rI S x y := fun x y z => by rw [c4 x y (by omega), rI_wIk (by omega), hP x y (by omega) (by omega) (by omega)]
    have c55 : rI (f_copy23_1 (wI Pz 55 0 0)) 55 0 = 0 := by rw [c4 55 0 (by omega), rI_same]
    have c552 : rI (f_copy23_1 (wI Pz 55 0 0)) 55 2 = nI m := by rw [c4 55 2 (by omega), rI_wIc (by omega)]; exact m2'
    have c112 : rI (f_copy23_1 (wI Pz 55 0 0)) 112 0 = 0 := by rw [c4 112 0 (by omega), rI_wIk (by omega)]; exact hP112
    have cit : ∀ x y, 58 ≤ x → x < 112 → rI (f_copy23_1 (wI Pz 55 0 0)) x y = rI Pz x y := fun x y z1 z2 => by rw [c4 x y (by omega), rI_wIk (by omega)]
    have cr : ∀ r c, 1 ≤ r → r ≤ 10 → c < 24 → rI (f_copy23_1 (wI Pz 55 0 0)) (23 + r) c = rI S (1 + r) c := fun r c z1 z2 z3 => by rw [c1 r c z1 z2 z3, p1 (1 + r) c (by omega)]
    have c23 : rI (f_copy23_1 (wI Pz 55 0 0)) 23 0 = rI S 1 0 ∧ rI (f_copy23_1 (wI Pz 55 0 0)) 23 1 = rI S 1 1 := ⟨c2.trans (p1 1 0 (by omega)), c3.trans (p1 1 1 (by omega))⟩
    rw [c552, nI_c (by omega)] at e8
    clear c1 c2 c3 c4 c5 p1
    revert e8 hC0 c55 c552 c112 cit cr c23
    generalize f_copy23_1 (wI Pz 55 0 0) = C0
    intro e8 hC0 c55 c552 c112 cit cr c23
    -- the reference's side
    obtain ⟨k1, k2, k3, k4, k5⟩ := d_pass11 (wI (rzS 28 (r0S (f_X8_read S L).2)).2 115 34 0)
    have z34 : rI (wI (rzS 28 (r0S (f_X8_read S L).2)).2 115 34 0) 115 34 = 0 := rI_same _ _ _ _
    have z1 : ∀ x y, (x < 115 ∨ (115 < x ∧ x < 138) ∨ 141 < x ∨ (x = 115 ∧ y ≠ 34 ∧ y ≠ 35 ∧ y ≠ 36 ∧ y ≠ 39)) → rI (wI (rzS 28 (r0S (f_X8_read S L).2)).2 115 34 0) x y = rI (r0S (f_X8_read S L).2) x y := fun x y z => by rw [rI_wIc (by omega), s4.1 x y (by omega)]
    have z36 : rI (wI (rzS 28 (r0S (f_X8_read S L).2)).2 115 34 0) 115 36 = nI m := by rw [rI_wIc (by omega)]; exact m3
    have zit : ∀ x y, 138 ≤ x → x ≤ 141 → rI (wI (rzS 28 (r0S (f_X8_read S L).2)).2 115 34 0) x y = rI (rzS 28 (r0S (f_X8_read S L).2)).2 x y := fun x y q1 q2 => rI_wIk (by omega) _ _ _
    have r0a : ∀ x y, x < 115 → rI (r0S (f_X8_read S L).2) x y = rI (f_X8_read S L).2 x y := fun x y z => r0_fr (by omega) (by omega)
    have r0b : ∀ x y, 115 ≤ x → ¬ (x = 115 ∧ (y = 0 ∨ y = 35 ∨ y = 36)) → ¬ (x = 142 ∧ y < 3) → rI (r0S (f_X8_read S L).2) x y = rI S x y := fun x y q1 q2 q3 => (r0_fr q2 q3).trans (hT x y q1)
    have r142 : ∀ l, l < 3 → rI (r0S (f_X8_read S L).2) 142 l = 0 := fun l hl => r0_142 hl
    have hR := ct_X9_read (f_X8_read S L).2 L ((hT 115 34 (by omega)).trans l3) l1
    have hR : _ → _ := fun z => hR (fun _ => z)
    have key : ∀ R0, KD (wI (rzS 28 (r0S (f_X8_read S L).2)).2 115 34 0) R0 220 → rI R0 115 36 = nI m ∧ RD C0 R0 n ∧ (∀ j, j < m → IT C0 R0 j) ∧ (∀ x y, x < 115 → rI R0 x y = rI (f_X8_read S L).2 x y) ∧ (∀ x y, (115 < x ∧ x < 138) ∨ x = 143 ∨ (x = 144 ∧ y < 218) ∨ (x = 115 ∧ y = 42) → rI R0 x y = rI S x y) ∧ rI R0 115 34 = 0 ∧ (∀ l, l < 3 → rI R0 142 l = 0) ∧ (∀ k j, k < 9 → j < 24 → rI R0 144 (220 + 24 * k + j) = rI S (116 + k) j) ∧ rI R0 144 (220 + 216) = rI S 115 10 ∧ rI R0 144 (220 + 217) = rI S 115 11 := by
      intro R0 hk
      obtain ⟨k1, k2, k3, k4, k5⟩ := hk
      have w1 : ∀ x y, (115 < x ∧ x < 138) ∨ x = 143 ∨ (x = 144 ∧ y < 218) ∨ (x = 115 ∧ (y = 42 ∨ y = 10 ∨ y = 11)) → rI R0 x y = rI S x y := fun x y z => (k4 x y (by omega) (by omega)).trans ((z1 x y (by omega)).trans (r0b x y (by omega) (by omega) (by omega)))
      refine ⟨(k4 115 36 (by omega) (by omega)).trans z36, (Inv.rd hA hH).of (fun a c q1 q2 q3 => hC0 a c (by omega)) (fun a c z => w1 a c (by omega)), fun j hj => (it j hj).of (fun c => cit _ c (by omega) (by omega)) (fun c => cit _ c (by omega) (by omega)) (fun p q1 q2 => (k4 p j (by omega) (by omega)).trans (zit p j q1 q2)), fun x y z => (k4 x y (by omega) (by omega)).trans ((z1 x y (by omega)).trans (r0a x y z)), fun x y z => w1 x y (by omega), (k4 115 34 (by omega) (by omega)).trans z34, fun l hl => (k4 142 l (by omega) (by omega)).trans ((z1 142 l (by omega)).trans (r142 l hl)), fun k j hk hj => ?_, ?_, ?_⟩
      · rw [k1 k j hk hj, z1 (116 + k) j (by omega), r0b (116 + k) j (by omega) (by omega) (by omega)]
      · rw [k2, z1 115 10 (by omega), r0b 115 10 (by omega) (by omega) (by omega)]
      · rw [k3, z1 115 11 (by omega), r0b 115 11 (by omega) (by omega) (by omega)]
    have key := key _ ⟨k1, k2, k3, k4, k5⟩
    clear k1 k2 k3 k4 k5 z34 z1 z36 zit r0a r0b r142
    have hR := hR ⟨by rw [key.1, nI_c (by omega)]; omega, by rw [key.1, nI_c (by omega)], ⟨n, key.2.1.1.okR⟩, fun j hj => by
      rw [key.1, nI_c (by omega)] at hj
      exact (key.2.2.1 j hj).2.2.2.2.1⟩
    rw [e9] at hR
    rw [key.1, nI_c (by omega)] at hR
    obtain ⟨y1, y2, y3, y4, y5, y6, y7, y8, y9, y10⟩ := key
    have cy := cyry m 0 C0 _ n (by omega) y2 (fun j _ hj => y3 j (by omega))
    clear e9 s4 m3 it
    revert hR y1 y2 y3 y4 y5 y6 y7 y8 y9 y10 cy
    generalize f_pass11 (wI (rzS 28 (r0S (f_X8_read S L).2)).2 115 34 0) = R0
    intro hR y1 y2 y3 y4 y5 y6 y7 y8 y9 y10 cy
    rcases cy with ⟨C, R, n', d1, d2, d3, d4, d5⟩ | ⟨C, R, n', j, why, op, d0, d1, d2, d3, d4, d5⟩
    · have v1 : (f_X8_read S L).1 = nI m := by
        rw [e8, d4]
        show rI (f_X8_beginAnew C n') 55 2 = nI m
        rw [ba_fr _ _ (by omega) (by omega) (by omega) (by omega), d2 55 2 (by omega)]; exact c552
      have v2 : rI (rsF R n') 115 36 = nI m := by rw [rs_fr _ _ (by omega) (by omega) (by omega) (by omega), d3 115 36 (by omega) (by omega)]; exact y1
      rw [v1] at hct
      rw [d5, v2] at hR
      refine ⟨nI m, _, _, hct, hR, read_b hA hX hC0 c55 c112 (T1 := (f_X8_read S L).2) ?_ y4 y5 y6 y7 d1 d2 d3⟩
      rw [e8, d4]
    · have v1 : (f_X8_read S L).1 = -1 := by rw [e8, d4]
      rw [v1] at hct
      rw [d5] at hR
      have hT1 : (f_X8_read S L).2 = f_copy1_23 (f_X1_addCause (f_X1_become C (nI j) 3 (nI n')) why op) := by rw [e8, d4]
      have fin : Inv (f_pass10 (f_X9_faults R (nI j) 3 (nI n') why op)) := read_c (S := S) (C0 := C0) (T1 := (f_X8_read S L).2) (R0 := R0) (C := C) (R := R) (n := n) hA hH hX (fun x y z => hC0 x y (by omega)) c23 cr c55 hT1 y4 (fun x y z => y5 x y (by omega)) y6 y8 y9 y10 d3 d0 d1 d2
      dsimp only at hR
      exact ⟨-1, _, _, hct, hR, fin⟩

