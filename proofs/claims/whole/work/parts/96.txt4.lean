theorem ct_parse (S : gS) (L : Nat) (ht : txt S L) : gF mX5_parse [.ref 55] S (some (.int (pzS (rI S 56) L 27 0 0 S).1)) (pzS (rI S 56) L 27 0 0 S).2 := by
  refine go_enter [.ref 55] [(0, .ref 55)] (by decide +kernel) rfl rfl (Nat.le_of_ble_eq_true rfl) rfl ?_
  refine go_aload_n 1 dX5_parse_0 rfl rfl ?_
  refine go_iconst 2 (0) dX5_parse_1 rfl (by decide) ?_
  refine g_putI 5 dX5_parse_2 rfl fF_RX5_15 ly_55 rfl (fun q hq => by cases hq; rfl) rfl rfl ?_
  refine go_aload_n 6 dX5_parse_5 rfl rfl ?_
  refine go_iconst 7 (0) dX5_parse_6 rfl (by decide) ?_
  refine g_putI 10 dX5_parse_7 rfl fF_RX5_18 ly_55 rfl (fun q hq => by cases hq; rfl) rfl rfl ?_
  exact lp_parse (rI S 56) L ht.2 27 0 0 S rfl ht rfl (Nat.zero_le _)
/-! the reference's text at a place -/
def rfP (S : gS) (a : Nat) (m : Int32) : gS := wI (wI S 115 35 (nI a)) 115 39 m
def rtx (S : gS) (L : Nat) : Prop := rI S 115 34 = nI L ∧ L ≤ 80
theorem rp_a (S : gS) (a : Nat) (m : Int32) : rI (rfP S a m) 115 35 = nI a := by unfold rfP; rw [rI_wIc (by decide), rI_same]
theorem rp_m (S : gS) (a : Nat) (m : Int32) : rI (rfP S a m) 115 39 = m := rI_same _ _ _ _
theorem rp_fr {x y : Nat} (h1 : ¬ (x = 115 ∧ y = 35)) (h2 : ¬ (x = 115 ∧ y = 39)) (S : gS) (a : Nat) (m : Int32) : rI (rfP S a m) x y = rI S x y := (rI_wIc h2 _ _).trans (rI_wIc h1 _ _)
theorem rp_at (S : gS) (a b : Nat) (m : Int32) : wI (rfP S a m) 115 35 (nI b) = rfP S b m := by
  unfold rfP
  rw [wI_comm (by decide), wI_over]
theorem rp_num (S : gS) (a : Nat) (m v : Int32) : wI (rfP S a m) 115 39 v = rfP S a v := wI_over _ _ _ _ _
theorem rp_w {k : Nat} (h : k ≠ 115) (S : gS) (a : Nat) (m : Int32) (j : Nat) (v : Int32) : wI (rfP S a m) k j v = rfP (wI S k j v) a m := by
  unfold rfP
  rw [wI_comm (fun q => h q.1.symm), wI_comm (fun q => h q.1.symm)]
theorem rp_id {S : gS} {a : Nat} (h : rI S 115 35 = nI a) : rfP S a (rI S 115 39) = S := by
  unfold rfP
  rw [wI_id h, wI_id rfl]
theorem rpk {S : gS} {L a : Nat} (h : a < L) : rI S 137 a = pk (rI S 137) L a := by unfold pk; rw [if_pos h]
theorem rdig_0 {S : gS} {L a : Nat} {m : Int32} (ht : rtx S L) (ha : a ≤ L) : (f_X9_isDigit (rfP S a m) = 0) = (dg (pk (rI S 137) L a) = false) := by
  have h80 := ht.2
  apply propext
  unfold f_X9_isDigit
  rw [rp_a, rp_fr (by decide) (by decide), ht.1]
  have h9 := @nI_le2 L a (by omega) (by omega)
  by_cases q : a < L
  · rw [if_neg (by rw [h9]; omega), rp_fr (by omega) (by omega), nI_c (by omega), rpk q]
    unfold ibF
    rw [show (48 : Int64) = (48 : Int32).toInt64 from rfl, show (57 : Int64) = (57 : Int32).toInt64 from rfl]
    rw [bi_if]
    rw [← Bool.not_eq_true, dg_t]
    simp only [w_le]
    split
    · rename_i z
      constructor
      · intro y; exact absurd y (by decide)
      · intro y; exact absurd z y
    · rename_i z
      simp only [true_iff]
      exact z
  · rw [if_pos (by rw [h9]; omega)]
    unfold pk
    rw [if_neg q]
    simp only [true_iff]
    rfl
theorem rsk {S : gS} {L a : Nat} {m : Int32} (ht : rtx S L) (ha : a ≤ L) {w : Int32} (hw : w ≠ -1) : f_X9_skips (rfP S a m) w = if pk (rI S 137) L a = w then (1, rfP S (a + 1) m) else (0, rfP S a m) := by
  have h80 := ht.2
  unfold f_X9_skips
  rw [rp_a, rp_fr (by decide) (by decide), ht.1, nI_p1, rp_at]
  by_cases q : a < L
  · rw [if_neg (fun z => by have := nI_inj2 (by omega) (by omega) z; omega), rp_fr (by omega) (by omega), nI_c (by omega), rpk q]
  · have e : a = L := by omega
    subst e
    rw [if_pos rfl]
    unfold pk
    rw [if_neg q, if_neg (fun z => hw z.symm)]
/-- digits are numbers from 0 to 9 -/
theorem dg_n {t : Int32} (h : dg t = true) : ∃ k : Nat, k ≤ 9 ∧ t - 48 = nI k := by
  rw [dg_t] at h
  obtain ⟨h1, h2⟩ := h
  rw [ile] at h1 h2
  have e1 : (48 : Int32).toInt = 48 := rfl
  have e2 : (57 : Int32).toInt = 57 := rfl
  refine ⟨(t.toInt - 48).toNat, by omega, ?_⟩
  rw [ieq, nI_toInt (by omega), Int32.toInt_sub, e1]
  rw [Int.bmod_eq_of_le (by simp; omega) (by simp; omega)]
  omega
theorem ten_n (a b : Nat) : 10 * nI a + nI b = nI (10 * a + b) := by
  unfold nI
  rw [show (10 : Int32) = Int32.ofNat 10 from rfl, ← Int32.ofNat_mul, ← Int32.ofNat_add]
theorem n0_le {k : Nat} (h : k < 1000000) : (0 : Int32) ≤ nI k := by
  rw [ile, nI_toInt (by omega)]
  simp
theorem t_sub (v t : Int32) : 10 * v + t - 48 = 10 * v + (t - 48) := by
  rw [Int32.sub_eq_add_neg, Int32.sub_eq_add_neg, Int32.add_assoc]
theorem t_sub0 (t : Int32) : 0 + t - 48 = t - 48 := by rw [Int32.zero_add]
theorem t_mul0 (t : Int32) : 10 * 0 + (t - 48) = t - 48 := by
  rw [show (10 : Int32) * 0 = 0 from rfl, Int32.zero_add]
theorem rdg2_c {S : gS} {L a : Nat} {m : Int32} (ht : rtx S L) (ha : a ≤ L) : f_rdg2 (rfP S a m) = (if 0 < dN (rI S 137) L 2 a then dV (rI S 137) L 2 a 0 else -1, rfP S (a + dN (rI S 137) L 2 a) m) := by
  have h80 := ht.2
  unfold f_rdg2
  simp only [rp_a, nI_p1, rp_at, t_sub0, rdig_0 ht ha]
  by_cases h0 : dg (pk (rI S 137) L (a)) = true
  · have l0 := pk_ld h0
    have n0 : rI (rfP S a m) 137 (nI (a)).toNatClampNeg = pk (rI S 137) L (a) := by rw [rp_fr (by omega) (by omega), nI_c (by omega), rpk l0]
    have p1 := @rdig_0 S L (a + 1) m ht (by omega)
    obtain ⟨d0, b0, e0⟩ := dg_n h0
    have g1 : (0 : Int32) ≤ (pk (rI S 137) L (a) - 48) := by rw [e0]; exact n0_le (by omega)
    by_cases h1 : dg (pk (rI S 137) L (a + 1)) = true
    · have l1 := pk_ld h1
      have n1 : rI (rfP S a m) 137 (nI (a + 1)).toNatClampNeg = pk (rI S 137) L (a + 1) := by rw [rp_fr (by omega) (by omega), nI_c (by omega), rpk l1]
      simp [dN, dV, t_mul0, t_sub, h0, h1, n0, n1, p1, g1, Nat.add_assoc]
    · simp [dN, dV, t_mul0, t_sub, h0, h1, n0, p1, Nat.add_assoc]
  · simp [dN, dV, t_mul0, t_sub, h0, Nat.add_assoc]

theorem rdg4_c {S : gS} {L a : Nat} {m : Int32} (ht : rtx S L) (ha : a ≤ L) : f_rdg4 (rfP S a m) = (if 0 < dN (rI S 137) L 4 a then dV (rI S 137) L 4 a 0 else -1, rfP S (a + dN (rI S 137) L 4 a) m) := by
  have h80 := ht.2
  unfold f_rdg4
  simp only [rp_a, nI_p1, rp_at, t_sub0, rdig_0 ht ha]
  by_cases h0 : dg (pk (rI S 137) L (a)) = true
  · have l0 := pk_ld h0
    have n0 : rI (rfP S a m) 137 (nI (a)).toNatClampNeg = pk (rI S 137) L (a) := by rw [rp_fr (by omega) (by omega), nI_c (by omega), rpk l0]
    have p1 := @rdig_0 S L (a + 1) m ht (by omega)
    obtain ⟨d0, b0, e0⟩ := dg_n h0
    have g1 : (0 : Int32) ≤ (pk (rI S 137) L (a) - 48) := by rw [e0]; exact n0_le (by omega)
    by_cases h1 : dg (pk (rI S 137) L (a + 1)) = true
    · have l1 := pk_ld h1
      have n1 : rI (rfP S a m) 137 (nI (a + 1)).toNatClampNeg = pk (rI S 137) L (a + 1) := by rw [rp_fr (by omega) (by omega), nI_c (by omega), rpk l1]
      have p2 := @rdig_0 S L (a + 2) m ht (by omega)
      obtain ⟨d1, b1, e1⟩ := dg_n h1
      have g2 : (0 : Int32) ≤ (10 * (pk (rI S 137) L (a) - 48) + (pk (rI S 137) L (a + 1) - 48)) := by rw [e0, e1, ten_n]; exact n0_le (by omega)
      by_cases h2 : dg (pk (rI S 137) L (a + 2)) = true
      · have l2 := pk_ld h2
        have n2 : rI (rfP S a m) 137 (nI (a + 2)).toNatClampNeg = pk (rI S 137) L (a + 2) := by rw [rp_fr (by omega) (by omega), nI_c (by omega), rpk l2]
        have p3 := @rdig_0 S L (a + 3) m ht (by omega)
        obtain ⟨d2, b2, e2⟩ := dg_n h2
        have g3 : (0 : Int32) ≤ (10 * (10 * (pk (rI S 137) L (a) - 48) + (pk (rI S 137) L (a + 1) - 48)) + (pk (rI S 137) L (a + 2) - 48)) := by rw [e0, e1, e2, ten_n, ten_n]; exact n0_le (by omega)
        by_cases h3 : dg (pk (rI S 137) L (a + 3)) = true
        · have l3 := pk_ld h3
          have n3 : rI (rfP S a m) 137 (nI (a + 3)).toNatClampNeg = pk (rI S 137) L (a + 3) := by rw [rp_fr (by omega) (by omega), nI_c (by omega), rpk l3]
          simp [dN, dV, t_mul0, t_sub, h0, h1, h2, h3, n0, n1, n2, n3, p1, p2, p3, g1, g2, g3, Nat.add_assoc]
        · simp [dN, dV, t_mul0, t_sub, h0, h1, h2, h3, n0, n1, n2, p1, p2, p3, g1, g2, Nat.add_assoc]
      · simp [dN, dV, t_mul0, t_sub, h0, h1, h2, n0, n1, p1, p2, g1, Nat.add_assoc]
    · simp [dN, dV, t_mul0, t_sub, h0, h1, n0, p1, Nat.add_assoc]
  · simp [dN, dV, t_mul0, t_sub, h0, Nat.add_assoc]

