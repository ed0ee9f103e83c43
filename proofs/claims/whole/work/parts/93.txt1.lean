/-! the text as it is: its signs c, its length L, a place a in it -/
theorem wI_over (S : gS) (k j : Nat) (v w : Int32) : wI (wI S k j v) k j w = wI S k j w := by
  refine gS_ext (fun a c => ?_) (fun _ _ => rfl) (fun _ _ => rfl)
  simp only [rI_wI]
  by_cases h : a = k ∧ c = j
  · simp [h]
  · simp [h]
theorem wI_comm {k j k' j' : Nat} (h : ¬ (k = k' ∧ j = j')) (S : gS) (v w : Int32) : wI (wI S k j v) k' j' w = wI (wI S k' j' w) k j v := by
  refine gS_ext (fun a c => ?_) (fun _ _ => rfl) (fun _ _ => rfl)
  simp only [rI_wI]
  by_cases h1 : a = k ∧ c = j
  · by_cases h2 : a = k' ∧ c = j'
    · exact absurd ⟨h1.1.symm.trans h2.1, h1.2.symm.trans h2.2⟩ h
    · rw [if_neg h2, if_pos h1, if_pos h1]
  · rw [if_neg h1, if_neg h1]
theorem wI_id {S : gS} {k j : Nat} {v : Int32} (h : rI S k j = v) : wI S k j v = S := by
  refine gS_ext (fun a c => ?_) (fun _ _ => rfl) (fun _ _ => rfl)
  rw [rI_wI]
  split
  · rename_i q
    rw [q.1, q.2, h]
  · rfl
def dg (v : Int32) : Bool := decide (48 ≤ v) && decide (v ≤ 57)
theorem dg_t {v : Int32} : dg v = true ↔ 48 ≤ v ∧ v ≤ 57 := by unfold dg; simp
def pk (c : Nat → Int32) (L a : Nat) : Int32 := if a < L then c a else -1
theorem pk_l {c : Nat → Int32} {L a : Nat} {w : Int32} (h : pk c L a = w) (hw : w ≠ -1) : a < L := by
  unfold pk at h
  by_cases q : a < L
  · exact q
  · rw [if_neg q] at h
    exact absurd h.symm hw
theorem pk_ld {c : Nat → Int32} {L a : Nat} (h : dg (pk c L a) = true) : a < L := by
  by_cases q : a < L
  · exact q
  · unfold pk at h
    rw [if_neg q] at h
    exact absurd h (by decide)
def dN (c : Nat → Int32) (L : Nat) : Nat → Nat → Nat
  | 0, _ => 0
  | m + 1, a => if dg (pk c L a) = true then dN c L m (a + 1) + 1 else 0
def dV (c : Nat → Int32) (L : Nat) : Nat → Nat → Int32 → Int32
  | 0, _, v => v
  | m + 1, a, v => if dg (pk c L a) = true then dV c L m (a + 1) (10 * v + (pk c L a - 48)) else v
theorem dN_le (c : Nat → Int32) (L : Nat) : ∀ m a, a ≤ L → a + dN c L m a ≤ L := by
  intro m
  induction m with
  | zero => intro a h; exact h
  | succ m ih =>
    intro a h
    show a + (if dg (pk c L a) = true then dN c L m (a + 1) + 1 else 0) ≤ L
    split
    · rename_i q
      have := ih (a + 1) (pk_ld q)
      omega
    · exact h
/-- the class's text at a place -/
def clS (S : gS) (a : Nat) : gS := wI S 55 1 (nI a)
def txt (S : gS) (L : Nat) : Prop := rI S 55 0 = nI L ∧ L ≤ 80
theorem cl_rd (S : gS) (a : Nat) : rI (clS S a) 55 1 = nI a := rI_same _ _ _ _
theorem cl_fr {x y : Nat} (h : ¬ (x = 55 ∧ y = 1)) (S : gS) (a : Nat) : rI (clS S a) x y = rI S x y := rI_wIc h _ _
theorem cl_over (S : gS) (a b : Nat) : wI (clS S a) 55 1 (nI b) = clS S b := wI_over _ _ _ _ _
theorem cl_w {k : Nat} (h : k ≠ 55) (S : gS) (a j : Nat) (v : Int32) : wI (clS S a) k j v = clS (wI S k j v) a := wI_comm (fun q => h q.1.symm) _ _ _
theorem cl_id {S : gS} {a : Nat} (h : rI S 55 1 = nI a) : clS S a = S := wI_id h
theorem nI_p1 (a : Nat) : nI a + 1 = nI (a + 1) := nI_1 a
theorem pk_c {S : gS} {L a : Nat} (ht : txt S L) (ha : a ≤ L) : f_X5_peek (clS S a) = pk (rI S 56) L a := by
  unfold f_X5_peek pk
  have h80 := ht.2
  rw [cl_rd, cl_fr (by decide), ht.1]
  have h9 := @nI_le2 L a (by omega) (by omega)
  by_cases q : a < L
  · rw [if_neg (by rw [h9]; omega), if_pos q, cl_fr (by omega), nI_c (by omega)]
  · rw [if_pos (by rw [h9]; omega), if_neg q]
theorem isdig_0 (v : Int32) : (f_X5_isDigit v = 0) = (dg v = false) := by
  apply propext
  have h := @dg_t v
  unfold f_X5_isDigit
  rw [← Bool.not_eq_true, h]
  by_cases h1 : v < 48
  · rw [if_pos h1]
    simp only [true_iff]
    exact fun q => absurd h1 (Int32.not_lt.mpr q.1)
  · rw [if_neg h1]
    by_cases h2 : (57 : Int32) < v
    · rw [if_pos h2]
      simp only [true_iff]
      exact fun q => absurd h2 (Int32.not_lt.mpr q.2)
    · rw [if_neg h2]
      constructor
      · intro q; exact absurd q (by decide)
      · intro q; exact absurd ⟨Int32.not_lt.mp h1, Int32.not_lt.mp h2⟩ q
theorem dig2_c {S : gS} {L a k : Nat} (ht : txt S L) (ha : a ≤ L) (hk : k + 1 ≠ 55) (i : Int32) : f_dig2 (clS S a) k i = (bi (0 < dN (rI S 56) L 2 a), clS (wI S (k + 1) i.toNatClampNeg (dV (rI S 56) L 2 a 0)) (a + dN (rI S 56) L 2 a)) := by
  unfold f_dig2
  simp only [cl_rd, nI_p1, cl_over, isdig_0, pk_c ht ha]
  by_cases h0 : dg (pk (rI S 56) L (a)) = true
  · have l0 := pk_ld h0
    have p0 := pk_c ht (a := a + 1) (by omega)
    by_cases h1 : dg (pk (rI S 56) L (a + 1)) = true
    · have l1 := pk_ld h1
      simp [dN, dV, bi, h0, h1, p0, cl_w hk, Nat.add_assoc]
    · simp [dN, dV, bi, h0, h1, p0, cl_w hk, Nat.add_assoc]
  · simp [dN, dV, bi, h0, cl_w hk, Nat.add_assoc]

theorem dig4_c {S : gS} {L a k : Nat} (ht : txt S L) (ha : a ≤ L) (hk : k + 1 ≠ 55) (i : Int32) : f_dig4 (clS S a) k i = (bi (0 < dN (rI S 56) L 4 a), clS (wI S (k + 1) i.toNatClampNeg (dV (rI S 56) L 4 a 0)) (a + dN (rI S 56) L 4 a)) := by
  unfold f_dig4
  simp only [cl_rd, nI_p1, cl_over, isdig_0, pk_c ht ha]
  by_cases h0 : dg (pk (rI S 56) L (a)) = true
  · have l0 := pk_ld h0
    have p0 := pk_c ht (a := a + 1) (by omega)
    by_cases h1 : dg (pk (rI S 56) L (a + 1)) = true
    · have l1 := pk_ld h1
      have p1 := pk_c ht (a := a + 2) (by omega)
      by_cases h2 : dg (pk (rI S 56) L (a + 2)) = true
      · have l2 := pk_ld h2
        have p2 := pk_c ht (a := a + 3) (by omega)
        by_cases h3 : dg (pk (rI S 56) L (a + 3)) = true
        · have l3 := pk_ld h3
          simp [dN, dV, bi, h0, h1, h2, h3, p0, p1, p2, cl_w hk, Nat.add_assoc]
        · simp [dN, dV, bi, h0, h1, h2, h3, p0, p1, p2, cl_w hk, Nat.add_assoc]
      · simp [dN, dV, bi, h0, h1, h2, p0, p1, cl_w hk, Nat.add_assoc]
    · simp [dN, dV, bi, h0, h1, p0, cl_w hk, Nat.add_assoc]
  · simp [dN, dV, bi, h0, cl_w hk, Nat.add_assoc]

