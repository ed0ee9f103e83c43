/-! the class's circuit, well formed: n signals -/
def okI (S : gS) (n i : Nat) : Prop := (0 ≤ rI S 2 i ∧ rI S 2 i ≤ 12) ∧ (3 ≤ rI S 2 i → sgn (nI i) (rI S 3 i)) ∧ (3 ≤ rI S 2 i → rI S 2 i ≠ 9 → rI S 2 i ≠ 10 → sgn (nI i) (rI S 4 i)) ∧ (rI S 2 i = 12 → sgn (nI i) (rI S 5 i)) ∧ sgn (nI n) (rI S 6 i)
def okC (S : gS) (n : Nat) : Prop := rI S 1 0 = nI n ∧ n ≤ 24 ∧ ∀ i, i < n → okI S n i
theorem okC.a {S : gS} {n i : Nat} (h : okC S n) (hi : i < n) (hk : 3 ≤ rI S 2 i) : vp_in (rI S 3 i) 24 := by
  have h24 := h.2.1
  exact vin_of ((h.2.2 i hi).2.1 hk) (by omega)
theorem okC.b {S : gS} {n i : Nat} (h : okC S n) (hi : i < n) (hk : 3 ≤ rI S 2 i) (h9 : rI S 2 i ≠ 9) (h10 : rI S 2 i ≠ 10) : vp_in (rI S 4 i) 24 := by
  have h24 := h.2.1
  exact vin_of ((h.2.2 i hi).2.2.1 hk h9 h10) (by omega)
theorem okC.c {S : gS} {n i : Nat} (h : okC S n) (hi : i < n) (hk : rI S 2 i = 12) : vp_in (rI S 5 i) 24 := by
  have h24 := h.2.1
  exact vin_of ((h.2.2 i hi).2.2.2.1 hk) (by omega)
theorem okC.nx {S : gS} {n i : Nat} (h : okC S n) (hi : i < n) : vp_in (rI S 6 i) 24 := by
  have h24 := h.2.1
  exact vin_of (h.2.2 i hi).2.2.2.2 (by omega)
theorem okC.of {S T : gS} {n : Nat} (h : okC S n) (e : ∀ a c, (a = 1 ∧ c = 0) ∨ (2 ≤ a ∧ a ≤ 6) → rI T a c = rI S a c) : okC T n := by
  refine ⟨(e 1 0 (Or.inl ⟨rfl, rfl⟩)).trans h.1, h.2.1, fun i hi => ?_⟩
  have h9 := h.2.2 i hi
  unfold okI at *
  rw [e 2 i (by omega), e 3 i (by omega), e 4 i (by omega), e 5 i (by omega), e 6 i (by omega)]
  exact h9
theorem okC.twelve {S : gS} {n i : Nat} (h : okC S n) (hi : i < n) (h0 : ¬ rI S 2 i = 0) (h1 : ¬ rI S 2 i = 1) (h2 : ¬ rI S 2 i = 2) (h3 : ¬ rI S 2 i = 3) (h4 : ¬ rI S 2 i = 4) (h5 : ¬ rI S 2 i = 5) (h6 : ¬ rI S 2 i = 6) (h7 : ¬ rI S 2 i = 7) (h8 : ¬ rI S 2 i = 8) (h9 : ¬ rI S 2 i = 9) (h10 : ¬ rI S 2 i = 10) (h11 : ¬ rI S 2 i = 11) : rI S 2 i = 12 := by
  have hk := (h.2.2 i hi).1
  simp only [ieq, ile] at *
  simp at *
  omega
