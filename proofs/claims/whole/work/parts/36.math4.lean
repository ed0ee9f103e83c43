theorem f2_t {i : Nat} {p : Int32 × gS} (h : rI p.2 116 i = 2) (hw : wdC p.2 i) : f2 i p = (1, wdT p.2 i) := by
  unfold f2
  rw [if_pos h, if_pos hw]
theorem f2_f {i : Nat} {p : Int32 × gS} (h : rI p.2 116 i = 2) (hw : ¬ wdC p.2 i) : f2 i p = (p.1, wdT p.2 i) := by
  unfold f2
  rw [if_pos h, if_neg hw]
theorem f2_n {i : Nat} {p : Int32 × gS} (h : ¬ rI p.2 116 i = 2) : f2 i p = p := by
  unfold f2
  rw [if_neg h]
theorem ps2_s (S : gS) (i : Nat) : ps2 S (i + 1) = f2 i (ps2 S i) := rfl
theorem rnS_s (S : gS) (n k : Nat) : rnS S n (k + 1) = (rnF (rnS S n k) n).2 := rfl
theorem rnM_s (S : gS) (n k : Nat) : rnM S n (k + 1) = (rnF (rnS S n k) n).1 := rfl
/-- the rounds end: the K-th is the last -/
def rnEnd (S : gS) (n K : Nat) : Prop := (∀ k, k ≤ K → rnM S n k ≠ 0) ∧ rnM S n (K + 1) = 0
