-- needs 50.units 52.exec
/-- what a register takes over: the first i rows of taken; then the held values -/
def tkF (S : gS) (i : Nat) : gS := wR S 136 (fun c => if c < i then (if rI S 116 c = 2 then rI S 135 (rI S 120 c).toNatClampNeg else 0) else rI S 136 c)
theorem tkF_0 (S : gS) : tkF S 0 = S := wR_id (fun c => by simp)
theorem tkF_s (S : gS) (i : Nat) : wI (tkF S i) 136 i (if rI S 116 i = 2 then rI S 135 (rI S 120 i).toNatClampNeg else 0) = tkF S (i + 1) := by
  unfold tkF
  rw [wIR]
  refine wR_eq (fun c => ?_)
  by_cases hc : c = i
  · subst hc; simp
  · have hl : c < i + 1 ↔ c < i := by omega
    simp [hc, hl]
theorem rI_tkF (S : gS) (i a c : Nat) (h : a ≠ 136) : rI (tkF S i) a c = rI S a c := by
  unfold tkF
  rw [rI_wR, if_neg h]
def h1F (b : Int32) (i : Nat) (T : gS) : gS := if rI T 116 i = 2 then (if b = 0 then wI T 123 i (rI T 136 i) else wI T 124 i (naF T i (rI T 136 i))) else T
def hlF (S : gS) (b : Int32) (i : Nat) : gS := itr (h1F b) i S
theorem rI_hlF (S : gS) (b : Int32) (i a c : Nat) (h1 : a ≠ 123) (h2 : a ≠ 124) : rI (hlF S b i) a c = rI S a c := by
  induction i with
  | zero => rfl
  | succ i ih =>
    show rI (h1F b i (hlF S b i)) a c = _
    unfold h1F
    split
    · split
      · rw [rI_wI, if_neg (fun q => h1 q.1)]; exact ih
      · rw [rI_wI, if_neg (fun q => h2 q.1)]; exact ih
    · exact ih
theorem rL_hlF (S : gS) (b : Int32) (i a c : Nat) : rL (hlF S b i) a c = rL S a c := by
  induction i with
  | zero => rfl
  | succ i ih =>
    show rL (h1F b i (hlF S b i)) a c = _
    unfold h1F
    split
    · split <;> exact ih
    · exact ih
/-- one taking over -/
def toF (S : gS) (b : Int32) (n : Nat) : gS := hlF (tkF (evF S b n) n) b n
