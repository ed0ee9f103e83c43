/-- f 0, then f 1 .. f (n - 1) -/
def itr {α : Type} (f : Nat → α → α) : Nat → α → α
  | 0, s => s
  | n + 1, s => f n (itr f n s)
theorem itr_s {α : Type} (f : Nat → α → α) (n : Nat) (s : α) : itr f (n + 1) s = f n (itr f n s) := rfl
/-- what may be read of the signal j: its kind and operands -/
def okS (S : gS) (j : Nat) : Prop := (3 ≤ rI S 116 j → vp_in (rI S 117 j) 24) ∧ (3 ≤ rI S 116 j → rI S 116 j ≠ 9 → rI S 116 j ≠ 10 → vp_in (rI S 118 j) 24) ∧ (rI S 116 j = 12 → vp_in (rI S 119 j) 24) ∧ (0 ≤ rI S 116 j ∧ rI S 116 j ≤ 12)
theorem okS.twelve {S : gS} {j : Nat} (h : okS S j) (h2 : rI S 116 j ≠ 2) (hd : ∀ q ∈ ([(0, 84), (1, 95), (2, 231), (3, 106), (4, 106), (5, 106), (6, 121), (7, 121), (8, 121), (9, 136), (10, 159), (11, 182)] : List (Int32 × Nat)), rI S 116 j ≠ q.1) : rI S 116 j = 12 := by
  obtain ⟨-, -, -, h4, h5⟩ := h
  simp only [List.mem_cons, List.not_mem_nil, or_false, forall_eq_or_imp, forall_eq] at hd
  generalize rI S 116 j = k at *
  simp only [ne_eq, ieq, ile] at *
  simp at *
  omega
def frF (S : gS) (j : Nat) : gS :=
  if rI S 116 j = 0 then fndF S (rI S 117 j).toInt64 (rI S 118 j).toInt64
  else if rI S 116 j = 1 then fndF S (rI S 117 j).toInt64 (rI S 117 j).toInt64
  else if rI S 116 j = 3 ∨ rI S 116 j = 4 ∨ rI S 116 j = 5 then ariF S (rI S 116 j) (rL S 125 (rI S 117 j).toNatClampNeg) (rL S 126 (rI S 117 j).toNatClampNeg) (rL S 125 (rI S 118 j).toNatClampNeg) (rL S 126 (rI S 118 j).toNatClampNeg)
  else if rI S 116 j = 6 ∨ rI S 116 j = 7 ∨ rI S 116 j = 8 then logF S (rI S 116 j) (rL S 125 (rI S 117 j).toNatClampNeg) (rL S 126 (rI S 117 j).toNatClampNeg) (rL S 125 (rI S 118 j).toNatClampNeg) (rL S 126 (rI S 118 j).toNatClampNeg)
  else if rI S 116 j = 9 then witF S (rL S 125 (rI S 117 j).toNatClampNeg <<< ((rI S 118 j).toInt64 &&& 63)) (rL S 126 (rI S 117 j).toNatClampNeg <<< ((rI S 118 j).toInt64 &&& 63))
  else if rI S 116 j = 10 then witF S (rL S 125 (rI S 117 j).toNatClampNeg >>> ((rI S 118 j).toInt64 &&& 63)) (rL S 126 (rI S 117 j).toNatClampNeg >>> ((rI S 118 j).toInt64 &&& 63))
  else if rI S 116 j = 11 then fndF S (if rL S 126 (rI S 117 j).toNatClampNeg < rL S 125 (rI S 118 j).toNatClampNeg then 1 else 0) (if rL S 125 (rI S 117 j).toNatClampNeg < rL S 126 (rI S 118 j).toNatClampNeg then 1 else 0)
  else choF S (rL S 125 (rI S 117 j).toNatClampNeg) (rL S 126 (rI S 117 j).toNatClampNeg) (rL S 125 (rI S 118 j).toNatClampNeg) (rL S 126 (rI S 118 j).toNatClampNeg) (rL S 125 (rI S 119 j).toNatClampNeg) (rL S 126 (rI S 119 j).toNatClampNeg)
def frT (S : gS) (j : Nat) : gS := wL (wL (frF S j) 125 j (rL (frF S j) 115 16)) 126 j (rL (frF S j) 115 17)
theorem rI_fndF (S : gS) (a c : Int64) (k j : Nat) : rI (fndF S a c) k j = rI S k j := rfl
theorem rI_witF (S : gS) (a c : Int64) (k j : Nat) : rI (witF S a c) k j = rI S k j := by unfold witF; split <;> rfl
theorem rI_ariF (S : gS) (is : Int32) (a c d e : Int64) (k j : Nat) : rI (ariF S is a c d e) k j = rI S k j := rI_witF _ _ _ _ _
theorem rI_logF (S : gS) (is : Int32) (a c d e : Int64) (k j : Nat) : rI (logF S is a c d e) k j = rI S k j := by unfold logF; split; rfl; split <;> rfl
theorem rI_choF (S : gS) (a c d e f g : Int64) (k j : Nat) : rI (choF S a c d e f g) k j = rI S k j := by unfold choF; split; rfl; split <;> rfl
theorem rI_frF (S : gS) (i k j : Nat) : rI (frF S i) k j = rI S k j := by
  unfold frF
  split
  · rfl
  split
  · rfl
  split
  · exact rI_ariF _ _ _ _ _ _ _ _
  split
  · exact rI_logF _ _ _ _ _ _ _ _
  split
  · exact rI_witF _ _ _ _ _
  split
  · exact rI_witF _ _ _ _ _
  split
  · rfl
  exact rI_choF _ _ _ _ _ _ _ _ _
theorem rI_frT (S : gS) (i k j : Nat) : rI (frT S i) k j = rI S k j := rI_frF S i k j
/-- the register j takes its next signal's range in -/
def wdl (S : gS) (j : Nat) : Int64 := if ¬ rI S 115 14 < 4 ∧ sml (rL S 125 j) (rL S 125 (rI S 120 j).toNatClampNeg) < rL S 125 j then (if sml (rL S 125 j) (rL S 125 (rI S 120 j).toNatClampNeg) < 0 then dnL (sml (rL S 125 j) (rL S 125 (rI S 120 j).toNatClampNeg)) else 0) else sml (rL S 125 j) (rL S 125 (rI S 120 j).toNatClampNeg)
def wdm (S : gS) (j : Nat) : Int64 := if ¬ rI S 115 14 < 4 ∧ rL S 126 j < lrg (rL S 126 j) (rL S 126 (rI S 120 j).toNatClampNeg) then upL (lrg (rL S 126 j) (rL S 126 (rI S 120 j).toNatClampNeg)) else lrg (rL S 126 j) (rL S 126 (rI S 120 j).toNatClampNeg)
def wdT (S : gS) (j : Nat) : gS := wL (wL S 125 j (wdl S j)) 126 j (wdm S j)
abbrev wdC (S : gS) (j : Nat) : Prop := ¬ (wdl S j = rL S 125 j ∧ wdm S j = rL S 126 j)
theorem rI_wdT (S : gS) (i k j : Nat) : rI (wdT S i) k j = rI S k j := rfl
theorem frT_eq {S T : gS} {j : Nat} (h : frF S j = T) : frT S j = wL (wL T 125 j (rL T 115 16)) 126 j (rL (wL T 125 j (rL T 115 16)) 115 17) := by
  subst h
  rfl
theorem frF_0 {S : gS} {j : Nat} (h : rI S 116 j = 0) : frF S j = fndF S (rI S 117 j).toInt64 (rI S 118 j).toInt64 := by unfold frF; rw [h]; simp
theorem frF_1 {S : gS} {j : Nat} (h : rI S 116 j = 1) : frF S j = fndF S (rI S 117 j).toInt64 (rI S 117 j).toInt64 := by unfold frF; rw [h]; simp
theorem frF_3 {S : gS} {j : Nat} (h : rI S 116 j = 3) : frF S j = ariF S (rI S 116 j) (rL S 125 (rI S 117 j).toNatClampNeg) (rL S 126 (rI S 117 j).toNatClampNeg) (rL S 125 (rI S 118 j).toNatClampNeg) (rL S 126 (rI S 118 j).toNatClampNeg) := by unfold frF; rw [h]; simp
theorem frF_4 {S : gS} {j : Nat} (h : rI S 116 j = 4) : frF S j = ariF S (rI S 116 j) (rL S 125 (rI S 117 j).toNatClampNeg) (rL S 126 (rI S 117 j).toNatClampNeg) (rL S 125 (rI S 118 j).toNatClampNeg) (rL S 126 (rI S 118 j).toNatClampNeg) := by unfold frF; rw [h]; simp
theorem frF_5 {S : gS} {j : Nat} (h : rI S 116 j = 5) : frF S j = ariF S (rI S 116 j) (rL S 125 (rI S 117 j).toNatClampNeg) (rL S 126 (rI S 117 j).toNatClampNeg) (rL S 125 (rI S 118 j).toNatClampNeg) (rL S 126 (rI S 118 j).toNatClampNeg) := by unfold frF; rw [h]; simp
theorem frF_6 {S : gS} {j : Nat} (h : rI S 116 j = 6) : frF S j = logF S (rI S 116 j) (rL S 125 (rI S 117 j).toNatClampNeg) (rL S 126 (rI S 117 j).toNatClampNeg) (rL S 125 (rI S 118 j).toNatClampNeg) (rL S 126 (rI S 118 j).toNatClampNeg) := by unfold frF; rw [h]; simp
theorem frF_7 {S : gS} {j : Nat} (h : rI S 116 j = 7) : frF S j = logF S (rI S 116 j) (rL S 125 (rI S 117 j).toNatClampNeg) (rL S 126 (rI S 117 j).toNatClampNeg) (rL S 125 (rI S 118 j).toNatClampNeg) (rL S 126 (rI S 118 j).toNatClampNeg) := by unfold frF; rw [h]; simp
theorem frF_8 {S : gS} {j : Nat} (h : rI S 116 j = 8) : frF S j = logF S (rI S 116 j) (rL S 125 (rI S 117 j).toNatClampNeg) (rL S 126 (rI S 117 j).toNatClampNeg) (rL S 125 (rI S 118 j).toNatClampNeg) (rL S 126 (rI S 118 j).toNatClampNeg) := by unfold frF; rw [h]; simp
theorem frF_9 {S : gS} {j : Nat} (h : rI S 116 j = 9) : frF S j = witF S (rL S 125 (rI S 117 j).toNatClampNeg <<< ((rI S 118 j).toInt64 &&& 63)) (rL S 126 (rI S 117 j).toNatClampNeg <<< ((rI S 118 j).toInt64 &&& 63)) := by unfold frF; rw [h]; simp
theorem frF_10 {S : gS} {j : Nat} (h : rI S 116 j = 10) : frF S j = witF S (rL S 125 (rI S 117 j).toNatClampNeg >>> ((rI S 118 j).toInt64 &&& 63)) (rL S 126 (rI S 117 j).toNatClampNeg >>> ((rI S 118 j).toInt64 &&& 63)) := by unfold frF; rw [h]; simp
theorem frF_11 {S : gS} {j : Nat} (h : rI S 116 j = 11) {x y : Int64} (hx : (if rL S 126 (rI S 117 j).toNatClampNeg < rL S 125 (rI S 118 j).toNatClampNeg then (1 : Int64) else 0) = x) (hy : (if rL S 125 (rI S 117 j).toNatClampNeg < rL S 126 (rI S 118 j).toNatClampNeg then (1 : Int64) else 0) = y) : frF S j = fndF S x y := by subst hx; subst hy; unfold frF; rw [h]; simp
theorem frF_12 {S : gS} {j : Nat} (h : rI S 116 j = 12) : frF S j = choF S (rL S 125 (rI S 117 j).toNatClampNeg) (rL S 126 (rI S 117 j).toNatClampNeg) (rL S 125 (rI S 118 j).toNatClampNeg) (rL S 126 (rI S 118 j).toNatClampNeg) (rL S 125 (rI S 119 j).toNatClampNeg) (rL S 126 (rI S 119 j).toNatClampNeg) := by unfold frF; rw [h]; simp
