/-- a whole row of longs -/
def wRL (S : gS) (k : Nat) (f : Nat → Int64) : gS := (S.1, fun a c => if a = k then f c else S.2.1 a c, S.2.2)
theorem rI_wRL (S : gS) (k : Nat) (f : Nat → Int64) (a c : Nat) : rI (wRL S k f) a c = rI S a c := rfl
theorem rL_wRL (S : gS) (k : Nat) (f : Nat → Int64) (a c : Nat) : rL (wRL S k f) a c = if a = k then f c else rL S a c := rfl
theorem rD_wRL (S : gS) (k : Nat) (f : Nat → Int64) (a c : Nat) : rD (wRL S k f) a c = rD S a c := rfl
theorem wLR (S : gS) (k : Nat) (f : Nat → Int64) (j : Nat) (v : Int64) : wL (wRL S k f) k j v = wRL S k (fun c => if c = j then v else f c) := by
  refine gS_ext (fun a c => rfl) (fun a c => ?_) (fun a c => rfl)
  simp only [rL_wL, rL_wRL]
  by_cases h1 : a = k <;> by_cases h2 : c = j <;> simp [h1, h2]
theorem wLRn {k k' : Nat} (h : k' ≠ k) (S : gS) (f : Nat → Int64) (j : Nat) (v : Int64) : wL (wRL S k f) k' j v = wRL (wL S k' j v) k f := by
  refine gS_ext (fun a c => rfl) (fun a c => ?_) (fun a c => rfl)
  simp only [rL_wL, rL_wRL]
  by_cases h1 : a = k
  · subst h1
    have h2 : ¬ a = k' := fun q => h q.symm
    simp [h2]
  · simp [h1]
theorem wRL_eq {S : gS} {k : Nat} {f g : Nat → Int64} (h : ∀ c, f c = g c) : wRL S k f = wRL S k g := by
  have : f = g := funext h
  rw [this]
theorem wRL_id {S : gS} {k : Nat} {f : Nat → Int64} (h : ∀ c, f c = rL S k c) : wRL S k f = S := by
  refine gS_ext (fun a c => rfl) (fun a c => ?_) (fun a c => rfl)
  rw [rL_wRL]
  by_cases h1 : a = k
  · rw [if_pos h1, h1]; exact h c
  · rw [if_neg h1]
def iniF (S : gS) (i : Nat) : gS := wRL (wRL S 125 (fun c => if c < i then (rI S 117 c).toInt64 else rL S 125 c)) 126 (fun c => if c < i then (rI S 117 c).toInt64 else rL S 126 c)
theorem iniF_0 (S : gS) : iniF S 0 = S := by
  unfold iniF
  rw [wRL_id (k := 125) (fun c => by simp), wRL_id (fun c => by simp)]
theorem iniF_s (S : gS) (i : Nat) : wL (wL (iniF S i) 125 i (rI S 117 i).toInt64) 126 i (rI S 117 i).toInt64 = iniF S (i + 1) := by
  unfold iniF
  rw [wLRn (by decide), wLR, wLR]
  have key : ∀ k : Nat, (fun c => if c = i then (rI S 117 i).toInt64 else if c < i then (rI S 117 c).toInt64 else rL S k c) = (fun c => if c < i + 1 then (rI S 117 c).toInt64 else rL S k c) := by
    intro k
    funext c
    by_cases hc : c = i
    · subst hc; simp
    · have hl : c < i + 1 ↔ c < i := by omega
      simp [hc, hl]
  rw [key, key]
theorem rI_iniF (S : gS) (i a c : Nat) : rI (iniF S i) a c = rI S a c := rfl
/-- one turn over the signals, one over the registers -/
def f1 (i : Nat) (T : gS) : gS := if rI T 116 i = 2 then T else frT T i
def f2 (i : Nat) (p : Int32 × gS) : Int32 × gS := if rI p.2 116 i = 2 then (if wdC p.2 i then 1 else p.1, wdT p.2 i) else p
def ps1 (S : gS) (i : Nat) : gS := itr f1 i S
def ps2 (S : gS) (i : Nat) : Int32 × gS := itr f2 i (0, S)
theorem rI_f1 (i : Nat) (T : gS) (a c : Nat) : rI (f1 i T) a c = rI T a c := by
  unfold f1
  split
  · rfl
  · exact rI_frT _ _ _ _
theorem rI_f2 (i : Nat) (p : Int32 × gS) (a c : Nat) : rI (f2 i p).2 a c = rI p.2 a c := by
  unfold f2
  split
  · exact rI_wdT _ _ _ _
  · rfl
theorem rI_ps1 (S : gS) (i a c : Nat) : rI (ps1 S i) a c = rI S a c := by
  induction i with
  | zero => rfl
  | succ i ih => exact (rI_f1 i _ a c).trans ih
theorem rI_ps2 (S : gS) (i a c : Nat) : rI (ps2 S i).2 a c = rI S a c := by
  induction i with
  | zero => rfl
  | succ i ih => exact (rI_f2 i _ a c).trans ih
def rnF (S : gS) (n : Nat) : Int32 × gS := ps2 (ps1 (wI S 115 14 (rI S 115 14 + 1)) n) n
def rnS (S : gS) (n : Nat) : Nat → gS
  | 0 => S
  | k + 1 => (rnF (rnS S n k) n).2
def rnM (S : gS) (n : Nat) : Nat → Int32
  | 0 => 1
  | k + 1 => (rnF (rnS S n k) n).1
theorem rI_rnF (S : gS) (n a c : Nat) : rI (rnF S n).2 a c = if a = 115 ∧ c = 14 then rI S 115 14 + 1 else rI S a c := by
  unfold rnF
  rw [rI_ps2, rI_ps1, rI_wI]
theorem rI_rnS (S : gS) (n k a c : Nat) (h : ¬ (a = 115 ∧ c = 14)) : rI (rnS S n k) a c = rI S a c := by
  induction k with
  | zero => rfl
  | succ k ih => 
    show rI (rnF (rnS S n k) n).2 a c = _
    rw [rI_rnF, if_neg h, ih]
theorem okS_of {S T : gS} {j : Nat} (h : okS S j) (e : ∀ k, 116 ≤ k → rI T k j = rI S k j) : okS T j := by
  unfold okS
  rw [e 116 (by decide), e 117 (by decide), e 118 (by decide), e 119 (by decide)]
  exact h
/-- what the signals must be for the ranges to be found -/
def okR (S : gS) (n : Nat) : Prop := rI S 115 10 = nI n ∧ n ≤ 24 ∧ ∀ i, i < n → okS S i ∧ (rI S 116 i = 2 → vp_in (rI S 120 i) 24)
theorem okR_of {S T : gS} {n : Nat} (h : okR S n) (e0 : rI T 115 10 = rI S 115 10) (e : ∀ k j, 116 ≤ k → rI T k j = rI S k j) : okR T n := by
  obtain ⟨h1, h2, h3⟩ := h
  refine ⟨e0.trans h1, h2, fun i hi => ⟨okS_of (h3 i hi).1 (fun k hk => e k i hk), ?_⟩⟩
  rw [e 116 i (by decide), e 120 i (by decide)]
  exact (h3 i hi).2
