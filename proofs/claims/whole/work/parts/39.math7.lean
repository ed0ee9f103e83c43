-- needs 38.math6
/-- counting down from n - 1: behind i turns -/
def dI (n i : Nat) : Int32 := Int32.ofInt ((n : Int) - 1 - i)
theorem dI_0 (n : Nat) : nI n - 1 = dI n 0 := by
  unfold dI nI
  rw [show (1 : Int32) = Int32.ofInt 1 from rfl, show Int32.ofNat n = Int32.ofInt n from rfl, ← Int32.ofInt_sub]
  congr 1
  omega
theorem dI_s (n i : Nat) : dI n i + Int32.ofInt (-1) = dI n (i + 1) := by
  unfold dI
  rw [← Int32.ofInt_add]
  congr 1
  omega
theorem dI_n {n i : Nat} (h : i < n) : dI n i = nI (n - 1 - i) := by
  unfold dI nI
  rw [show Int32.ofNat (n - 1 - i) = Int32.ofInt ((n - 1 - i : Nat) : Int) from rfl]
  congr 1
  omega
theorem dI_neg {n i : Nat} (h : i ≤ n) (hn : n ≤ 24) : dI n i < 0 ↔ i = n := by
  unfold dI
  rw [il, i_of (by omega) (by omega)]
  simp
  omega
/-- the widths of the ranges, and no bit demanded, for the first i signals -/
def rfW (S : gS) (i : Nat) : gS := wR (wR S 127 (fun c => if c < i then nI (wrN (rL S 125 c) (rL S 126 c)) else rI S 127 c)) 128 (fun c => if c < i then 0 else rI S 128 c)
theorem rfW_0 (S : gS) : rfW S 0 = S := by
  unfold rfW
  rw [wR_id (k := 127) (fun c => by simp), wR_id (fun c => by simp)]
theorem rfW_s (S : gS) (i : Nat) : wI (wI (rfW S i) 127 i (nI (wrN (rL S 125 i) (rL S 126 i)))) 128 i 0 = rfW S (i + 1) := by
  unfold rfW
  rw [wIRn (by decide), wIR, wIR]
  have k1 : (fun c => if c = i then nI (wrN (rL S 125 i) (rL S 126 i)) else if c < i then nI (wrN (rL S 125 c) (rL S 126 c)) else rI S 127 c) = (fun c => if c < i + 1 then nI (wrN (rL S 125 c) (rL S 126 c)) else rI S 127 c) := by
    funext c
    by_cases hc : c = i
    · subst hc; simp
    · have hl : c < i + 1 ↔ c < i := by omega
      simp [hc, hl]
  have k2 : (fun c => if c = i then (0 : Int32) else if c < i then 0 else rI S 128 c) = (fun c => if c < i + 1 then 0 else rI S 128 c) := by
    funext c
    by_cases hc : c = i
    · subst hc; simp
    · have hl : c < i + 1 ↔ c < i := by omega
      simp [hc, hl]
  rw [k1, k2]
theorem rI_rfW (S : gS) (i a c : Nat) (h1 : a ≠ 127) (h2 : a ≠ 128) : rI (rfW S i) a c = rI S a c := by
  unfold rfW
  rw [rI_wR, if_neg h2, rI_wR, if_neg h1]
theorem rL_rfW (S : gS) (i a c : Nat) : rL (rfW S i) a c = rL S a c := rfl
/-- the outputs ask for all their bits -/
def o1 (i : Nat) (T : gS) : gS := if rI T 121 i = 1 then (akF T i (-1)).2 else T
def rfO (S : gS) (i : Nat) : gS := itr o1 i S
theorem rI_rfO (S : gS) (i a c : Nat) (h : a ≠ 128) : rI (rfO S i) a c = rI S a c := by
  induction i with
  | zero => rfl
  | succ i ih =>
    show rI (o1 i (rfO S i)) a c = _
    unfold o1
    split
    · rw [rI_akFn _ _ _ _ _ h, ih]
    · exact ih
theorem rI_poF (S : gS) (j a c : Nat) (h : a ≠ 128) : rI (poF S j).2 a c = rI S a c := by
  have k2 : ∀ (T : gS) (x : Nat) (u : Int32) (y : Nat) (v : Int32), rI (ak2 T x u y v).2 a c = rI T a c := fun T x u y v => by
    show rI (akF (akF T x u).2 y v).2 a c = _
    rw [rI_akFn _ _ _ _ _ h, rI_akFn _ _ _ _ _ h]
  unfold poF
  split
  · rfl
  split
  · rfl
  split
  · exact rI_akFn _ _ _ _ _ h
  split
  · exact k2 _ _ _ _ _
  split
  · exact k2 _ _ _ _ _
  split
  · exact rI_akFn _ _ _ _ _ h
  split
  · exact rI_akFn _ _ _ _ _ h
  split
  · exact k2 _ _ _ _ _
  rw [rI_akFn _ _ _ _ _ h, k2]
/-- one turn from the last signal to the first -/
def q1 (n k : Nat) (p : Int32 × gS) : Int32 × gS := ((poF p.2 (n - 1 - k)).1 ||| p.1, (poF p.2 (n - 1 - k)).2)
def pq (S : gS) (n i : Nat) : Int32 × gS := itr (q1 n) i (0, S)
theorem pq_s (S : gS) (n i : Nat) : pq S n (i + 1) = q1 n i (pq S n i) := rfl
theorem rI_pq (S : gS) (n i a c : Nat) (h : a ≠ 128) : rI (pq S n i).2 a c = rI S a c := by
  induction i with
  | zero => rfl
  | succ i ih =>
    show rI (poF (pq S n i).2 (n - 1 - i)).2 a c = _
    rw [rI_poF _ _ _ _ h, ih]
def pqS (S : gS) (n : Nat) : Nat → gS
  | 0 => S
  | k + 1 => (pq (pqS S n k) n n).2
def pqM (S : gS) (n : Nat) : Nat → Int32
  | 0 => 1
  | k + 1 => (pq (pqS S n k) n n).1
theorem rI_pqS (S : gS) (n k a c : Nat) (h : a ≠ 128) : rI (pqS S n k) a c = rI S a c := by
  induction k with
  | zero => rfl
  | succ k ih =>
    show rI (pq (pqS S n k) n n).2 a c = _
    rw [rI_pq _ _ _ _ _ h, ih]
def pqEnd (S : gS) (n K : Nat) : Prop := (∀ k, k ≤ K → pqM S n k ≠ 0) ∧ pqM S n (K + 1) = 0
/-- what the bits may be asked through, for all signals -/
theorem okD_of {S T : gS} {n i : Nat} (h : okR S n) (hi : i < n) (e : ∀ k j, 116 ≤ k → k ≠ 128 → rI T k j = rI S k j) : okD T i := by
  obtain ⟨-, -, h3⟩ := h
  refine ⟨?_, ?_⟩
  · have h4 := (h3 i hi).1
    unfold okS
    rw [e 116 i (by decide) (by decide), e 117 i (by decide) (by decide), e 118 i (by decide) (by decide), e 119 i (by decide) (by decide)]
    exact h4
  · rw [e 116 i (by decide) (by decide), e 120 i (by decide) (by decide)]
    exact (h3 i hi).2
theorem okR_of2 {S T : gS} {n : Nat} (h : okR S n) (e0 : rI T 115 10 = rI S 115 10) (e : ∀ k j, 116 ≤ k → k ≤ 120 → rI T k j = rI S k j) : okR T n := by
  obtain ⟨h1, h2, h3⟩ := h
  refine ⟨e0.trans h1, h2, fun i hi => ⟨?_, ?_⟩⟩
  · have h4 := (h3 i hi).1
    unfold okS
    rw [e 116 i (by decide) (by decide), e 117 i (by decide) (by decide), e 118 i (by decide) (by decide), e 119 i (by decide) (by decide)]
    exact h4
  · rw [e 116 i (by decide) (by decide), e 120 i (by decide) (by decide)]
    exact (h3 i hi).2
