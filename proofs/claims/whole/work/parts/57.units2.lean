-- needs 50.units
/-! the reference shares units -/
section GL1
variable {M : go_M} {x : Bool} {Q : go_Q} {cl sl pc : Nat} {ls : List (Nat × Value)} {st : List Value} {h : go_H}
theorem g_l1 {p : Nat} {a a' : Int32} (e : a = a') (k : Go M x Q cl sl pc ((p, .int a') :: ls) st h) : Go M x Q cl sl pc ((p, .int a) :: ls) st h := by rw [e]; exact k
end GL1
def bs1 (T : gS) (k : Nat) (u : Nat) (v : Int32) : Int32 := if rI T 129 u = rI T 116 k ∧ rI T 133 u >>> (rI T 122 k &&& 31) &&& 1 = 0 ∧ (v < 0 ∨ ¬ grF T v.toNatClampNeg k ≤ grF T u k) then nI u else v
def bsN (T : gS) (k i : Nat) : Int32 := itr (bs1 T k) i (-1)
theorem bsN_s (T : gS) (k i : Nat) : bsN T k (i + 1) = bs1 T k i (bsN T k i) := rfl
theorem bsN_c (T : gS) (k i : Nat) : bsN T k i = -1 ∨ ∃ j, j < i ∧ bsN T k i = nI j := by
  induction i with
  | zero => exact Or.inl rfl
  | succ i ih =>
    rw [bsN_s]
    unfold bs1
    split
    · exact Or.inr ⟨i, by omega, rfl⟩
    · rcases ih with h | ⟨j, h1, h2⟩
      · exact Or.inl h
      · exact Or.inr ⟨j, by omega, h2⟩
theorem bsN_in {T : gS} {k i : Nat} (h : ¬ bsN T k i < 0) (hi : i ≤ 24) : vp_in (bsN T k i) 24 := by
  rcases bsN_c T k i with q | ⟨j, h1, h2⟩
  · rw [q] at h; exact absurd (by decide) h
  · rw [h2]; exact nI_i (by omega) (by omega)
def unN (T : gS) (i : Nat) : gS := wI (wI (wI (wI (wI (wI T 129 (rI T 115 26).toNatClampNeg (rI T 116 i)) 130 (rI T 115 26).toNatClampNeg 0) 131 (rI T 115 26).toNatClampNeg 0) 132 (rI T 115 26).toNatClampNeg (nI i)) 133 (rI T 115 26).toNatClampNeg 0) 115 26 (rI T 115 26 + 1)
abbrev unP (T : gS) (i : Nat) : Prop := rI T 116 i < 3 ∨ 5 < rI T 116 i ∨ woF T i = 0
abbrev unB (T : gS) (i : Nat) : Int32 := bsN T i (rI T 115 26).toNatClampNeg
abbrev unW (T : gS) (i : Nat) : Prop := unB T i < 0 ∨ ¬ grF T (unB T i).toNatClampNeg i < coF T i
def un2 (i : Nat) (T : gS) : gS := if unP T i then T else if unW T i then jnF (unN T i) (rI T 115 26).toNatClampNeg i (rI T 115 26) else jnF T (unB T i).toNatClampNeg i (unB T i)
def un1 (i : Nat) (T : gS) : gS := un2 i (wI T 134 i (-1))
def unF (S : gS) (i : Nat) : gS := itr un1 i (wI S 115 26 0)
theorem rI_jnF (T : gS) (u j : Nat) (v : Int32) (a c : Nat) (h : a < 130 ∨ 134 < a) : rI (jnF T u j v) a c = rI T a c := by
  unfold jnF
  rw [rI_wI, if_neg (by omega), rI_wI, if_neg (by omega), rI_wI, if_neg (by omega), rI_wI, if_neg (by omega)]
theorem rI_unN (T : gS) (i a c : Nat) (h : a < 129 ∨ 133 < a) (h2 : ¬ (a = 115 ∧ c = 26)) : rI (unN T i) a c = rI T a c := by
  unfold unN
  rw [rI_wI, if_neg h2, rI_wI, if_neg (by omega), rI_wI, if_neg (by omega), rI_wI, if_neg (by omega), rI_wI, if_neg (by omega), rI_wI, if_neg (by omega)]
theorem rI_un2 (T : gS) (i a c : Nat) (h : a < 129 ∨ 134 < a) (h2 : ¬ (a = 115 ∧ c = 26)) : rI (un2 i T) a c = rI T a c := by
  unfold un2
  split
  · rfl
  split
  · rw [rI_jnF _ _ _ _ _ _ (by omega), rI_unN _ _ _ _ (by omega) h2]
  · rw [rI_jnF _ _ _ _ _ _ (by omega)]
theorem rI_unF (S : gS) (i a c : Nat) (h : a < 129 ∨ 134 < a) (h2 : ¬ (a = 115 ∧ c = 26)) : rI (unF S i) a c = rI S a c := by
  induction i with
  | zero =>
    show rI (wI S 115 26 0) a c = _
    rw [rI_wI, if_neg h2]
  | succ i ih =>
    show rI (un2 i (wI (unF S i) 134 i (-1))) a c = _
    rw [rI_un2 _ _ _ _ h h2, rI_wI, if_neg (by omega), ih]
theorem rL_unF (S : gS) (i a c : Nat) : rL (unF S i) a c = rL S a c := by
  induction i with
  | zero => rfl
  | succ i ih =>
    show rL (un2 i (wI (unF S i) 134 i (-1))) a c = _
    rw [← ih]
    unfold un2
    split
    · rfl
    split <;> rfl
theorem unM (S : gS) (i : Nat) : ∃ m, m ≤ i ∧ rI (unF S i) 115 26 = nI m := by
  induction i with
  | zero => exact ⟨0, Nat.le_refl _, rfl⟩
  | succ i ih =>
    obtain ⟨m, h1, h2⟩ := ih
    have h3 : rI (wI (unF S i) 134 i (-1)) 115 26 = nI m := h2
    show ∃ m, m ≤ i + 1 ∧ rI (un2 i (wI (unF S i) 134 i (-1))) 115 26 = nI m
    unfold un2
    split
    · exact ⟨m, by omega, h3⟩
    split
    · refine ⟨m + 1, by omega, ?_⟩
      rw [rI_jnF _ _ _ _ _ _ (by omega)]
      unfold unN
      rw [rI_wI, if_pos ⟨rfl, rfl⟩, h3, nI_1]
    · refine ⟨m, by omega, ?_⟩
      rw [rI_jnF _ _ _ _ _ _ (by omega)]
      exact h3
theorem un1_a {S : gS} {i : Nat} (h : unP (wI (unF S i) 134 i (-1)) i) : wI (unF S i) 134 i (-1) = unF S (i + 1) := by
  show _ = un2 i (wI (unF S i) 134 i (-1))
  unfold un2
  rw [if_pos h]
theorem un1_n {S : gS} {i : Nat} (h : ¬ unP (wI (unF S i) 134 i (-1)) i) (h2 : unW (wI (unF S i) 134 i (-1)) i) : jnF (unN (wI (unF S i) 134 i (-1)) i) (rI (wI (unF S i) 134 i (-1)) 115 26).toNatClampNeg i (rI (wI (unF S i) 134 i (-1)) 115 26) = unF S (i + 1) := by
  show _ = un2 i (wI (unF S i) 134 i (-1))
  unfold un2
  rw [if_neg h, if_pos h2]
theorem un1_o {S : gS} {i : Nat} (h : ¬ unP (wI (unF S i) 134 i (-1)) i) (h2 : ¬ unW (wI (unF S i) 134 i (-1)) i) : jnF (wI (unF S i) 134 i (-1)) (unB (wI (unF S i) 134 i (-1)) i).toNatClampNeg i (unB (wI (unF S i) 134 i (-1)) i) = unF S (i + 1) := by
  show _ = un2 i (wI (unF S i) 134 i (-1))
  unfold un2
  rw [if_neg h, if_neg h2]
/-- the sums of total -/
def t0F (U : gS) (w : Int32) (s : Nat) (v : Int32) : Int32 := if w = 0 then v + coF U s else v
def t1F (U : gS) (w : Int32) (s : Nat) (v : Int32) : Int32 := if w = 1 then v + (if rI U 116 s = 11 then 32 else cbF (rI U 116 s) 32) else v
def t2F (U : gS) (w : Int32) (s : Nat) (v : Int32) : Int32 := if w = 2 then v + (if 0 ≤ rI U 134 s then 0 else coF U s) else v
def t3F (U : gS) (w : Int32) (s : Nat) (v : Int32) : Int32 := if w = 3 then v + woF U s else v
def t4F (U : gS) (w : Int32) (s : Nat) (v : Int32) : Int32 := if w = 4 then v + (if woF U s = 0 then 1 else 0) else v
def tsF (U : gS) (w : Int32) (s : Nat) (v : Int32) : Int32 := t4F U w s (t3F U w s (t2F U w s (t1F U w s (t0F U w s v))))
def tsN (U : gS) (w : Int32) (i : Nat) : Int32 := itr (tsF U w) i 0
def tuF (U : gS) (u : Nat) (v : Int32) : Int32 := v + ucF (rI U 129 u) (rI U 130 u) (rI U 131 u)
def tuN (U : gS) (v : Int32) (i : Nat) : Int32 := itr (tuF U) i v
def toN (U : gS) (n m : Nat) (w : Int32) : Int32 := if w = 2 then tuN U (tsN U w n) m else tsN U w n
