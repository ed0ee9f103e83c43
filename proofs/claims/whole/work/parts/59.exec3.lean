-- needs 50.units 52.exec 54.exec2
theorem rI_toF (S : gS) (b : Int32) (n a c : Nat) (h1 : a ≠ 123) (h2 : a ≠ 124) (h3 : a ≠ 135) (h4 : a ≠ 136) : rI (toF S b n) a c = rI S a c := by
  unfold toF
  rw [rI_hlF _ _ _ _ _ h1 h2, rI_tkF _ _ _ _ h4, rI_evF _ _ _ _ _ h3]
theorem rL_toF (S : gS) (b : Int32) (n a c : Nat) : rL (toF S b n) a c = rL S a c := by
  unfold toF
  rw [rL_hlF]
  show rL (evF S b n) a c = _
  rw [rL_evF]
theorem okR_ofN {S T : gS} {n : Nat} (h : okR S n) (e0 : rI T 115 10 = rI S 115 10) (e : ∀ k j, 116 ≤ k → k ≤ 120 → rI T k j = rI S k j) : okR T n := by
  obtain ⟨h1, h2, h3⟩ := h
  refine ⟨e0.trans h1, h2, fun i hi => ⟨?_, ?_⟩⟩
  · have h4 := (h3 i hi).1
    unfold okS
    rw [e 116 i (by decide) (by decide), e 117 i (by decide) (by decide), e 118 i (by decide) (by decide), e 119 i (by decide) (by decide)]
    exact h4
  · rw [e 116 i (by decide) (by decide), e 120 i (by decide) (by decide)]
    exact (h3 i hi).2
theorem okR_toF {S : gS} {b : Int32} {n k : Nat} (h : okR S n) : okR (toF S b k) n := okR_ofN h (rI_toF _ _ _ _ _ (by decide) (by decide) (by decide) (by decide)) (fun a c h1 h2 => rI_toF _ _ _ _ _ (by omega) (by omega) (by omega) (by omega))
theorem okR_evF {S : gS} {b : Int32} {n k : Nat} (h : okR S n) : okR (evF S b k) n := okR_ofN h (rI_evF _ _ _ _ _ (by decide)) (fun a c h1 h2 => rI_evF _ _ _ _ _ (by omega))
/-- n cycles of both machines -/
def rcF (T : gS) (n : Nat) : Nat → gS
  | 0 => T
  | k + 1 => toF (toF (rcF T n k) 0 n) 1 n
theorem rI_rcF (S : gS) (n k a c : Nat) (h1 : a ≠ 123) (h2 : a ≠ 124) (h3 : a ≠ 135) (h4 : a ≠ 136) : rI (rcF S n k) a c = rI S a c := by
  induction k with
  | zero => rfl
  | succ k ih =>
    show rI (toF (toF (rcF S n k) 0 n) 1 n) a c = _
    rw [rI_toF _ _ _ _ _ h1 h2 h3 h4, rI_toF _ _ _ _ _ h1 h2 h3 h4, ih]
theorem rL_rcF (S : gS) (n k a c : Nat) : rL (rcF S n k) a c = rL S a c := by
  induction k with
  | zero => rfl
  | succ k ih =>
    show rL (toF (toF (rcF S n k) 0 n) 1 n) a c = _
    rw [rL_toF, rL_toF, ih]
theorem okR_rcF {S : gS} {n k : Nat} (h : okR S n) : okR (rcF S n k) n := okR_ofN h (rI_rcF _ _ _ _ _ (by decide) (by decide) (by decide) (by decide)) (fun a c h1 h2 => rI_rcF _ _ _ _ _ (by omega) (by omega) (by omega) (by omega))
/-- the values put aside -/
def tcF (S : gS) (i : Nat) : gS := wR S 136 (fun c => if c < i then rI S 135 c else rI S 136 c)
theorem tcF_0 (S : gS) : tcF S 0 = S := wR_id (fun c => by simp)
theorem tcF_s (S : gS) (i : Nat) : wI (tcF S i) 136 i (rI S 135 i) = tcF S (i + 1) := by
  unfold tcF
  rw [wIR]
  refine wR_eq (fun c => ?_)
  by_cases hc : c = i
  · subst hc; simp
  · have hl : c < i + 1 ↔ c < i := by omega
    simp [hc, hl]
theorem rI_tcF (S : gS) (i a c : Nat) (h : a ≠ 136) : rI (tcF S i) a c = rI S a c := by
  unfold tcF
  rw [rI_wR, if_neg h]
theorem okR_tcF {S : gS} {n k : Nat} (h : okR S n) : okR (tcF S k) n := okR_ofN h (rI_tcF _ _ _ _ (by decide)) (fun a c h1 h2 => rI_tcF _ _ _ _ (by omega))
/-- outputs that differ -/
def d1F (U : gS) (s : Nat) (v : Int32) : Int32 := v + (if rI U 121 s = 1 ∧ ¬ rI U 136 s = rI U 135 s then 1 else 0)
def dfN (U : gS) (i : Nat) : Int32 := itr (d1F U) i 0
theorem dfN_s (U : gS) (i : Nat) : dfN U (i + 1) = d1F U i (dfN U i) := rfl
def ruF (T : gS) (n c : Nat) : gS := evF (tcF (evF (wI (rcF T n c) 115 11 (rI (rcF T n c) 115 11 + nI c)) 0 n) n) 1 n
abbrev b04 (p : Int32) : Prop := (0 : Int64) ≤ p.toInt64 ∧ p.toInt64 ≤ 4
abbrev b200 (p : Int32) : Prop := (1 : Int64) ≤ p.toInt64 ∧ p.toInt64 ≤ 200
theorem b200_n {p : Int32} (h : b200 p) : ∃ c, 1 ≤ c ∧ c ≤ 200 ∧ p = nI c ∧ p.toNatClampNeg = c := by
  obtain ⟨h1, h2⟩ := h
  rw [show (1 : Int64) = (1 : Int32).toInt64 from rfl, w_le, ile] at h1
  rw [show (200 : Int64) = (200 : Int32).toInt64 from rfl, w_le, ile] at h2
  rw [show (1 : Int32).toInt = 1 from rfl] at h1
  rw [show (200 : Int32).toInt = 200 from rfl] at h2
  obtain ⟨j, hj, rfl⟩ := vp_in_of (vp_in_iff.mpr ⟨by omega, by omega⟩ : vp_in p 201) (by omega)
  rw [nI_toInt (by omega)] at h1 h2
  exact ⟨j, by omega, by omega, rfl, nI_c (by omega)⟩
def siK (S : gS) (n : Nat) (r v : Int32) : Int32 := if ¬ sgn (nI n) r then 1 else if ¬ rI S 116 r.toNatClampNeg = 0 then 2 else if ¬ ((rI S 117 r.toNatClampNeg).toInt64 ≤ v.toInt64 ∧ v.toInt64 ≤ (rI S 118 r.toNatClampNeg).toInt64) then 3 else 0
