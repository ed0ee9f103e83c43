theorem pas_k {k c0 : Nat} {S : gS} (hk : 115 < k ∧ k < 144) (h43 : ¬ rI S 115 43 = 0) (hc : rI S 115 44 = nI c0) (h : c0 + 24 ≤ 440) : ∀ i, i ≤ 24 → ∀ a c, ¬ (a = 115 ∧ c = 44) → rI (itr (bd_pas k) i S) a c = if a = 144 ∧ c0 ≤ c ∧ c < c0 + i then rI S k (c - c0) else rI S a c := by
  intro i
  induction i with
  | zero => intro _ a c _; rw [if_neg (by omega)]; rfl
  | succ i ih =>
    intro hi a c hac
    have cur := pas_cur (k := k) (by omega) c0 S hc i
    have ih := ih (by omega)
    show rI (bd_pas k i (itr (bd_pas k) i S)) a c = _
    revert cur ih
    generalize itr (bd_pas k) i S = p
    intro cur ih
    have p43 : ¬ rI p 115 43 = 0 := by rw [ih 115 43 (by omega), if_neg (by omega)]; exact h43
    have pk : rI p k i = rI S k i := by rw [ih k i (by omega), if_neg (by omega)]
    unfold bd_pas
    rw [if_neg p43, rI_wIc hac, cur, nI_c (by omega), rI_wI]
    by_cases e : a = 144 ∧ c = c0 + i
    · rw [if_pos e, if_pos (by omega), pk, show c - c0 = i by omega]
    · rw [if_neg e, ih a c hac]
      by_cases q : a = 144 ∧ c0 ≤ c ∧ c < c0 + i
      · rw [if_pos q, if_pos (by omega)]
      · rw [if_neg q, if_neg (by omega)]
theorem pas_g {k c0 : Nat} {S : gS} (hk : 115 < k ∧ k < 144) (h43 : rI S 115 43 = 0) (hc : rI S 115 44 = nI c0) (h : c0 + 24 ≤ 440) : ∀ i, i ≤ 24 → ∀ a c, ¬ (a = 115 ∧ c = 44) → rI (itr (bd_pas k) i S) a c = if a = k ∧ c < i then rI S 144 (c0 + c) else rI S a c := by
  intro i
  induction i with
  | zero => intro _ a c _; rw [if_neg (by omega)]; rfl
  | succ i ih =>
    intro hi a c hac
    have cur := pas_cur (k := k) (by omega) c0 S hc i
    have ih := ih (by omega)
    show rI (bd_pas k i (itr (bd_pas k) i S)) a c = _
    revert cur ih
    generalize itr (bd_pas k) i S = p
    intro cur ih
    have p43 : rI p 115 43 = 0 := by rw [ih 115 43 (by omega), if_neg (by omega)]; exact h43
    have pk : rI p 144 (c0 + i) = rI S 144 (c0 + i) := by rw [ih 144 _ (by omega), if_neg (by omega)]
    unfold bd_pas
    rw [if_pos p43, rI_wIc hac, cur, nI_c (by omega), rI_wI]
    by_cases e : a = k ∧ c = i
    · rw [if_pos e, if_pos (by omega), pk, e.2]
    · rw [if_neg e, ih a c hac]
      by_cases q : a = k ∧ c < i
      · rw [if_pos q, if_pos (by omega)]
      · rw [if_neg q, if_neg (by omega)]
/-- T: m rows of S are kept from c0 on -/
def KP (S T : gS) (c0 m : Nat) : Prop := ¬ rI T 115 43 = 0 ∧ rI T 115 44 = nI (c0 + 24 * m) ∧ (∀ k j, k < m → j < 24 → rI T 144 (c0 + 24 * k + j) = rI S (116 + k) j) ∧ ∀ a c, ¬ (a = 115 ∧ (c = 43 ∨ c = 44)) → ¬ (a = 144 ∧ c0 ≤ c ∧ c < c0 + 24 * m) → rI T a c = rI S a c
def GP (S T : gS) (c0 m : Nat) : Prop := rI T 115 43 = 0 ∧ rI T 115 44 = nI (c0 + 24 * m) ∧ (∀ k j, k < m → j < 24 → rI T (116 + k) j = rI S 144 (c0 + 24 * k + j)) ∧ ∀ a c, ¬ (a = 115 ∧ (c = 43 ∨ c = 44)) → ¬ (116 ≤ a ∧ a < 116 + m ∧ c < 24) → rI T a c = rI S a c
theorem KP.step {S T : gS} {c0 m q : Nat} (h : KP S T c0 m) (hm : m < 9) (h0 : c0 ≤ 220) (hq : q = 116 + m) : KP S (f_X9_passes T q) c0 (m + 1) := by
  subst hq
  obtain ⟨h1, h2, h3, h4⟩ := h
  have r := pas_k (k := 116 + m) (S := T) (by omega) h1 h2 (by omega) 24 (Nat.le_refl _)
  have cur := passes_cur (k := 116 + m) (by omega) h2
  refine ⟨?_, ?_, fun k j hk hj => ?_, fun a c z1 z2 => ?_⟩
  · show ¬ rI (itr (bd_pas (116 + m)) 24 T) 115 43 = 0
    rw [r 115 43 (by omega), if_neg (by omega)]; exact h1
  · rw [cur, show c0 + 24 * (m + 1) = c0 + 24 * m + 24 by omega]
  · show rI (itr (bd_pas (116 + m)) 24 T) 144 _ = _
    rw [r 144 _ (by omega)]
    by_cases e : k = m
    · subst e
      rw [if_pos (by omega), show c0 + 24 * k + j - (c0 + 24 * k) = j by omega, h4 (116 + k) j (by omega) (by omega)]
    · rw [if_neg (by omega), h3 k j (by omega) hj]
  · show rI (itr (bd_pas (116 + m)) 24 T) a c = _
    rw [r a c (by omega), if_neg (by omega), h4 a c z1 (by omega)]
theorem GP.step {S T : gS} {c0 m q : Nat} (h : GP S T c0 m) (hm : m < 9) (h0 : c0 ≤ 220) (hq : q = 116 + m) : GP S (f_X9_passes T q) c0 (m + 1) := by
  subst hq
  obtain ⟨h1, h2, h3, h4⟩ := h
  have r := pas_g (k := 116 + m) (S := T) (by omega) h1 h2 (by omega) 24 (Nat.le_refl _)
  have cur := passes_cur (k := 116 + m) (by omega) h2
  refine ⟨?_, ?_, fun k j hk hj => ?_, fun a c z1 z2 => ?_⟩
  · show rI (itr (bd_pas (116 + m)) 24 T) 115 43 = 0
    rw [r 115 43 (by omega), if_neg (by omega)]; exact h1
  · rw [cur, show c0 + 24 * (m + 1) = c0 + 24 * m + 24 by omega]
  · show rI (itr (bd_pas (116 + m)) 24 T) _ _ = _
    rw [r _ _ (by omega)]
    by_cases e : k = m
    · subst e
      rw [if_pos (by omega), h4 144 _ (by omega) (by omega)]
    · rw [if_neg (by omega), h3 k j (by omega) hj]
  · show rI (itr (bd_pas (116 + m)) 24 T) a c = _
    rw [r a c (by omega), if_neg (by omega), h4 a c z1 (by omega)]
theorem po_k {P9 : gS} {c : Nat} (v : Int32) (h1 : ¬ rI P9 115 43 = 0) (h2 : rI P9 115 44 = nI c) (hc : c < 1000) : f_X9_passOne P9 v = (v, wI (wI P9 144 c v) 115 44 (nI (c + 1))) := by
  unfold f_X9_passOne
  rw [if_neg h1, h2, nI_c hc, nI_1]
theorem po_g {P9 : gS} {c : Nat} (v : Int32) (h1 : rI P9 115 43 = 0) (h2 : rI P9 115 44 = nI c) (hc : c < 1000) : f_X9_passOne P9 v = (rI P9 144 c, wI (wI P9 144 c (rI P9 144 c)) 115 44 (nI (c + 1))) := by
  unfold f_X9_passOne
  rw [if_pos h1, h2, nI_c hc, nI_1]
theorem zz_rd (P9 : gS) (c : Nat) (v w x1 x2 b : Int32) (a e : Nat) : rI (wI (wI (wI (wI (wI (wI (wI P9 144 c v) 115 44 x1) 115 10 v) 144 (c + 1) w) 115 44 x2) 115 11 w) 115 15 b) a e = if a = 115 ∧ e = 15 then b else if a = 115 ∧ e = 11 then w else if a = 115 ∧ e = 44 then x2 else if a = 144 ∧ e = c + 1 then w else if a = 115 ∧ e = 10 then v else if a = 115 ∧ e = 44 then x1 else if a = 144 ∧ e = c then v else rI P9 a e := by
  simp only [rI_wI]
/-- what keeping does -/
def KD (S T : gS) (c0 : Nat) : Prop := (∀ k j, k < 9 → j < 24 → rI T 144 (c0 + 24 * k + j) = rI S (116 + k) j) ∧ rI T 144 (c0 + 216) = rI S 115 10 ∧ rI T 144 (c0 + 217) = rI S 115 11 ∧ (∀ a c, ¬ (a = 115 ∧ (c = 43 ∨ c = 44 ∨ c = 15)) → ¬ (a = 144 ∧ c0 ≤ c ∧ c < c0 + 218) → rI T a c = rI S a c) ∧ (rI T 115 15 ≠ 0 → rI S 115 15 ≠ 0)
/-- what getting does -/
def GD (S T : gS) (c0 : Nat) : Prop := (∀ k j, k < 9 → j < 24 → rI T (116 + k) j = rI S 144 (c0 + 24 * k + j)) ∧ rI T 115 10 = rI S 144 (c0 + 216) ∧ rI T 115 11 = rI S 144 (c0 + 217) ∧ rI T 115 15 = 0 ∧ ∀ a c, ¬ (a = 115 ∧ (c = 10 ∨ c = 11 ∨ c = 15 ∨ c = 43 ∨ c = 44)) → ¬ (116 ≤ a ∧ a ≤ 124 ∧ c < 24) → rI T a c = rI S a c
abbrev poA (P9 : gS) : Int32 × gS := f_X9_passOne P9 ((rI P9 115 10))
abbrev poB (P9 : gS) : Int32 × gS := f_X9_passOne (wI (poA P9).2 115 10 ((poA P9).1)) ((rI (poA P9).2 115 11))
theorem pb_k {S P9 : gS} {c0 : Nat} (h : KP S P9 c0 9) (h0 : c0 ≤ 220) (b : Int32) : wI (wI (poB P9).2 115 11 (poB P9).1) 115 15 b = wI (wI (wI (wI (wI (wI (wI P9 144 (c0 + 216) (rI S 115 10)) 115 44 (nI (c0 + 217))) 115 10 (rI S 115 10)) 144 (c0 + 217) (rI S 115 11)) 115 44 (nI (c0 + 218))) 115 11 (rI S 115 11)) 115 15 b ∧ rI (poB P9).2 115 15 = rI S 115 15 := by
  obtain ⟨h1, h2, h3, h4⟩ := h
  have h2' : rI P9 115 44 = nI (c0 + 216) := h2
  have e10 : rI P9 115 10 = rI S 115 10 := h4 115 10 (by omega) (by omega)
  have e11 : rI P9 115 11 = rI S 115 11 := h4 115 11 (by omega) (by omega)
  have e15 : rI P9 115 15 = rI S 115 15 := h4 115 15 (by omega) (by omega)
  have eA : poA P9 = (rI S 115 10, wI (wI P9 144 (c0 + 216) (rI S 115 10)) 115 44 (nI (c0 + 216 + 1))) := by
    unfold poA; rw [po_k _ h1 h2' (by omega), e10]
  have eB : poB P9 = (rI S 115 11, wI (wI (wI (wI (wI P9 144 (c0 + 216) (rI S 115 10)) 115 44 (nI (c0 + 216 + 1))) 115 10 (rI S 115 10)) 144 (c0 + 217) (rI S 115 11)) 115 44 (nI (c0 + 217 + 1))) := by
    unfold poB
    rw [eA]
    rw [po_k (c := c0 + 217) _ (by rw [rI_wIc (by omega), rI_wIc (by omega), rI_wIk (by omega)]; exact h1) (by rw [rI_wIc (by omega), rI_same]) (by omega)]
    rw [rI_wIc (by omega), rI_wIk (by omega), e11]
  rw [eB]
  refine ⟨rfl, ?_⟩
  show rI (wI (wI (wI (wI (wI P9 144 (c0 + 216) (rI S 115 10)) 115 44 (nI (c0 + 216 + 1))) 115 10 (rI S 115 10)) 144 (c0 + 217) (rI S 115 11)) 115 44 (nI (c0 + 217 + 1))) 115 15 = _
  rw [rI_wIc (by omega), rI_wIk (by omega), rI_wIc (by omega), rI_wIc (by omega), rI_wIk (by omega), e15]
theorem pb_g {S P9 : gS} {c0 : Nat} (h : GP S P9 c0 9) (h0 : c0 ≤ 220) (b : Int32) : wI (wI (poB P9).2 115 11 (poB P9).1) 115 15 b = wI (wI (wI (wI (wI (wI (wI P9 144 (c0 + 216) (rI S 144 (c0 + 216))) 115 44 (nI (c0 + 217))) 115 10 (rI S 144 (c0 + 216))) 144 (c0 + 217) (rI S 144 (c0 + 217))) 115 44 (nI (c0 + 218))) 115 11 (rI S 144 (c0 + 217))) 115 15 b := by
  obtain ⟨h1, h2, h3, h4⟩ := h
  have h2' : rI P9 115 44 = nI (c0 + 216) := h2
  have e10 : rI P9 144 (c0 + 216) = rI S 144 (c0 + 216) := h4 144 _ (by omega) (by omega)
  have e11 : rI P9 144 (c0 + 217) = rI S 144 (c0 + 217) := h4 144 _ (by omega) (by omega)
  have eA : poA P9 = (rI S 144 (c0 + 216), wI (wI P9 144 (c0 + 216) (rI S 144 (c0 + 216))) 115 44 (nI (c0 + 216 + 1))) := by
    unfold poA; rw [po_g _ h1 h2' (by omega), e10]
  have eB : poB P9 = (rI S 144 (c0 + 217), wI (wI (wI (wI (wI P9 144 (c0 + 216) (rI S 144 (c0 + 216))) 115 44 (nI (c0 + 216 + 1))) 115 10 (rI S 144 (c0 + 216))) 144 (c0 + 217) (rI S 144 (c0 + 217))) 115 44 (nI (c0 + 217 + 1))) := by
    unfold poB
    rw [eA]
    rw [po_g (c := c0 + 217) _ (by rw [rI_wIc (by omega), rI_wIc (by omega), rI_wIk (by omega)]; exact h1) (by rw [rI_wIc (by omega), rI_same]) (by omega)]
    rw [rI_wIk (by omega), rI_wIk (by omega), rI_wIc (by omega), e11]
  rw [eB]
theorem kd_of {S P9 : gS} {c0 : Nat} {b : Int32} (h : KP S P9 c0 9) (hb : b ≠ 0 → rI S 115 15 ≠ 0) : KD S (wI (wI (wI (wI (wI (wI (wI P9 144 (c0 + 216) (rI S 115 10)) 115 44 (nI (c0 + 217))) 115 10 (rI S 115 10)) 144 (c0 + 217) (rI S 115 11)) 115 44 (nI (c0 + 218))) 115 11 (rI S 115 11)) 115 15 b) c0 := by
  obtain ⟨h1, h2, h3, h4⟩ := h
  have r := zz_rd P9 (c0 + 216) (rI S 115 10) (rI S 115 11) (nI (c0 + 217)) (nI (c0 + 218)) b
  refine ⟨fun k j hk hj => ?_, ?_, ?_, fun a c z1 z2 => ?_, ?_⟩
  · rw [r, if_neg (by omega), if_neg (by omega), if_neg (by omega), if_neg (by omega), if_neg (by omega), if_neg (by omega), if_neg (by omega)]; exact h3 k j hk hj
  · rw [r, if_neg (by omega), if_neg (by omega), if_neg (by omega), if_neg (by omega), if_neg (by omega), if_neg (by omega), if_pos (by omega)]
  · rw [r, if_neg (by omega), if_neg (by omega), if_neg (by omega), if_pos (by omega)]
  · rw [r, if_neg (by omega)]
    by_cases q1 : a = 115 ∧ c = 11
    · rw [if_pos q1, q1.1, q1.2]
    · rw [if_neg q1, if_neg (by omega), if_neg (by omega)]
      by_cases q2 : a = 115 ∧ c = 10
      · rw [if_pos q2, q2.1, q2.2]
      · rw [if_neg q2, if_neg (by omega), if_neg (by omega), h4 a c (by omega) (by omega)]
  · rw [r, if_pos (by omega)]; exact hb
theorem gd_of {S P9 : gS} {c0 : Nat} (h : GP S P9 c0 9) : GD S (wI (wI (wI (wI (wI (wI (wI P9 144 (c0 + 216) (rI S 144 (c0 + 216))) 115 44 (nI (c0 + 217))) 115 10 (rI S 144 (c0 + 216))) 144 (c0 + 217) (rI S 144 (c0 + 217))) 115 44 (nI (c0 + 218))) 115 11 (rI S 144 (c0 + 217))) 115 15 0) c0 := by
  obtain ⟨h1, h2, h3, h4⟩ := h
  have r := zz_rd P9 (c0 + 216) (rI S 144 (c0 + 216)) (rI S 144 (c0 + 217)) (nI (c0 + 217)) (nI (c0 + 218)) 0
  refine ⟨fun k j hk hj => ?_, ?_, ?_, ?_, fun a c z1 z2 => ?_⟩
  · rw [r, if_neg (by omega), if_neg (by omega), if_neg (by omega), if_neg (by omega), if_neg (by omega), if_neg (by omega), if_neg (by omega)]; exact h3 k j hk hj
  · rw [r, if_neg (by omega), if_neg (by omega), if_neg (by omega), if_neg (by omega), if_pos (by omega)]
  · rw [r, if_neg (by omega), if_pos (by omega)]
  · rw [r, if_pos (by omega)]
  · rw [r, if_neg (by omega), if_neg (by omega), if_neg (by omega)]
    by_cases q1 : a = 144 ∧ c = c0 + 216 + 1
    · rw [if_pos q1, q1.1, q1.2]
    · rw [if_neg q1, if_neg (by omega), if_neg (by omega)]
      by_cases q2 : a = 144 ∧ c = c0 + 216
      · rw [if_pos q2, q2.1, q2.2]
      · rw [if_neg q2, h4 a c (by omega) (by omega)]

theorem d_pass01 (S : gS) : KD S (f_pass01 S) 0 := by
  have h0 : KP S (wI (wI S 115 43 1) 115 44 (((220 : Int32) * 0))) 0 0 := ⟨by rw [rI_wIc (by omega), rI_same]; decide, by rw [rI_same]; decide, fun k j hk _ => absurd hk (Nat.not_lt_zero k), fun a c z1 z2 => by rw [rI_wIc (by omega), rI_wIc (by omega)]⟩
  have h9 : KP S (f_X9_passes (f_X9_passes (f_X9_passes (f_X9_passes (f_X9_passes (f_X9_passes (f_X9_passes (f_X9_passes (f_X9_passes (wI (wI S 115 43 1) 115 44 (((220 : Int32) * 0))) 116) 117) 118) 119) 120) 121) 122) 123) 124) 0 9 := (((((((((h0.step (by omega) (by omega) rfl).step (by omega) (by omega) rfl).step (by omega) (by omega) rfl).step (by omega) (by omega) rfl).step (by omega) (by omega) rfl).step (by omega) (by omega) rfl).step (by omega) (by omega) rfl).step (by omega) (by omega) rfl).step (by omega) (by omega) rfl)
  unfold f_pass01
  revert h9
  generalize (f_X9_passes (f_X9_passes (f_X9_passes (f_X9_passes (f_X9_passes (f_X9_passes (f_X9_passes (f_X9_passes (f_X9_passes (wI (wI S 115 43 1) 115 44 (((220 : Int32) * 0))) 116) 117) 118) 119) 120) 121) 122) 123) 124) = P9
  intro h9
  obtain ⟨k1, k2⟩ := pb_k h9 (by omega) 0
  have k3 := (pb_k h9 (by omega) 1).1
  show KD S (if rI (poB P9).2 115 15 = 0 then wI (wI (poB P9).2 115 11 (poB P9).1) 115 15 0 else wI (wI (poB P9).2 115 11 (poB P9).1) 115 15 1) 0
  rw [k2, k1, k3]
  by_cases q : rI S 115 15 = 0
  · rw [if_pos q]; exact kd_of h9 (fun z => absurd rfl z)
  · rw [if_neg q]; exact kd_of h9 (fun _ => q)

theorem d_pass11 (S : gS) : KD S (f_pass11 S) 220 := by
  have h0 : KP S (wI (wI S 115 43 1) 115 44 (((220 : Int32) * 1))) 220 0 := ⟨by rw [rI_wIc (by omega), rI_same]; decide, by rw [rI_same]; decide, fun k j hk _ => absurd hk (Nat.not_lt_zero k), fun a c z1 z2 => by rw [rI_wIc (by omega), rI_wIc (by omega)]⟩
  have h9 : KP S (f_X9_passes (f_X9_passes (f_X9_passes (f_X9_passes (f_X9_passes (f_X9_passes (f_X9_passes (f_X9_passes (f_X9_passes (wI (wI S 115 43 1) 115 44 (((220 : Int32) * 1))) 116) 117) 118) 119) 120) 121) 122) 123) 124) 220 9 := (((((((((h0.step (by omega) (by omega) rfl).step (by omega) (by omega) rfl).step (by omega) (by omega) rfl).step (by omega) (by omega) rfl).step (by omega) (by omega) rfl).step (by omega) (by omega) rfl).step (by omega) (by omega) rfl).step (by omega) (by omega) rfl).step (by omega) (by omega) rfl)
  unfold f_pass11
  revert h9
  generalize (f_X9_passes (f_X9_passes (f_X9_passes (f_X9_passes (f_X9_passes (f_X9_passes (f_X9_passes (f_X9_passes (f_X9_passes (wI (wI S 115 43 1) 115 44 (((220 : Int32) * 1))) 116) 117) 118) 119) 120) 121) 122) 123) 124) = P9
  intro h9
  obtain ⟨k1, k2⟩ := pb_k h9 (by omega) 0
  have k3 := (pb_k h9 (by omega) 1).1
  show KD S (if rI (poB P9).2 115 15 = 0 then wI (wI (poB P9).2 115 11 (poB P9).1) 115 15 0 else wI (wI (poB P9).2 115 11 (poB P9).1) 115 15 1) 220
  rw [k2, k1, k3]
  by_cases q : rI S 115 15 = 0
  · rw [if_pos q]; exact kd_of h9 (fun z => absurd rfl z)
  · rw [if_neg q]; exact kd_of h9 (fun _ => q)

theorem d_pass00 (S : gS) : GD S (f_pass00 S) 0 := by
  have h0 : GP S (wI (wI S 115 43 0) 115 44 (((220 : Int32) * 0))) 0 0 := ⟨by rw [rI_wIc (by omega), rI_same], by rw [rI_same]; decide, fun k j hk _ => absurd hk (Nat.not_lt_zero k), fun a c z1 z2 => by rw [rI_wIc (by omega), rI_wIc (by omega)]⟩
  have h9 : GP S (f_X9_passes (f_X9_passes (f_X9_passes (f_X9_passes (f_X9_passes (f_X9_passes (f_X9_passes (f_X9_passes (f_X9_passes (wI (wI S 115 43 0) 115 44 (((220 : Int32) * 0))) 116) 117) 118) 119) 120) 121) 122) 123) 124) 0 9 := (((((((((h0.step (by omega) (by omega) rfl).step (by omega) (by omega) rfl).step (by omega) (by omega) rfl).step (by omega) (by omega) rfl).step (by omega) (by omega) rfl).step (by omega) (by omega) rfl).step (by omega) (by omega) rfl).step (by omega) (by omega) rfl).step (by omega) (by omega) rfl)
  unfold f_pass00
  revert h9
  generalize (f_X9_passes (f_X9_passes (f_X9_passes (f_X9_passes (f_X9_passes (f_X9_passes (f_X9_passes (f_X9_passes (f_X9_passes (wI (wI S 115 43 0) 115 44 (((220 : Int32) * 0))) 116) 117) 118) 119) 120) 121) 122) 123) 124) = P9
  intro h9
  have k1 := pb_g h9 (by omega) 0
  show GD S (if rI (poB P9).2 115 15 = 0 then wI (wI (poB P9).2 115 11 (poB P9).1) 115 15 0 else wI (wI (poB P9).2 115 11 (poB P9).1) 115 15 0) 0
  rw [k1, ite_self]
  exact gd_of h9

theorem d_pass10 (S : gS) : GD S (f_pass10 S) 220 := by
  have h0 : GP S (wI (wI S 115 43 0) 115 44 (((220 : Int32) * 1))) 220 0 := ⟨by rw [rI_wIc (by omega), rI_same], by rw [rI_same]; decide, fun k j hk _ => absurd hk (Nat.not_lt_zero k), fun a c z1 z2 => by rw [rI_wIc (by omega), rI_wIc (by omega)]⟩
  have h9 : GP S (f_X9_passes (f_X9_passes (f_X9_passes (f_X9_passes (f_X9_passes (f_X9_passes (f_X9_passes (f_X9_passes (f_X9_passes (wI (wI S 115 43 0) 115 44 (((220 : Int32) * 1))) 116) 117) 118) 119) 120) 121) 122) 123) 124) 220 9 := (((((((((h0.step (by omega) (by omega) rfl).step (by omega) (by omega) rfl).step (by omega) (by omega) rfl).step (by omega) (by omega) rfl).step (by omega) (by omega) rfl).step (by omega) (by omega) rfl).step (by omega) (by omega) rfl).step (by omega) (by omega) rfl).step (by omega) (by omega) rfl)
  unfold f_pass10
  revert h9
  generalize (f_X9_passes (f_X9_passes (f_X9_passes (f_X9_passes (f_X9_passes (f_X9_passes (f_X9_passes (f_X9_passes (f_X9_passes (wI (wI S 115 43 0) 115 44 (((220 : Int32) * 1))) 116) 117) 118) 119) 120) 121) 122) 123) 124) = P9
  intro h9
  have k1 := pb_g h9 (by omega) 0
  show GD S (if rI (poB P9).2 115 15 = 0 then wI (wI (poB P9).2 115 11 (poB P9).1) 115 15 0 else wI (wI (poB P9).2 115 11 (poB P9).1) 115 15 0) 220
  rw [k1, ite_self]
  exact gd_of h9

theorem cr_ne {S : gS} {k0 k1 a c : Nat} (h : a ≠ k1) : rI (f_X0_copyRow S k0 k1) a c = rI S a c := by
  unfold f_X0_copyRow
  rw [rI_wR, if_neg h]
theorem cr_eq {S : gS} {k0 k1 c : Nat} : rI (f_X0_copyRow S k0 k1) k1 c = if c < 24 then rI S k0 c else rI S k1 c := by
  unfold f_X0_copyRow
  rw [rI_wR, if_pos rfl]
theorem nar_01 {v : Int32} (h : v = 0 ∨ v = 1) : vp_nar .boolean v = v := by rcases h with q | q <;> subst q <;> rfl

theorem cpo_12_1 (p : gS) (h7 : ∀ c, c < 24 → rI p 7 c = 0 ∨ rI p 7 c = 1) : ∀ n, n ≤ 24 → ∀ i, rI (itr bd_cpo12_1 n p) 18 i = if i < n then rI p 7 i else rI p 18 i := by
  intro n
  induction n with
  | zero => intro _ i; rw [if_neg (by omega)]; rfl
  | succ n ih =>
    intro h24 i
    have hi := ih (by omega) i
    have f := fun c => fr_lp_cpo12_1 (a0 := 7) (c0 := c) (by decide) n p
    show rI (bd_cpo12_1 n (itr bd_cpo12_1 n p)) 18 i = _
    revert hi f
    generalize itr bd_cpo12_1 n p = q
    intro hi f
    unfold bd_cpo12_1
    rw [f, nar_01 (h7 n (by omega)), rI_wI]
    by_cases e : i = n
    · rw [if_pos ⟨rfl, e⟩, if_pos (by omega), e]
    · rw [if_neg (fun z => e z.2), hi]
      by_cases z : i < n
      · rw [if_pos z, if_pos (by omega)]
      · rw [if_neg z, if_neg (by omega)]
theorem cp_12_1 (S : gS) (h7 : ∀ c, c < 24 → rI S 7 c = 0 ∨ rI S 7 c = 1) : (∀ r c, 1 ≤ r → r ≤ 10 → c < 24 → rI (f_copy12_1 S) (12 + r) c = rI S (1 + r) c) ∧ (rI (f_copy12_1 S) 12 0 = rI S 1 0 ∧ rI (f_copy12_1 S) 12 1 = rI S 1 1) ∧ (∀ a c, a < 12 ∨ 22 < a → rI (f_copy12_1 S) a c = rI S a c) ∧ (∀ c, ¬ c < 24 → rI (f_copy12_1 S) 18 c = rI S 18 c) := by
  have hp : ∀ a c, a < 12 ∨ 22 < a → rI (f_X0_copyRow (f_X0_copyRow (f_X0_copyRow (f_X0_copyRow (f_X0_copyRow (f_X0_copyRow (f_X0_copyRow (f_X0_copyRow (f_X0_copyRow (wI (wI S 12 0 ((rI S 1 0))) 12 1 ((rI S 1 1))) 2 13) 3 14) 4 15) 5 16) 6 17) 8 19) 9 20) 10 21) 11 22) a c = rI S a c := fun a c h => by rw [cr_ne (by omega), cr_ne (by omega), cr_ne (by omega), cr_ne (by omega), cr_ne (by omega), cr_ne (by omega), cr_ne (by omega), cr_ne (by omega), cr_ne (by omega), rI_wIk (by omega), rI_wIk (by omega)]
  have h6 : ∀ c, rI (f_X0_copyRow (f_X0_copyRow (f_X0_copyRow (f_X0_copyRow (f_X0_copyRow (f_X0_copyRow (f_X0_copyRow (f_X0_copyRow (f_X0_copyRow (wI (wI S 12 0 ((rI S 1 0))) 12 1 ((rI S 1 1))) 2 13) 3 14) 4 15) 5 16) 6 17) 8 19) 9 20) 10 21) 11 22) 18 c = rI S 18 c := fun c => by rw [cr_ne (by decide), cr_ne (by decide), cr_ne (by decide), cr_ne (by decide), cr_ne (by decide), cr_ne (by decide), cr_ne (by decide), cr_ne (by decide), cr_ne (by decide), rI_wIk (by decide), rI_wIk (by decide)]
  have r1 : ∀ c, c < 24 → rI (f_X0_copyRow (f_X0_copyRow (f_X0_copyRow (f_X0_copyRow (f_X0_copyRow (f_X0_copyRow (f_X0_copyRow (f_X0_copyRow (f_X0_copyRow (wI (wI S 12 0 ((rI S 1 0))) 12 1 ((rI S 1 1))) 2 13) 3 14) 4 15) 5 16) 6 17) 8 19) 9 20) 10 21) 11 22) 13 c = rI S 2 c := fun c hc => by rw [cr_ne (by decide), cr_ne (by decide), cr_ne (by decide), cr_ne (by decide), cr_ne (by decide), cr_ne (by decide), cr_ne (by decide), cr_ne (by decide), cr_eq, if_pos hc, rI_wIk (by decide), rI_wIk (by decide)]
  have r2 : ∀ c, c < 24 → rI (f_X0_copyRow (f_X0_copyRow (f_X0_copyRow (f_X0_copyRow (f_X0_copyRow (f_X0_copyRow (f_X0_copyRow (f_X0_copyRow (f_X0_copyRow (wI (wI S 12 0 ((rI S 1 0))) 12 1 ((rI S 1 1))) 2 13) 3 14) 4 15) 5 16) 6 17) 8 19) 9 20) 10 21) 11 22) 14 c = rI S 3 c := fun c hc => by rw [cr_ne (by decide), cr_ne (by decide), cr_ne (by decide), cr_ne (by decide), cr_ne (by decide), cr_ne (by decide), cr_ne (by decide), cr_eq, if_pos hc, cr_ne (by decide), rI_wIk (by decide), rI_wIk (by decide)]
  have r3 : ∀ c, c < 24 → rI (f_X0_copyRow (f_X0_copyRow (f_X0_copyRow (f_X0_copyRow (f_X0_copyRow (f_X0_copyRow (f_X0_copyRow (f_X0_copyRow (f_X0_copyRow (wI (wI S 12 0 ((rI S 1 0))) 12 1 ((rI S 1 1))) 2 13) 3 14) 4 15) 5 16) 6 17) 8 19) 9 20) 10 21) 11 22) 15 c = rI S 4 c := fun c hc => by rw [cr_ne (by decide), cr_ne (by decide), cr_ne (by decide), cr_ne (by decide), cr_ne (by decide), cr_ne (by decide), cr_eq, if_pos hc, cr_ne (by decide), cr_ne (by decide), rI_wIk (by decide), rI_wIk (by decide)]
  have r4 : ∀ c, c < 24 → rI (f_X0_copyRow (f_X0_copyRow (f_X0_copyRow (f_X0_copyRow (f_X0_copyRow (f_X0_copyRow (f_X0_copyRow (f_X0_copyRow (f_X0_copyRow (wI (wI S 12 0 ((rI S 1 0))) 12 1 ((rI S 1 1))) 2 13) 3 14) 4 15) 5 16) 6 17) 8 19) 9 20) 10 21) 11 22) 16 c = rI S 5 c := fun c hc => by rw [cr_ne (by decide), cr_ne (by decide), cr_ne (by decide), cr_ne (by decide), cr_ne (by decide), cr_eq, if_pos hc, cr_ne (by decide), cr_ne (by decide), cr_ne (by decide), rI_wIk (by decide), rI_wIk (by decide)]
  have r5 : ∀ c, c < 24 → rI (f_X0_copyRow (f_X0_copyRow (f_X0_copyRow (f_X0_copyRow (f_X0_copyRow (f_X0_copyRow (f_X0_copyRow (f_X0_copyRow (f_X0_copyRow (wI (wI S 12 0 ((rI S 1 0))) 12 1 ((rI S 1 1))) 2 13) 3 14) 4 15) 5 16) 6 17) 8 19) 9 20) 10 21) 11 22) 17 c = rI S 6 c := fun c hc => by rw [cr_ne (by decide), cr_ne (by decide), cr_ne (by decide), cr_ne (by decide), cr_eq, if_pos hc, cr_ne (by decide), cr_ne (by decide), cr_ne (by decide), cr_ne (by decide), rI_wIk (by decide), rI_wIk (by decide)]
  have r7 : ∀ c, c < 24 → rI (f_X0_copyRow (f_X0_copyRow (f_X0_copyRow (f_X0_copyRow (f_X0_copyRow (f_X0_copyRow (f_X0_copyRow (f_X0_copyRow (f_X0_copyRow (wI (wI S 12 0 ((rI S 1 0))) 12 1 ((rI S 1 1))) 2 13) 3 14) 4 15) 5 16) 6 17) 8 19) 9 20) 10 21) 11 22) 19 c = rI S 8 c := fun c hc => by rw [cr_ne (by decide), cr_ne (by decide), cr_ne (by decide), cr_eq, if_pos hc, cr_ne (by decide), cr_ne (by decide), cr_ne (by decide), cr_ne (by decide), cr_ne (by decide), rI_wIk (by decide), rI_wIk (by decide)]
  have r8 : ∀ c, c < 24 → rI (f_X0_copyRow (f_X0_copyRow (f_X0_copyRow (f_X0_copyRow (f_X0_copyRow (f_X0_copyRow (f_X0_copyRow (f_X0_copyRow (f_X0_copyRow (wI (wI S 12 0 ((rI S 1 0))) 12 1 ((rI S 1 1))) 2 13) 3 14) 4 15) 5 16) 6 17) 8 19) 9 20) 10 21) 11 22) 20 c = rI S 9 c := fun c hc => by rw [cr_ne (by decide), cr_ne (by decide), cr_eq, if_pos hc, cr_ne (by decide), cr_ne (by decide), cr_ne (by decide), cr_ne (by decide), cr_ne (by decide), cr_ne (by decide), rI_wIk (by decide), rI_wIk (by decide)]
  have r9 : ∀ c, c < 24 → rI (f_X0_copyRow (f_X0_copyRow (f_X0_copyRow (f_X0_copyRow (f_X0_copyRow (f_X0_copyRow (f_X0_copyRow (f_X0_copyRow (f_X0_copyRow (wI (wI S 12 0 ((rI S 1 0))) 12 1 ((rI S 1 1))) 2 13) 3 14) 4 15) 5 16) 6 17) 8 19) 9 20) 10 21) 11 22) 21 c = rI S 10 c := fun c hc => by rw [cr_ne (by decide), cr_eq, if_pos hc, cr_ne (by decide), cr_ne (by decide), cr_ne (by decide), cr_ne (by decide), cr_ne (by decide), cr_ne (by decide), cr_ne (by decide), rI_wIk (by decide), rI_wIk (by decide)]
  have r10 : ∀ c, c < 24 → rI (f_X0_copyRow (f_X0_copyRow (f_X0_copyRow (f_X0_copyRow (f_X0_copyRow (f_X0_copyRow (f_X0_copyRow (f_X0_copyRow (f_X0_copyRow (wI (wI S 12 0 ((rI S 1 0))) 12 1 ((rI S 1 1))) 2 13) 3 14) 4 15) 5 16) 6 17) 8 19) 9 20) 10 21) 11 22) 22 c = rI S 11 c := fun c hc => by rw [cr_eq, if_pos hc, cr_ne (by decide), cr_ne (by decide), cr_ne (by decide), cr_ne (by decide), cr_ne (by decide), cr_ne (by decide), cr_ne (by decide), cr_ne (by decide), rI_wIk (by decide), rI_wIk (by decide)]
  have d0 : rI (f_X0_copyRow (f_X0_copyRow (f_X0_copyRow (f_X0_copyRow (f_X0_copyRow (f_X0_copyRow (f_X0_copyRow (f_X0_copyRow (f_X0_copyRow (wI (wI S 12 0 ((rI S 1 0))) 12 1 ((rI S 1 1))) 2 13) 3 14) 4 15) 5 16) 6 17) 8 19) 9 20) 10 21) 11 22) 12 0 = rI S 1 0 := by rw [cr_ne (by decide), cr_ne (by decide), cr_ne (by decide), cr_ne (by decide), cr_ne (by decide), cr_ne (by decide), cr_ne (by decide), cr_ne (by decide), cr_ne (by decide), rI_wIc (by decide), rI_same]
  have d1 : rI (f_X0_copyRow (f_X0_copyRow (f_X0_copyRow (f_X0_copyRow (f_X0_copyRow (f_X0_copyRow (f_X0_copyRow (f_X0_copyRow (f_X0_copyRow (wI (wI S 12 0 ((rI S 1 0))) 12 1 ((rI S 1 1))) 2 13) 3 14) 4 15) 5 16) 6 17) 8 19) 9 20) 10 21) 11 22) 12 1 = rI S 1 1 := by rw [cr_ne (by decide), cr_ne (by decide), cr_ne (by decide), cr_ne (by decide), cr_ne (by decide), cr_ne (by decide), cr_ne (by decide), cr_ne (by decide), cr_ne (by decide), rI_same]
  have f0 : f_copy12_1 S = itr bd_cpo12_1 24 (f_X0_copyRow (f_X0_copyRow (f_X0_copyRow (f_X0_copyRow (f_X0_copyRow (f_X0_copyRow (f_X0_copyRow (f_X0_copyRow (f_X0_copyRow (wI (wI S 12 0 ((rI S 1 0))) 12 1 ((rI S 1 1))) 2 13) 3 14) 4 15) 5 16) 6 17) 8 19) 9 20) 10 21) 11 22) := rfl
  rw [f0]
  revert hp h6 r1 r2 r3 r4 r5 r7 r8 r9 r10 d0 d1
  generalize (f_X0_copyRow (f_X0_copyRow (f_X0_copyRow (f_X0_copyRow (f_X0_copyRow (f_X0_copyRow (f_X0_copyRow (f_X0_copyRow (f_X0_copyRow (wI (wI S 12 0 ((rI S 1 0))) 12 1 ((rI S 1 1))) 2 13) 3 14) 4 15) 5 16) 6 17) 8 19) 9 20) 10 21) 11 22) = p
  intro hp h6 r1 r2 r3 r4 r5 r7 r8 r9 r10 d0 d1
  have q := cpo_12_1 p (fun c hc => by rw [hp 7 c (by decide)]; exact h7 c hc) 24 (Nat.le_refl _)
  have fr : ∀ a c, a ≠ 18 → rI (itr bd_cpo12_1 24 p) a c = rI p a c := fun a c h => fr_lp_cpo12_1 h 24 p
  refine ⟨fun r c z1 z2 z3 => ?_, ⟨(fr _ _ (by decide)).trans d0, (fr _ _ (by decide)).trans d1⟩, fun a c h => (fr a c (by omega)).trans (hp a c h), fun c z => ?_⟩
  · have hr : r = 1 ∨ r = 2 ∨ r = 3 ∨ r = 4 ∨ r = 5 ∨ r = 6 ∨ r = 7 ∨ r = 8 ∨ r = 9 ∨ r = 10 := by omega
    rcases hr with e | e | e | e | e | e | e | e | e | e <;> subst e
    · exact (fr 13 c (by decide)).trans (r1 c z3)
    · exact (fr 14 c (by decide)).trans (r2 c z3)
    · exact (fr 15 c (by decide)).trans (r3 c z3)
    · exact (fr 16 c (by decide)).trans (r4 c z3)
    · exact (fr 17 c (by decide)).trans (r5 c z3)
    · show rI (itr bd_cpo12_1 24 p) 18 c = rI S 7 c
      rw [q c, if_pos z3]; exact hp 7 c (by decide)
    · exact (fr 19 c (by decide)).trans (r7 c z3)
    · exact (fr 20 c (by decide)).trans (r8 c z3)
    · exact (fr 21 c (by decide)).trans (r9 c z3)
    · exact (fr 22 c (by decide)).trans (r10 c z3)
  · rw [q c, if_neg z]; exact h6 c

theorem cpo_23_1 (p : gS) (h7 : ∀ c, c < 24 → rI p 7 c = 0 ∨ rI p 7 c = 1) : ∀ n, n ≤ 24 → ∀ i, rI (itr bd_cpo23_1 n p) 29 i = if i < n then rI p 7 i else rI p 29 i := by
  intro n
  induction n with
  | zero => intro _ i; rw [if_neg (by omega)]; rfl
  | succ n ih =>
    intro h24 i
    have hi := ih (by omega) i
    have f := fun c => fr_lp_cpo23_1 (a0 := 7) (c0 := c) (by decide) n p
    show rI (bd_cpo23_1 n (itr bd_cpo23_1 n p)) 29 i = _
    revert hi f
    generalize itr bd_cpo23_1 n p = q
    intro hi f
    unfold bd_cpo23_1
    rw [f, nar_01 (h7 n (by omega)), rI_wI]
    by_cases e : i = n
    · rw [if_pos ⟨rfl, e⟩, if_pos (by omega), e]
    · rw [if_neg (fun z => e z.2), hi]
      by_cases z : i < n
      · rw [if_pos z, if_pos (by omega)]
      · rw [if_neg z, if_neg (by omega)]
theorem cp_23_1 (S : gS) (h7 : ∀ c, c < 24 → rI S 7 c = 0 ∨ rI S 7 c = 1) : (∀ r c, 1 ≤ r → r ≤ 10 → c < 24 → rI (f_copy23_1 S) (23 + r) c = rI S (1 + r) c) ∧ (rI (f_copy23_1 S) 23 0 = rI S 1 0 ∧ rI (f_copy23_1 S) 23 1 = rI S 1 1) ∧ (∀ a c, a < 23 ∨ 33 < a → rI (f_copy23_1 S) a c = rI S a c) ∧ (∀ c, ¬ c < 24 → rI (f_copy23_1 S) 29 c = rI S 29 c) := by
  have hp : ∀ a c, a < 23 ∨ 33 < a → rI (f_X0_copyRow (f_X0_copyRow (f_X0_copyRow (f_X0_copyRow (f_X0_copyRow (f_X0_copyRow (f_X0_copyRow (f_X0_copyRow (f_X0_copyRow (wI (wI S 23 0 ((rI S 1 0))) 23 1 ((rI S 1 1))) 2 24) 3 25) 4 26) 5 27) 6 28) 8 30) 9 31) 10 32) 11 33) a c = rI S a c := fun a c h => by rw [cr_ne (by omega), cr_ne (by omega), cr_ne (by omega), cr_ne (by omega), cr_ne (by omega), cr_ne (by omega), cr_ne (by omega), cr_ne (by omega), cr_ne (by omega), rI_wIk (by omega), rI_wIk (by omega)]
  have h6 : ∀ c, rI (f_X0_copyRow (f_X0_copyRow (f_X0_copyRow (f_X0_copyRow (f_X0_copyRow (f_X0_copyRow (f_X0_copyRow (f_X0_copyRow (f_X0_copyRow (wI (wI S 23 0 ((rI S 1 0))) 23 1 ((rI S 1 1))) 2 24) 3 25) 4 26) 5 27) 6 28) 8 30) 9 31) 10 32) 11 33) 29 c = rI S 29 c := fun c => by rw [cr_ne (by decide), cr_ne (by decide), cr_ne (by decide), cr_ne (by decide), cr_ne (by decide), cr_ne (by decide), cr_ne (by decide), cr_ne (by decide), cr_ne (by decide), rI_wIk (by decide), rI_wIk (by decide)]
  have r1 : ∀ c, c < 24 → rI (f_X0_copyRow (f_X0_copyRow (f_X0_copyRow (f_X0_copyRow (f_X0_copyRow (f_X0_copyRow (f_X0_copyRow (f_X0_copyRow (f_X0_copyRow (wI (wI S 23 0 ((rI S 1 0))) 23 1 ((rI S 1 1))) 2 24) 3 25) 4 26) 5 27) 6 28) 8 30) 9 31) 10 32) 11 33) 24 c = rI S 2 c := fun c hc => by rw [cr_ne (by decide), cr_ne (by decide), cr_ne (by decide), cr_ne (by decide), cr_ne (by decide), cr_ne (by decide), cr_ne (by decide), cr_ne (by decide), cr_eq, if_pos hc, rI_wIk (by decide), rI_wIk (by decide)]
  have r2 : ∀ c, c < 24 → rI (f_X0_copyRow (f_X0_copyRow (f_X0_copyRow (f_X0_copyRow (f_X0_copyRow (f_X0_copyRow (f_X0_copyRow (f_X0_copyRow (f_X0_copyRow (wI (wI S 23 0 ((rI S 1 0))) 23 1 ((rI S 1 1))) 2 24) 3 25) 4 26) 5 27) 6 28) 8 30) 9 31) 10 32) 11 33) 25 c = rI S 3 c := fun c hc => by rw [cr_ne (by decide), cr_ne (by decide), cr_ne (by decide), cr_ne (by decide), cr_ne (by decide), cr_ne (by decide), cr_ne (by decide), cr_eq, if_pos hc, cr_ne (by decide), rI_wIk (by decide), rI_wIk (by decide)]
  have r3 : ∀ c, c < 24 → rI (f_X0_copyRow (f_X0_copyRow (f_X0_copyRow (f_X0_copyRow (f_X0_copyRow (f_X0_copyRow (f_X0_copyRow (f_X0_copyRow (f_X0_copyRow (wI (wI S 23 0 ((rI S 1 0))) 23 1 ((rI S 1 1))) 2 24) 3 25) 4 26) 5 27) 6 28) 8 30) 9 31) 10 32) 11 33) 26 c = rI S 4 c := fun c hc => by rw [cr_ne (by decide), cr_ne (by decide), cr_ne (by decide), cr_ne (by decide), cr_ne (by decide), cr_ne (by decide), cr_eq, if_pos hc, cr_ne (by decide), cr_ne (by decide), rI_wIk (by decide), rI_wIk (by decide)]
  have r4 : ∀ c, c < 24 → rI (f_X0_copyRow (f_X0_copyRow (f_X0_copyRow (f_X0_copyRow (f_X0_copyRow (f_X0_copyRow (f_X0_copyRow (f_X0_copyRow (f_X0_copyRow (wI (wI S 23 0 ((rI S 1 0))) 23 1 ((rI S 1 1))) 2 24) 3 25) 4 26) 5 27) 6 28) 8 30) 9 31) 10 32) 11 33) 27 c = rI S 5 c := fun c hc => by rw [cr_ne (by decide), cr_ne (by decide), cr_ne (by decide), cr_ne (by decide), cr_ne (by decide), cr_eq, if_pos hc, cr_ne (by decide), cr_ne (by decide), cr_ne (by decide), rI_wIk (by decide), rI_wIk (by decide)]
  have r5 : ∀ c, c < 24 → rI (f_X0_copyRow (f_X0_copyRow (f_X0_copyRow (f_X0_copyRow (f_X0_copyRow (f_X0_copyRow (f_X0_copyRow (f_X0_copyRow (f_X0_copyRow (wI (wI S 23 0 ((rI S 1 0))) 23 1 ((rI S 1 1))) 2 24) 3 25) 4 26) 5 27) 6 28) 8 30) 9 31) 10 32) 11 33) 28 c = rI S 6 c := fun c hc => by rw [cr_ne (by decide), cr_ne (by decide), cr_ne (by decide), cr_ne (by decide), cr_eq, if_pos hc, cr_ne (by decide), cr_ne (by decide), cr_ne (by decide), cr_ne (by decide), rI_wIk (by decide), rI_wIk (by decide)]
  have r7 : ∀ c, c < 24 → rI (f_X0_copyRow (f_X0_copyRow (f_X0_copyRow (f_X0_copyRow (f_X0_copyRow (f_X0_copyRow (f_X0_copyRow (f_X0_copyRow (f_X0_copyRow (wI (wI S 23 0 ((rI S 1 0))) 23 1 ((rI S 1 1))) 2 24) 3 25) 4 26) 5 27) 6 28) 8 30) 9 31) 10 32) 11 33) 30 c = rI S 8 c := fun c hc => by rw [cr_ne (by decide), cr_ne (by decide), cr_ne (by decide), cr_eq, if_pos hc, cr_ne (by decide), cr_ne (by decide), cr_ne (by decide), cr_ne (by decide), cr_ne (by decide), rI_wIk (by decide), rI_wIk (by decide)]
  have r8 : ∀ c, c < 24 → rI (f_X0_copyRow (f_X0_copyRow (f_X0_copyRow (f_X0_copyRow (f_X0_copyRow (f_X0_copyRow (f_X0_copyRow (f_X0_copyRow (f_X0_copyRow (wI (wI S 23 0 ((rI S 1 0))) 23 1 ((rI S 1 1))) 2 24) 3 25) 4 26) 5 27) 6 28) 8 30) 9 31) 10 32) 11 33) 31 c = rI S 9 c := fun c hc => by rw [cr_ne (by decide), cr_ne (by decide), cr_eq, if_pos hc, cr_ne (by decide), cr_ne (by decide), cr_ne (by decide), cr_ne (by decide), cr_ne (by decide), cr_ne (by decide), rI_wIk (by decide), rI_wIk (by decide)]
  have r9 : ∀ c, c < 24 → rI (f_X0_copyRow (f_X0_copyRow (f_X0_copyRow (f_X0_copyRow (f_X0_copyRow (f_X0_copyRow (f_X0_copyRow (f_X0_copyRow (f_X0_copyRow (wI (wI S 23 0 ((rI S 1 0))) 23 1 ((rI S 1 1))) 2 24) 3 25) 4 26) 5 27) 6 28) 8 30) 9 31) 10 32) 11 33) 32 c = rI S 10 c := fun c hc => by rw [cr_ne (by decide), cr_eq, if_pos hc, cr_ne (by decide), cr_ne (by decide), cr_ne (by decide), cr_ne (by decide), cr_ne (by decide), cr_ne (by decide), cr_ne (by decide), rI_wIk (by decide), rI_wIk (by decide)]
  have r10 : ∀ c, c < 24 → rI (f_X0_copyRow (f_X0_copyRow (f_X0_copyRow (f_X0_copyRow (f_X0_copyRow (f_X0_copyRow (f_X0_copyRow (f_X0_copyRow (f_X0_copyRow (wI (wI S 23 0 ((rI S 1 0))) 23 1 ((rI S 1 1))) 2 24) 3 25) 4 26) 5 27) 6 28) 8 30) 9 31) 10 32) 11 33) 33 c = rI S 11 c := fun c hc => by rw [cr_eq, if_pos hc, cr_ne (by decide), cr_ne (by decide), cr_ne (by decide), cr_ne (by decide), cr_ne (by decide), cr_ne (by decide), cr_ne (by decide), cr_ne (by decide), rI_wIk (by decide), rI_wIk (by decide)]
  have d0 : rI (f_X0_copyRow (f_X0_copyRow (f_X0_copyRow (f_X0_copyRow (f_X0_copyRow (f_X0_copyRow (f_X0_copyRow (f_X0_copyRow (f_X0_copyRow (wI (wI S 23 0 ((rI S 1 0))) 23 1 ((rI S 1 1))) 2 24) 3 25) 4 26) 5 27) 6 28) 8 30) 9 31) 10 32) 11 33) 23 0 = rI S 1 0 := by rw [cr_ne (by decide), cr_ne (by decide), cr_ne (by decide), cr_ne (by decide), cr_ne (by decide), cr_ne (by decide), cr_ne (by decide), cr_ne (by decide), cr_ne (by decide), rI_wIc (by decide), rI_same]
  have d1 : rI (f_X0_copyRow (f_X0_copyRow (f_X0_copyRow (f_X0_copyRow (f_X0_copyRow (f_X0_copyRow (f_X0_copyRow (f_X0_copyRow (f_X0_copyRow (wI (wI S 23 0 ((rI S 1 0))) 23 1 ((rI S 1 1))) 2 24) 3 25) 4 26) 5 27) 6 28) 8 30) 9 31) 10 32) 11 33) 23 1 = rI S 1 1 := by rw [cr_ne (by decide), cr_ne (by decide), cr_ne (by decide), cr_ne (by decide), cr_ne (by decide), cr_ne (by decide), cr_ne (by decide), cr_ne (by decide), cr_ne (by decide), rI_same]
  have f0 : f_copy23_1 S = itr bd_cpo23_1 24 (f_X0_copyRow (f_X0_copyRow (f_X0_copyRow (f_X0_copyRow (f_X0_copyRow (f_X0_copyRow (f_X0_copyRow (f_X0_copyRow (f_X0_copyRow (wI (wI S 23 0 ((rI S 1 0))) 23 1 ((rI S 1 1))) 2 24) 3 25) 4 26) 5 27) 6 28) 8 30) 9 31) 10 32) 11 33) := rfl
  rw [f0]
  revert hp h6 r1 r2 r3 r4 r5 r7 r8 r9 r10 d0 d1
  generalize (f_X0_copyRow (f_X0_copyRow (f_X0_copyRow (f_X0_copyRow (f_X0_copyRow (f_X0_copyRow (f_X0_copyRow (f_X0_copyRow (f_X0_copyRow (wI (wI S 23 0 ((rI S 1 0))) 23 1 ((rI S 1 1))) 2 24) 3 25) 4 26) 5 27) 6 28) 8 30) 9 31) 10 32) 11 33) = p
  intro hp h6 r1 r2 r3 r4 r5 r7 r8 r9 r10 d0 d1
  have q := cpo_23_1 p (fun c hc => by rw [hp 7 c (by decide)]; exact h7 c hc) 24 (Nat.le_refl _)
  have fr : ∀ a c, a ≠ 29 → rI (itr bd_cpo23_1 24 p) a c = rI p a c := fun a c h => fr_lp_cpo23_1 h 24 p
  refine ⟨fun r c z1 z2 z3 => ?_, ⟨(fr _ _ (by decide)).trans d0, (fr _ _ (by decide)).trans d1⟩, fun a c h => (fr a c (by omega)).trans (hp a c h), fun c z => ?_⟩
  · have hr : r = 1 ∨ r = 2 ∨ r = 3 ∨ r = 4 ∨ r = 5 ∨ r = 6 ∨ r = 7 ∨ r = 8 ∨ r = 9 ∨ r = 10 := by omega
    rcases hr with e | e | e | e | e | e | e | e | e | e <;> subst e
    · exact (fr 24 c (by decide)).trans (r1 c z3)
    · exact (fr 25 c (by decide)).trans (r2 c z3)
    · exact (fr 26 c (by decide)).trans (r3 c z3)
    · exact (fr 27 c (by decide)).trans (r4 c z3)
    · exact (fr 28 c (by decide)).trans (r5 c z3)
    · show rI (itr bd_cpo23_1 24 p) 29 c = rI S 7 c
      rw [q c, if_pos z3]; exact hp 7 c (by decide)
    · exact (fr 30 c (by decide)).trans (r7 c z3)
    · exact (fr 31 c (by decide)).trans (r8 c z3)
    · exact (fr 32 c (by decide)).trans (r9 c z3)
    · exact (fr 33 c (by decide)).trans (r10 c z3)
  · rw [q c, if_neg z]; exact h6 c

theorem cpo_1_12 (p : gS) (h7 : ∀ c, c < 24 → rI p 18 c = 0 ∨ rI p 18 c = 1) : ∀ n, n ≤ 24 → ∀ i, rI (itr bd_cpo1_12 n p) 7 i = if i < n then rI p 18 i else rI p 7 i := by
  intro n
  induction n with
  | zero => intro _ i; rw [if_neg (by omega)]; rfl
  | succ n ih =>
    intro h24 i
    have hi := ih (by omega) i
    have f := fun c => fr_lp_cpo1_12 (a0 := 18) (c0 := c) (by decide) n p
    show rI (bd_cpo1_12 n (itr bd_cpo1_12 n p)) 7 i = _
    revert hi f
    generalize itr bd_cpo1_12 n p = q
    intro hi f
    unfold bd_cpo1_12
    rw [f, nar_01 (h7 n (by omega)), rI_wI]
    by_cases e : i = n
    · rw [if_pos ⟨rfl, e⟩, if_pos (by omega), e]
    · rw [if_neg (fun z => e z.2), hi]
      by_cases z : i < n
      · rw [if_pos z, if_pos (by omega)]
      · rw [if_neg z, if_neg (by omega)]
theorem cp_1_12 (S : gS) (h7 : ∀ c, c < 24 → rI S 18 c = 0 ∨ rI S 18 c = 1) : (∀ r c, 1 ≤ r → r ≤ 10 → c < 24 → rI (f_copy1_12 S) (1 + r) c = rI S (12 + r) c) ∧ (rI (f_copy1_12 S) 1 0 = rI S 12 0 ∧ rI (f_copy1_12 S) 1 1 = rI S 12 1) ∧ (∀ a c, a < 1 ∨ 11 < a → rI (f_copy1_12 S) a c = rI S a c) ∧ (∀ c, ¬ c < 24 → rI (f_copy1_12 S) 7 c = rI S 7 c) := by
  have hp : ∀ a c, a < 1 ∨ 11 < a → rI (f_X0_copyRow (f_X0_copyRow (f_X0_copyRow (f_X0_copyRow (f_X0_copyRow (f_X0_copyRow (f_X0_copyRow (f_X0_copyRow (f_X0_copyRow (wI (wI S 1 0 ((rI S 12 0))) 1 1 ((rI S 12 1))) 13 2) 14 3) 15 4) 16 5) 17 6) 19 8) 20 9) 21 10) 22 11) a c = rI S a c := fun a c h => by rw [cr_ne (by omega), cr_ne (by omega), cr_ne (by omega), cr_ne (by omega), cr_ne (by omega), cr_ne (by omega), cr_ne (by omega), cr_ne (by omega), cr_ne (by omega), rI_wIk (by omega), rI_wIk (by omega)]
  have h6 : ∀ c, rI (f_X0_copyRow (f_X0_copyRow (f_X0_copyRow (f_X0_copyRow (f_X0_copyRow (f_X0_copyRow (f_X0_copyRow (f_X0_copyRow (f_X0_copyRow (wI (wI S 1 0 ((rI S 12 0))) 1 1 ((rI S 12 1))) 13 2) 14 3) 15 4) 16 5) 17 6) 19 8) 20 9) 21 10) 22 11) 7 c = rI S 7 c := fun c => by rw [cr_ne (by decide), cr_ne (by decide), cr_ne (by decide), cr_ne (by decide), cr_ne (by decide), cr_ne (by decide), cr_ne (by decide), cr_ne (by decide), cr_ne (by decide), rI_wIk (by decide), rI_wIk (by decide)]
  have r1 : ∀ c, c < 24 → rI (f_X0_copyRow (f_X0_copyRow (f_X0_copyRow (f_X0_copyRow (f_X0_copyRow (f_X0_copyRow (f_X0_copyRow (f_X0_copyRow (f_X0_copyRow (wI (wI S 1 0 ((rI S 12 0))) 1 1 ((rI S 12 1))) 13 2) 14 3) 15 4) 16 5) 17 6) 19 8) 20 9) 21 10) 22 11) 2 c = rI S 13 c := fun c hc => by rw [cr_ne (by decide), cr_ne (by decide), cr_ne (by decide), cr_ne (by decide), cr_ne (by decide), cr_ne (by decide), cr_ne (by decide), cr_ne (by decide), cr_eq, if_pos hc, rI_wIk (by decide), rI_wIk (by decide)]
  have r2 : ∀ c, c < 24 → rI (f_X0_copyRow (f_X0_copyRow (f_X0_copyRow (f_X0_copyRow (f_X0_copyRow (f_X0_copyRow (f_X0_copyRow (f_X0_copyRow (f_X0_copyRow (wI (wI S 1 0 ((rI S 12 0))) 1 1 ((rI S 12 1))) 13 2) 14 3) 15 4) 16 5) 17 6) 19 8) 20 9) 21 10) 22 11) 3 c = rI S 14 c := fun c hc => by rw [cr_ne (by decide), cr_ne (by decide), cr_ne (by decide), cr_ne (by decide), cr_ne (by decide), cr_ne (by decide), cr_ne (by decide), cr_eq, if_pos hc, cr_ne (by decide), rI_wIk (by decide), rI_wIk (by decide)]
  have r3 : ∀ c, c < 24 → rI (f_X0_copyRow (f_X0_copyRow (f_X0_copyRow (f_X0_copyRow (f_X0_copyRow (f_X0_copyRow (f_X0_copyRow (f_X0_copyRow (f_X0_copyRow (wI (wI S 1 0 ((rI S 12 0))) 1 1 ((rI S 12 1))) 13 2) 14 3) 15 4) 16 5) 17 6) 19 8) 20 9) 21 10) 22 11) 4 c = rI S 15 c := fun c hc => by rw [cr_ne (by decide), cr_ne (by decide), cr_ne (by decide), cr_ne (by decide), cr_ne (by decide), cr_ne (by decide), cr_eq, if_pos hc, cr_ne (by decide), cr_ne (by decide), rI_wIk (by decide), rI_wIk (by decide)]
  have r4 : ∀ c, c < 24 → rI (f_X0_copyRow (f_X0_copyRow (f_X0_copyRow (f_X0_copyRow (f_X0_copyRow (f_X0_copyRow (f_X0_copyRow (f_X0_copyRow (f_X0_copyRow (wI (wI S 1 0 ((rI S 12 0))) 1 1 ((rI S 12 1))) 13 2) 14 3) 15 4) 16 5) 17 6) 19 8) 20 9) 21 10) 22 11) 5 c = rI S 16 c := fun c hc => by rw [cr_ne (by decide), cr_ne (by decide), cr_ne (by decide), cr_ne (by decide), cr_ne (by decide), cr_eq, if_pos hc, cr_ne (by decide), cr_ne (by decide), cr_ne (by decide), rI_wIk (by decide), rI_wIk (by decide)]
  have r5 : ∀ c, c < 24 → rI (f_X0_copyRow (f_X0_copyRow (f_X0_copyRow (f_X0_copyRow (f_X0_copyRow (f_X0_copyRow (f_X0_copyRow (f_X0_copyRow (f_X0_copyRow (wI (wI S 1 0 ((rI S 12 0))) 1 1 ((rI S 12 1))) 13 2) 14 3) 15 4) 16 5) 17 6) 19 8) 20 9) 21 10) 22 11) 6 c = rI S 17 c := fun c hc => by rw [cr_ne (by decide), cr_ne (by decide), cr_ne (by decide), cr_ne (by decide), cr_eq, if_pos hc, cr_ne (by decide), cr_ne (by decide), cr_ne (by decide), cr_ne (by decide), rI_wIk (by decide), rI_wIk (by decide)]
  have r7 : ∀ c, c < 24 → rI (f_X0_copyRow (f_X0_copyRow (f_X0_copyRow (f_X0_copyRow (f_X0_copyRow (f_X0_copyRow (f_X0_copyRow (f_X0_copyRow (f_X0_copyRow (wI (wI S 1 0 ((rI S 12 0))) 1 1 ((rI S 12 1))) 13 2) 14 3) 15 4) 16 5) 17 6) 19 8) 20 9) 21 10) 22 11) 8 c = rI S 19 c := fun c hc => by rw [cr_ne (by decide), cr_ne (by decide), cr_ne (by decide), cr_eq, if_pos hc, cr_ne (by decide), cr_ne (by decide), cr_ne (by decide), cr_ne (by decide), cr_ne (by decide), rI_wIk (by decide), rI_wIk (by decide)]
  have r8 : ∀ c, c < 24 → rI (f_X0_copyRow (f_X0_copyRow (f_X0_copyRow (f_X0_copyRow (f_X0_copyRow (f_X0_copyRow (f_X0_copyRow (f_X0_copyRow (f_X0_copyRow (wI (wI S 1 0 ((rI S 12 0))) 1 1 ((rI S 12 1))) 13 2) 14 3) 15 4) 16 5) 17 6) 19 8) 20 9) 21 10) 22 11) 9 c = rI S 20 c := fun c hc => by rw [cr_ne (by decide), cr_ne (by decide), cr_eq, if_pos hc, cr_ne (by decide), cr_ne (by decide), cr_ne (by decide), cr_ne (by decide), cr_ne (by decide), cr_ne (by decide), rI_wIk (by decide), rI_wIk (by decide)]
  have r9 : ∀ c, c < 24 → rI (f_X0_copyRow (f_X0_copyRow (f_X0_copyRow (f_X0_copyRow (f_X0_copyRow (f_X0_copyRow (f_X0_copyRow (f_X0_copyRow (f_X0_copyRow (wI (wI S 1 0 ((rI S 12 0))) 1 1 ((rI S 12 1))) 13 2) 14 3) 15 4) 16 5) 17 6) 19 8) 20 9) 21 10) 22 11) 10 c = rI S 21 c := fun c hc => by rw [cr_ne (by decide), cr_eq, if_pos hc, cr_ne (by decide), cr_ne (by decide), cr_ne (by decide), cr_ne (by decide), cr_ne (by decide), cr_ne (by decide), cr_ne (by decide), rI_wIk (by decide), rI_wIk (by decide)]
  have r10 : ∀ c, c < 24 → rI (f_X0_copyRow (f_X0_copyRow (f_X0_copyRow (f_X0_copyRow (f_X0_copyRow (f_X0_copyRow (f_X0_copyRow (f_X0_copyRow (f_X0_copyRow (wI (wI S 1 0 ((rI S 12 0))) 1 1 ((rI S 12 1))) 13 2) 14 3) 15 4) 16 5) 17 6) 19 8) 20 9) 21 10) 22 11) 11 c = rI S 22 c := fun c hc => by rw [cr_eq, if_pos hc, cr_ne (by decide), cr_ne (by decide), cr_ne (by decide), cr_ne (by decide), cr_ne (by decide), cr_ne (by decide), cr_ne (by decide), cr_ne (by decide), rI_wIk (by decide), rI_wIk (by decide)]
  have d0 : rI (f_X0_copyRow (f_X0_copyRow (f_X0_copyRow (f_X0_copyRow (f_X0_copyRow (f_X0_copyRow (f_X0_copyRow (f_X0_copyRow (f_X0_copyRow (wI (wI S 1 0 ((rI S 12 0))) 1 1 ((rI S 12 1))) 13 2) 14 3) 15 4) 16 5) 17 6) 19 8) 20 9) 21 10) 22 11) 1 0 = rI S 12 0 := by rw [cr_ne (by decide), cr_ne (by decide), cr_ne (by decide), cr_ne (by decide), cr_ne (by decide), cr_ne (by decide), cr_ne (by decide), cr_ne (by decide), cr_ne (by decide), rI_wIc (by decide), rI_same]
  have d1 : rI (f_X0_copyRow (f_X0_copyRow (f_X0_copyRow (f_X0_copyRow (f_X0_copyRow (f_X0_copyRow (f_X0_copyRow (f_X0_copyRow (f_X0_copyRow (wI (wI S 1 0 ((rI S 12 0))) 1 1 ((rI S 12 1))) 13 2) 14 3) 15 4) 16 5) 17 6) 19 8) 20 9) 21 10) 22 11) 1 1 = rI S 12 1 := by rw [cr_ne (by decide), cr_ne (by decide), cr_ne (by decide), cr_ne (by decide), cr_ne (by decide), cr_ne (by decide), cr_ne (by decide), cr_ne (by decide), cr_ne (by decide), rI_same]
  have f0 : f_copy1_12 S = itr bd_cpo1_12 24 (f_X0_copyRow (f_X0_copyRow (f_X0_copyRow (f_X0_copyRow (f_X0_copyRow (f_X0_copyRow (f_X0_copyRow (f_X0_copyRow (f_X0_copyRow (wI (wI S 1 0 ((rI S 12 0))) 1 1 ((rI S 12 1))) 13 2) 14 3) 15 4) 16 5) 17 6) 19 8) 20 9) 21 10) 22 11) := rfl
  rw [f0]
  revert hp h6 r1 r2 r3 r4 r5 r7 r8 r9 r10 d0 d1
  generalize (f_X0_copyRow (f_X0_copyRow (f_X0_copyRow (f_X0_copyRow (f_X0_copyRow (f_X0_copyRow (f_X0_copyRow (f_X0_copyRow (f_X0_copyRow (wI (wI S 1 0 ((rI S 12 0))) 1 1 ((rI S 12 1))) 13 2) 14 3) 15 4) 16 5) 17 6) 19 8) 20 9) 21 10) 22 11) = p
  intro hp h6 r1 r2 r3 r4 r5 r7 r8 r9 r10 d0 d1
  have q := cpo_1_12 p (fun c hc => by rw [hp 18 c (by decide)]; exact h7 c hc) 24 (Nat.le_refl _)
  have fr : ∀ a c, a ≠ 7 → rI (itr bd_cpo1_12 24 p) a c = rI p a c := fun a c h => fr_lp_cpo1_12 h 24 p
  refine ⟨fun r c z1 z2 z3 => ?_, ⟨(fr _ _ (by decide)).trans d0, (fr _ _ (by decide)).trans d1⟩, fun a c h => (fr a c (by omega)).trans (hp a c h), fun c z => ?_⟩
  · have hr : r = 1 ∨ r = 2 ∨ r = 3 ∨ r = 4 ∨ r = 5 ∨ r = 6 ∨ r = 7 ∨ r = 8 ∨ r = 9 ∨ r = 10 := by omega
    rcases hr with e | e | e | e | e | e | e | e | e | e <;> subst e
    · exact (fr 2 c (by decide)).trans (r1 c z3)
    · exact (fr 3 c (by decide)).trans (r2 c z3)
    · exact (fr 4 c (by decide)).trans (r3 c z3)
    · exact (fr 5 c (by decide)).trans (r4 c z3)
    · exact (fr 6 c (by decide)).trans (r5 c z3)
    · show rI (itr bd_cpo1_12 24 p) 7 c = rI S 18 c
      rw [q c, if_pos z3]; exact hp 18 c (by decide)
    · exact (fr 8 c (by decide)).trans (r7 c z3)
    · exact (fr 9 c (by decide)).trans (r8 c z3)
    · exact (fr 10 c (by decide)).trans (r9 c z3)
    · exact (fr 11 c (by decide)).trans (r10 c z3)
  · rw [q c, if_neg z]; exact h6 c

theorem cpo_1_23 (p : gS) (h7 : ∀ c, c < 24 → rI p 29 c = 0 ∨ rI p 29 c = 1) : ∀ n, n ≤ 24 → ∀ i, rI (itr bd_cpo1_23 n p) 7 i = if i < n then rI p 29 i else rI p 7 i := by
  intro n
  induction n with
  | zero => intro _ i; rw [if_neg (by omega)]; rfl
  | succ n ih =>
    intro h24 i
    have hi := ih (by omega) i
    have f := fun c => fr_lp_cpo1_23 (a0 := 29) (c0 := c) (by decide) n p
    show rI (bd_cpo1_23 n (itr bd_cpo1_23 n p)) 7 i = _
    revert hi f
    generalize itr bd_cpo1_23 n p = q
    intro hi f
    unfold bd_cpo1_23
    rw [f, nar_01 (h7 n (by omega)), rI_wI]
    by_cases e : i = n
    · rw [if_pos ⟨rfl, e⟩, if_pos (by omega), e]
    · rw [if_neg (fun z => e z.2), hi]
      by_cases z : i < n
      · rw [if_pos z, if_pos (by omega)]
      · rw [if_neg z, if_neg (by omega)]
theorem cp_1_23 (S : gS) (h7 : ∀ c, c < 24 → rI S 29 c = 0 ∨ rI S 29 c = 1) : (∀ r c, 1 ≤ r → r ≤ 10 → c < 24 → rI (f_copy1_23 S) (1 + r) c = rI S (23 + r) c) ∧ (rI (f_copy1_23 S) 1 0 = rI S 23 0 ∧ rI (f_copy1_23 S) 1 1 = rI S 23 1) ∧ (∀ a c, a < 1 ∨ 11 < a → rI (f_copy1_23 S) a c = rI S a c) ∧ (∀ c, ¬ c < 24 → rI (f_copy1_23 S) 7 c = rI S 7 c) := by
  have hp : ∀ a c, a < 1 ∨ 11 < a → rI (f_X0_copyRow (f_X0_copyRow (f_X0_copyRow (f_X0_copyRow (f_X0_copyRow (f_X0_copyRow (f_X0_copyRow (f_X0_copyRow (f_X0_copyRow (wI (wI S 1 0 ((rI S 23 0))) 1 1 ((rI S 23 1))) 24 2) 25 3) 26 4) 27 5) 28 6) 30 8) 31 9) 32 10) 33 11) a c = rI S a c := fun a c h => by rw [cr_ne (by omega), cr_ne (by omega), cr_ne (by omega), cr_ne (by omega), cr_ne (by omega), cr_ne (by omega), cr_ne (by omega), cr_ne (by omega), cr_ne (by omega), rI_wIk (by omega), rI_wIk (by omega)]
  have h6 : ∀ c, rI (f_X0_copyRow (f_X0_copyRow (f_X0_copyRow (f_X0_copyRow (f_X0_copyRow (f_X0_copyRow (f_X0_copyRow (f_X0_copyRow (f_X0_copyRow (wI (wI S 1 0 ((rI S 23 0))) 1 1 ((rI S 23 1))) 24 2) 25 3) 26 4) 27 5) 28 6) 30 8) 31 9) 32 10) 33 11) 7 c = rI S 7 c := fun c => by rw [cr_ne (by decide), cr_ne (by decide), cr_ne (by decide), cr_ne (by decide), cr_ne (by decide), cr_ne (by decide), cr_ne (by decide), cr_ne (by decide), cr_ne (by decide), rI_wIk (by decide), rI_wIk (by decide)]
  have r1 : ∀ c, c < 24 → rI (f_X0_copyRow (f_X0_copyRow (f_X0_copyRow (f_X0_copyRow (f_X0_copyRow (f_X0_copyRow (f_X0_copyRow (f_X0_copyRow (f_X0_copyRow (wI (wI S 1 0 ((rI S 23 0))) 1 1 ((rI S 23 1))) 24 2) 25 3) 26 4) 27 5) 28 6) 30 8) 31 9) 32 10) 33 11) 2 c = rI S 24 c := fun c hc => by rw [cr_ne (by decide), cr_ne (by decide), cr_ne (by decide), cr_ne (by decide), cr_ne (by decide), cr_ne (by decide), cr_ne (by decide), cr_ne (by decide), cr_eq, if_pos hc, rI_wIk (by decide), rI_wIk (by decide)]
  have r2 : ∀ c, c < 24 → rI (f_X0_copyRow (f_X0_copyRow (f_X0_copyRow (f_X0_copyRow (f_X0_copyRow (f_X0_copyRow (f_X0_copyRow (f_X0_copyRow (f_X0_copyRow (wI (wI S 1 0 ((rI S 23 0))) 1 1 ((rI S 23 1))) 24 2) 25 3) 26 4) 27 5) 28 6) 30 8) 31 9) 32 10) 33 11) 3 c = rI S 25 c := fun c hc => by rw [cr_ne (by decide), cr_ne (by decide), cr_ne (by decide), cr_ne (by decide), cr_ne (by decide), cr_ne (by decide), cr_ne (by decide), cr_eq, if_pos hc, cr_ne (by decide), rI_wIk (by decide), rI_wIk (by decide)]
  have r3 : ∀ c, c < 24 → rI (f_X0_copyRow (f_X0_copyRow (f_X0_copyRow (f_X0_copyRow (f_X0_copyRow (f_X0_copyRow (f_X0_copyRow (f_X0_copyRow (f_X0_copyRow (wI (wI S 1 0 ((rI S 23 0))) 1 1 ((rI S 23 1))) 24 2) 25 3) 26 4) 27 5) 28 6) 30 8) 31 9) 32 10) 33 11) 4 c = rI S 26 c := fun c hc => by rw [cr_ne (by decide), cr_ne (by decide), cr_ne (by decide), cr_ne (by decide), cr_ne (by decide), cr_ne (by decide), cr_eq, if_pos hc, cr_ne (by decide), cr_ne (by decide), rI_wIk (by decide), rI_wIk (by decide)]
  have r4 : ∀ c, c < 24 → rI (f_X0_copyRow (f_X0_copyRow (f_X0_copyRow (f_X0_copyRow (f_X0_copyRow (f_X0_copyRow (f_X0_copyRow (f_X0_copyRow (f_X0_copyRow (wI (wI S 1 0 ((rI S 23 0))) 1 1 ((rI S 23 1))) 24 2) 25 3) 26 4) 27 5) 28 6) 30 8) 31 9) 32 10) 33 11) 5 c = rI S 27 c := fun c hc => by rw [cr_ne (by decide), cr_ne (by decide), cr_ne (by decide), cr_ne (by decide), cr_ne (by decide), cr_eq, if_pos hc, cr_ne (by decide), cr_ne (by decide), cr_ne (by decide), rI_wIk (by decide), rI_wIk (by decide)]
  have r5 : ∀ c, c < 24 → rI (f_X0_copyRow (f_X0_copyRow (f_X0_copyRow (f_X0_copyRow (f_X0_copyRow (f_X0_copyRow (f_X0_copyRow (f_X0_copyRow (f_X0_copyRow (wI (wI S 1 0 ((rI S 23 0))) 1 1 ((rI S 23 1))) 24 2) 25 3) 26 4) 27 5) 28 6) 30 8) 31 9) 32 10) 33 11) 6 c = rI S 28 c := fun c hc => by rw [cr_ne (by decide), cr_ne (by decide), cr_ne (by decide), cr_ne (by decide), cr_eq, if_pos hc, cr_ne (by decide), cr_ne (by decide), cr_ne (by decide), cr_ne (by decide), rI_wIk (by decide), rI_wIk (by decide)]
  have r7 : ∀ c, c < 24 → rI (f_X0_copyRow (f_X0_copyRow (f_X0_copyRow (f_X0_copyRow (f_X0_copyRow (f_X0_copyRow (f_X0_copyRow (f_X0_copyRow (f_X0_copyRow (wI (wI S 1 0 ((rI S 23 0))) 1 1 ((rI S 23 1))) 24 2) 25 3) 26 4) 27 5) 28 6) 30 8) 31 9) 32 10) 33 11) 8 c = rI S 30 c := fun c hc => by rw [cr_ne (by decide), cr_ne (by decide), cr_ne (by decide), cr_eq, if_pos hc, cr_ne (by decide), cr_ne (by decide), cr_ne (by decide), cr_ne (by decide), cr_ne (by decide), rI_wIk (by decide), rI_wIk (by decide)]
  have r8 : ∀ c, c < 24 → rI (f_X0_copyRow (f_X0_copyRow (f_X0_copyRow (f_X0_copyRow (f_X0_copyRow (f_X0_copyRow (f_X0_copyRow (f_X0_copyRow (f_X0_copyRow (wI (wI S 1 0 ((rI S 23 0))) 1 1 ((rI S 23 1))) 24 2) 25 3) 26 4) 27 5) 28 6) 30 8) 31 9) 32 10) 33 11) 9 c = rI S 31 c := fun c hc => by rw [cr_ne (by decide), cr_ne (by decide), cr_eq, if_pos hc, cr_ne (by decide), cr_ne (by decide), cr_ne (by decide), cr_ne (by decide), cr_ne (by decide), cr_ne (by decide), rI_wIk (by decide), rI_wIk (by decide)]
  have r9 : ∀ c, c < 24 → rI (f_X0_copyRow (f_X0_copyRow (f_X0_copyRow (f_X0_copyRow (f_X0_copyRow (f_X0_copyRow (f_X0_copyRow (f_X0_copyRow (f_X0_copyRow (wI (wI S 1 0 ((rI S 23 0))) 1 1 ((rI S 23 1))) 24 2) 25 3) 26 4) 27 5) 28 6) 30 8) 31 9) 32 10) 33 11) 10 c = rI S 32 c := fun c hc => by rw [cr_ne (by decide), cr_eq, if_pos hc, cr_ne (by decide), cr_ne (by decide), cr_ne (by decide), cr_ne (by decide), cr_ne (by decide), cr_ne (by decide), cr_ne (by decide), rI_wIk (by decide), rI_wIk (by decide)]
  have r10 : ∀ c, c < 24 → rI (f_X0_copyRow (f_X0_copyRow (f_X0_copyRow (f_X0_copyRow (f_X0_copyRow (f_X0_copyRow (f_X0_copyRow (f_X0_copyRow (f_X0_copyRow (wI (wI S 1 0 ((rI S 23 0))) 1 1 ((rI S 23 1))) 24 2) 25 3) 26 4) 27 5) 28 6) 30 8) 31 9) 32 10) 33 11) 11 c = rI S 33 c := fun c hc => by rw [cr_eq, if_pos hc, cr_ne (by decide), cr_ne (by decide), cr_ne (by decide), cr_ne (by decide), cr_ne (by decide), cr_ne (by decide), cr_ne (by decide), cr_ne (by decide), rI_wIk (by decide), rI_wIk (by decide)]
  have d0 : rI (f_X0_copyRow (f_X0_copyRow (f_X0_copyRow (f_X0_copyRow (f_X0_copyRow (f_X0_copyRow (f_X0_copyRow (f_X0_copyRow (f_X0_copyRow (wI (wI S 1 0 ((rI S 23 0))) 1 1 ((rI S 23 1))) 24 2) 25 3) 26 4) 27 5) 28 6) 30 8) 31 9) 32 10) 33 11) 1 0 = rI S 23 0 := by rw [cr_ne (by decide), cr_ne (by decide), cr_ne (by decide), cr_ne (by decide), cr_ne (by decide), cr_ne (by decide), cr_ne (by decide), cr_ne (by decide), cr_ne (by decide), rI_wIc (by decide), rI_same]
  have d1 : rI (f_X0_copyRow (f_X0_copyRow (f_X0_copyRow (f_X0_copyRow (f_X0_copyRow (f_X0_copyRow (f_X0_copyRow (f_X0_copyRow (f_X0_copyRow (wI (wI S 1 0 ((rI S 23 0))) 1 1 ((rI S 23 1))) 24 2) 25 3) 26 4) 27 5) 28 6) 30 8) 31 9) 32 10) 33 11) 1 1 = rI S 23 1 := by rw [cr_ne (by decide), cr_ne (by decide), cr_ne (by decide), cr_ne (by decide), cr_ne (by decide), cr_ne (by decide), cr_ne (by decide), cr_ne (by decide), cr_ne (by decide), rI_same]
  have f0 : f_copy1_23 S = itr bd_cpo1_23 24 (f_X0_copyRow (f_X0_copyRow (f_X0_copyRow (f_X0_copyRow (f_X0_copyRow (f_X0_copyRow (f_X0_copyRow (f_X0_copyRow (f_X0_copyRow (wI (wI S 1 0 ((rI S 23 0))) 1 1 ((rI S 23 1))) 24 2) 25 3) 26 4) 27 5) 28 6) 30 8) 31 9) 32 10) 33 11) := rfl
  rw [f0]
  revert hp h6 r1 r2 r3 r4 r5 r7 r8 r9 r10 d0 d1
  generalize (f_X0_copyRow (f_X0_copyRow (f_X0_copyRow (f_X0_copyRow (f_X0_copyRow (f_X0_copyRow (f_X0_copyRow (f_X0_copyRow (f_X0_copyRow (wI (wI S 1 0 ((rI S 23 0))) 1 1 ((rI S 23 1))) 24 2) 25 3) 26 4) 27 5) 28 6) 30 8) 31 9) 32 10) 33 11) = p
  intro hp h6 r1 r2 r3 r4 r5 r7 r8 r9 r10 d0 d1
  have q := cpo_1_23 p (fun c hc => by rw [hp 29 c (by decide)]; exact h7 c hc) 24 (Nat.le_refl _)
  have fr : ∀ a c, a ≠ 7 → rI (itr bd_cpo1_23 24 p) a c = rI p a c := fun a c h => fr_lp_cpo1_23 h 24 p
  refine ⟨fun r c z1 z2 z3 => ?_, ⟨(fr _ _ (by decide)).trans d0, (fr _ _ (by decide)).trans d1⟩, fun a c h => (fr a c (by omega)).trans (hp a c h), fun c z => ?_⟩
  · have hr : r = 1 ∨ r = 2 ∨ r = 3 ∨ r = 4 ∨ r = 5 ∨ r = 6 ∨ r = 7 ∨ r = 8 ∨ r = 9 ∨ r = 10 := by omega
    rcases hr with e | e | e | e | e | e | e | e | e | e <;> subst e
    · exact (fr 2 c (by decide)).trans (r1 c z3)
    · exact (fr 3 c (by decide)).trans (r2 c z3)
    · exact (fr 4 c (by decide)).trans (r3 c z3)
    · exact (fr 5 c (by decide)).trans (r4 c z3)
    · exact (fr 6 c (by decide)).trans (r5 c z3)
    · show rI (itr bd_cpo1_23 24 p) 7 c = rI S 29 c
      rw [q c, if_pos z3]; exact hp 29 c (by decide)
    · exact (fr 8 c (by decide)).trans (r7 c z3)
    · exact (fr 9 c (by decide)).trans (r8 c z3)
    · exact (fr 10 c (by decide)).trans (r9 c z3)
    · exact (fr 11 c (by decide)).trans (r10 c z3)
  · rw [q c, if_neg z]; exact h6 c

