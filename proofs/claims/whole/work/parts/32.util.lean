theorem cmp_lt {a c : Int64} : lg_cmp a c < 0 ↔ a < c := by
  unfold lg_cmp
  simp only [gt_iff_lt]
  split
  · rename_i h
    have : ¬ a < c := by rw [Int64.lt_iff_toInt_lt] at *; omega
    simp [this]
  · split
    · rename_i h1 h2
      subst h2
      simp [h1]
    · rename_i h1 h2
      have : a < c := by
        rw [Int64.lt_iff_toInt_lt] at *
        rw [← Int64.toInt_inj] at h2
        omega
      simp [this]
theorem cmp_gt {a c : Int64} : 0 < lg_cmp a c ↔ c < a := by
  unfold lg_cmp
  simp only [gt_iff_lt]
  split
  · rename_i h
    simp [h]
  · split
    · rename_i h1 h2
      simp [h1]
    · rename_i h1 h2
      simp [h1]
theorem cmp_le {a c : Int64} : lg_cmp a c ≤ 0 ↔ a ≤ c := by
  have h := @cmp_gt a c
  rw [← Int32.not_lt, h, Int64.not_lt]
theorem cmp_ge {a c : Int64} : 0 ≤ lg_cmp a c ↔ c ≤ a := by
  have h := @cmp_lt a c
  rw [← Int32.not_lt, h, Int64.not_lt]
theorem cmp_eq {a c : Int64} : lg_cmp a c = 0 ↔ a = c := by
  unfold lg_cmp
  simp only [gt_iff_lt]
  split
  · rename_i h
    have : ¬ a = c := by rintro rfl; rw [Int64.lt_iff_toInt_lt] at h; omega
    simp [this]
  · split
    · rename_i h1 h2
      simp [h2]
    · rename_i h1 h2
      simp [h2]
theorem w_le {a c : Int32} : a.toInt64 ≤ c.toInt64 ↔ a ≤ c := by rw [Int64.le_iff_toInt_le, Int32.le_iff_toInt_le, Int32.toInt_toInt64, Int32.toInt_toInt64]
theorem w_lt {a c : Int32} : a.toInt64 < c.toInt64 ↔ a < c := by rw [Int64.lt_iff_toInt_lt, Int32.lt_iff_toInt_lt, Int32.toInt_toInt64, Int32.toInt_toInt64]
theorem w_eq {a c : Int32} : a.toInt64 = c.toInt64 ↔ a = c := by rw [← Int64.toInt_inj, ← Int32.toInt_inj, Int32.toInt_toInt64, Int32.toInt_toInt64]
theorem il {a c : Int32} : a < c ↔ a.toInt < c.toInt := Int32.lt_iff_toInt_lt
theorem ile {a c : Int32} : a ≤ c ↔ a.toInt ≤ c.toInt := Int32.le_iff_toInt_le
theorem ieq {a c : Int32} : a = c ↔ a.toInt = c.toInt := Int32.toInt_inj.symm
theorem jl {a c : Int64} : a < c ↔ a.toInt < c.toInt := Int64.lt_iff_toInt_lt
theorem jle {a c : Int64} : a ≤ c ↔ a.toInt ≤ c.toInt := Int64.le_iff_toInt_le
theorem jeq {a c : Int64} : a = c ↔ a.toInt = c.toInt := Int64.toInt_inj.symm
/-- counting up over the steady heap -/
theorem g_up {M : go_M} {Q : go_Q} {cl sl pc : Nat} {st : List Value} (ls : Nat → List (Nat × Value)) (I : Nat → gS → Prop) (e : Nat)
    (hx : ∀ S, I e S → Go M false Q cl sl pc (ls e) st (hp S))
    (hs : ∀ i S, i < e → I i S → (∀ S', I (i + 1) S' → Go M false Q cl sl pc (ls (i + 1)) st (hp S')) → Go M false Q cl sl pc (ls i) st (hp S)) :
    ∀ i S, i ≤ e → I i S → Go M false Q cl sl pc (ls i) st (hp S) := by
  intro i
  generalize hn : e - i = n
  induction n generalizing i with
  | zero =>
    intro S hi hI
    have : i = e := by omega
    subst this
    exact hx S hI
  | succ n ih =>
    intro S hi hI
    exact hs i S (by omega) hI (fun S' h' => ih (i + 1) (by omega) S' (by omega) h')
/-- any loop: a measure falls -/
theorem g_any {σ : Type} (G I : σ → Prop) (μ : σ → Nat) (hs : ∀ s, I s → (∀ s', I s' → μ s' < μ s → G s') → G s) : ∀ s, I s → G s := by
  intro s
  generalize hn : μ s = n
  induction n using Nat.strongRecOn generalizing s with
  | ind n ih =>
    intro hI
    exact hs s hI (fun s' h' hm => ih (μ s') (by omega) s' rfl h')
/-- contracts with more than one possible end -/
def gR (M : go_M) (a : List Value) (S : gS) (P : Option Value → gS → Prop) : Prop := go_Cn M false a (hp S) (fun v h => ∃ T, h = hp T ∧ P v T)
theorem gR.of {M : go_M} {a : List Value} {S T : gS} {r : Option Value} {P : Option Value → gS → Prop} (h : gF M a S r T) (hP : P r T) : gR M a S P :=
  go_mono h (fun v h' e => ⟨T, e.2, e.1 ▸ hP⟩) (fun _ _ e => e)
theorem gR.mono {M : go_M} {a : List Value} {S : gS} {P P2 : Option Value → gS → Prop} (h : gR M a S P) (hP : ∀ v T, P v T → P2 v T) : gR M a S P2 :=
  go_mono h (fun v h' ⟨T, e1, e2⟩ => ⟨T, e1, hP v T e2⟩) (fun _ _ e => e)
theorem g_dn (G : Nat → Prop) (e : Nat) (hs : ∀ i, i ≤ e → (i < e → G (i + 1)) → G i) : ∀ i, i ≤ e → G i := by
  intro i
  generalize hn : e - i = n
  induction n generalizing i with
  | zero =>
    intro hi
    exact hs i hi (fun h => by omega)
  | succ n ih =>
    intro hi
    exact hs i hi (fun h => ih (i + 1) (by omega) (by omega))
theorem g_st {M : go_M} {x : Bool} {Q : go_Q} {cl sl pc : Nat} {ls : List (Nat × Value)} {st : List Value} {S T : gS} (h : S = T) (k : Go M x Q cl sl pc ls st (hp T)) : Go M x Q cl sl pc ls st (hp S) := by rw [h]; exact k
theorem nI_inc (i : Nat) : nI i + Int32.ofInt 1 = nI (i + 1) := nI_1 i
theorem nI_dec (i : Nat) : nI (i + 1) + Int32.ofInt (-1) = nI i := by
  have h := nI_pred i
  rw [Int32.sub_eq_add_neg] at h
  exact h
theorem nI_c {n : Nat} (h : n < 1000) : (nI n).toNatClampNeg = n := nI_clamp (by omega)
theorem nI_lt2 {a b : Nat} (ha : a < 1000) (hb : b < 1000) : nI a < nI b ↔ a < b := nI_ltI (by omega) (by omega)
theorem nI_le2 {a b : Nat} (ha : a < 1000) (hb : b < 1000) : nI a ≤ nI b ↔ a ≤ b := nI_leI (by omega) (by omega)
theorem nI_i {n N : Nat} (h : n < N) (hN : N < 1000) : vp_in (nI n) N := vp_in_nI h (by omega)
theorem wIR (S : gS) (k : Nat) (f : Nat → Int32) (j : Nat) (v : Int32) : wI (wR S k f) k j v = wR S k (fun c => if c = j then v else f c) := by
  refine gS_ext (fun a c => ?_) (fun a c => rfl) (fun a c => rfl)
  simp only [rI_wI, rI_wR]
  by_cases h1 : a = k <;> by_cases h2 : c = j <;> simp [h1, h2]
theorem wIRn {k k' : Nat} (h : k' ≠ k) (S : gS) (f : Nat → Int32) (j : Nat) (v : Int32) : wI (wR S k f) k' j v = wR (wI S k' j v) k f := by
  refine gS_ext (fun a c => ?_) (fun a c => rfl) (fun a c => rfl)
  simp only [rI_wI, rI_wR]
  by_cases h1 : a = k
  · subst h1
    have h2 : ¬ a = k' := fun q => h q.symm
    simp [h2]
  · simp [h1]
theorem wR_eq {S : gS} {k : Nat} {f g : Nat → Int32} (h : ∀ c, f c = g c) : wR S k f = wR S k g := by
  have : f = g := funext h
  rw [this]
theorem wR_id {S : gS} {k : Nat} {f : Nat → Int32} (h : ∀ c, f c = rI S k c) : wR S k f = S := by
  refine gS_ext (fun a c => ?_) (fun a c => rfl) (fun a c => rfl)
  rw [rI_wR]
  by_cases h1 : a = k
  · rw [if_pos h1, h1]; exact h c
  · rw [if_neg h1]
