theorem sml_i (a c : Int64) : (sml a c).toInt = min a.toInt c.toInt := by
  unfold sml
  split
  · rename_i h; rw [jl] at h; omega
  · rename_i h; rw [jl] at h; omega
theorem lrg_i (a c : Int64) : (lrg a c).toInt = max a.toInt c.toInt := by
  unfold lrg
  split
  · rename_i h; rw [jl] at h; omega
  · rename_i h; rw [jl] at h; omega
theorem mnl_i (a c : Int64) : (mnl a c).toInt = min a.toInt c.toInt := by
  unfold mnl
  split
  · rename_i h; rw [jl] at h; omega
  · rename_i h; rw [jl] at h; omega
theorem mxi_i (a c : Int32) : (mxi a c).toInt = max a.toInt c.toInt := by
  unfold mxi
  split
  · rename_i h; rw [il] at h; omega
  · rename_i h; rw [il] at h; omega
theorem mni_i (a c : Int32) : (mni a c).toInt = min a.toInt c.toInt := by
  unfold mni
  split
  · rename_i h; rw [il] at h; omega
  · rename_i h; rw [il] at h; omega
theorem ib (a : Int32) : -2147483648 ≤ a.toInt ∧ a.toInt ≤ 2147483647 := by
  have h1 := Int32.toInt_lt a
  have h2 := Int32.le_toInt a
  have e : (2 : Int) ^ 31 = 2147483648 := by decide
  omega
theorem j64 (a : Int32) : a.toInt64.toInt = a.toInt := Int32.toInt_toInt64 a
theorem jadd {a c : Int64} (h1 : -9223372036854775808 ≤ a.toInt + c.toInt) (h2 : a.toInt + c.toInt ≤ 9223372036854775807) : (a + c).toInt = a.toInt + c.toInt := by
  rw [Int64.toInt_add]
  exact Int.bmod_eq_of_le (by simp; omega) (by simp; omega)
theorem jsub {a c : Int64} (h1 : -9223372036854775808 ≤ a.toInt - c.toInt) (h2 : a.toInt - c.toInt ≤ 9223372036854775807) : (a - c).toInt = a.toInt - c.toInt := by
  rw [Int64.toInt_sub]
  exact Int.bmod_eq_of_le (by simp; omega) (by simp; omega)
theorem jneg {a : Int64} (h1 : -9223372036854775807 ≤ a.toInt) : (-a).toInt = -a.toInt := by
  have h2 := Int64.toInt_lt a
  have e : (2 : Int) ^ 63 = 9223372036854775808 := by decide
  rw [Int64.toInt_neg]
  exact Int.bmod_eq_of_le (by simp; omega) (by simp; omega)
/-- what is kept of a range that may be none of ints -/
def wl (l g : Int64) : Int64 := if l < -2147483648 ∨ ¬ g ≤ 2147483647 then -2147483648 else l
def wg (l g : Int64) : Int64 := if l < -2147483648 ∨ ¬ g ≤ 2147483647 then 2147483647 else g
theorem wl_i (x y : Int32) : wl x.toInt64 y.toInt64 = x.toInt64 ∧ wg x.toInt64 y.toInt64 = y.toInt64 := by
  have h1 := ib x
  have h2 := ib y
  have h : ¬ (x.toInt64 < -2147483648 ∨ ¬ y.toInt64 ≤ 2147483647) := by
    rw [jl, jle, j64, j64]
    show ¬ (x.toInt < -2147483648 ∨ ¬ y.toInt ≤ 2147483647)
    omega
  unfold wl wg
  rw [if_neg h, if_neg h]
  exact ⟨rfl, rfl⟩
theorem j32 {l : Int64} (h1 : -2147483648 ≤ l.toInt) (h2 : l.toInt ≤ 2147483647) : l.toInt32.toInt = l.toInt := by
  rw [Int64.toInt_toInt32]
  exact Int.bmod_eq_of_le (by simp; omega) (by simp; omega)
theorem bec_v (S : gS) (j : Nat) (hj : j < 1000) {l g : Int64} (hlg : l ≤ g) : (rI (f_X4_become S (nI j) l g) 37 j).toInt64 = wl l g ∧ (rI (f_X4_become S (nI j) l g) 38 j).toInt64 = wg l g ∧ rI (f_X4_become S (nI j) l g) 37 j ≤ rI (f_X4_become S (nI j) l g) 38 j := by
  have hc := nI_c hj
  unfold f_X4_become wl wg
  rw [hc]
  by_cases h1 : l < (-2147483648 : Int64)
  · rw [if_pos h1, if_pos (Or.inl h1), if_pos (Or.inl h1), rI_wIk (by decide), rI_same, rI_same]
    exact ⟨rfl, rfl, by decide⟩
  · rw [if_neg h1]
    by_cases h2 : (2147483647 : Int64) < g
    · have h3 : ¬ g ≤ 2147483647 := Int64.not_le.mpr h2
      rw [if_pos h2, if_pos (Or.inr h3), if_pos (Or.inr h3), rI_wIk (by decide), rI_same, rI_same]
      exact ⟨rfl, rfl, by decide⟩
    · have h3 : ¬ (l < -2147483648 ∨ ¬ g ≤ 2147483647) := fun q => q.elim h1 (fun w => w (Int64.not_lt.mp h2))
      rw [if_neg h2, if_neg h3, if_neg h3, rI_wIk (by decide), rI_same, rI_same]
      rw [jl] at h1 h2
      rw [jle] at hlg
      have e1 : (-2147483648 : Int64).toInt = -2147483648 := rfl
      have e2 : (2147483647 : Int64).toInt = 2147483647 := rfl
      rw [e1] at h1
      rw [e2] at h2
      have g1 := j32 (l := l) (by omega) (by omega)
      have g2 := j32 (l := g) (by omega) (by omega)
      refine ⟨?_, ?_, ?_⟩
      · rw [jeq, j64, g1]
      · rw [jeq, j64, g2]
      · rw [ile, g1, g2]; exact hlg
theorem bec_ne (S : gS) (j : Nat) (hj : j < 1000) (l g : Int64) (x c : Nat) (h : c ≠ j) : rI (f_X4_become S (nI j) l g) x c = rI S x c := by
  have hc := nI_c hj
  unfold f_X4_become
  rw [hc]
  (repeat' split) <;> rw [rI_wIc (fun q => h q.2), rI_wIc (fun q => h q.2)]
theorem wit_rd (S : gS) (l m : Int64) : rL (witF S l m) 115 16 = wl l m ∧ rL (witF S l m) 115 17 = wg l m := by
  unfold witF wl wg
  split
  · exact ⟨rfl, rfl⟩
  · exact ⟨rfl, rfl⟩
theorem fnd_rd (S : gS) (l m : Int64) : rL (fndF S l m) 115 16 = l ∧ rL (fndF S l m) 115 17 = m := ⟨rfl, rfl⟩
theorem frF_ne (S : gS) (j a c : Nat) (h : a ≠ 115) : rL (frF S j) a c = rL S a c := by
  have hf : ∀ x y : Int64, rL (fndF S x y) a c = rL S a c := fun x y => by
    unfold fndF
    rw [rL_wL, if_neg (fun q => h q.1), rL_wL, if_neg (fun q => h q.1)]
  have hw : ∀ x y : Int64, rL (witF S x y) a c = rL S a c := fun x y => by
    unfold witF
    split <;> exact hf _ _
  unfold frF
  split
  · exact hf _ _
  split
  · exact hf _ _
  split
  · exact hw _ _
  split
  · unfold logF
    split
    · exact hf _ _
    split
    · exact hf _ _
    · exact hf _ _
  split
  · exact hw _ _
  split
  · exact hw _ _
  split
  · exact hf _ _
  · unfold choF
    split
    · exact hf _ _
    split
    · exact hf _ _
    · exact hf _ _
theorem frT_rd (S : gS) (j : Nat) : rL (frT S j) 125 j = rL (frF S j) 115 16 ∧ rL (frT S j) 126 j = rL (frF S j) 115 17 := by
  unfold frT
  refine ⟨?_, ?_⟩
  · rw [rL_wL, if_neg (by omega), rL_wL, if_pos ⟨rfl, rfl⟩]
  · rw [rL_wL, if_pos ⟨rfl, rfl⟩]
theorem frT_ne (S : gS) (j a c : Nat) (ha : a ≠ 115) (h : c ≠ j) : rL (frT S j) a c = rL S a c := by
  unfold frT
  rw [rL_wL, if_neg (fun q => h q.2), rL_wL, if_neg (fun q => h q.2), frF_ne S j a c ha]
/-- the ranges of a signal are alike -/
def RR (Sc Sr : gS) (i : Nat) : Prop := (rI Sc 37 i).toInt64 = rL Sr 125 i ∧ (rI Sc 38 i).toInt64 = rL Sr 126 i ∧ rI Sc 37 i ≤ rI Sc 38 i
/-- the circuits are alike in the signal i -/
def CS (Sc Sr : gS) (i : Nat) : Prop := rI Sr 116 i = rI Sc 2 i ∧ rI Sr 117 i = rI Sc 3 i ∧ rI Sr 118 i = rI Sc 4 i ∧ rI Sr 119 i = rI Sc 5 i ∧ (rI Sc 2 i = 2 → rI Sr 120 i = rI Sc 6 i) ∧ rI Sr 121 i = rI Sc 7 i
/-- constants within their bounds -/
def cB (Sc : gS) (i : Nat) : Prop := (rI Sc 2 i = 0 → rI Sc 3 i ≤ rI Sc 4 i) ∧ (rI Sc 2 i = 9 ∨ rI Sc 2 i = 10 → ∃ k : Nat, k < 16 ∧ rI Sc 4 i = nI k)
theorem shb : ∀ k, k < 16 → ((nI k).toInt64 &&& 63).toBitVec.smod 64#64 = BitVec.ofNat 64 k := by decide +kernel
theorem shc : ∀ k, k < 16 → ((nI k) &&& 31).toBitVec.smod 32#32 = BitVec.ofNat 32 k := by decide +kernel
theorem tp_i : ∀ k, k < 16 → (BitVec.twoPow 64 k).toInt = 2 ^ k := by decide +kernel
theorem shl_i {x : Int64} {k : Nat} (hk : k < 16) (h1 : -2147483648 ≤ x.toInt) (h2 : x.toInt ≤ 2147483647) : (x <<< ((nI k).toInt64 &&& 63)).toInt = x.toInt * 2 ^ k := by
  have e0 : (x <<< ((nI k).toInt64 &&& 63)).toInt = (x.toBitVec <<< (((nI k).toInt64 &&& 63).toBitVec.smod 64#64)).toInt := rfl
  rw [e0, shb k hk, BitVec.shiftLeft_eq', BitVec.toNat_ofNat, Nat.mod_eq_of_lt (by omega), BitVec.shiftLeft_eq_mul_twoPow, BitVec.toInt_mul, tp_i k hk]
  have e1 : x.toBitVec.toInt = x.toInt := rfl
  rw [e1]
  have h3 := p2_mono (show k ≤ 15 by omega)
  have h4 := p2_pos k
  rw [show (2 : Int) ^ 15 = 32768 by decide] at h3
  have h5 : x.toInt * 2 ^ k ≤ 2147483647 * 32768 := by
    rcases Int.lt_or_le x.toInt 0 with q | q
    · have : x.toInt * 2 ^ k ≤ 0 := Int.mul_nonpos_of_nonpos_of_nonneg (by omega) (by omega)
      omega
    · exact Int.mul_le_mul h2 h3 (by omega) (by omega)
  have h6 : -(2147483648 * 32768) ≤ x.toInt * 2 ^ k := by
    rcases Int.lt_or_le x.toInt 0 with q | q
    · have h7 : (-x.toInt) * 2 ^ k ≤ 2147483648 * 32768 := Int.mul_le_mul (by omega) h3 (by omega) (by omega)
      rw [Int.neg_mul] at h7
      omega
    · have : 0 ≤ x.toInt * 2 ^ k := Int.mul_nonneg q (by omega)
      omega
  exact Int.bmod_eq_of_le (by simp; omega) (by simp; omega)
theorem shr_j {x : Int64} {k : Nat} (hk : k < 16) : (x >>> ((nI k).toInt64 &&& 63)).toInt = x.toInt / 2 ^ k := by
  have e0 : (x >>> ((nI k).toInt64 &&& 63)).toInt = (x.toBitVec.sshiftRight' (((nI k).toInt64 &&& 63).toBitVec.smod 64#64)).toInt := rfl
  rw [e0, shb k hk, BitVec.toInt_sshiftRight', BitVec.toNat_ofNat, Nat.mod_eq_of_lt (by omega), Int.shiftRight_eq_div_pow]
  have e1 : x.toBitVec.toInt = x.toInt := rfl
  rw [e1]
  simp
theorem shr_i {x : Int32} {k : Nat} (hk : k < 16) : (x >>> (nI k &&& 31)).toInt = x.toInt / 2 ^ k := by
  have e0 : (x >>> (nI k &&& 31)).toInt = (x.toBitVec.sshiftRight' ((nI k &&& 31).toBitVec.smod 32#32)).toInt := rfl
  rw [e0, shc k hk, BitVec.toInt_sshiftRight', BitVec.toNat_ofNat, Nat.mod_eq_of_lt (by omega), Int.shiftRight_eq_div_pow]
  have e1 : x.toBitVec.toInt = x.toInt := rfl
  rw [e1]
  simp
