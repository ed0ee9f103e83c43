theorem j_of {x : Int} (h1 : -9223372036854775808 ≤ x) (h2 : x ≤ 9223372036854775807) : (Int64.ofInt x).toInt = x := by
  rw [Int64.toInt_ofInt]
  apply Int.bmod_eq_of_le <;> simp [Int64.size] <;> omega
theorem i_of {x : Int} (h1 : -2147483648 ≤ x) (h2 : x ≤ 2147483647) : (Int32.ofInt x).toInt = x := by
  rw [Int32.toInt_ofInt]
  apply Int.bmod_eq_of_le <;> simp [Int32.size] <;> omega
/-- how many bits a number has: the least k with v < 2^k -/
def lg (v : Int) : Nat := if v ≤ 0 then 0 else v.toNat.log2 + 1
theorem p2 (k : Nat) : (2 : Int) ^ k = ((2 ^ k : Nat) : Int) := by simp
theorem lg_le {v : Int} {k : Nat} : lg v ≤ k ↔ v < 2 ^ k := by
  have hp : 0 < 2 ^ k := Nat.two_pow_pos k
  unfold lg
  rw [p2]
  split
  · constructor
    · intro _; omega
    · intro _; omega
  · rename_i h
    have h0 : v.toNat ≠ 0 := by omega
    have h1 := Nat.log2_lt (n := v.toNat) (k := k) h0
    constructor
    · intro q
      have := h1.mp (by omega)
      omega
    · intro q
      have := h1.mpr (by omega)
      omega
theorem p2_mono {i k : Nat} (h : i ≤ k) : (2 : Int) ^ i ≤ 2 ^ k := by
  rw [p2, p2]
  exact Int.ofNat_le.mpr (Nat.pow_le_pow_right (by decide) h)
theorem p2_pos (k : Nat) : (1 : Int) ≤ 2 ^ k := by
  rw [p2]
  have := Nat.two_pow_pos k
  omega
theorem p2_63 : (2 : Int) ^ 63 = 9223372036854775808 := by decide
theorem lg_63 (v : Int64) : lg v.toInt ≤ 63 := by
  rw [lg_le, p2_63]
  exact Int64.toInt_lt v
theorem lg_63n (v : Int64) : lg (-v.toInt - 1) ≤ 63 := by
  rw [lg_le, p2_63]
  have := Int64.le_toInt v
  omega
def upL (v : Int64) : Int64 := Int64.ofInt (2 ^ lg v.toInt - 1)
def dnL (v : Int64) : Int64 := Int64.ofInt (-2 ^ lg (-v.toInt - 1))
def onL (k : Nat) : Int64 := Int64.ofInt (2 ^ k - 1)
def mnL (k : Nat) : Int64 := Int64.ofInt (-2 ^ k)
theorem onL_i {k : Nat} (h : k ≤ 63) : (onL k).toInt = 2 ^ k - 1 := by
  have h1 := p2_mono h
  have h2 := p2_pos k
  rw [p2_63] at h1
  exact j_of (by omega) (by omega)
theorem mnL_i {k : Nat} (h : k ≤ 63) : (mnL k).toInt = -2 ^ k := by
  have h1 := p2_mono h
  have h2 := p2_pos k
  rw [p2_63] at h1
  exact j_of (by omega) (by omega)
theorem onL_s {k : Nat} : (2 : Int64) * onL k + 1 = onL (k + 1) := by
  unfold onL
  rw [show (2 : Int64) = Int64.ofInt 2 from rfl, show (1 : Int64) = Int64.ofInt 1 from rfl, ← Int64.ofInt_mul, ← Int64.ofInt_add]
  congr 1
  rw [Int.pow_succ]
  omega
theorem mnL_s {k : Nat} : (2 : Int64) * mnL k = mnL (k + 1) := by
  unfold mnL
  rw [show (2 : Int64) = Int64.ofInt 2 from rfl, ← Int64.ofInt_mul]
  congr 1
  rw [Int.pow_succ]
  omega
theorem onL_c {v : Int64} {i : Nat} (hi : i ≤ lg v.toInt) : onL i < v ↔ i < lg v.toInt := by
  have h9 := lg_63 v
  rw [jl, onL_i (by omega)]
  have h1 := @lg_le v.toInt i
  omega
theorem mnL_c {v : Int64} {i : Nat} (hi : i ≤ lg (-v.toInt - 1)) : v < mnL i ↔ i < lg (-v.toInt - 1) := by
  have h9 := lg_63n v
  rw [jl, mnL_i (by omega)]
  have h1 := @lg_le (-v.toInt - 1) i
  omega
section GTop
variable {M : go_M} {x : Bool} {Q : go_Q} {cl sl pc : Nat} {ls : List (Nat × Value)} {st : List Value} {h : go_H}
theorem go_topi {a : Int32} (c : Int32) (e : a = c) (k : Go M x Q cl sl pc ls (.int c :: st) h) : Go M x Q cl sl pc ls (.int a :: st) h := by rw [e]; exact k
theorem go_topl {a : Int64} (c : Int64) (e : a = c) (k : Go M x Q cl sl pc ls (.long c :: st) h) : Go M x Q cl sl pc ls (.long a :: st) h := by rw [e]; exact k
end GTop
def sml (a c : Int64) : Int64 := if a < c then a else c
def lrg (a c : Int64) : Int64 := if c < a then a else c
def resF (is : Int32) (x y : Int64) : Int64 := if is = 3 then x + y else if is = 4 then x - y else x * y
def fndF (S : gS) (a c : Int64) : gS := wL (wL S 115 16 a) 115 17 c
def witF (S : gS) (l m : Int64) : gS := if l < -2147483648 ∨ ¬ m ≤ 2147483647 then fndF S (-2147483648) 2147483647 else fndF S l m
/-- what the reference finds for a sum, a difference, a product; for a logic kind; for a choice: from the ranges la..ha, lc..hc, ld..hd -/
def ariF (S : gS) (is : Int32) (la ha lc hc : Int64) : gS := witF S (sml (sml (resF is la lc) (resF is la hc)) (sml (resF is ha lc) (resF is ha hc))) (lrg (lrg (resF is la lc) (resF is la hc)) (lrg (resF is ha lc) (resF is ha hc)))
def logF (S : gS) (is : Int32) (la ha lc hc : Int64) : gS := if 0 ≤ la ∧ 0 ≤ lc then fndF S 0 (if is = 6 then sml ha hc else upL (lrg ha hc)) else if is = 6 ∧ (0 ≤ la ∨ 0 ≤ lc) then fndF S 0 (if 0 ≤ la then ha else hc) else fndF S (dnL (sml (sml la lc) (-(lrg ha hc) - 1))) (-(dnL (sml (sml la lc) (-(lrg ha hc) - 1))) - 1)
def choF (S : gS) (la ha lc hc ld hd : Int64) : gS := if 0 < la ∨ ha < 0 then fndF S lc hc else if la = 0 ∧ ha = 0 then fndF S ld hd else fndF S (sml lc ld) (lrg hc hd)
