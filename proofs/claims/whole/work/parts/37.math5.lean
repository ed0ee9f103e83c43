def ushr (a c : Int32) : Int32 := (a.toUInt32 >>> (c.toUInt32 &&& Int32.toUInt32 31)).toInt32
theorem shl1 : ∀ k, k < 63 → (1 : Int64) <<< ((nI k).toInt64 &&& 63) = Int64.ofInt (2 ^ k) := by decide +kernel
theorem shl1' {k : Nat} (h : k < 63) : ((1 : Int64) <<< ((nI k).toInt64 &&& 63)).toInt = 2 ^ k := by
  rw [shl1 k h]
  have h1 := p2_mono (show k ≤ 62 by omega)
  have h2 := p2_pos k
  rw [show (2 : Int) ^ 62 = 4611686018427387904 by decide] at h1
  exact j_of (by omega) (by omega)
/-- the width of the range l..h -/
def wrN (l h : Int64) : Nat := if l < 0 then max (lg (-l.toInt - 1)) (lg h.toInt) + 1 else max 1 (lg h.toInt)
/-- the highest bit that is 1 -/
def hiN (v : Int32) : Nat := v.toUInt32.toNat.log2
/-- what of the bits asked is kept -/
def akK (w bits : Int32) (sg : Prop) [Decidable sg] : Int32 := if sg ∧ ¬ ushr bits (w - 1) = 0 then (if w = 32 then bits else bits &&& (1 <<< (w &&& 31) - 1)) ||| 1 <<< ((w - 1) &&& 31) else (if w = 32 then bits else bits &&& (1 <<< (w &&& 31) - 1))
def akF (S : gS) (j : Nat) (bits : Int32) : Int32 × gS := (bi (¬ (akK (rI S 127 j) bits (rL S 125 j < 0) &&& (rI S 128 j ^^^ -1)) = 0), wI S 128 j (rI S 128 j ||| akK (rI S 127 j) bits (rL S 125 j < 0)))
/-- two operands are asked; three -/
def ak2 (S : gS) (a : Nat) (x : Int32) (c : Nat) (y : Int32) : Int32 × gS := ((akF S a x).1 ||| (akF (akF S a x).2 c y).1, (akF (akF S a x).2 c y).2)
theorem rI_akF (S : gS) (j : Nat) (bits : Int32) (a c : Nat) : rI (akF S j bits).2 a c = if a = 128 ∧ c = j then rI S 128 j ||| akK (rI S 127 j) bits (rL S 125 j < 0) else rI S a c := rfl
theorem rI_akFn (S : gS) (j : Nat) (bits : Int32) (a c : Nat) (h : a ≠ 128) : rI (akF S j bits).2 a c = rI S a c := by
  rw [rI_akF, if_neg (fun q => h q.1)]
theorem rL_akF (S : gS) (j : Nat) (bits : Int32) (a c : Nat) : rL (akF S j bits).2 a c = rL S a c := rfl
/-- what a signal of a logic kind asks of its operands -/
def lgA (S : gS) (j : Nat) (bits : Int32) : Int32 := if rI S 116 j = 6 ∧ rI S 116 (rI S 118 j).toNatClampNeg = 1 then bits &&& rI S 117 (rI S 118 j).toNatClampNeg else bits
def lgB (S : gS) (j : Nat) (bits : Int32) : Int32 := if rI S 116 j = 6 ∧ rI S 116 (rI S 117 j).toNatClampNeg = 1 then bits &&& rI S 117 (rI S 117 j).toNatClampNeg else bits
def alF (S : gS) (j : Nat) (bits : Int32) : Int32 × gS := ak2 S (rI S 117 j).toNatClampNeg (lgA S j bits) (rI S 118 j).toNatClampNeg (lgB S j bits)
/-- all bits up to the highest -/
def upB (v : Int32) : Int32 := if nI (hiN v) = 31 then -1 else 1 <<< ((nI (hiN v) + 1) &&& 31) - 1
def poF (S : gS) (j : Nat) : Int32 × gS :=
  if rI S 128 j = 0 then (0, S)
  else if rI S 116 j = 0 ∨ rI S 116 j = 1 then (0, S)
  else if rI S 116 j = 2 then akF S (rI S 120 j).toNatClampNeg (rI S 128 j)
  else if rI S 116 j = 3 ∨ rI S 116 j = 4 ∨ rI S 116 j = 5 then ak2 S (rI S 117 j).toNatClampNeg (upB (rI S 128 j)) (rI S 118 j).toNatClampNeg (upB (rI S 128 j))
  else if rI S 116 j = 6 ∨ rI S 116 j = 7 ∨ rI S 116 j = 8 then alF S j (rI S 128 j)
  else if rI S 116 j = 9 then akF S (rI S 117 j).toNatClampNeg (ushr (rI S 128 j) (rI S 118 j))
  else if rI S 116 j = 10 then akF S (rI S 117 j).toNatClampNeg (rI S 128 j <<< (rI S 118 j &&& 31) ||| (if ushr (rI S 128 j) (31 - rI S 118 j) = 0 then 0 else -2147483648))
  else if rI S 116 j = 11 then ak2 S (rI S 117 j).toNatClampNeg (-1) (rI S 118 j).toNatClampNeg (-1)
  else ((ak2 S (rI S 117 j).toNatClampNeg (-1) (rI S 118 j).toNatClampNeg (rI S 128 j)).1 ||| (akF (ak2 S (rI S 117 j).toNatClampNeg (-1) (rI S 118 j).toNatClampNeg (rI S 128 j)).2 (rI S 119 j).toNatClampNeg (rI S 128 j)).1, (akF (ak2 S (rI S 117 j).toNatClampNeg (-1) (rI S 118 j).toNatClampNeg (rI S 128 j)).2 (rI S 119 j).toNatClampNeg (rI S 128 j)).2)
theorem hi_bit : ∀ h, h < 32 → (nI h).toUInt32 &&& Int32.toUInt32 31 = UInt32.ofNat h := by decide +kernel
theorem i_ext {a c : Int32} (h : a.toUInt32 = c.toUInt32) : a = c := by
  obtain ⟨x⟩ := a
  obtain ⟨y⟩ := c
  have h9 : x = y := h
  rw [h9]
theorem u_of : ∀ h, h < 32 → (UInt32.ofNat h).toNat = h := by decide +kernel
theorem bit_and1 (u : UInt32) : u.toInt32 &&& 1 = 0 ↔ u.toNat % 2 = 0 := by
  have h1 : (u.toInt32 &&& 1).toUInt32 = u &&& 1 := rfl
  constructor
  · intro h
    rw [h] at h1
    have h2 : (u &&& 1).toNat = 0 := by rw [← h1]; rfl
    rw [UInt32.toNat_and] at h2
    simpa [Nat.and_one_is_mod] using h2
  · intro h
    have h2 : u &&& 1 = 0 := by
      apply UInt32.toNat_inj.mp
      rw [UInt32.toNat_and]
      simpa [Nat.and_one_is_mod] using h
    have h3 : (u.toInt32 &&& 1).toUInt32 = 0 := by rw [h1, h2]
    exact i_ext (by rw [h3]; rfl)
/-- the bit h of v -/
theorem bit_at (v : Int32) {h : Nat} (hh : h < 32) : ushr v (nI h) &&& 1 = 0 ↔ v.toUInt32.toNat / 2 ^ h % 2 = 0 := by
  unfold ushr
  rw [bit_and1, hi_bit h hh, UInt32.toNat_shiftRight]
  rw [u_of h hh, Nat.mod_eq_of_lt hh, Nat.shiftRight_eq_div_pow]
theorem hiN_lt (v : Int32) : hiN v < 32 := by
  unfold hiN
  by_cases h0 : v.toUInt32.toNat = 0
  · rw [h0]; decide
  · exact (Nat.log2_lt h0).mpr v.toUInt32.toNat_lt
theorem hi_above (v : Int32) {h : Nat} (hh : hiN v < h) : v.toUInt32.toNat / 2 ^ h % 2 = 0 := by
  have hlt : v.toUInt32.toNat < 2 ^ h := by
    by_cases h0 : v.toUInt32.toNat = 0
    · rw [h0]; exact Nat.two_pow_pos h
    · exact (Nat.log2_lt h0).mp hh
  rw [Nat.div_eq_of_lt hlt]
theorem hi_at (v : Int32) (h0 : 0 < hiN v) : ¬ v.toUInt32.toNat / 2 ^ hiN v % 2 = 0 := by
  unfold hiN at *
  have hne : v.toUInt32.toNat ≠ 0 := by intro q; rw [q] at h0; revert h0; decide
  have h1 : 2 ^ v.toUInt32.toNat.log2 ≤ v.toUInt32.toNat := Nat.log2_self_le hne
  have h2 : v.toUInt32.toNat < 2 ^ (v.toUInt32.toNat.log2 + 1) := Nat.lt_log2_self
  have h3 : v.toUInt32.toNat / 2 ^ v.toUInt32.toNat.log2 = 1 := by
    apply Nat.div_eq_of_lt_le
    · rw [Nat.one_mul]; exact h1
    · rw [Nat.pow_succ] at h2; omega
  rw [h3]
  decide
