theorem i_u (a : Int32) (h : 0 ≤ a.toInt) : ((a.toUInt32.toNat : Nat) : Int) = a.toInt ∧ a.toUInt32.toNat < 2147483648 := by
  have h1 : a.toInt = a.toUInt32.toBitVec.toInt := rfl
  have h2 := BitVec.toInt_eq_toNat_cond a.toUInt32.toBitVec
  have h3 : a.toUInt32.toBitVec.toNat = a.toUInt32.toNat := rfl
  rw [← h1, h3] at h2
  have h4 := a.toUInt32.toNat_lt
  have e : (2 : Nat) ^ 32 = 4294967296 := by decide
  rw [e] at h2
  split at h2 <;> omega
theorem i_un (a : Int32) (h : a.toInt < 0) : ((a.toUInt32.toNat : Nat) : Int) = a.toInt + 4294967296 ∧ 2147483648 ≤ a.toUInt32.toNat := by
  have h1 : a.toInt = a.toUInt32.toBitVec.toInt := rfl
  have h2 := BitVec.toInt_eq_toNat_cond a.toUInt32.toBitVec
  have h3 : a.toUInt32.toBitVec.toNat = a.toUInt32.toNat := rfl
  rw [← h1, h3] at h2
  have h4 := a.toUInt32.toNat_lt
  have e : (2 : Nat) ^ 32 = 4294967296 := by decide
  rw [e] at h2
  split at h2 <;> omega
theorem u_i (u : UInt32) (h : u.toNat < 2147483648) : u.toInt32.toInt = u.toNat := by
  have h1 : u.toInt32.toInt = u.toBitVec.toInt := rfl
  rw [h1, BitVec.toInt_eq_toNat_of_lt (by show 2 * u.toNat < 4294967296; omega)]
  rfl
theorem ushr_u {a : Int32} {k : Nat} (hk : k < 32) : (ushr a (nI k)).toUInt32.toNat = a.toUInt32.toNat / 2 ^ k := by
  unfold ushr
  rw [hi_bit k hk]
  have h1 : ((a.toUInt32 >>> UInt32.ofNat k).toInt32).toUInt32 = a.toUInt32 >>> UInt32.ofNat k := rfl
  rw [h1, UInt32.toNat_shiftRight, u_of k hk, Nat.mod_eq_of_lt hk, Nat.shiftRight_eq_div_pow]
theorem ushr_i {a : Int32} {k : Nat} (ha : 0 ≤ a.toInt) (hk : k < 32) : (ushr a (nI k)).toInt = a.toInt / 2 ^ k := by
  have h1 := @ushr_u a k hk
  obtain ⟨h2, h3⟩ := i_u a ha
  have h4 : a.toUInt32.toNat / 2 ^ k ≤ a.toUInt32.toNat := Nat.div_le_self _ _
  have h5 : 0 ≤ (ushr a (nI k)).toInt := by
    rcases Int.lt_or_le (ushr a (nI k)).toInt 0 with q | q
    · have := (i_un _ q).2
      omega
    · exact q
  have h6 := (i_u _ h5).1
  rw [h1] at h6
  rw [← h6, ← h2]
  simp
theorem isub_i {a c : Int32} (h1 : -2147483648 ≤ a.toInt - c.toInt) (h2 : a.toInt - c.toInt ≤ 2147483647) : (a - c).toInt = a.toInt - c.toInt := by
  rw [Int32.toInt_sub]
  exact Int.bmod_eq_of_le (by simp; omega) (by simp; omega)
theorem iadd_i {a c : Int32} (h1 : -2147483648 ≤ a.toInt + c.toInt) (h2 : a.toInt + c.toInt ≤ 2147483647) : (a + c).toInt = a.toInt + c.toInt := by
  rw [Int32.toInt_add]
  exact Int.bmod_eq_of_le (by simp; omega) (by simp; omega)
theorem not_i (a : Int32) : (a ^^^ -1).toInt = -a.toInt - 1 := by
  rw [Int32.xor_neg_one, Int32.toInt_not]
  have h1 := Int32.toInt_lt a
  have h2 := Int32.le_toInt a
  have e : (2 : Int) ^ 31 = 2147483648 := by decide
  exact Int.bmod_eq_of_le (by simp; omega) (by simp; omega)
theorem hi_eq {v : Int32} {k : Nat} (h1 : 2 ^ k ≤ v.toUInt32.toNat) (h2 : v.toUInt32.toNat < 2 ^ (k + 1)) : hiN v = k := by
  unfold hiN
  have h0 : v.toUInt32.toNat ≠ 0 := by
    have := Nat.two_pow_pos k
    omega
  have h3 := (Nat.log2_lt h0).mpr h2
  have h4 := (Nat.le_log2 h0).mpr h1
  omega
theorem nlz_leaf {v x : Int32} (b : Nat) (hb : b ≤ 30) (hx : x.toUInt32.toNat = v.toUInt32.toNat / 2 ^ b) (h1 : 1 ≤ x.toUInt32.toNat) (h3 : x.toUInt32.toNat < 4) (cc : Int32) (hc : cc = nI (31 - b)) : cc - ushr x 1 = nI (31 - hiN v) := by
  have hp := Nat.two_pow_pos b
  have hd := Nat.div_add_mod v.toUInt32.toNat (2 ^ b)
  have hm := Nat.mod_lt v.toUInt32.toNat hp
  rw [← hx] at hd
  have hux : 0 ≤ x.toInt := by
    rcases Int.lt_or_le x.toInt 0 with q | q
    · have := (i_un _ q).2
      omega
    · exact q
  have hxi := (i_u x hux).1
  have hs : (ushr x 1).toInt = x.toInt / 2 := ushr_i (k := 1) hux (by decide)
  have hcn : cc.toInt = ((31 - b : Nat) : Int) := by rw [hc, nI_toInt (by omega)]
  rcases Nat.lt_or_ge x.toUInt32.toNat 2 with q | q
  · have e1 : x.toUInt32.toNat = 1 := by omega
    have hk : hiN v = b := hi_eq (by rw [e1] at hd; omega) (by rw [e1] at hd; rw [Nat.pow_succ]; omega)
    rw [ieq, isub_i (by rw [hs, hcn]; omega) (by rw [hs, hcn]; omega), hs, hcn, hk, nI_toInt (by omega)]
    omega
  · have hk : hiN v = b + 1 := by
      have h5 : 2 ^ b * 2 ≤ 2 ^ b * x.toUInt32.toNat := Nat.mul_le_mul_left _ q
      have h6 : 2 ^ b * x.toUInt32.toNat ≤ 2 ^ b * 3 := Nat.mul_le_mul_left _ (by omega)
      exact hi_eq (by rw [Nat.pow_succ]; omega) (by rw [Nat.pow_succ, Nat.pow_succ]; omega)
    rw [ieq, isub_i (by rw [hs, hcn]; omega) (by rw [hs, hcn]; omega), hs, hcn, hk, nI_toInt (by omega)]
    omega
theorem lt_u {a : Int32} {k : Nat} (h : a.toUInt32.toNat < 2147483648) (hk : k < 2147483648) : a < nI k ↔ a.toUInt32.toNat < k := by
  have h0 : 0 ≤ a.toInt := by
    rcases Int.lt_or_le a.toInt 0 with q | q
    · have := (i_un _ q).2
      omega
    · exact q
  have h1 := (i_u a h0).1
  rw [il, nI_toInt (by omega)]
  omega
theorem nlz_pos {v : Int32} (hv : 0 < v) : f_nlz v = nI (31 - hiN v) := by
  have hv0 : 0 < v.toInt := by rw [il] at hv; exact hv
  obtain ⟨hu, hub⟩ := i_u v (by omega)
  have hv1 : 1 ≤ v.toUInt32.toNat := by omega
  unfold f_nlz
  rw [if_pos hv]
  have f_v_2 : (ushr v 2).toUInt32.toNat = v.toUInt32.toNat / 4 := by
    have h9 := @ushr_u v 2 (by decide)
    exact h9
  have f_v_4 : (ushr v 4).toUInt32.toNat = v.toUInt32.toNat / 16 := by
    have h9 := @ushr_u v 4 (by decide)
    exact h9
  have f_v_4_2 : (ushr (ushr v 4) 2).toUInt32.toNat = v.toUInt32.toNat / 64 := by
    have h9 := @ushr_u (ushr v 4) 2 (by decide)
    rw [f_v_4, Nat.div_div_eq_div_mul] at h9
    exact h9
  have f_v_8 : (ushr v 8).toUInt32.toNat = v.toUInt32.toNat / 256 := by
    have h9 := @ushr_u v 8 (by decide)
    exact h9
  have f_v_8_2 : (ushr (ushr v 8) 2).toUInt32.toNat = v.toUInt32.toNat / 1024 := by
    have h9 := @ushr_u (ushr v 8) 2 (by decide)
    rw [f_v_8, Nat.div_div_eq_div_mul] at h9
    exact h9
  have f_v_8_4 : (ushr (ushr v 8) 4).toUInt32.toNat = v.toUInt32.toNat / 4096 := by
    have h9 := @ushr_u (ushr v 8) 4 (by decide)
    rw [f_v_8, Nat.div_div_eq_div_mul] at h9
    exact h9
  have f_v_8_4_2 : (ushr (ushr (ushr v 8) 4) 2).toUInt32.toNat = v.toUInt32.toNat / 16384 := by
    have h9 := @ushr_u (ushr (ushr v 8) 4) 2 (by decide)
    rw [f_v_8_4, Nat.div_div_eq_div_mul] at h9
    exact h9
  have f_v_16 : (ushr v 16).toUInt32.toNat = v.toUInt32.toNat / 65536 := by
    have h9 := @ushr_u v 16 (by decide)
    exact h9
  have f_v_16_2 : (ushr (ushr v 16) 2).toUInt32.toNat = v.toUInt32.toNat / 262144 := by
    have h9 := @ushr_u (ushr v 16) 2 (by decide)
    rw [f_v_16, Nat.div_div_eq_div_mul] at h9
    exact h9
  have f_v_16_4 : (ushr (ushr v 16) 4).toUInt32.toNat = v.toUInt32.toNat / 1048576 := by
    have h9 := @ushr_u (ushr v 16) 4 (by decide)
    rw [f_v_16, Nat.div_div_eq_div_mul] at h9
    exact h9
  have f_v_16_4_2 : (ushr (ushr (ushr v 16) 4) 2).toUInt32.toNat = v.toUInt32.toNat / 4194304 := by
    have h9 := @ushr_u (ushr (ushr v 16) 4) 2 (by decide)
    rw [f_v_16_4, Nat.div_div_eq_div_mul] at h9
    exact h9
  have f_v_16_8 : (ushr (ushr v 16) 8).toUInt32.toNat = v.toUInt32.toNat / 16777216 := by
    have h9 := @ushr_u (ushr v 16) 8 (by decide)
    rw [f_v_16, Nat.div_div_eq_div_mul] at h9
    exact h9
  have f_v_16_8_2 : (ushr (ushr (ushr v 16) 8) 2).toUInt32.toNat = v.toUInt32.toNat / 67108864 := by
    have h9 := @ushr_u (ushr (ushr v 16) 8) 2 (by decide)
    rw [f_v_16_8, Nat.div_div_eq_div_mul] at h9
    exact h9
  have f_v_16_8_4 : (ushr (ushr (ushr v 16) 8) 4).toUInt32.toNat = v.toUInt32.toNat / 268435456 := by
    have h9 := @ushr_u (ushr (ushr v 16) 8) 4 (by decide)
    rw [f_v_16_8, Nat.div_div_eq_div_mul] at h9
    exact h9
  have f_v_16_8_4_2 : (ushr (ushr (ushr (ushr v 16) 8) 4) 2).toUInt32.toNat = v.toUInt32.toNat / 1073741824 := by
    have h9 := @ushr_u (ushr (ushr (ushr v 16) 8) 4) 2 (by decide)
    rw [f_v_16_8_4, Nat.div_div_eq_div_mul] at h9
    exact h9
  by_cases c0 : v < 65536
  · have n0 := (lt_u (k := 65536) hub (by decide)).mp c0
    rw [if_pos c0]
    by_cases c1 : v < 256
    · have n1 := (lt_u (k := 256) hub (by decide)).mp c1
      rw [if_pos c1]
      by_cases c2 : v < 16
      · have n2 := (lt_u (k := 16) hub (by decide)).mp c2
        rw [if_pos c2]
        by_cases c3 : v < 4
        · have n3 := (lt_u (k := 4) hub (by decide)).mp c3
          rw [if_pos c3]
          exact nlz_leaf 0 (by decide) (Nat.div_one _).symm (by omega) (by omega) 31 rfl
        · have n3 := (not_congr (lt_u (k := 4) hub (by decide))).mp c3
          rw [if_neg c3]
          exact nlz_leaf 2 (by decide) f_v_2 (by rw [f_v_2]; omega) (by rw [f_v_2]; omega) 29 rfl
      · have n2 := (not_congr (lt_u (k := 16) hub (by decide))).mp c2
        rw [if_neg c2]
        by_cases c3 : ushr v 4 < 4
        · have n3 := (lt_u (k := 4) (by rw [f_v_4]; omega) (by decide)).mp c3
          rw [f_v_4] at n3
          rw [if_pos c3]
          exact nlz_leaf 4 (by decide) f_v_4 (by rw [f_v_4]; omega) (by rw [f_v_4]; omega) 27 rfl
        · have n3 := (not_congr (lt_u (k := 4) (by rw [f_v_4]; omega) (by decide))).mp c3
          rw [f_v_4] at n3
          rw [if_neg c3]
          exact nlz_leaf 6 (by decide) f_v_4_2 (by rw [f_v_4_2]; omega) (by rw [f_v_4_2]; omega) 25 rfl
    · have n1 := (not_congr (lt_u (k := 256) hub (by decide))).mp c1
      rw [if_neg c1]
      by_cases c2 : ushr v 8 < 16
      · have n2 := (lt_u (k := 16) (by rw [f_v_8]; omega) (by decide)).mp c2
        rw [f_v_8] at n2
        rw [if_pos c2]
        by_cases c3 : ushr v 8 < 4
        · have n3 := (lt_u (k := 4) (by rw [f_v_8]; omega) (by decide)).mp c3
          rw [f_v_8] at n3
          rw [if_pos c3]
          exact nlz_leaf 8 (by decide) f_v_8 (by rw [f_v_8]; omega) (by rw [f_v_8]; omega) 23 rfl
        · have n3 := (not_congr (lt_u (k := 4) (by rw [f_v_8]; omega) (by decide))).mp c3
          rw [f_v_8] at n3
          rw [if_neg c3]
          exact nlz_leaf 10 (by decide) f_v_8_2 (by rw [f_v_8_2]; omega) (by rw [f_v_8_2]; omega) 21 rfl
      · have n2 := (not_congr (lt_u (k := 16) (by rw [f_v_8]; omega) (by decide))).mp c2
        rw [f_v_8] at n2
        rw [if_neg c2]
        by_cases c3 : ushr (ushr v 8) 4 < 4
        · have n3 := (lt_u (k := 4) (by rw [f_v_8_4]; omega) (by decide)).mp c3
          rw [f_v_8_4] at n3
          rw [if_pos c3]
          exact nlz_leaf 12 (by decide) f_v_8_4 (by rw [f_v_8_4]; omega) (by rw [f_v_8_4]; omega) 19 rfl
        · have n3 := (not_congr (lt_u (k := 4) (by rw [f_v_8_4]; omega) (by decide))).mp c3
          rw [f_v_8_4] at n3
          rw [if_neg c3]
          exact nlz_leaf 14 (by decide) f_v_8_4_2 (by rw [f_v_8_4_2]; omega) (by rw [f_v_8_4_2]; omega) 17 rfl
  · have n0 := (not_congr (lt_u (k := 65536) hub (by decide))).mp c0
    rw [if_neg c0]
    by_cases c1 : ushr v 16 < 256
    · have n1 := (lt_u (k := 256) (by rw [f_v_16]; omega) (by decide)).mp c1
      rw [f_v_16] at n1
      rw [if_pos c1]
      by_cases c2 : ushr v 16 < 16
      · have n2 := (lt_u (k := 16) (by rw [f_v_16]; omega) (by decide)).mp c2
        rw [f_v_16] at n2
        rw [if_pos c2]
        by_cases c3 : ushr v 16 < 4
        · have n3 := (lt_u (k := 4) (by rw [f_v_16]; omega) (by decide)).mp c3
          rw [f_v_16] at n3
          rw [if_pos c3]
          exact nlz_leaf 16 (by decide) f_v_16 (by rw [f_v_16]; omega) (by rw [f_v_16]; omega) 15 rfl
        · have n3 := (not_congr (lt_u (k := 4) (by rw [f_v_16]; omega) (by decide))).mp c3
          rw [f_v_16] at n3
          rw [if_neg c3]
          exact nlz_leaf 18 (by decide) f_v_16_2 (by rw [f_v_16_2]; omega) (by rw [f_v_16_2]; omega) 13 rfl
      · have n2 := (not_congr (lt_u (k := 16) (by rw [f_v_16]; omega) (by decide))).mp c2
        rw [f_v_16] at n2
        rw [if_neg c2]
        by_cases c3 : ushr (ushr v 16) 4 < 4
        · have n3 := (lt_u (k := 4) (by rw [f_v_16_4]; omega) (by decide)).mp c3
          rw [f_v_16_4] at n3
          rw [if_pos c3]
          exact nlz_leaf 20 (by decide) f_v_16_4 (by rw [f_v_16_4]; omega) (by rw [f_v_16_4]; omega) 11 rfl
        · have n3 := (not_congr (lt_u (k := 4) (by rw [f_v_16_4]; omega) (by decide))).mp c3
          rw [f_v_16_4] at n3
          rw [if_neg c3]
          exact nlz_leaf 22 (by decide) f_v_16_4_2 (by rw [f_v_16_4_2]; omega) (by rw [f_v_16_4_2]; omega) 9 rfl
    · have n1 := (not_congr (lt_u (k := 256) (by rw [f_v_16]; omega) (by decide))).mp c1
      rw [f_v_16] at n1
      rw [if_neg c1]
      by_cases c2 : ushr (ushr v 16) 8 < 16
      · have n2 := (lt_u (k := 16) (by rw [f_v_16_8]; omega) (by decide)).mp c2
        rw [f_v_16_8] at n2
        rw [if_pos c2]
        by_cases c3 : ushr (ushr v 16) 8 < 4
        · have n3 := (lt_u (k := 4) (by rw [f_v_16_8]; omega) (by decide)).mp c3
          rw [f_v_16_8] at n3
          rw [if_pos c3]
          exact nlz_leaf 24 (by decide) f_v_16_8 (by rw [f_v_16_8]; omega) (by rw [f_v_16_8]; omega) 7 rfl
        · have n3 := (not_congr (lt_u (k := 4) (by rw [f_v_16_8]; omega) (by decide))).mp c3
          rw [f_v_16_8] at n3
          rw [if_neg c3]
          exact nlz_leaf 26 (by decide) f_v_16_8_2 (by rw [f_v_16_8_2]; omega) (by rw [f_v_16_8_2]; omega) 5 rfl
      · have n2 := (not_congr (lt_u (k := 16) (by rw [f_v_16_8]; omega) (by decide))).mp c2
        rw [f_v_16_8] at n2
        rw [if_neg c2]
        by_cases c3 : ushr (ushr (ushr v 16) 8) 4 < 4
        · have n3 := (lt_u (k := 4) (by rw [f_v_16_8_4]; omega) (by decide)).mp c3
          rw [f_v_16_8_4] at n3
          rw [if_pos c3]
          exact nlz_leaf 28 (by decide) f_v_16_8_4 (by rw [f_v_16_8_4]; omega) (by rw [f_v_16_8_4]; omega) 3 rfl
        · have n3 := (not_congr (lt_u (k := 4) (by rw [f_v_16_8_4]; omega) (by decide))).mp c3
          rw [f_v_16_8_4] at n3
          rw [if_neg c3]
          exact nlz_leaf 30 (by decide) f_v_16_8_4_2 (by rw [f_v_16_8_4_2]; omega) (by rw [f_v_16_8_4_2]; omega) 1 rfl
theorem hi_neg {v : Int32} (hv : v < 0) : hiN v = 31 := by
  rw [il] at hv
  have h1 := i_un v hv
  have h2 := v.toUInt32.toNat_lt
  exact hi_eq (by omega) (by omega)
theorem hi_31 (v : Int32) : hiN v ≤ 31 := by
  unfold hiN
  by_cases h0 : v.toUInt32.toNat = 0
  · rw [h0]; decide
  · have := (Nat.log2_lt h0).mpr v.toUInt32.toNat_lt
    omega
theorem hi_30 {v : Int32} (hv : 0 < v) : hiN v ≤ 30 := by
  rw [il] at hv
  have h3 : (0 : Int32).toInt = 0 := rfl
  obtain ⟨h1, h2⟩ := i_u v (by omega)
  unfold hiN
  have h0 : v.toUInt32.toNat ≠ 0 := by omega
  have := (Nat.log2_lt (k := 31) h0).mpr (by omega)
  omega
theorem nlz_eq (v : Int32) : f_nlz v = if v = 0 then 32 else nI (31 - hiN v) := by
  by_cases h0 : v = 0
  · rw [if_pos h0, h0]; rfl
  · rw [if_neg h0]
    by_cases hp : 0 < v
    · exact nlz_pos hp
    · have hn : v < 0 := by
        rw [il] at hp ⊢
        rw [ieq] at h0
        omega
      rw [hi_neg hn]
      unfold f_nlz
      rw [if_neg hp, if_neg h0]
      rfl
theorem bl_eq (v : Int32) : f_X8_bitLength v = if v = 0 then 0 else nI (hiN v + 1) := by
  unfold f_X8_bitLength
  rw [nlz_eq]
  by_cases h0 : v = 0
  · rw [if_pos h0, if_pos h0]; rfl
  · rw [if_neg h0, if_neg h0]
    have h := hi_31 v
    rw [ieq, isub_i (by rw [nI_toInt (by omega)]; show (_ : Int) ≤ 32 - _; omega) (by rw [nI_toInt (by omega)]; show (32 : Int) - _ ≤ _; omega), nI_toInt (by omega), nI_toInt (by omega)]
    show (32 : Int) - _ = _
    omega
theorem lg_hi {v : Int32} (hv : 0 < v) : lg v.toInt = hiN v + 1 := by
  rw [il] at hv
  have h3 : (0 : Int32).toInt = 0 := rfl
  obtain ⟨h1, h2⟩ := i_u v (by omega)
  unfold lg hiN
  rw [if_neg (by omega)]
  have : v.toInt.toNat = v.toUInt32.toNat := by omega
  rw [this]
theorem bl_lg {v : Int32} (hv : 0 ≤ v) : f_X8_bitLength v = nI (lg v.toInt) := by
  rw [bl_eq]
  by_cases h0 : v = 0
  · rw [if_pos h0, h0]; rfl
  · have hp : 0 < v := by
      rw [ile] at hv
      rw [ieq] at h0
      rw [il]
      omega
    rw [if_neg h0, lg_hi hp]
theorem ones_k : ∀ k, k < 32 → ushr (-1) (nI (31 - k)) = Int32.ofInt (2 ^ (k + 1) - 1) := by decide +kernel
theorem onb_i (v : Int32) : (f_X4_onesNotBelow v).toInt = 2 ^ lg v.toInt - 1 := by
  unfold f_X4_onesNotBelow
  by_cases hp : 0 < v
  · have h30 := hi_30 hp
    have hz : ¬ v = 0 := by
      rintro rfl
      exact absurd hp (by decide)
    have e1 : f_nlz v = nI (31 - hiN v) := nlz_pos hp
    simp only [if_pos hp]
    rw [e1, ones_k _ (by omega), lg_hi hp]
    have h1 := p2_mono (show hiN v + 1 ≤ 31 by omega)
    have h2 := p2_pos (hiN v + 1)
    rw [show (2 : Int) ^ 31 = 2147483648 by decide] at h1
    exact i_of (by omega) (by omega)
  · simp only [if_neg hp]
    rw [il] at hp
    have h3 : (0 : Int32).toInt = 0 := rfl
    unfold lg
    rw [if_pos (by omega)]
    rfl
theorem onb_j (v : Int32) : (f_X4_onesNotBelow v).toInt64 = upL v.toInt64 := by
  have h1 := onb_i v
  rw [jeq, Int32.toInt_toInt64, h1]
  unfold upL
  rw [Int32.toInt_toInt64, j_of]
  · have := p2_pos (lg v.toInt)
    omega
  · rw [← h1]
    have := Int32.toInt_lt (f_X4_onesNotBelow v)
    have e : (2 : Int) ^ 31 = 2147483648 := by decide
    omega
theorem pna_i {v : Int32} (hv : v < 0) : (f_X4_powerNotAbove v).toInt = -2 ^ lg (-v.toInt - 1) := by
  unfold f_X4_powerNotAbove
  simp only [if_pos hv]
  rw [not_i, onb_i, not_i]
  omega
theorem pna_j {v : Int32} (hv : v < 0) : (f_X4_powerNotAbove v).toInt64 = dnL v.toInt64 := by
  have h1 := pna_i hv
  rw [jeq, Int32.toInt_toInt64, h1]
  unfold dnL
  rw [Int32.toInt_toInt64, j_of]
  · rw [← h1]
    have := Int32.le_toInt (f_X4_powerNotAbove v)
    have e : (2 : Int) ^ 31 = 2147483648 := by decide
    omega
  · have := p2_pos (lg (-v.toInt - 1))
    omega
