theorem fp_tb : FP.Core.b64.tails = 4503599627370496 := by decide
theorem fp_xb : FP.Core.b64.exps = 2048 := by decide
theorem fp_qn : FP.Core.b64.qmin = -1074 := by decide
theorem fp_qx : FP.Core.b64.qmax = 971 := by decide
theorem fp_pb : 2 ^ FP.Core.b64.p = 9007199254740992 := by decide
theorem fp_as (s : Bool) (e t : Nat) : FP.Core.assemble FP.Core.b64 s e t = (s.toNat * 2048 + e) * 4503599627370496 + t := by
  unfold FP.Core.assemble
  rw [fp_tb, fp_xb]
theorem fp_T (s : Bool) (e t : Nat) (ht : t < 4503599627370496) : FP.Core.fieldT FP.Core.b64 (FP.Core.assemble FP.Core.b64 s e t) = t := by
  unfold FP.Core.fieldT
  rw [fp_as, fp_tb]
  omega
theorem fp_E (s : Bool) (e t : Nat) (he : e ≤ 2047) (ht : t < 4503599627370496) : FP.Core.fieldE FP.Core.b64 (FP.Core.assemble FP.Core.b64 s e t) = e := by
  unfold FP.Core.fieldE
  rw [fp_as, fp_tb, fp_xb]
  have : ((s.toNat * 2048 + e) * 4503599627370496 + t) / 4503599627370496 = s.toNat * 2048 + e := by omega
  rw [this]
  omega
theorem fp_dec (s : Bool) (e t : Nat) (he : e < 2047) (ht : t < 4503599627370496) : ∃ s' c' q', FP.Core.decode FP.Core.b64 (FP.Core.assemble FP.Core.b64 s e t) = .fin s' c' q' ∧ (e ≠ 0 ∨ t ≠ 0 → c' ≠ 0) := by
  unfold FP.Core.decode
  rw [fp_E s e t (by omega) ht, fp_T s e t ht, fp_xb, fp_tb, if_neg (by omega)]
  by_cases h : e = 0
  · rw [if_pos h]
    exact ⟨_, _, _, rfl, fun z => z.elim (fun q => absurd h q) id⟩
  · rw [if_neg h]
    exact ⟨_, _, _, rfl, fun _ => by omega⟩
theorem fp_inf (s : Bool) : ∃ s', FP.Core.decode FP.Core.b64 (FP.Core.assemble FP.Core.b64 s 2047 0) = .inf s' := by
  unfold FP.Core.decode
  rw [fp_E s 2047 0 (by omega) (by omega), fp_T s 2047 0 (by omega), fp_xb, if_pos rfl, if_pos rfl]
  exact ⟨_, rfl⟩
theorem fp_set (s : Bool) (c : Nat) (q : Int) : ∃ e t, e ≤ 2047 ∧ t < 4503599627370496 ∧ (e = 2047 → t = 0) ∧ FP.Core.encode FP.Core.b64 (FP.Core.settle FP.Core.b64 s c q) = FP.Core.assemble FP.Core.b64 s e t ∧ (q ≤ 900 → e < 2047 ∧ (c ≠ 0 → e ≠ 0 ∨ t ≠ 0)) := by
  have hb : ∀ (c : Nat) (q : Int), c < 9007199254740992 → ∃ e t, e ≤ 2047 ∧ t < 4503599627370496 ∧ (e = 2047 → t = 0) ∧ FP.Core.encode FP.Core.b64 (FP.Core.bound FP.Core.b64 s c q) = FP.Core.assemble FP.Core.b64 s e t ∧ (q ≤ 901 → e < 2047 ∧ (c ≠ 0 → e ≠ 0 ∨ t ≠ 0)) := by
    intro c q hc
    unfold FP.Core.bound
    rw [fp_qx]
    by_cases h : q ≤ 971
    · rw [if_pos h]
      have he : FP.Core.encode FP.Core.b64 (.fin s c q) = if c < FP.Core.b64.tails then FP.Core.assemble FP.Core.b64 s 0 c else FP.Core.assemble FP.Core.b64 s ((q - FP.Core.b64.qmin).toNat + 1) (c - FP.Core.b64.tails) := rfl
      rw [he, fp_tb, fp_qn]
      by_cases h2 : c < 4503599627370496
      · rw [if_pos h2]
        exact ⟨0, c, by omega, h2, by omega, rfl, fun _ => ⟨by omega, fun z => Or.inr z⟩⟩
      · rw [if_neg h2]
        exact ⟨(q - (-1074)).toNat + 1, c - 4503599627370496, by omega, by omega, by omega, rfl, fun _ => ⟨by omega, fun _ => Or.inl (by omega)⟩⟩
    · rw [if_neg h]
      have he : FP.Core.encode FP.Core.b64 (.inf s) = FP.Core.assemble FP.Core.b64 s (FP.Core.b64.exps - 1) 0 := rfl
      rw [he, fp_xb]
      exact ⟨2047, 0, by omega, by omega, fun _ => rfl, rfl, fun z => absurd z (by omega)⟩
  unfold FP.Core.settle
  rw [fp_pb]
  by_cases h : c < 9007199254740992
  · rw [if_pos h]
    obtain ⟨e, t, h1, h2, h3, h4, h5⟩ := hb c q h
    exact ⟨e, t, h1, h2, h3, h4, fun z => h5 (by omega)⟩
  · rw [if_neg h]
    obtain ⟨e, t, h1, h2, h3, h4, h5⟩ := hb FP.Core.b64.tails (q + 1) (by rw [fp_tb]; omega)
    exact ⟨e, t, h1, h2, h3, h4, fun z => ⟨(h5 (by omega)).1, fun _ => (h5 (by omega)).2 (by rw [fp_tb]; omega)⟩⟩
theorem fp_zero (s : Bool) : FP.Core.encode FP.Core.b64 (.fin s 0 FP.Core.b64.qmin) = FP.Core.assemble FP.Core.b64 s 0 0 := by
  have he : FP.Core.encode FP.Core.b64 (.fin s 0 FP.Core.b64.qmin) = if 0 < FP.Core.b64.tails then FP.Core.assemble FP.Core.b64 s 0 0 else FP.Core.assemble FP.Core.b64 s ((FP.Core.b64.qmin - FP.Core.b64.qmin).toNat + 1) (0 - FP.Core.b64.tails) := rfl
  rw [he, if_pos (by rw [fp_tb]; omega)]
theorem fp_rat (s : Bool) (num den : Nat) (e0 : Int) : ∃ e t, e ≤ 2047 ∧ t < 4503599627370496 ∧ (e = 2047 → t = 0) ∧ FP.Core.encode FP.Core.b64 (FP.Core.roundRatio FP.Core.b64 s num den e0) = FP.Core.assemble FP.Core.b64 s e t := by
  unfold FP.Core.roundRatio
  by_cases h : num = 0
  · rw [if_pos h, fp_zero]
    exact ⟨0, 0, by omega, by omega, by omega, rfl⟩
  · rw [if_neg h]
    unfold FP.Core.roundAt
    obtain ⟨e, t, h1, h2, h3, h4, _⟩ := fp_set s (FP.Core.nearest (FP.Core.unitsNum num e0 (FP.Core.quantum FP.Core.b64 num den e0)) (FP.Core.unitsDen den e0 (FP.Core.quantum FP.Core.b64 num den e0))) (FP.Core.quantum FP.Core.b64 num den e0)
    exact ⟨e, t, h1, h2, h3, h4⟩
theorem fp_lead (num : Nat) (h0 : num ≠ 0) (h : num ≤ 2147483648) : FP.Core.leading num 1 ≤ 31 := by
  have hl : num.log2 < 32 := (Nat.log2_lt h0).mpr (by omega)
  unfold FP.Core.leading
  have hk : ((num.log2 : Int) - ((1 : Nat).log2 : Int)) ≤ 31 := by omega
  show (if 1 * 2 ^ ((num.log2 : Int) - ((1 : Nat).log2 : Int)).toNat ≤ num * 2 ^ (-((num.log2 : Int) - ((1 : Nat).log2 : Int))).toNat then ((num.log2 : Int) - ((1 : Nat).log2 : Int)) else ((num.log2 : Int) - ((1 : Nat).log2 : Int)) - 1) ≤ 31
  generalize ((num.log2 : Int) - ((1 : Nat).log2 : Int)) = k at hk
  split
  · exact hk
  · omega
theorem fp_near (N : Nat) : FP.Core.nearest N 1 = N := by
  unfold FP.Core.nearest
  rw [Nat.mod_one, if_pos (by omega), Nat.div_one]
theorem fp_int (i : Int) (h : i.natAbs ≤ 2147483648) : ∃ s e t, e < 2047 ∧ t < 4503599627370496 ∧ FP.Core.fromInt FP.Core.b64 i = FP.Core.assemble FP.Core.b64 s e t ∧ (i ≠ 0 → e ≠ 0 ∨ t ≠ 0) := by
  have h0 : FP.Core.fromInt FP.Core.b64 i = FP.Core.encode FP.Core.b64 (FP.Core.roundRatio FP.Core.b64 (decide (i < 0)) i.natAbs 1 0) := rfl
  rw [h0]
  unfold FP.Core.roundRatio
  by_cases hz : i.natAbs = 0
  · rw [if_pos hz, fp_zero]
    exact ⟨_, 0, 0, by omega, by omega, rfl, fun z => absurd (Int.natAbs_eq_zero.mp hz) z⟩
  · rw [if_neg hz]
    unfold FP.Core.roundAt
    have hq : FP.Core.quantum FP.Core.b64 i.natAbs 1 0 ≤ 0 := by
      have := fp_lead i.natAbs hz h
      unfold FP.Core.quantum
      rw [fp_qn]
      have hp : ((FP.Core.b64.p : Nat) : Int) = 53 := by decide
      rw [hp]
      omega
    revert hq
    generalize FP.Core.quantum FP.Core.b64 i.natAbs 1 0 = q
    intro hq
    have hd : FP.Core.unitsDen 1 0 q = 1 := by
      unfold FP.Core.unitsDen
      rw [show (q - 0).toNat = 0 by omega]
    rw [hd, fp_near]
    obtain ⟨e, t, h1, h2, h3, h4, h5⟩ := fp_set (decide (i < 0)) (FP.Core.unitsNum i.natAbs 0 q) q
    refine ⟨_, e, t, (h5 (by omega)).1, h2, h4, fun _ => (h5 (by omega)).2 ?_⟩
    unfold FP.Core.unitsNum
    exact Nat.mul_ne_zero hz (Nat.ne_of_gt (Nat.two_pow_pos _))
theorem fp_lt (s : Bool) (e t : Nat) (he : e ≤ 2047) (ht : t < 4503599627370496) : FP.Core.assemble FP.Core.b64 s e t < 2 ^ 64 := by
  rw [fp_as]
  have : s.toNat ≤ 1 := by cases s <;> decide
  omega
theorem fp_i2d (v : Int32) : ∃ s c q, FP.Core.decode FP.Core.b64 (FP.i2d v).toNat = .fin s c q ∧ (v ≠ 0 → c ≠ 0) := by
  have b1 := Int32.toInt_lt v
  have b2 := Int32.le_toInt v
  obtain ⟨s, e, t, h1, h2, h3, h4⟩ := fp_int v.toInt (by omega)
  have e0 : (FP.i2d v).toNat = FP.Core.assemble FP.Core.b64 s e t := by
    show (UInt64.ofNat (FP.Core.fromInt FP.Core.b64 v.toInt)).toNat = _
    rw [h3, UInt64.toNat_ofNat', Nat.mod_eq_of_lt (fp_lt s e t (by omega) h2)]
  obtain ⟨s', c', q', k1, k2⟩ := fp_dec s e t h1 h2
  rw [e0]
  refine ⟨s', c', q', k1, fun z => k2 (h4 (fun y => z ?_))⟩
  rw [ieq]
  exact y
theorem fp_div (c a : Int32) (ha : ¬ a = 0) : ∃ s e t, e ≤ 2047 ∧ t < 4503599627370496 ∧ (e = 2047 → t = 0) ∧ (FP.ddiv (FP.i2d c) (FP.i2d a)).toNat = FP.Core.assemble FP.Core.b64 s e t := by
  obtain ⟨s1, c1, q1, h1, -⟩ := fp_i2d c
  obtain ⟨s2, c2, q2, h2, h3⟩ := fp_i2d a
  have e0 : FP.ddiv (FP.i2d c) (FP.i2d a) = UInt64.ofNat (FP.Core.encode FP.Core.b64 (FP.Core.quotient FP.Core.b64 (FP.Core.decode FP.Core.b64 (FP.i2d c).toNat) (FP.Core.decode FP.Core.b64 (FP.i2d a).toNat))) := rfl
  rw [e0, h1, h2]
  have e1 : FP.Core.quotient FP.Core.b64 (.fin s1 c1 q1) (.fin s2 c2 q2) = if c2 = 0 then (if c1 = 0 then .nan else .inf (s1 != s2)) else FP.Core.roundRatio FP.Core.b64 (s1 != s2) c1 c2 (q1 - q2) := rfl
  rw [e1, if_neg (h3 ha)]
  obtain ⟨e, t, k1, k2, k3, k4⟩ := fp_rat (s1 != s2) c1 c2 (q1 - q2)
  refine ⟨s1 != s2, e, t, k1, k2, k3, ?_⟩
  rw [k4, UInt64.toNat_ofNat', Nat.mod_eq_of_lt (fp_lt _ e t k1 k2)]
/-- a quotient of whole numbers, the second not 0, is no NaN -/
theorem fp_n64 (c a : Int32) (ha : ¬ a = 0) : vf_n64 (FP.ddiv (FP.i2d c) (FP.i2d a)) := by
  obtain ⟨s, e, t, h1, h2, h3, h4⟩ := fp_div c a ha
  unfold vf_n64
  rw [UInt64.le_iff_toNat_le, UInt64.toNat_and, h4, show (0x7fffffffffffffff : UInt64).toNat = 2 ^ 63 - 1 from rfl, Nat.and_two_pow_sub_one_eq_mod, fp_as, show (0x7ff0000000000000 : UInt64).toNat = 9218868437227405312 from rfl]
  have : s.toNat ≤ 1 := by cases s <;> decide
  by_cases q : e = 2047
  · have := h3 q
    omega
  · omega
theorem fp_cself (x : Int) : compare x x = Ordering.eq := by simp [compare, compareOfLessAndEq]
/-- and equals itself -/
theorem fp_eq (c a : Int32) (ha : ¬ a = 0) : FP.dcmp (FP.ddiv (FP.i2d c) (FP.i2d a)) (FP.ddiv (FP.i2d c) (FP.i2d a)) = some .eq := by
  obtain ⟨s, e, t, h1, h2, h3, h4⟩ := fp_div c a ha
  show FP.Core.order (FP.Core.decode FP.Core.b64 (FP.ddiv (FP.i2d c) (FP.i2d a)).toNat) (FP.Core.decode FP.Core.b64 (FP.ddiv (FP.i2d c) (FP.i2d a)).toNat) = some .eq
  rw [h4]
  by_cases q : e = 2047
  · rw [q, h3 q]
    obtain ⟨s', k⟩ := fp_inf s
    rw [k]
    exact congrArg some (fp_cself _)
  · obtain ⟨s', c', q', k, _⟩ := fp_dec s e t (by omega) h2
    rw [k]
    exact congrArg some (fp_cself _)

