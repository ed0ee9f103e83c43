-- needs 
theorem shl1n : ∀ k, k < 63 → -((1 : Int64) <<< ((nI k).toInt64 &&& 63)) = mnL k := by decide +kernel
theorem shl1m : ∀ k, k < 63 → (1 : Int64) <<< ((nI k).toInt64 &&& 63) - 1 = onL k := by decide +kernel
theorem onL_g {v : Int64} {i : Nat} (hi : i ≤ 63) : onL i < v ↔ i < lg v.toInt := by
  rw [jl, onL_i hi]
  have h1 := @lg_le v.toInt i
  omega
theorem mnL_g {v : Int64} {i : Nat} (hi : i ≤ 63) : v < mnL i ↔ i < lg (-v.toInt - 1) := by
  rw [jl, mnL_i hi]
  have h1 := @lg_le (-v.toInt - 1) i
  omega
theorem shl_g {v : Int64} {i : Nat} (hi : i < 63) : v < (1 : Int64) <<< ((nI i).toInt64 &&& 63) ↔ lg v.toInt ≤ i := by
  rw [jl, shl1' hi, lg_le]
theorem b01 {x : Int32} (h : x = 0 ∨ x = 1) : narrow .boolean (.int x) = .int x := by
  rcases h with rfl | rfl <;> rfl
theorem or01 {x y : Int32} (h : x = 0 ∨ x = 1) (h2 : y = 0 ∨ y = 1) : x ||| y = 0 ∨ x ||| y = 1 := by
  rcases h with rfl | rfl <;> rcases h2 with rfl | rfl <;> decide
theorem bi01 {p : Prop} [Decidable p] : bi p = 0 ∨ bi p = 1 := by
  unfold bi
  split
  · exact Or.inr rfl
  · exact Or.inl rfl
theorem ak01 {S : gS} {j : Nat} {b : Int32} : (akF S j b).1 = 0 ∨ (akF S j b).1 = 1 := bi01
theorem ak02 {S : gS} {a c : Nat} {x y : Int32} : (ak2 S a x c y).1 = 0 ∨ (ak2 S a x c y).1 = 1 := or01 ak01 ak01
theorem po01 {S : gS} {j : Nat} : (poF S j).1 = 0 ∨ (poF S j).1 = 1 := by
  unfold poF
  split
  · exact Or.inl rfl
  split
  · exact Or.inl rfl
  split
  · exact ak01
  split
  · exact ak02
  split
  · exact ak02
  split
  · exact ak01
  split
  · exact ak01
  split
  · exact ak02
  exact or01 ak02 ak01
/-- what the bits of a signal are asked through -/
def okD (S : gS) (j : Nat) : Prop := okS S j ∧ (rI S 116 j = 2 → vp_in (rI S 120 j) 24)
theorem okS.twelve2 {S : gS} {j : Nat} (h : okS S j) {tg : List (Int32 × Nat)} (htg : tg.map (fun q => q.1) = [0, 1, 2, 3, 4, 5, 6, 7, 8, 9, 10, 11]) (hd : ∀ q ∈ tg, rI S 116 j ≠ q.1) : rI S 116 j = 12 := by
  obtain ⟨-, -, -, h4, h5⟩ := h
  have hd2 : ∀ x ∈ tg.map (fun q => q.1), rI S 116 j ≠ x := by
    intro x hx
    obtain ⟨q, hq, rfl⟩ := List.mem_map.mp hx
    exact hd q hq
  rw [htg] at hd2
  simp only [List.mem_cons, List.not_mem_nil, or_false, forall_eq_or_imp, forall_eq] at hd2
  generalize rI S 116 j = k at *
  simp only [ne_eq, ieq, ile] at *
  simp at *
  omega
theorem poF_z {S : gS} {j : Nat} (h : rI S 128 j = 0) : poF S j = (0, S) := by unfold poF; rw [if_pos h]
theorem poF_0 {S : gS} {j : Nat} (h : ¬ rI S 128 j = 0) (hk : rI S 116 j = 0) : poF S j = (0, S) := by unfold poF; rw [if_neg h, hk]; simp
theorem poF_1 {S : gS} {j : Nat} (h : ¬ rI S 128 j = 0) (hk : rI S 116 j = 1) : poF S j = (0, S) := by unfold poF; rw [if_neg h, hk]; simp
theorem poF_2 {S : gS} {j : Nat} (h : ¬ rI S 128 j = 0) (hk : rI S 116 j = 2) : poF S j = akF S (rI S 120 j).toNatClampNeg (rI S 128 j) := by unfold poF; rw [if_neg h, hk]; simp
theorem poF_3 {S : gS} {j : Nat} (h : ¬ rI S 128 j = 0) (hk : rI S 116 j = 3 ∨ rI S 116 j = 4 ∨ rI S 116 j = 5) : poF S j = ak2 S (rI S 117 j).toNatClampNeg (upB (rI S 128 j)) (rI S 118 j).toNatClampNeg (upB (rI S 128 j)) := by
  unfold poF
  rw [if_neg h]
  rcases hk with hk | hk | hk <;> rw [hk] <;> simp
theorem poF_6 {S : gS} {j : Nat} (h : ¬ rI S 128 j = 0) (hk : rI S 116 j = 6 ∨ rI S 116 j = 7 ∨ rI S 116 j = 8) : poF S j = alF S j (rI S 128 j) := by
  unfold poF
  rw [if_neg h]
  rcases hk with hk | hk | hk <;> rw [hk] <;> simp
theorem poF_9 {S : gS} {j : Nat} (h : ¬ rI S 128 j = 0) (hk : rI S 116 j = 9) : poF S j = akF S (rI S 117 j).toNatClampNeg (ushr (rI S 128 j) (rI S 118 j)) := by unfold poF; rw [if_neg h, hk]; simp
theorem poF_10 {S : gS} {j : Nat} (h : ¬ rI S 128 j = 0) (hk : rI S 116 j = 10) {y : Int32} (hy : (if ushr (rI S 128 j) (31 - rI S 118 j) = 0 then 0 else -2147483648) = y) : poF S j = akF S (rI S 117 j).toNatClampNeg (rI S 128 j <<< (rI S 118 j &&& 31) ||| y) := by subst hy; unfold poF; rw [if_neg h, hk]; simp
theorem poF_11 {S : gS} {j : Nat} (h : ¬ rI S 128 j = 0) (hk : rI S 116 j = 11) : poF S j = ak2 S (rI S 117 j).toNatClampNeg (-1) (rI S 118 j).toNatClampNeg (-1) := by unfold poF; rw [if_neg h, hk]; simp
theorem poF_12 {S : gS} {j : Nat} (h : ¬ rI S 128 j = 0) (hk : rI S 116 j = 12) : poF S j = ((ak2 S (rI S 117 j).toNatClampNeg (-1) (rI S 118 j).toNatClampNeg (rI S 128 j)).1 ||| (akF (ak2 S (rI S 117 j).toNatClampNeg (-1) (rI S 118 j).toNatClampNeg (rI S 128 j)).2 (rI S 119 j).toNatClampNeg (rI S 128 j)).1, (akF (ak2 S (rI S 117 j).toNatClampNeg (-1) (rI S 118 j).toNatClampNeg (rI S 128 j)).2 (rI S 119 j).toNatClampNeg (rI S 128 j)).2) := by unfold poF; rw [if_neg h, hk]; simp
theorem lgA_t {S : gS} {j : Nat} {bits : Int32} (h1 : rI S 116 j = 6) (h2 : rI S 116 (rI S 118 j).toNatClampNeg = 1) : lgA S j bits = bits &&& rI S 117 (rI S 118 j).toNatClampNeg := by unfold lgA; rw [if_pos ⟨h1, h2⟩]
theorem lgA_n {S : gS} {j : Nat} {bits : Int32} (h1 : ¬ rI S 116 j = 6) : lgA S j bits = bits := by unfold lgA; rw [if_neg (fun q => h1 q.1)]
theorem lgA_m {S : gS} {j : Nat} {bits : Int32} (h1 : ¬ rI S 116 (rI S 118 j).toNatClampNeg = 1) : lgA S j bits = bits := by unfold lgA; rw [if_neg (fun q => h1 q.2)]
theorem lgB_t {S : gS} {j : Nat} {bits : Int32} (h1 : rI S 116 j = 6) (h2 : rI S 116 (rI S 117 j).toNatClampNeg = 1) : lgB S j bits = bits &&& rI S 117 (rI S 117 j).toNatClampNeg := by unfold lgB; rw [if_pos ⟨h1, h2⟩]
theorem lgB_n {S : gS} {j : Nat} {bits : Int32} (h1 : ¬ rI S 116 j = 6) : lgB S j bits = bits := by unfold lgB; rw [if_neg (fun q => h1 q.1)]
theorem lgB_m {S : gS} {j : Nat} {bits : Int32} (h1 : ¬ rI S 116 (rI S 117 j).toNatClampNeg = 1) : lgB S j bits = bits := by unfold lgB; rw [if_neg (fun q => h1 q.2)]
theorem alF_e (S : gS) (j : Nat) (bits : Int32) : alF S j bits = ak2 S (rI S 117 j).toNatClampNeg (lgA S j bits) (rI S 118 j).toNatClampNeg (lgB S j bits) := rfl
