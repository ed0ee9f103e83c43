theorem k13 {v : Int32} (h : 0 ≤ v ∧ v ≤ 12) : v = 0 ∨ v = 1 ∨ v = 2 ∨ v = 3 ∨ v = 4 ∨ v = 5 ∨ v = 6 ∨ v = 7 ∨ v = 8 ∨ v = 9 ∨ v = 10 ∨ v = 11 ∨ v = 12 := by
  simp only [ieq, ile] at *
  simp at *
  omega
theorem wo_k (S : gS) (j : Nat) : ∃ w : Nat, w ≤ 32 ∧ woF S j = nI w := by
  unfold woF
  by_cases h : rI S 128 j = 0
  · exact ⟨0, by decide, by rw [if_pos h]; rfl⟩
  · exact ⟨hiN (rI S 128 j) + 1, by have := hi_31 (rI S 128 j); omega, by rw [if_neg h, nI_1]⟩
theorem mk_b : ∀ w, w < 32 → ∀ j, j < 32 → ((1 : Int32) <<< (nI w &&& 31) - 1).toBitVec.getLsbD j = decide (j < w) := by decide +kernel
theorem sh_k : ∀ w, w < 32 → 1 ≤ w → ((32 - nI w) &&& 31).toBitVec.smod 32#32 = BitVec.ofNat 32 (32 - w) := by decide +kernel
theorem shl_mask {v : Int32} {w : Nat} (h1 : 1 ≤ w) (h2 : w < 32) : (v &&& (1 <<< (nI w &&& 31) - 1)) <<< ((32 - nI w) &&& 31) = v <<< ((32 - nI w) &&& 31) := by
  apply Int32.toBitVec_inj.mp
  show (v.toBitVec &&& ((1 : Int32) <<< (nI w &&& 31) - 1).toBitVec) <<< (((32 - nI w) &&& 31).toBitVec.smod 32#32) = v.toBitVec <<< (((32 - nI w) &&& 31).toBitVec.smod 32#32)
  rw [sh_k w h2 h1, BitVec.shiftLeft_eq', BitVec.shiftLeft_eq', BitVec.toNat_ofNat, Nat.mod_eq_of_lt (by omega)]
  apply BitVec.eq_of_getLsbD_eq
  intro i hi
  rw [BitVec.getLsbD_shiftLeft, BitVec.getLsbD_shiftLeft, BitVec.getLsbD_and]
  by_cases hk : i < 32 - w
  · simp [hk]
  · rw [mk_b w h2 _ (by omega), decide_eq_true (show i - (32 - w) < w by omega), Bool.and_true]
theorem sx_id {v k : Int32} {m : Nat} (hm : m < 32) (hk : k.toBitVec.smod 32#32 = BitVec.ofNat 32 m) : (v <<< k >>> k) <<< k = v <<< k := by
  apply Int32.toBitVec_inj.mp
  show (BitVec.sshiftRight' (v.toBitVec <<< (k.toBitVec.smod 32#32)) (k.toBitVec.smod 32#32)) <<< (k.toBitVec.smod 32#32) = v.toBitVec <<< (k.toBitVec.smod 32#32)
  rw [hk, BitVec.shiftLeft_eq', BitVec.shiftLeft_eq', BitVec.toNat_ofNat, Nat.mod_eq_of_lt (by omega)]
  apply BitVec.eq_of_getLsbD_eq
  intro i hi
  rw [BitVec.getLsbD_shiftLeft, BitVec.getLsbD_sshiftRight', BitVec.toNat_ofNat, Nat.mod_eq_of_lt (show m < 2 ^ 32 by omega)]
  by_cases hk : i < m
  · rw [BitVec.getLsbD_shiftLeft]; simp [hk]
  · rw [show m + (i - m) = i by omega, if_pos hi]
    rw [BitVec.getLsbD_shiftLeft]
    have : ¬ 32 ≤ i - m := by omega
    simp [hk, hi, this]
def nw (w s v : Int32) : Int32 := if w = 0 then 0 else if w = 32 then v else if s = 0 then v &&& (1 <<< (w &&& 31) - 1) else v <<< ((32 - w) &&& 31) >>> ((32 - w) &&& 31)
theorem na_u (S : gS) (i : Nat) (v : Int32) : naF S i v = nw (woF S i) (bi (nsP S i)) v := by
  unfold naF nw
  rw [bi_if]
/-- narrowing, class and reference -/
theorem na_c {Sc Sr : gS} {i : Nat} (hi : i < 1000) (h42 : rI Sc 42 i = woF Sr i) (h43 : rI Sc 43 i = bi (nsP Sr i)) (hw : ∃ w : Nat, 1 ≤ w ∧ w ≤ 32 ∧ rI Sr 127 i = nI w) (v : Int32) : f_X7_narrowed Sc (nI i) v = naF Sr i v := by
  obtain ⟨w, w1, w2⟩ := wo_k Sr i
  obtain ⟨t, t1, t2, t3⟩ := hw
  have hns : w = 0 → bi (nsP Sr i) = 0 := by
    intro hw0
    refine bi_f (fun z => ?_)
    have z2 := z.2
    rw [w2, t3] at z2
    have := nI_inj2 (by omega) (by omega) z2
    omega
  rw [na_u]
  unfold f_X7_narrowed
  rw [nI_c hi, h43, h42]
  revert hns
  generalize bi (nsP Sr i) = s
  intro hns
  rw [w2]
  unfold nw
  by_cases h0 : w = 0
  · rw [hns h0]
    subst h0
    rw [if_pos rfl, if_pos (show nI 0 = 0 from rfl)]
    rw [show f_X8_lowestBits (nI 0) = 0 from by decide, Int32.and_zero]
  have hn0 : ¬ nI w = 0 := fun z => h0 (nI_inj2 (by omega) (by omega) (z.trans (show (0 : Int32) = nI 0 from rfl)))
  rw [if_neg hn0, low_eq (by omega) w1]
  by_cases h32 : w = 32
  · subst h32
    rw [if_pos (show nI 32 = 32 from rfl), if_pos (show nI 32 = 32 from rfl)]
    split
    · rfl
    · rw [show ((32 : Int32) - nI 32) &&& 31 = 0 from by decide, Int32.shiftLeft_zero, Int32.shiftRight_zero]
  have hn32 : ¬ nI w = 32 := fun z => h32 (nI_inj2 (by omega) (by omega) (z.trans (show (32 : Int32) = nI 32 from rfl)))
  rw [if_neg hn32, if_neg hn32]
  by_cases hs : s = 0
  · rw [if_pos hs, if_pos hs]
  · rw [if_neg hs, if_neg hs, shl_mask (by omega) (by omega)]
theorem na_id (S : gS) (i : Nat) (v : Int32) : naF S i (naF S i v) = naF S i v := by
  obtain ⟨w, w1, w2⟩ := wo_k S i
  rw [na_u, na_u]
  generalize bi (nsP S i) = s
  rw [w2]
  unfold nw
  by_cases h0 : nI w = 0
  · rw [if_pos h0, if_pos h0]
  rw [if_neg h0, if_neg h0]
  by_cases h32 : nI w = 32
  · rw [if_pos h32, if_pos h32]
  rw [if_neg h32, if_neg h32]
  have hw0 : w ≠ 0 := fun z => h0 (by rw [z]; rfl)
  have hw32 : w ≠ 32 := fun z => h32 (by rw [z]; rfl)
  by_cases hs : s = 0
  · rw [if_pos hs, if_pos hs, Int32.and_assoc, Int32.and_self]
  · rw [if_neg hs, if_neg hs, sx_id (by omega) (sh_k w (by omega) (by omega))]
theorem wo_of {S T : gS} {i : Nat} (h1 : rI T 128 i = rI S 128 i) : woF T i = woF S i := by unfold woF; rw [h1]
theorem ns_of {S T : gS} {i : Nat} (h1 : rI T 128 i = rI S 128 i) (h2 : rI T 127 i = rI S 127 i) (h3 : rL T 125 i = rL S 125 i) : nsP T i ↔ nsP S i := by unfold nsP; rw [wo_of h1, h2, h3]
theorem bi_ns {S T : gS} {i : Nat} (h1 : rI T 128 i = rI S 128 i) (h2 : rI T 127 i = rI S 127 i) (h3 : rL T 125 i = rL S 125 i) : bi (nsP T i) = bi (nsP S i) := by
  by_cases z : nsP S i
  · rw [bi_t z, bi_t ((ns_of h1 h2 h3).mpr z)]
  · rw [bi_f z, bi_f (fun y => z ((ns_of h1 h2 h3).mp y))]
theorem na_of {S T : gS} {i : Nat} (h1 : rI T 128 i = rI S 128 i) (h2 : rI T 127 i = rI S 127 i) (h3 : rL T 125 i = rL S 125 i) (v : Int32) : naF T i v = naF S i v := by
  rw [na_u, na_u, bi_ns h1 h2 h3, wo_of h1]

theorem detF {A B : gS} {n k : Nat} (hk : k < 24) (hs : CS A B k) (hok : okI A n k) (h0 : rI A 2 k = 0 → rI A 9 k = rI B 123 k) (h2 : rI A 2 k = 2 → rI A 10 k = rI B 123 k) (hv : ∀ i, i < k → rI A 52 i = rI B 135 i) : f_detF A k = evI B k 0 := by
  rcases k13 hok.1 with h | h | h | h | h | h | h | h | h | h | h | h | h
  · have hr : rI B 116 k = 0 := hs.1.trans h
    have e1 : f_detF A k = rI A 9 k := by unfold f_detF; rw [h]; rfl
    have e2 : evI B k 0 = rI B 123 k := by unfold evI cmF cmX cmY; rw [hr]; rfl
    rw [e1, e2]; exact h0 h
  · have hr : rI B 116 k = 1 := hs.1.trans h
    have e1 : f_detF A k = rI A 3 k := by unfold f_detF; rw [h]; rfl
    have e2 : evI B k 0 = rI B 117 k := by unfold evI cmF cmX cmY; rw [hr]; rfl
    rw [e1, e2]; exact hs.2.1.symm
  · have hr : rI B 116 k = 2 := hs.1.trans h
    have e1 : f_detF A k = rI A 10 k := by unfold f_detF; rw [h]; rfl
    have e2 : evI B k 0 = rI B 123 k := by unfold evI cmF cmX cmY; rw [hr]; rfl
    rw [e1, e2]; exact h2 h
  · have hr : rI B 116 k = 3 := hs.1.trans h
    have e1 : f_detF A k = rI A 52 (rI A 3 k).toNatClampNeg + rI A 52 (rI A 4 k).toNatClampNeg := by unfold f_detF; rw [h]; rfl
    have e2 : evI B k 0 = rI B 135 (rI B 117 k).toNatClampNeg + rI B 135 (rI B 118 k).toNatClampNeg := by unfold evI cmF cmX cmY; rw [hr]; rfl
    obtain ⟨p, p1, p2, p3⟩ := nI_ofInt (hok.2.1 (by rw [h]; decide)) (by omega)
    obtain ⟨q, q1, q2, q3⟩ := nI_ofInt (hok.2.2.1 (by rw [h]; decide) (by rw [h]; decide) (by rw [h]; decide)) (by omega)
    rw [e1, e2, hs.2.1, hs.2.2.1, p3, q3, hv p p1, hv q q1]
  · have hr : rI B 116 k = 4 := hs.1.trans h
    have e1 : f_detF A k = rI A 52 (rI A 3 k).toNatClampNeg - rI A 52 (rI A 4 k).toNatClampNeg := by unfold f_detF; rw [h]; rfl
    have e2 : evI B k 0 = rI B 135 (rI B 117 k).toNatClampNeg - rI B 135 (rI B 118 k).toNatClampNeg := by unfold evI cmF cmX cmY; rw [hr]; rfl
    obtain ⟨p, p1, p2, p3⟩ := nI_ofInt (hok.2.1 (by rw [h]; decide)) (by omega)
    obtain ⟨q, q1, q2, q3⟩ := nI_ofInt (hok.2.2.1 (by rw [h]; decide) (by rw [h]; decide) (by rw [h]; decide)) (by omega)
    rw [e1, e2, hs.2.1, hs.2.2.1, p3, q3, hv p p1, hv q q1]
  · have hr : rI B 116 k = 5 := hs.1.trans h
    have e1 : f_detF A k = rI A 52 (rI A 3 k).toNatClampNeg * rI A 52 (rI A 4 k).toNatClampNeg := by unfold f_detF; rw [h]; rfl
    have e2 : evI B k 0 = rI B 135 (rI B 117 k).toNatClampNeg * rI B 135 (rI B 118 k).toNatClampNeg := by unfold evI cmF cmX cmY; rw [hr]; rfl
    obtain ⟨p, p1, p2, p3⟩ := nI_ofInt (hok.2.1 (by rw [h]; decide)) (by omega)
    obtain ⟨q, q1, q2, q3⟩ := nI_ofInt (hok.2.2.1 (by rw [h]; decide) (by rw [h]; decide) (by rw [h]; decide)) (by omega)
    rw [e1, e2, hs.2.1, hs.2.2.1, p3, q3, hv p p1, hv q q1]
  · have hr : rI B 116 k = 6 := hs.1.trans h
    have e1 : f_detF A k = rI A 52 (rI A 3 k).toNatClampNeg &&& rI A 52 (rI A 4 k).toNatClampNeg := by unfold f_detF; rw [h]; rfl
    have e2 : evI B k 0 = rI B 135 (rI B 117 k).toNatClampNeg &&& rI B 135 (rI B 118 k).toNatClampNeg := by unfold evI cmF cmX cmY; rw [hr]; rfl
    obtain ⟨p, p1, p2, p3⟩ := nI_ofInt (hok.2.1 (by rw [h]; decide)) (by omega)
    obtain ⟨q, q1, q2, q3⟩ := nI_ofInt (hok.2.2.1 (by rw [h]; decide) (by rw [h]; decide) (by rw [h]; decide)) (by omega)
    rw [e1, e2, hs.2.1, hs.2.2.1, p3, q3, hv p p1, hv q q1]
  · have hr : rI B 116 k = 7 := hs.1.trans h
    have e1 : f_detF A k = rI A 52 (rI A 3 k).toNatClampNeg ||| rI A 52 (rI A 4 k).toNatClampNeg := by unfold f_detF; rw [h]; rfl
    have e2 : evI B k 0 = rI B 135 (rI B 117 k).toNatClampNeg ||| rI B 135 (rI B 118 k).toNatClampNeg := by unfold evI cmF cmX cmY; rw [hr]; rfl
    obtain ⟨p, p1, p2, p3⟩ := nI_ofInt (hok.2.1 (by rw [h]; decide)) (by omega)
    obtain ⟨q, q1, q2, q3⟩ := nI_ofInt (hok.2.2.1 (by rw [h]; decide) (by rw [h]; decide) (by rw [h]; decide)) (by omega)
    rw [e1, e2, hs.2.1, hs.2.2.1, p3, q3, hv p p1, hv q q1]
  · have hr : rI B 116 k = 8 := hs.1.trans h
    have e1 : f_detF A k = rI A 52 (rI A 3 k).toNatClampNeg ^^^ rI A 52 (rI A 4 k).toNatClampNeg := by unfold f_detF; rw [h]; rfl
    have e2 : evI B k 0 = rI B 135 (rI B 117 k).toNatClampNeg ^^^ rI B 135 (rI B 118 k).toNatClampNeg := by unfold evI cmF cmX cmY; rw [hr]; rfl
    obtain ⟨p, p1, p2, p3⟩ := nI_ofInt (hok.2.1 (by rw [h]; decide)) (by omega)
    obtain ⟨q, q1, q2, q3⟩ := nI_ofInt (hok.2.2.1 (by rw [h]; decide) (by rw [h]; decide) (by rw [h]; decide)) (by omega)
    rw [e1, e2, hs.2.1, hs.2.2.1, p3, q3, hv p p1, hv q q1]
  · have hr : rI B 116 k = 9 := hs.1.trans h
    have e1 : f_detF A k = rI A 52 (rI A 3 k).toNatClampNeg <<< (rI A 4 k &&& 31) := by unfold f_detF; rw [h]; rfl
    have e2 : evI B k 0 = rI B 135 (rI B 117 k).toNatClampNeg <<< (rI B 118 k &&& 31) := by unfold evI cmF cmX cmY; rw [hr]; rfl
    obtain ⟨p, p1, p2, p3⟩ := nI_ofInt (hok.2.1 (by rw [h]; decide)) (by omega)
    rw [e1, e2, hs.2.1, hs.2.2.1, p3, hv p p1]
  · have hr : rI B 116 k = 10 := hs.1.trans h
    have e1 : f_detF A k = rI A 52 (rI A 3 k).toNatClampNeg >>> (rI A 4 k &&& 31) := by unfold f_detF; rw [h]; rfl
    have e2 : evI B k 0 = rI B 135 (rI B 117 k).toNatClampNeg >>> (rI B 118 k &&& 31) := by unfold evI cmF cmX cmY; rw [hr]; rfl
    obtain ⟨p, p1, p2, p3⟩ := nI_ofInt (hok.2.1 (by rw [h]; decide)) (by omega)
    rw [e1, e2, hs.2.1, hs.2.2.1, p3, hv p p1]
  · have hr : rI B 116 k = 11 := hs.1.trans h
    have e1 : f_detF A k = if rI A 52 (rI A 4 k).toNatClampNeg ≤ rI A 52 (rI A 3 k).toNatClampNeg then 0 else 1 := by unfold f_detF; rw [h]; rfl
    have e2 : evI B k 0 = if rI B 135 (rI B 118 k).toNatClampNeg ≤ rI B 135 (rI B 117 k).toNatClampNeg then 0 else 1 := by unfold evI cmF cmX cmY; rw [hr]; rfl
    obtain ⟨p, p1, p2, p3⟩ := nI_ofInt (hok.2.1 (by rw [h]; decide)) (by omega)
    obtain ⟨q, q1, q2, q3⟩ := nI_ofInt (hok.2.2.1 (by rw [h]; decide) (by rw [h]; decide) (by rw [h]; decide)) (by omega)
    rw [e1, e2, hs.2.1, hs.2.2.1, p3, q3, hv p p1, hv q q1]
  · have hr : rI B 116 k = 12 := hs.1.trans h
    have e1 : f_detF A k = if rI A 52 (rI A 3 k).toNatClampNeg = 0 then rI A 52 (rI A 5 k).toNatClampNeg else rI A 52 (rI A 4 k).toNatClampNeg := by unfold f_detF; rw [h]; rfl
    have e2 : evI B k 0 = if rI B 135 (rI B 117 k).toNatClampNeg = 0 then rI B 135 (rI B 119 k).toNatClampNeg else rI B 135 (rI B 118 k).toNatClampNeg := by unfold evI cmF cmX cmY; rw [hr]; rfl
    obtain ⟨p, p1, p2, p3⟩ := nI_ofInt (hok.2.1 (by rw [h]; decide)) (by omega)
    obtain ⟨q, q1, q2, q3⟩ := nI_ofInt (hok.2.2.1 (by rw [h]; decide) (by rw [h]; decide) (by rw [h]; decide)) (by omega)
    obtain ⟨r, r1, r2, r3⟩ := nI_ofInt (hok.2.2.2.1 h) (by omega)
    rw [e1, e2, hs.2.1, hs.2.2.1, hs.2.2.2.1, p3, q3, r3, hv p p1, hv q q1, hv r r1]

theorem detN {A B : gS} {n k : Nat} (hk : k < 24) (hs : CS A B k) (hok : okI A n k) (h0 : rI A 2 k = 0 → rI A 9 k = rI B 123 k) (h2 : rI A 2 k ≠ 2) (hv : ∀ i, i < k → rI A 54 i = rI B 135 i) : f_detN A k = evI B k 1 := by
  rcases k13 hok.1 with h | h | h | h | h | h | h | h | h | h | h | h | h
  · have hr : rI B 116 k = 0 := hs.1.trans h
    have e1 : f_detN A k = rI A 9 k := by unfold f_detN; rw [h]; rfl
    have e2 : evI B k 1 = rI B 123 k := by unfold evI cmF cmX cmY; rw [hr]; rfl
    rw [e1, e2]; exact h0 h
  · have hr : rI B 116 k = 1 := hs.1.trans h
    have e1 : f_detN A k = rI A 3 k := by unfold f_detN; rw [h]; rfl
    have e2 : evI B k 1 = rI B 117 k := by unfold evI cmF cmX cmY; rw [hr]; rfl
    rw [e1, e2]; exact hs.2.1.symm
  · have hr : rI B 116 k = 2 := hs.1.trans h
    exact absurd h h2
  · have hr : rI B 116 k = 3 := hs.1.trans h
    have e1 : f_detN A k = rI A 54 (rI A 3 k).toNatClampNeg + rI A 54 (rI A 4 k).toNatClampNeg := by unfold f_detN; rw [h]; rfl
    have e2 : evI B k 1 = rI B 135 (rI B 117 k).toNatClampNeg + rI B 135 (rI B 118 k).toNatClampNeg := by unfold evI cmF cmX cmY; rw [hr]; rfl
    obtain ⟨p, p1, p2, p3⟩ := nI_ofInt (hok.2.1 (by rw [h]; decide)) (by omega)
    obtain ⟨q, q1, q2, q3⟩ := nI_ofInt (hok.2.2.1 (by rw [h]; decide) (by rw [h]; decide) (by rw [h]; decide)) (by omega)
    rw [e1, e2, hs.2.1, hs.2.2.1, p3, q3, hv p p1, hv q q1]
  · have hr : rI B 116 k = 4 := hs.1.trans h
    have e1 : f_detN A k = rI A 54 (rI A 3 k).toNatClampNeg - rI A 54 (rI A 4 k).toNatClampNeg := by unfold f_detN; rw [h]; rfl
    have e2 : evI B k 1 = rI B 135 (rI B 117 k).toNatClampNeg - rI B 135 (rI B 118 k).toNatClampNeg := by unfold evI cmF cmX cmY; rw [hr]; rfl
    obtain ⟨p, p1, p2, p3⟩ := nI_ofInt (hok.2.1 (by rw [h]; decide)) (by omega)
    obtain ⟨q, q1, q2, q3⟩ := nI_ofInt (hok.2.2.1 (by rw [h]; decide) (by rw [h]; decide) (by rw [h]; decide)) (by omega)
    rw [e1, e2, hs.2.1, hs.2.2.1, p3, q3, hv p p1, hv q q1]
  · have hr : rI B 116 k = 5 := hs.1.trans h
    have e1 : f_detN A k = rI A 54 (rI A 3 k).toNatClampNeg * rI A 54 (rI A 4 k).toNatClampNeg := by unfold f_detN; rw [h]; rfl
    have e2 : evI B k 1 = rI B 135 (rI B 117 k).toNatClampNeg * rI B 135 (rI B 118 k).toNatClampNeg := by unfold evI cmF cmX cmY; rw [hr]; rfl
    obtain ⟨p, p1, p2, p3⟩ := nI_ofInt (hok.2.1 (by rw [h]; decide)) (by omega)
    obtain ⟨q, q1, q2, q3⟩ := nI_ofInt (hok.2.2.1 (by rw [h]; decide) (by rw [h]; decide) (by rw [h]; decide)) (by omega)
    rw [e1, e2, hs.2.1, hs.2.2.1, p3, q3, hv p p1, hv q q1]
  · have hr : rI B 116 k = 6 := hs.1.trans h
    have e1 : f_detN A k = rI A 54 (rI A 3 k).toNatClampNeg &&& rI A 54 (rI A 4 k).toNatClampNeg := by unfold f_detN; rw [h]; rfl
    have e2 : evI B k 1 = rI B 135 (rI B 117 k).toNatClampNeg &&& rI B 135 (rI B 118 k).toNatClampNeg := by unfold evI cmF cmX cmY; rw [hr]; rfl
    obtain ⟨p, p1, p2, p3⟩ := nI_ofInt (hok.2.1 (by rw [h]; decide)) (by omega)
    obtain ⟨q, q1, q2, q3⟩ := nI_ofInt (hok.2.2.1 (by rw [h]; decide) (by rw [h]; decide) (by rw [h]; decide)) (by omega)
    rw [e1, e2, hs.2.1, hs.2.2.1, p3, q3, hv p p1, hv q q1]
  · have hr : rI B 116 k = 7 := hs.1.trans h
    have e1 : f_detN A k = rI A 54 (rI A 3 k).toNatClampNeg ||| rI A 54 (rI A 4 k).toNatClampNeg := by unfold f_detN; rw [h]; rfl
    have e2 : evI B k 1 = rI B 135 (rI B 117 k).toNatClampNeg ||| rI B 135 (rI B 118 k).toNatClampNeg := by unfold evI cmF cmX cmY; rw [hr]; rfl
    obtain ⟨p, p1, p2, p3⟩ := nI_ofInt (hok.2.1 (by rw [h]; decide)) (by omega)
    obtain ⟨q, q1, q2, q3⟩ := nI_ofInt (hok.2.2.1 (by rw [h]; decide) (by rw [h]; decide) (by rw [h]; decide)) (by omega)
    rw [e1, e2, hs.2.1, hs.2.2.1, p3, q3, hv p p1, hv q q1]
  · have hr : rI B 116 k = 8 := hs.1.trans h
    have e1 : f_detN A k = rI A 54 (rI A 3 k).toNatClampNeg ^^^ rI A 54 (rI A 4 k).toNatClampNeg := by unfold f_detN; rw [h]; rfl
    have e2 : evI B k 1 = rI B 135 (rI B 117 k).toNatClampNeg ^^^ rI B 135 (rI B 118 k).toNatClampNeg := by unfold evI cmF cmX cmY; rw [hr]; rfl
    obtain ⟨p, p1, p2, p3⟩ := nI_ofInt (hok.2.1 (by rw [h]; decide)) (by omega)
    obtain ⟨q, q1, q2, q3⟩ := nI_ofInt (hok.2.2.1 (by rw [h]; decide) (by rw [h]; decide) (by rw [h]; decide)) (by omega)
    rw [e1, e2, hs.2.1, hs.2.2.1, p3, q3, hv p p1, hv q q1]
  · have hr : rI B 116 k = 9 := hs.1.trans h
    have e1 : f_detN A k = rI A 54 (rI A 3 k).toNatClampNeg <<< (rI A 4 k &&& 31) := by unfold f_detN; rw [h]; rfl
    have e2 : evI B k 1 = rI B 135 (rI B 117 k).toNatClampNeg <<< (rI B 118 k &&& 31) := by unfold evI cmF cmX cmY; rw [hr]; rfl
    obtain ⟨p, p1, p2, p3⟩ := nI_ofInt (hok.2.1 (by rw [h]; decide)) (by omega)
    rw [e1, e2, hs.2.1, hs.2.2.1, p3, hv p p1]
  · have hr : rI B 116 k = 10 := hs.1.trans h
    have e1 : f_detN A k = rI A 54 (rI A 3 k).toNatClampNeg >>> (rI A 4 k &&& 31) := by unfold f_detN; rw [h]; rfl
    have e2 : evI B k 1 = rI B 135 (rI B 117 k).toNatClampNeg >>> (rI B 118 k &&& 31) := by unfold evI cmF cmX cmY; rw [hr]; rfl
    obtain ⟨p, p1, p2, p3⟩ := nI_ofInt (hok.2.1 (by rw [h]; decide)) (by omega)
    rw [e1, e2, hs.2.1, hs.2.2.1, p3, hv p p1]
  · have hr : rI B 116 k = 11 := hs.1.trans h
    have e1 : f_detN A k = if rI A 54 (rI A 4 k).toNatClampNeg ≤ rI A 54 (rI A 3 k).toNatClampNeg then 0 else 1 := by unfold f_detN; rw [h]; rfl
    have e2 : evI B k 1 = if rI B 135 (rI B 118 k).toNatClampNeg ≤ rI B 135 (rI B 117 k).toNatClampNeg then 0 else 1 := by unfold evI cmF cmX cmY; rw [hr]; rfl
    obtain ⟨p, p1, p2, p3⟩ := nI_ofInt (hok.2.1 (by rw [h]; decide)) (by omega)
    obtain ⟨q, q1, q2, q3⟩ := nI_ofInt (hok.2.2.1 (by rw [h]; decide) (by rw [h]; decide) (by rw [h]; decide)) (by omega)
    rw [e1, e2, hs.2.1, hs.2.2.1, p3, q3, hv p p1, hv q q1]
  · have hr : rI B 116 k = 12 := hs.1.trans h
    have e1 : f_detN A k = if rI A 54 (rI A 3 k).toNatClampNeg = 0 then rI A 54 (rI A 5 k).toNatClampNeg else rI A 54 (rI A 4 k).toNatClampNeg := by unfold f_detN; rw [h]; rfl
    have e2 : evI B k 1 = if rI B 135 (rI B 117 k).toNatClampNeg = 0 then rI B 135 (rI B 119 k).toNatClampNeg else rI B 135 (rI B 118 k).toNatClampNeg := by unfold evI cmF cmX cmY; rw [hr]; rfl
    obtain ⟨p, p1, p2, p3⟩ := nI_ofInt (hok.2.1 (by rw [h]; decide)) (by omega)
    obtain ⟨q, q1, q2, q3⟩ := nI_ofInt (hok.2.2.1 (by rw [h]; decide) (by rw [h]; decide) (by rw [h]; decide)) (by omega)
    obtain ⟨r, r1, r2, r3⟩ := nI_ofInt (hok.2.2.2.1 h) (by omega)
    rw [e1, e2, hs.2.1, hs.2.2.1, hs.2.2.2.1, p3, q3, r3, hv p p1, hv q q1, hv r r1]

/-- the full machine -/
theorem ev_full {Sc Sr : gS} {n : Nat} (hC : CI Sc Sr n) (h0 : ∀ i, i < n → rI Sc 2 i = 0 → rI Sc 9 i = rI Sr 123 i) (h2 : ∀ i, i < n → rI Sc 2 i = 2 → rI Sc 10 i = rI Sr 123 i) : ∀ k, k ≤ n → ∀ i, i < k → rI (itr bd_setF k Sc) 52 i = rI (evF Sr 0 k) 135 i := by
  have hn := hC.1.2.1
  intro k
  induction k with
  | zero => intro _ i hi; exact absurd hi (Nat.not_lt_zero i)
  | succ k ih =>
    intro hk i hi
    have ih := ih (by omega)
    have f1 : ∀ a c, a ≠ 52 → rI (itr bd_setF k Sc) a c = rI Sc a c := fun a c h => fr_lp_setF h _ _
    have f2 : ∀ a c, a ≠ 135 → rI (evF Sr 0 k) a c = rI Sr a c := fun a c h => rI_evF _ _ _ _ _ h
    have hCI : CI (itr bd_setF k Sc) (evF Sr 0 k) n := hC.of (fun a c q1 q2 q3 => f1 a c (by omega)) (fun a c q => f2 a c (by omega))
    rw [show itr bd_setF (k + 1) Sc = bd_setF k (itr bd_setF k Sc) from rfl, show evF Sr 0 (k + 1) = ev1 0 k (evF Sr 0 k) from rfl]
    revert ih f1 f2 hCI
    generalize itr bd_setF k Sc = A
    generalize evF Sr 0 k = B
    intro ih f1 f2 hCI
    have e := detF (show k < 24 by omega) (hCI.2.2 k (by omega)).1 (hCI.1.2.2 k (by omega)) (fun z => by rw [f1 9 k (by decide), f2 123 k (by decide)]; exact h0 k (by omega) ((f1 2 k (by decide)).symm.trans z)) (fun z => by rw [f1 10 k (by decide), f2 123 k (by decide)]; exact h2 k (by omega) ((f1 2 k (by decide)).symm.trans z)) ih
    unfold bd_setF ev1
    rw [if_pos rfl, e]
    by_cases ek : i = k
    · subst ek; rw [rI_same, rI_same]
    · rw [rI_wIc (fun z => ek z.2), rI_wIc (fun z => ek z.2)]
      exact ih i (by omega)
/-- the narrowed machine -/
theorem ev_narr {Sc Sr : gS} {n : Nat} (hC : CI Sc Sr n) (hA : ∀ i, i < n → rI Sc 42 i = woF Sr i ∧ rI Sc 43 i = bi (nsP Sr i) ∧ ∃ w : Nat, 1 ≤ w ∧ w ≤ 32 ∧ rI Sr 127 i = nI w) (h0 : ∀ i, i < n → rI Sc 2 i = 0 → rI Sc 9 i = rI Sr 123 i) (h2 : ∀ i, i < n → rI Sc 2 i = 2 → naF Sr i (rI Sc 11 i) = naF Sr i (rI Sr 124 i)) : ∀ k, k ≤ n → ∀ i, i < k → rI (itr bd_setN k Sc) 54 i = rI (evF Sr 1 k) 135 i := by
  have hn := hC.1.2.1
  intro k
  induction k with
  | zero => intro _ i hi; exact absurd hi (Nat.not_lt_zero i)
  | succ k ih =>
    intro hk i hi
    have ih := ih (by omega)
    have f1 : ∀ a c, a ≠ 54 → rI (itr bd_setN k Sc) a c = rI Sc a c := fun a c h => fr_lp_setN h _ _
    have f2 : ∀ a c, a ≠ 135 → rI (evF Sr 1 k) a c = rI Sr a c := fun a c h => rI_evF _ _ _ _ _ h
    have f3 : ∀ a c, rL (evF Sr 1 k) a c = rL Sr a c := fun a c => rL_evF _ _ _ _ _
    have hCI : CI (itr bd_setN k Sc) (evF Sr 1 k) n := hC.of (fun a c q1 q2 q3 => f1 a c (by omega)) (fun a c q => f2 a c (by omega))
    rw [show itr bd_setN (k + 1) Sc = bd_setN k (itr bd_setN k Sc) from rfl, show evF Sr 1 (k + 1) = ev1 1 k (evF Sr 1 k) from rfl]
    revert ih f1 f2 f3 hCI
    generalize itr bd_setN k Sc = A
    generalize evF Sr 1 k = B
    intro ih f1 f2 f3 hCI
    obtain ⟨a1, a2, a3⟩ := hA k (by omega)
    have b8 := f2 128 k (by decide)
    have b7 := f2 127 k (by decide)
    have b5 := f3 125 k
    have hnb := bi_ns b8 b7 b5
    have hn1 : ∀ v, f_X7_narrowed A (nI k) v = naF B k v := na_c (by omega) (by rw [f1 42 k (by decide), wo_of b8]; exact a1) (by rw [f1 43 k (by decide), hnb]; exact a2) (by rw [b7]; exact a3)
    have e : f_X7_narrowed A (nI k) (f_detN A k) = naF B k (evI B k 1) := by
      rw [hn1]
      by_cases c2 : rI A 2 k = 2
      · have e1 : f_detN A k = rI A 11 k := by unfold f_detN; rw [c2]; rfl
        have e2 : evI B k 1 = rI B 124 k := by unfold evI; rw [(hCI.2.2 k (by omega)).1.1, c2]; rfl
        rw [e1, e2, na_of b8 b7 b5, na_of b8 b7 b5, f1 11 k (by decide), f2 124 k (by decide)]
        exact h2 k (by omega) ((f1 2 k (by decide)).symm.trans c2)
      · rw [detN (show k < 24 by omega) (hCI.2.2 k (by omega)).1 (hCI.1.2.2 k (by omega)) (fun z => by rw [f1 9 k (by decide), f2 123 k (by decide)]; exact h0 k (by omega) ((f1 2 k (by decide)).symm.trans z)) c2 ih]
    unfold bd_setN ev1
    rw [if_neg (by decide), e]
    by_cases ek : i = k
    · subst ek; rw [rI_same, rI_same]
    · rw [rI_wIc (fun z => ek z.2), rI_wIc (fun z => ek z.2)]
      exact ih i (by omega)

