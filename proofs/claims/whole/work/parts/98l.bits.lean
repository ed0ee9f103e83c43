theorem lg_max {x y : Int} : lg (max x y) = max (lg x) (lg y) := by
  rcases Int.le_total x y with h | h
  · have := lg_mono h
    rw [show max x y = y by omega]
    omega
  · have := lg_mono h
    rw [show max x y = x by omega]
    omega
theorem mx_1 {x : Nat} (hx : x < 1000) : mxi (nI x) 1 = nI (max 1 x) := by
  rw [ieq, mxi_i, nI_toInt (by omega), nI_toInt (by omega)]
  have e : (1 : Int32).toInt = 1 := rfl
  omega
/-- the width of a range, class and reference -/
theorem wid_eq {Sc Sr : gS} {i : Nat} (hi : i < 1000) (h : RR Sc Sr i) : f_X4_widthOf Sc (nI i) = nI (wrN (rL Sr 125 i) (rL Sr 126 i)) ∧ 1 ≤ wrN (rL Sr 125 i) (rL Sr 126 i) ∧ wrN (rL Sr 125 i) (rL Sr 126 i) ≤ 32 ∧ lg (-(rL Sr 125 i).toInt - 1) ≤ 40 ∧ lg (rL Sr 126 i).toInt ≤ 40 := by
  obtain ⟨h1, h2, h3⟩ := h
  have c := nI_c hi
  have b1 := ib (rI Sc 37 i)
  have b2 := ib (rI Sc 38 i)
  have l1 := lg_32 (x := -(rI Sc 37 i).toInt - 1) (by omega)
  have l2 := lg_32 (x := (rI Sc 38 i).toInt) (by omega)
  rw [ile] at h3
  have z0 : (0 : Int32).toInt = 0 := rfl
  unfold f_X4_widthOf wrN
  rw [← h1, ← h2, j64, j64, c]
  have hz : (rI Sc 37 i).toInt64 < 0 ↔ rI Sc 37 i < 0 := by
    have := @w_lt (rI Sc 37 i) 0
    exact this
  by_cases hs : 0 ≤ rI Sc 37 i
  · have hn : ¬ (rI Sc 37 i).toInt64 < 0 := fun q => absurd (hz.mp q) (Int32.not_lt.mpr hs)
    have hs2 := hs
    rw [ile] at hs2
    have hh : 0 ≤ rI Sc 38 i := by rw [ile]; omega
    rw [if_pos ((sg_0 hi).mpr hs), if_neg hn, bl_lg hh, mx_1 (by omega)]
    exact ⟨rfl, by omega, by omega, by omega, by omega⟩
  · have hn : (rI Sc 37 i).toInt64 < 0 := hz.mpr (Int32.not_le.mp hs)
    have hs2 := hs
    rw [ile] at hs2
    have hM : 0 ≤ mxi (rI Sc 37 i ^^^ -1) (rI Sc 38 i) := by rw [ile, mxi_i, not_i]; omega
    rw [if_neg (fun q => hs ((sg_0 hi).mp q)), if_pos hn, bl_lg hM, mxi_i, not_i, lg_max]
    refine ⟨nI_1 _, by omega, by omega, by omega, by omega⟩
/-! bits -/
theorem or_id {a b : Int32} (h : b &&& (a ^^^ -1) = 0) : a ||| b = a := by
  apply Int32.toBitVec_inj.mp
  have h2 : b.toBitVec &&& (a.toBitVec ^^^ (-1 : Int32).toBitVec) = 0#32 := congrArg Int32.toBitVec h
  show a.toBitVec ||| b.toBitVec = a.toBitVec
  apply BitVec.eq_of_getLsbD_eq
  intro i hi
  have h3 := congrArg (fun x => BitVec.getLsbD x i) h2
  have h4 : (-1 : Int32).toBitVec = BitVec.allOnes 32 := by decide
  rw [h4] at h3
  simp only [BitVec.getLsbD_and, BitVec.getLsbD_xor, BitVec.getLsbD_allOnes, BitVec.getLsbD_zero, decide_eq_true hi] at h3
  rw [BitVec.getLsbD_or]
  cases ha : a.toBitVec.getLsbD i <;> cases hb : b.toBitVec.getLsbD i <;> simp_all
/-- of the bits, one signal -/
def DS (Sc Sr : gS) (i : Nat) : Prop := rI Sc 41 i = rI Sr 128 i ∧ rI Sc 39 i = rI Sr 127 i ∧ (∃ w : Nat, 1 ≤ w ∧ w ≤ 32 ∧ rI Sr 127 i = nI w) ∧ (0 ≤ rI Sc 37 i ↔ ¬ rL Sr 125 i < 0)
theorem low_eq {w : Nat} (h1 : 1 ≤ w) (h2 : w ≤ 32) (q : Int32) : q &&& f_X8_lowestBits (nI w) = if nI w = 32 then q else q &&& (1 <<< (nI w &&& 31) - 1) := by
  unfold f_X8_lowestBits
  by_cases h : w = 32
  · subst h
    rw [if_neg (by decide), if_pos (show nI 32 = 32 from rfl), Int32.and_neg_one]
  · have hl : nI w < 32 := by
      rw [il, nI_toInt (by omega)]
      have e : (32 : Int32).toInt = 32 := rfl
      omega
    rw [if_pos hl, if_neg (fun z => by rw [z] at hl; exact absurd hl (by decide))]
theorem or_01 {x : Int32} (h : x = 0 ∨ x = 1) : (1 : Int32) ||| x = 1 ∧ 0 ||| x = x := by
  rcases h with rfl | rfl <;> decide
/-- what is asked of a signal -/
theorem ask_s {Sc Sr : gS} {p : Nat} (hp : p < 1000) (h : DS Sc Sr p) (q : Int32) (hf : rI Sc 40 3 = 0 ∨ rI Sc 40 3 = 1) : rI (f_X7_ask Sc (nI p) q) 41 p = rI (akF Sr p q).2 128 p ∧ rI (f_X7_ask Sc (nI p) q) 40 3 = (akF Sr p q).1 ||| rI Sc 40 3 ∧ (∀ c, c ≠ p → rI (f_X7_ask Sc (nI p) q) 41 c = rI Sc 41 c ∧ rI (akF Sr p q).2 128 c = rI Sr 128 c) ∧ (rI (f_X7_ask Sc (nI p) q) 40 3 = 0 ∨ rI (f_X7_ask Sc (nI p) q) 40 3 = 1) := by
  obtain ⟨h1, h2, ⟨w, w1, w2, hw⟩, h3⟩ := h
  have c := nI_c hp
  have hsg := sg_0 (S := Sc) hp
  -- the class's bits are the reference's
  have key : ∀ k : Int32, k = akK (rI Sr 127 p) q (rL Sr 125 p < 0) → (rI (if k &&& (rI Sc 41 p ^^^ -1) = 0 then Sc else wI (wI Sc 41 p (rI Sc 41 p ||| k)) 40 3 1) 41 p = rI (akF Sr p q).2 128 p ∧ rI (if k &&& (rI Sc 41 p ^^^ -1) = 0 then Sc else wI (wI Sc 41 p (rI Sc 41 p ||| k)) 40 3 1) 40 3 = (akF Sr p q).1 ||| rI Sc 40 3 ∧ (∀ c, c ≠ p → rI (if k &&& (rI Sc 41 p ^^^ -1) = 0 then Sc else wI (wI Sc 41 p (rI Sc 41 p ||| k)) 40 3 1) 41 c = rI Sc 41 c ∧ rI (akF Sr p q).2 128 c = rI Sr 128 c) ∧ (rI (if k &&& (rI Sc 41 p ^^^ -1) = 0 then Sc else wI (wI Sc 41 p (rI Sc 41 p ||| k)) 40 3 1) 40 3 = 0 ∨ rI (if k &&& (rI Sc 41 p ^^^ -1) = 0 then Sc else wI (wI Sc 41 p (rI Sc 41 p ||| k)) 40 3 1) 40 3 = 1)) := by
    intro k hk
    have e1 : (akF Sr p q).1 = bi (¬ k &&& (rI Sc 41 p ^^^ -1) = 0) := by rw [hk, h1]; rfl
    have e2 : rI (akF Sr p q).2 128 p = rI Sc 41 p ||| k := by rw [rI_akF, if_pos ⟨rfl, rfl⟩, hk, h1]
    have e3 : ∀ c, c ≠ p → rI (akF Sr p q).2 128 c = rI Sr 128 c := fun c hc => by rw [rI_akF, if_neg (fun z => hc z.2)]
    by_cases z : k &&& (rI Sc 41 p ^^^ -1) = 0
    · rw [if_pos z, e1, bi_f (fun y => y z), e2, or_id z]
      exact ⟨rfl, (or_01 hf).2.symm, fun c hc => ⟨rfl, e3 c hc⟩, hf⟩
    · rw [if_neg z, e1, bi_t z, e2, rI_wIk (by decide), rI_same, rI_same]
      exact ⟨rfl, (or_01 hf).1.symm, fun c hc => ⟨(rI_wIk (by decide) _ _ _).trans (rI_wIc (fun y => hc y.2) _ _), e3 c hc⟩, Or.inr rfl⟩
  have hl : q &&& f_X8_lowestBits (rI Sc 39 p) = if rI Sr 127 p = 32 then q else q &&& (1 <<< (rI Sr 127 p &&& 31) - 1) := by
    rw [h2, hw]
    exact low_eq w1 w2 q
  unfold f_X7_ask
  rw [c]
  by_cases hs : 0 ≤ rI Sc 37 p
  · rw [if_pos (hsg.mpr hs)]
    refine key _ ?_
    unfold akK
    rw [if_neg (fun z => (h3.mp hs) z.1)]
    exact hl
  · have hs2 : rL Sr 125 p < 0 := Classical.byContradiction fun z => hs (h3.mpr z)
    rw [if_neg (fun z => hs (hsg.mp z)), h2]
    rw [h2] at hl
    by_cases u : ushr q (rI Sr 127 p - 1) = 0
    · rw [if_pos u]
      refine key _ ?_
      unfold akK
      rw [if_neg (fun z => z.2 u)]
      exact hl
    · rw [if_neg u]
      refine key _ ?_
      unfold akK
      rw [if_pos ⟨hs2, u⟩, hl]
