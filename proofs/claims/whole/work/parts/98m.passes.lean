def DQ (Sc Sr : gS) (n : Nat) : Prop := ∀ i, i < n → DS Sc Sr i
/-- behind some asking: the states alike, and the mark -/
def DW (Sc : gS) (pr : Int32 × gS) (f0 : Int32) (n : Nat) : Prop := DQ Sc pr.2 n ∧ rI Sc 40 3 = pr.1 ||| f0 ∧ (rI Sc 40 3 = 0 ∨ rI Sc 40 3 = 1)
theorem dq_ask {Sc Sr : gS} {n p : Nat} (hn : n ≤ 24) (h : DQ Sc Sr n) (hp : p < n) (q : Int32) (hf : rI Sc 40 3 = 0 ∨ rI Sc 40 3 = 1) : DW (f_X7_ask Sc (nI p) q) (akF Sr p q) (rI Sc 40 3) n := by
  obtain ⟨a1, a2, a3, a4⟩ := ask_s (by omega) (h p hp) q hf
  refine ⟨fun i hi => ?_, a2, a4⟩
  obtain ⟨h1, h2, h3, h4⟩ := h i hi
  unfold DS
  rw [fr_f_X7_ask (a0 := 39) (by omega) (by decide), fr_f_X7_ask (a0 := 37) (by omega) (by decide), rI_akFn _ _ _ 127 _ (by decide), rL_akF]
  refine ⟨?_, h2, h3, h4⟩
  by_cases e : i = p
  · subst e; exact a1
  · obtain ⟨b1, b2⟩ := a3 i e
    rw [b1, b2]
    exact h1
theorem or_x (a b c : Int32) : b ||| (a ||| c) = a ||| b ||| c := by
  rw [← Int32.or_assoc, Int32.or_comm b a]
theorem dq_ask2 {Sc Sr : gS} {n p r : Nat} (hn : n ≤ 24) (h : DQ Sc Sr n) (hp : p < n) (hr : r < n) (x y : Int32) (hf : rI Sc 40 3 = 0 ∨ rI Sc 40 3 = 1) : DW (f_X7_ask (f_X7_ask Sc (nI p) x) (nI r) y) (ak2 Sr p x r y) (rI Sc 40 3) n := by
  obtain ⟨h1, h2, h3⟩ := dq_ask hn h hp x hf
  obtain ⟨g1, g2, g3⟩ := dq_ask hn h1 hr y h3
  refine ⟨g1, ?_, g3⟩
  rw [g2, h2]
  exact or_x _ _ _
theorem low_up {v : Int32} (h : ¬ v = 0) : f_X8_lowestBits (f_X8_bitLength v) = upB v := by
  rw [bl_eq, if_neg h]
  unfold f_X8_lowestBits upB
  have h31 := hi_31 v
  have e1 : nI (hiN v) + 1 = nI (hiN v + 1) := nI_1 _
  rw [e1]
  by_cases q : hiN v = 31
  · rw [q, if_neg (by decide), if_pos (show nI 31 = 31 from rfl)]
  · have hl : nI (hiN v + 1) < 32 := by
      rw [il, nI_toInt (by omega)]
      have e : (32 : Int32).toInt = 32 := rfl
      omega
    have hne : ¬ nI (hiN v) = 31 := fun z => q (nI_inj2 (a := hiN v) (b := 31) (by omega) (by decide) z)
    rw [if_pos hl, if_neg hne]
theorem mask_eq (S : gS) (p : Nat) (hp : p < 1000) (v : Int32) : v &&& f_X7_maskOf S (nI p) = if rI S 2 p = 1 then v &&& rI S 3 p else v := by
  unfold f_X7_maskOf
  rw [nI_c hp]
  by_cases h : rI S 2 p = 1
  · rw [if_pos h, if_pos h]
  · rw [if_neg h, if_neg h, Int32.and_neg_one]
/-- a signal asks its operands -/
theorem ao_s {Sc Sr : gS} {n j : Nat} (hC : CI Sc Sr n) (hj : j < n) (h : DQ Sc Sr n) (hb : ¬ rI Sc 41 j = 0) (hf : rI Sc 40 3 = 0 ∨ rI Sc 40 3 = 1) : DW (f_X7_askOperands Sc j) (poF Sr j) (rI Sc 40 3) n := by
  have hn := hC.1.2.1
  have hok := hC.1.2.2 j hj
  obtain ⟨hs, hcb⟩ := hC.2.2 j hj
  have e41 := (h j hj).1
  have hb2 : ¬ rI Sr 128 j = 0 := by rw [← e41]; exact hb
  have hz : DW Sc (0, Sr) (rI Sc 40 3) n := ⟨h, (or_01 hf).2.symm, hf⟩
  rcases kd_all hok.1.1 hok.1.2 with k | k | k | k | k | k | k | k | k | k | k | k | k
  · have e : f_X7_askOperands Sc j = Sc := by
      unfold f_X7_askOperands
      rw [if_neg (by rw [k]; decide : ¬ rI Sc 2 j = 2), if_neg (by rw [k]; decide : ¬ rI Sc 2 j = 3), if_neg (by rw [k]; decide : ¬ rI Sc 2 j = 4), if_neg (by rw [k]; decide : ¬ rI Sc 2 j = 5), if_neg (by rw [k]; decide : ¬ rI Sc 2 j = 6), if_neg (by rw [k]; decide : ¬ rI Sc 2 j = 7), if_neg (by rw [k]; decide : ¬ rI Sc 2 j = 8), if_neg (by rw [k]; decide : ¬ rI Sc 2 j = 9), if_neg (by rw [k]; decide : ¬ rI Sc 2 j = 10), if_neg (by rw [k]; decide : ¬ rI Sc 2 j = 11), if_neg (by rw [k]; decide : ¬ rI Sc 2 j = 12)]
    rw [e, poF_0 hb2 (hs.1.trans k)]
    exact hz
  · have e : f_X7_askOperands Sc j = Sc := by
      unfold f_X7_askOperands
      rw [if_neg (by rw [k]; decide : ¬ rI Sc 2 j = 2), if_neg (by rw [k]; decide : ¬ rI Sc 2 j = 3), if_neg (by rw [k]; decide : ¬ rI Sc 2 j = 4), if_neg (by rw [k]; decide : ¬ rI Sc 2 j = 5), if_neg (by rw [k]; decide : ¬ rI Sc 2 j = 6), if_neg (by rw [k]; decide : ¬ rI Sc 2 j = 7), if_neg (by rw [k]; decide : ¬ rI Sc 2 j = 8), if_neg (by rw [k]; decide : ¬ rI Sc 2 j = 9), if_neg (by rw [k]; decide : ¬ rI Sc 2 j = 10), if_neg (by rw [k]; decide : ¬ rI Sc 2 j = 11), if_neg (by rw [k]; decide : ¬ rI Sc 2 j = 12)]
    rw [e, poF_1 hb2 (hs.1.trans k)]
    exact hz
  · obtain ⟨p, hp, e6, c6, c120⟩ := nxt hC hj k
    unfold f_X7_askOperands
    rw [if_pos k, poF_2 hb2 (hs.1.trans k), c120, e6, ← e41]
    exact dq_ask hn h hp _ hf
  · skip
    obtain ⟨p, hp, ea⟩ := opA hok (by omega) (by rw [k]; decide)
    obtain ⟨q, hq, eb⟩ := opB hok (by omega) (by rw [k]; decide) (by rw [k]; decide) (by rw [k]; decide)
    have ca := nI_c (n := p) (by omega)
    have cb := nI_c (n := q) (by omega)
    unfold f_X7_askOperands
    rw [if_neg (by rw [k]; decide : ¬ rI Sc 2 j = 2), if_pos k, poF_3 hb2 (Or.inl (hs.1.trans k)), hs.2.1, hs.2.2.1, ea, eb, ca, cb, low_up hb, ← e41]
    exact dq_ask2 hn h (by omega) (by omega) _ _ hf
  · skip
    obtain ⟨p, hp, ea⟩ := opA hok (by omega) (by rw [k]; decide)
    obtain ⟨q, hq, eb⟩ := opB hok (by omega) (by rw [k]; decide) (by rw [k]; decide) (by rw [k]; decide)
    have ca := nI_c (n := p) (by omega)
    have cb := nI_c (n := q) (by omega)
    unfold f_X7_askOperands
    rw [if_neg (by rw [k]; decide : ¬ rI Sc 2 j = 2), if_neg (by rw [k]; decide : ¬ rI Sc 2 j = 3), if_pos k, poF_3 hb2 (Or.inr (Or.inl (hs.1.trans k))), hs.2.1, hs.2.2.1, ea, eb, ca, cb, low_up hb, ← e41]
    exact dq_ask2 hn h (by omega) (by omega) _ _ hf
  · skip
    obtain ⟨p, hp, ea⟩ := opA hok (by omega) (by rw [k]; decide)
    obtain ⟨q, hq, eb⟩ := opB hok (by omega) (by rw [k]; decide) (by rw [k]; decide) (by rw [k]; decide)
    have ca := nI_c (n := p) (by omega)
    have cb := nI_c (n := q) (by omega)
    unfold f_X7_askOperands
    rw [if_neg (by rw [k]; decide : ¬ rI Sc 2 j = 2), if_neg (by rw [k]; decide : ¬ rI Sc 2 j = 3), if_neg (by rw [k]; decide : ¬ rI Sc 2 j = 4), if_pos k, poF_3 hb2 (Or.inr (Or.inr (hs.1.trans k))), hs.2.1, hs.2.2.1, ea, eb, ca, cb, low_up hb, ← e41]
    exact dq_ask2 hn h (by omega) (by omega) _ _ hf
  · skip
    obtain ⟨p, hp, ea⟩ := opA hok (by omega) (by rw [k]; decide)
    obtain ⟨q, hq, eb⟩ := opB hok (by omega) (by rw [k]; decide) (by rw [k]; decide) (by rw [k]; decide)
    have ca := nI_c (n := p) (by omega)
    have cb := nI_c (n := q) (by omega)
    have hsp := (hC.2.2 p (by omega)).1
    have hsq := (hC.2.2 q (by omega)).1
    unfold f_X7_askOperands
    rw [if_neg (by rw [k]; decide : ¬ rI Sc 2 j = 2), if_neg (by rw [k]; decide : ¬ rI Sc 2 j = 3), if_neg (by rw [k]; decide : ¬ rI Sc 2 j = 4), if_neg (by rw [k]; decide : ¬ rI Sc 2 j = 5), if_pos k, poF_6 hb2 (Or.inl (hs.1.trans k))]
    unfold alF lgA lgB
    rw [hs.1, k, hs.2.1, hs.2.2.1, ea, eb, ca, cb, ← e41, mask_eq _ _ (by omega), mask_eq _ _ (by omega), fr_f_X7_ask (by omega) (by decide), fr_f_X7_ask (by omega) (by decide), hsp.1, hsp.2.1, hsq.1, hsq.2.1]
    simp only [true_and]
    exact dq_ask2 hn h (by omega) (by omega) _ _ hf
  · skip
    obtain ⟨p, hp, ea⟩ := opA hok (by omega) (by rw [k]; decide)
    obtain ⟨q, hq, eb⟩ := opB hok (by omega) (by rw [k]; decide) (by rw [k]; decide) (by rw [k]; decide)
    have ca := nI_c (n := p) (by omega)
    have cb := nI_c (n := q) (by omega)
    have hsp := (hC.2.2 p (by omega)).1
    have hsq := (hC.2.2 q (by omega)).1
    unfold f_X7_askOperands
    rw [if_neg (by rw [k]; decide : ¬ rI Sc 2 j = 2), if_neg (by rw [k]; decide : ¬ rI Sc 2 j = 3), if_neg (by rw [k]; decide : ¬ rI Sc 2 j = 4), if_neg (by rw [k]; decide : ¬ rI Sc 2 j = 5), if_neg (by rw [k]; decide : ¬ rI Sc 2 j = 6), if_pos k, poF_6 hb2 (Or.inr (Or.inl (hs.1.trans k)))]
    unfold alF lgA lgB
    rw [hs.1, k, hs.2.1, hs.2.2.1, ea, eb, ca, cb, ← e41, if_neg (fun z => absurd z.1 (by decide)), if_neg (fun z => absurd z.1 (by decide))]
    exact dq_ask2 hn h (by omega) (by omega) _ _ hf
  · skip
    obtain ⟨p, hp, ea⟩ := opA hok (by omega) (by rw [k]; decide)
    obtain ⟨q, hq, eb⟩ := opB hok (by omega) (by rw [k]; decide) (by rw [k]; decide) (by rw [k]; decide)
    have ca := nI_c (n := p) (by omega)
    have cb := nI_c (n := q) (by omega)
    have hsp := (hC.2.2 p (by omega)).1
    have hsq := (hC.2.2 q (by omega)).1
    unfold f_X7_askOperands
    rw [if_neg (by rw [k]; decide : ¬ rI Sc 2 j = 2), if_neg (by rw [k]; decide : ¬ rI Sc 2 j = 3), if_neg (by rw [k]; decide : ¬ rI Sc 2 j = 4), if_neg (by rw [k]; decide : ¬ rI Sc 2 j = 5), if_neg (by rw [k]; decide : ¬ rI Sc 2 j = 6), if_neg (by rw [k]; decide : ¬ rI Sc 2 j = 7), if_pos k, poF_6 hb2 (Or.inr (Or.inr (hs.1.trans k)))]
    unfold alF lgA lgB
    rw [hs.1, k, hs.2.1, hs.2.2.1, ea, eb, ca, cb, ← e41, if_neg (fun z => absurd z.1 (by decide)), if_neg (fun z => absurd z.1 (by decide))]
    exact dq_ask2 hn h (by omega) (by omega) _ _ hf
  · skip
    obtain ⟨p, hp, ea⟩ := opA hok (by omega) (by rw [k]; decide)
    have ca := nI_c (n := p) (by omega)
    unfold f_X7_askOperands
    rw [if_neg (by rw [k]; decide : ¬ rI Sc 2 j = 2), if_neg (by rw [k]; decide : ¬ rI Sc 2 j = 3), if_neg (by rw [k]; decide : ¬ rI Sc 2 j = 4), if_neg (by rw [k]; decide : ¬ rI Sc 2 j = 5), if_neg (by rw [k]; decide : ¬ rI Sc 2 j = 6), if_neg (by rw [k]; decide : ¬ rI Sc 2 j = 7), if_neg (by rw [k]; decide : ¬ rI Sc 2 j = 8), if_pos k, poF_9 hb2 (hs.1.trans k), hs.2.1, hs.2.2.1, ea, ca, ← e41]
    exact dq_ask hn h (by omega) _ hf
  · skip
    obtain ⟨p, hp, ea⟩ := opA hok (by omega) (by rw [k]; decide)
    have ca := nI_c (n := p) (by omega)
    unfold f_X7_askOperands
    rw [if_neg (by rw [k]; decide : ¬ rI Sc 2 j = 2), if_neg (by rw [k]; decide : ¬ rI Sc 2 j = 3), if_neg (by rw [k]; decide : ¬ rI Sc 2 j = 4), if_neg (by rw [k]; decide : ¬ rI Sc 2 j = 5), if_neg (by rw [k]; decide : ¬ rI Sc 2 j = 6), if_neg (by rw [k]; decide : ¬ rI Sc 2 j = 7), if_neg (by rw [k]; decide : ¬ rI Sc 2 j = 8), if_neg (by rw [k]; decide : ¬ rI Sc 2 j = 9), if_pos k, poF_10 hb2 (hs.1.trans k) rfl, hs.2.1, hs.2.2.1, ea, ca, ← e41]
    have e : f_X7_beforeShiftRight (rI Sc 41 j) (rI Sc 4 j) = rI Sc 41 j <<< (rI Sc 4 j &&& 31) ||| (if ushr (rI Sc 41 j) (31 - rI Sc 4 j) = 0 then 0 else -2147483648) := by
      unfold f_X7_beforeShiftRight
      split <;> rfl
    rw [e]
    exact dq_ask hn h (by omega) _ hf
  · skip
    obtain ⟨p, hp, ea⟩ := opA hok (by omega) (by rw [k]; decide)
    obtain ⟨q, hq, eb⟩ := opB hok (by omega) (by rw [k]; decide) (by rw [k]; decide) (by rw [k]; decide)
    have ca := nI_c (n := p) (by omega)
    have cb := nI_c (n := q) (by omega)
    unfold f_X7_askOperands
    rw [if_neg (by rw [k]; decide : ¬ rI Sc 2 j = 2), if_neg (by rw [k]; decide : ¬ rI Sc 2 j = 3), if_neg (by rw [k]; decide : ¬ rI Sc 2 j = 4), if_neg (by rw [k]; decide : ¬ rI Sc 2 j = 5), if_neg (by rw [k]; decide : ¬ rI Sc 2 j = 6), if_neg (by rw [k]; decide : ¬ rI Sc 2 j = 7), if_neg (by rw [k]; decide : ¬ rI Sc 2 j = 8), if_neg (by rw [k]; decide : ¬ rI Sc 2 j = 9), if_neg (by rw [k]; decide : ¬ rI Sc 2 j = 10), if_pos k, poF_11 hb2 (hs.1.trans k), hs.2.1, hs.2.2.1, ea, eb, ca, cb]
    exact dq_ask2 hn h (by omega) (by omega) _ _ hf
  · skip
    obtain ⟨p, hp, ea⟩ := opA hok (by omega) (by rw [k]; decide)
    obtain ⟨q, hq, eb⟩ := opB hok (by omega) (by rw [k]; decide) (by rw [k]; decide) (by rw [k]; decide)
    have ca := nI_c (n := p) (by omega)
    have cb := nI_c (n := q) (by omega)
    obtain ⟨w, hw, ec⟩ := opC hok (by omega) k
    have cc := nI_c (n := w) (by omega)
    unfold f_X7_askOperands
    rw [if_neg (by rw [k]; decide : ¬ rI Sc 2 j = 2), if_neg (by rw [k]; decide : ¬ rI Sc 2 j = 3), if_neg (by rw [k]; decide : ¬ rI Sc 2 j = 4), if_neg (by rw [k]; decide : ¬ rI Sc 2 j = 5), if_neg (by rw [k]; decide : ¬ rI Sc 2 j = 6), if_neg (by rw [k]; decide : ¬ rI Sc 2 j = 7), if_neg (by rw [k]; decide : ¬ rI Sc 2 j = 8), if_neg (by rw [k]; decide : ¬ rI Sc 2 j = 9), if_neg (by rw [k]; decide : ¬ rI Sc 2 j = 10), if_neg (by rw [k]; decide : ¬ rI Sc 2 j = 11), if_pos k, poF_12 hb2 (hs.1.trans k), hs.2.1, hs.2.2.1, hs.2.2.2.1, ea, eb, fr_f_X7_ask (by omega) (by decide), fr_f_X7_ask (by omega) (by decide), ec, ca, cb, cc, ← e41]
    obtain ⟨g1, g2, g3⟩ := dq_ask2 hn h (p := p) (r := q) (by omega) (by omega) (-1) (rI Sc 41 j) hf
    obtain ⟨m1, m2, m3⟩ := dq_ask hn g1 (p := w) (by omega) (rI Sc 41 j) g3
    refine ⟨m1, ?_, m3⟩
    rw [m2, g2]
    exact or_x _ _ _

/-- one signal of a pass -/
theorem wp_s {Sc Sr : gS} {n j : Nat} (hC : CI Sc Sr n) (hj : j < n) (h : DQ Sc Sr n) (hf : rI Sc 40 3 = 0 ∨ rI Sc 40 3 = 1) : DW (if rI Sc 41 j = 0 then Sc else f_X7_askOperands Sc j) (poF Sr j) (rI Sc 40 3) n := by
  by_cases q : rI Sc 41 j = 0
  · rw [if_pos q, poF_z (by rw [← (h j hj).1]; exact q)]
    exact ⟨h, (or_01 hf).2.symm, hf⟩
  · rw [if_neg q]
    exact ao_s hC hj h q hf
theorem ci_wp {Sc Sr : gS} {n : Nat} (hC : CI Sc Sr n) (k : Nat) : CI (itr (bd_wp n) k (wI Sc 40 3 0)) (pq Sr n k).2 n := CI.of hC (fun a c h1 h2 h3 => (fr_lp_wp (by omega) (by omega) _ _ _).trans (rI_wIc (by omega) _ _)) (fun a c q => rI_pq _ _ _ _ _ (by omega))
/-- a pass -/
theorem pass_s {Sc Sr : gS} {n : Nat} (hC : CI Sc Sr n) (h : DQ Sc Sr n) : ∀ k, k ≤ n → DQ (itr (bd_wp n) k (wI Sc 40 3 0)) (pq Sr n k).2 n ∧ rI (itr (bd_wp n) k (wI Sc 40 3 0)) 40 3 = (pq Sr n k).1 ∧ (rI (itr (bd_wp n) k (wI Sc 40 3 0)) 40 3 = 0 ∨ rI (itr (bd_wp n) k (wI Sc 40 3 0)) 40 3 = 1) := by
  intro k
  induction k with
  | zero =>
    intro _
    refine ⟨fun i hi => ?_, rI_same _ _ _ _, Or.inl (rI_same _ _ _ _)⟩
    obtain ⟨h1, h2, h3, h4⟩ := h i hi
    unfold DS
    show rI (wI Sc 40 3 0) 41 i = _ ∧ rI (wI Sc 40 3 0) 39 i = _ ∧ _ ∧ (0 ≤ rI (wI Sc 40 3 0) 37 i ↔ _)
    rw [rI_wIk (by decide), rI_wIk (by decide), rI_wIk (by decide)]
    exact ⟨h1, h2, h3, h4⟩
  | succ k ih =>
    intro hk
    obtain ⟨i1, i2, i3⟩ := ih (by omega)
    have hs := wp_s (ci_wp hC k) (j := n - 1 - k) (by omega) i1 i3
    obtain ⟨g1, g2, g3⟩ := hs
    refine ⟨g1, ?_, g3⟩
    show rI (bd_wp n k (itr (bd_wp n) k (wI Sc 40 3 0))) 40 3 = (poF (pq Sr n k).2 (n - 1 - k)).1 ||| (pq Sr n k).1
    rw [← i2]
    exact g2
theorem ci_wps {Sc Sr : gS} {n : Nat} (hC : CI Sc Sr n) (k : Nat) : CI (wpS Sc n k) (pqS Sr n k) n := CI.of hC (fun a c h1 h2 h3 => fr_wpS (by omega) (by omega) _ _ _) (fun a c q => rI_pqS _ _ _ _ _ (by omega))
/-- all passes go alike -/
theorem pass_all {Sc Sr : gS} {n : Nat} (hC : CI Sc Sr n) (h : DQ Sc Sr n) (h1 : rI Sc 40 3 = 1) : ∀ k, DQ (wpS Sc n k) (pqS Sr n k) n ∧ rI (wpS Sc n k) 40 3 = pqM Sr n k := by
  intro k
  induction k with
  | zero => exact ⟨h, h1⟩
  | succ k ih =>
    have hp := pass_s (ci_wps hC k) ih.1 n (Nat.le_refl _)
    exact ⟨hp.1, hp.2.1⟩
/-! the passes end: the bits are counted -/
def pcn (v : Int32) : Nat → Nat
  | 0 => 0
  | m + 1 => pcn v m + (if v.toBitVec.getLsbD m = true then 1 else 0)
theorem pcn_le (v : Int32) : ∀ m, pcn v m ≤ m := by
  intro m
  induction m with
  | zero => exact Nat.le_refl _
  | succ m ih =>
    show pcn v m + _ ≤ m + 1
    split <;> omega
theorem or_bit (a b : Int32) (i : Nat) : (a ||| b).toBitVec.getLsbD i = (a.toBitVec.getLsbD i || b.toBitVec.getLsbD i) := by
  show (a.toBitVec ||| b.toBitVec).getLsbD i = _
  rw [BitVec.getLsbD_or]
theorem pcn_or (a b : Int32) : ∀ m, pcn a m ≤ pcn (a ||| b) m := by
  intro m
  induction m with
  | zero => exact Nat.le_refl _
  | succ m ih =>
    show pcn a m + _ ≤ pcn (a ||| b) m + _
    rw [or_bit]
    by_cases h : a.toBitVec.getLsbD m = true
    · rw [if_pos h, if_pos (by simp [h])]; omega
    · rw [if_neg h]; omega
theorem pcn_lt (a b : Int32) (i : Nat) (h1 : b.toBitVec.getLsbD i = true) (h2 : a.toBitVec.getLsbD i = false) : ∀ m, i < m → pcn a m < pcn (a ||| b) m := by
  intro m
  induction m with
  | zero => intro h; exact absurd h (Nat.not_lt_zero i)
  | succ m ih =>
    intro h
    show pcn a m + _ < pcn (a ||| b) m + _
    rw [or_bit]
    by_cases e : i = m
    · subst e
      rw [if_neg (by simp [h2]), if_pos (by simp [h1])]
      have := pcn_or a b i
      omega
    · have := ih (by omega)
      by_cases h : a.toBitVec.getLsbD m = true
      · rw [if_pos h, if_pos (by simp [h])]; omega
      · rw [if_neg h]; omega
theorem new_bit {a b : Int32} (h : ¬ b &&& (a ^^^ -1) = 0) : ∃ i, i < 32 ∧ b.toBitVec.getLsbD i = true ∧ a.toBitVec.getLsbD i = false := by
  apply Classical.byContradiction
  intro q
  apply h
  apply Int32.toBitVec_inj.mp
  show b.toBitVec &&& (a.toBitVec ^^^ (-1 : Int32).toBitVec) = 0#32
  apply BitVec.eq_of_getLsbD_eq
  intro i hi
  have h4 : (-1 : Int32).toBitVec = BitVec.allOnes 32 := by decide
  rw [h4]
  simp only [BitVec.getLsbD_and, BitVec.getLsbD_xor, BitVec.getLsbD_allOnes, BitVec.getLsbD_zero, decide_eq_true hi]
  cases ha : a.toBitVec.getLsbD i <;> cases hb : b.toBitVec.getLsbD i
  · rfl
  · exact absurd ⟨i, hi, hb, ha⟩ q
  · rfl
  · rfl
def totB (S : gS) : Nat → Nat
  | 0 => 0
  | i + 1 => totB S i + pcn (rI S 41 i) 32
theorem totB_le (S : gS) : ∀ n, totB S n ≤ 32 * n := by
  intro n
  induction n with
  | zero => exact Nat.le_refl _
  | succ n ih =>
    have := pcn_le (rI S 41 n) 32
    show totB S n + _ ≤ _
    omega
theorem totB_mono {S T : gS} : ∀ n, (∀ i, i < n → pcn (rI S 41 i) 32 ≤ pcn (rI T 41 i) 32) → totB S n ≤ totB T n := by
  intro n
  induction n with
  | zero => intro _; exact Nat.le_refl _
  | succ n ih =>
    intro h
    have h1 := ih (fun i hi => h i (by omega))
    have h2 := h n (by omega)
    show totB S n + _ ≤ totB T n + _
    omega
theorem totB_lt {S T : gS} : ∀ n, (∀ i, i < n → pcn (rI S 41 i) 32 ≤ pcn (rI T 41 i) 32) → ∀ k, k < n → pcn (rI S 41 k) 32 < pcn (rI T 41 k) 32 → totB S n < totB T n := by
  intro n
  induction n with
  | zero => intro _ k hk; exact absurd hk (Nat.not_lt_zero k)
  | succ n ih =>
    intro h k hk hlt
    have h2 := h n (by omega)
    show totB S n + _ < totB T n + _
    by_cases e : k = n
    · subst e
      have h1 := totB_mono k (fun i hi => h i (by omega))
      omega
    · have h1 := ih (fun i hi => h i (by omega)) k (by omega) hlt
      omega
/-- a state behind some asking: no fewer bits, and more where the mark has been set -/
def BG (S T : gS) (n : Nat) : Prop := totB S n ≤ totB T n ∧ (rI T 40 3 = rI S 40 3 ∨ totB S n < totB T n)
theorem BG.rf (S : gS) (n : Nat) : BG S S n := ⟨Nat.le_refl _, Or.inl rfl⟩
theorem BG.tr {S T U : gS} {n : Nat} (h1 : BG S T n) (h2 : BG T U n) : BG S U n := by
  obtain ⟨a1, a2⟩ := h1
  obtain ⟨b1, b2⟩ := h2
  refine ⟨by omega, ?_⟩
  rcases b2 with q | q
  · rcases a2 with w | w
    · exact Or.inl (q.trans w)
    · exact Or.inr (by omega)
  · exact Or.inr (by omega)
theorem bg_ask {n : Nat} (S : gS) {p : Nat} (hn : n ≤ 24) (hp : p < n) (q : Int32) : BG S (f_X7_ask S (nI p) q) n := by
  have c := nI_c (n := p) (by omega)
  have key : ∀ k : Int32, BG S (if k &&& (rI S 41 p ^^^ -1) = 0 then S else wI (wI S 41 p (rI S 41 p ||| k)) 40 3 1) n := fun k => by
    by_cases z : k &&& (rI S 41 p ^^^ -1) = 0
    · rw [if_pos z]; exact BG.rf S n
    · rw [if_neg z]
      obtain ⟨i, hi, b1, b2⟩ := new_bit z
      have hall : ∀ j, j < n → pcn (rI S 41 j) 32 ≤ pcn (rI (wI (wI S 41 p (rI S 41 p ||| k)) 40 3 1) 41 j) 32 := fun j hj => by
        rw [rI_wIk (by decide)]
        by_cases e : j = p
        · subst e; rw [rI_same]; exact pcn_or _ _ 32
        · rw [rI_wIc (fun w => e w.2)]; exact Nat.le_refl _
      have hlt : pcn (rI S 41 p) 32 < pcn (rI (wI (wI S 41 p (rI S 41 p ||| k)) 40 3 1) 41 p) 32 := by
        rw [rI_wIk (by decide), rI_same]
        exact pcn_lt _ _ i b1 b2 32 hi
      have := totB_lt n hall p hp hlt
      exact ⟨by omega, Or.inr this⟩
  unfold f_X7_ask
  rw [c]
  split
  · exact key _
  · split
    · exact key _
    · exact key _
theorem bg_ao {S : gS} {n j : Nat} (ho : okC S n) (hj : j < n) : BG S (f_X7_askOperands S j) n := by
  have hn := ho.2.1
  have hok := ho.2.2 j hj
  obtain ⟨x, hx, ex⟩ := sgn_nI hn hok.2.2.2.2
  rcases kd_all hok.1.1 hok.1.2 with k | k | k | k | k | k | k | k | k | k | k | k | k
  · unfold f_X7_askOperands
    rw [if_neg (by rw [k]; decide : ¬ rI S 2 j = 2), if_neg (by rw [k]; decide : ¬ rI S 2 j = 3), if_neg (by rw [k]; decide : ¬ rI S 2 j = 4), if_neg (by rw [k]; decide : ¬ rI S 2 j = 5), if_neg (by rw [k]; decide : ¬ rI S 2 j = 6), if_neg (by rw [k]; decide : ¬ rI S 2 j = 7), if_neg (by rw [k]; decide : ¬ rI S 2 j = 8), if_neg (by rw [k]; decide : ¬ rI S 2 j = 9), if_neg (by rw [k]; decide : ¬ rI S 2 j = 10), if_neg (by rw [k]; decide : ¬ rI S 2 j = 11), if_neg (by rw [k]; decide : ¬ rI S 2 j = 12)]
    exact BG.rf S n
  · unfold f_X7_askOperands
    rw [if_neg (by rw [k]; decide : ¬ rI S 2 j = 2), if_neg (by rw [k]; decide : ¬ rI S 2 j = 3), if_neg (by rw [k]; decide : ¬ rI S 2 j = 4), if_neg (by rw [k]; decide : ¬ rI S 2 j = 5), if_neg (by rw [k]; decide : ¬ rI S 2 j = 6), if_neg (by rw [k]; decide : ¬ rI S 2 j = 7), if_neg (by rw [k]; decide : ¬ rI S 2 j = 8), if_neg (by rw [k]; decide : ¬ rI S 2 j = 9), if_neg (by rw [k]; decide : ¬ rI S 2 j = 10), if_neg (by rw [k]; decide : ¬ rI S 2 j = 11), if_neg (by rw [k]; decide : ¬ rI S 2 j = 12)]
    exact BG.rf S n
  · unfold f_X7_askOperands
    rw [if_pos k, ex]
    exact bg_ask S hn hx _
  · skip
    obtain ⟨p, hp, ea⟩ := opA hok (by omega) (by rw [k]; decide)
    obtain ⟨q, hq, eb⟩ := opB hok (by omega) (by rw [k]; decide) (by rw [k]; decide) (by rw [k]; decide)
    unfold f_X7_askOperands
    rw [if_neg (by rw [k]; decide : ¬ rI S 2 j = 2), if_pos k, ea, eb]
    exact (bg_ask S hn (by omega) _).tr (bg_ask _ hn (by omega) _)
  · skip
    obtain ⟨p, hp, ea⟩ := opA hok (by omega) (by rw [k]; decide)
    obtain ⟨q, hq, eb⟩ := opB hok (by omega) (by rw [k]; decide) (by rw [k]; decide) (by rw [k]; decide)
    unfold f_X7_askOperands
    rw [if_neg (by rw [k]; decide : ¬ rI S 2 j = 2), if_neg (by rw [k]; decide : ¬ rI S 2 j = 3), if_pos k, ea, eb]
    exact (bg_ask S hn (by omega) _).tr (bg_ask _ hn (by omega) _)
  · skip
    obtain ⟨p, hp, ea⟩ := opA hok (by omega) (by rw [k]; decide)
    obtain ⟨q, hq, eb⟩ := opB hok (by omega) (by rw [k]; decide) (by rw [k]; decide) (by rw [k]; decide)
    unfold f_X7_askOperands
    rw [if_neg (by rw [k]; decide : ¬ rI S 2 j = 2), if_neg (by rw [k]; decide : ¬ rI S 2 j = 3), if_neg (by rw [k]; decide : ¬ rI S 2 j = 4), if_pos k, ea, eb]
    exact (bg_ask S hn (by omega) _).tr (bg_ask _ hn (by omega) _)
  · skip
    obtain ⟨p, hp, ea⟩ := opA hok (by omega) (by rw [k]; decide)
    obtain ⟨q, hq, eb⟩ := opB hok (by omega) (by rw [k]; decide) (by rw [k]; decide) (by rw [k]; decide)
    unfold f_X7_askOperands
    rw [if_neg (by rw [k]; decide : ¬ rI S 2 j = 2), if_neg (by rw [k]; decide : ¬ rI S 2 j = 3), if_neg (by rw [k]; decide : ¬ rI S 2 j = 4), if_neg (by rw [k]; decide : ¬ rI S 2 j = 5), if_pos k, ea, eb]
    exact (bg_ask S hn (by omega) _).tr (bg_ask _ hn (by omega) _)
  · skip
    obtain ⟨p, hp, ea⟩ := opA hok (by omega) (by rw [k]; decide)
    obtain ⟨q, hq, eb⟩ := opB hok (by omega) (by rw [k]; decide) (by rw [k]; decide) (by rw [k]; decide)
    unfold f_X7_askOperands
    rw [if_neg (by rw [k]; decide : ¬ rI S 2 j = 2), if_neg (by rw [k]; decide : ¬ rI S 2 j = 3), if_neg (by rw [k]; decide : ¬ rI S 2 j = 4), if_neg (by rw [k]; decide : ¬ rI S 2 j = 5), if_neg (by rw [k]; decide : ¬ rI S 2 j = 6), if_pos k, ea, eb]
    exact (bg_ask S hn (by omega) _).tr (bg_ask _ hn (by omega) _)
  · skip
    obtain ⟨p, hp, ea⟩ := opA hok (by omega) (by rw [k]; decide)
    obtain ⟨q, hq, eb⟩ := opB hok (by omega) (by rw [k]; decide) (by rw [k]; decide) (by rw [k]; decide)
    unfold f_X7_askOperands
    rw [if_neg (by rw [k]; decide : ¬ rI S 2 j = 2), if_neg (by rw [k]; decide : ¬ rI S 2 j = 3), if_neg (by rw [k]; decide : ¬ rI S 2 j = 4), if_neg (by rw [k]; decide : ¬ rI S 2 j = 5), if_neg (by rw [k]; decide : ¬ rI S 2 j = 6), if_neg (by rw [k]; decide : ¬ rI S 2 j = 7), if_pos k, ea, eb]
    exact (bg_ask S hn (by omega) _).tr (bg_ask _ hn (by omega) _)
  · skip
    obtain ⟨p, hp, ea⟩ := opA hok (by omega) (by rw [k]; decide)
    unfold f_X7_askOperands
    rw [if_neg (by rw [k]; decide : ¬ rI S 2 j = 2), if_neg (by rw [k]; decide : ¬ rI S 2 j = 3), if_neg (by rw [k]; decide : ¬ rI S 2 j = 4), if_neg (by rw [k]; decide : ¬ rI S 2 j = 5), if_neg (by rw [k]; decide : ¬ rI S 2 j = 6), if_neg (by rw [k]; decide : ¬ rI S 2 j = 7), if_neg (by rw [k]; decide : ¬ rI S 2 j = 8), if_pos k, ea]
    exact bg_ask S hn (by omega) _
  · skip
    obtain ⟨p, hp, ea⟩ := opA hok (by omega) (by rw [k]; decide)
    unfold f_X7_askOperands
    rw [if_neg (by rw [k]; decide : ¬ rI S 2 j = 2), if_neg (by rw [k]; decide : ¬ rI S 2 j = 3), if_neg (by rw [k]; decide : ¬ rI S 2 j = 4), if_neg (by rw [k]; decide : ¬ rI S 2 j = 5), if_neg (by rw [k]; decide : ¬ rI S 2 j = 6), if_neg (by rw [k]; decide : ¬ rI S 2 j = 7), if_neg (by rw [k]; decide : ¬ rI S 2 j = 8), if_neg (by rw [k]; decide : ¬ rI S 2 j = 9), if_pos k, ea]
    exact bg_ask S hn (by omega) _
  · skip
    obtain ⟨p, hp, ea⟩ := opA hok (by omega) (by rw [k]; decide)
    obtain ⟨q, hq, eb⟩ := opB hok (by omega) (by rw [k]; decide) (by rw [k]; decide) (by rw [k]; decide)
    unfold f_X7_askOperands
    rw [if_neg (by rw [k]; decide : ¬ rI S 2 j = 2), if_neg (by rw [k]; decide : ¬ rI S 2 j = 3), if_neg (by rw [k]; decide : ¬ rI S 2 j = 4), if_neg (by rw [k]; decide : ¬ rI S 2 j = 5), if_neg (by rw [k]; decide : ¬ rI S 2 j = 6), if_neg (by rw [k]; decide : ¬ rI S 2 j = 7), if_neg (by rw [k]; decide : ¬ rI S 2 j = 8), if_neg (by rw [k]; decide : ¬ rI S 2 j = 9), if_neg (by rw [k]; decide : ¬ rI S 2 j = 10), if_pos k, ea, eb]
    exact (bg_ask S hn (by omega) _).tr (bg_ask _ hn (by omega) _)
  · skip
    obtain ⟨p, hp, ea⟩ := opA hok (by omega) (by rw [k]; decide)
    obtain ⟨q, hq, eb⟩ := opB hok (by omega) (by rw [k]; decide) (by rw [k]; decide) (by rw [k]; decide)
    obtain ⟨w, hw, ec⟩ := opC hok (by omega) k
    unfold f_X7_askOperands
    rw [if_neg (by rw [k]; decide : ¬ rI S 2 j = 2), if_neg (by rw [k]; decide : ¬ rI S 2 j = 3), if_neg (by rw [k]; decide : ¬ rI S 2 j = 4), if_neg (by rw [k]; decide : ¬ rI S 2 j = 5), if_neg (by rw [k]; decide : ¬ rI S 2 j = 6), if_neg (by rw [k]; decide : ¬ rI S 2 j = 7), if_neg (by rw [k]; decide : ¬ rI S 2 j = 8), if_neg (by rw [k]; decide : ¬ rI S 2 j = 9), if_neg (by rw [k]; decide : ¬ rI S 2 j = 10), if_neg (by rw [k]; decide : ¬ rI S 2 j = 11), if_pos k, ea, eb, fr_f_X7_ask (by omega) (by decide), fr_f_X7_ask (by omega) (by decide), ec]
    exact ((bg_ask S hn (by omega) _).tr (bg_ask _ hn (by omega) _)).tr (bg_ask _ hn (by omega) _)

theorem bg_pass {S : gS} {n : Nat} (ho : okC S n) : ∀ k, k ≤ n → BG (wI S 40 3 0) (itr (bd_wp n) k (wI S 40 3 0)) n := by
  intro k
  induction k with
  | zero => intro _; exact BG.rf _ n
  | succ k ih =>
    intro hk
    refine BG.tr (ih (by omega)) ?_
    have hok : okC (itr (bd_wp n) k (wI S 40 3 0)) n := okC.of ho (fun a c h => (fr_lp_wp (by omega) (by omega) _ _ _).trans (rI_wIc (by omega) _ _))
    show BG _ (bd_wp n k (itr (bd_wp n) k (wI S 40 3 0))) n
    unfold bd_wp
    split
    · exact BG.rf _ n
    · exact bg_ao hok (by omega)
theorem bg_all {S : gS} {n : Nat} (ho : okC S n) : ∀ m, (∀ k, k ≤ m → rI (wpS S n k) 40 3 ≠ 0) → m ≤ totB (wpS S n m) n := by
  intro m
  induction m with
  | zero => intro _; exact Nat.zero_le _
  | succ m ih =>
    intro h
    have h1 := ih (fun k hk => h k (by omega))
    have hok : okC (wpS S n m) n := okC.of ho (fun a c q => fr_wpS (by omega) (by omega) _ _ _)
    obtain ⟨g1, g2⟩ := bg_pass hok n (Nat.le_refl _)
    have e : totB (wI (wpS S n m) 40 3 0) n = totB (wpS S n m) n := by
      have hh : ∀ i, rI (wI (wpS S n m) 40 3 0) 41 i = rI (wpS S n m) 41 i := fun i => rI_wIk (by decide) _ _ _
      exact Nat.le_antisymm (totB_mono n (fun i _ => by rw [hh i]; exact Nat.le_refl _)) (totB_mono n (fun i _ => by rw [hh i]; exact Nat.le_refl _))
    rw [e] at g1 g2
    rcases g2 with q | q
    · rw [rI_same] at q
      exact absurd q (h (m + 1) (Nat.le_refl _))
    · show m + 1 ≤ totB (itr (bd_wp n) n (wI (wpS S n m) 40 3 0)) n
      omega
/-- the class's passes end -/
theorem wp_end {S : gS} {n : Nat} (ho : okC S n) (h1 : rI S 40 3 = 1) : ∃ G, wpEnd S n G := by
  have hn := ho.2.1
  have hex : ∃ k, k ≤ 769 ∧ rI (wpS S n k) 40 3 = 0 := by
    apply Classical.byContradiction
    intro q
    have h := bg_all ho 769 (fun k hk w => q ⟨k, hk, w⟩)
    have h2 := totB_le (wpS S n 769) n
    omega
  obtain ⟨K, g1, g2, g3⟩ := least (fun k => rI (wpS S n k) 40 3 = 0) 769 (by show ¬ rI S 40 3 = 0; rw [h1]; decide) hex
  exact ⟨K, g2, g3, by omega⟩
