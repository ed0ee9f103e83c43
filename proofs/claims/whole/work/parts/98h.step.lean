theorem r3 (x y : Int64) : resF 3 x y = x + y := by unfold resF; rw [if_pos rfl]
theorem r4 (x y : Int64) : resF 4 x y = x - y := by unfold resF; rw [if_neg (by decide), if_pos rfl]
theorem r5 (x y : Int64) : resF 5 x y = x * y := by unfold resF; rw [if_neg (by decide), if_neg (by decide)]
theorem ad64 (a c : Int32) : (a.toInt64 + c.toInt64).toInt = a.toInt + c.toInt := by
  have h1 := ib a
  have h2 := ib c
  rw [jadd (by rw [j64, j64]; omega) (by rw [j64, j64]; omega), j64, j64]
theorem sb64 (a c : Int32) : (a.toInt64 - c.toInt64).toInt = a.toInt - c.toInt := by
  have h1 := ib a
  have h2 := ib c
  rw [jsub (by rw [j64, j64]; omega) (by rw [j64, j64]; omega), j64, j64]
theorem ari_3 {la ha lb hb : Int32} (h1 : la ≤ ha) (h2 : lb ≤ hb) : sml (sml (resF 3 la.toInt64 lb.toInt64) (resF 3 la.toInt64 hb.toInt64)) (sml (resF 3 ha.toInt64 lb.toInt64) (resF 3 ha.toInt64 hb.toInt64)) = la.toInt64 + lb.toInt64 ∧ lrg (lrg (resF 3 la.toInt64 lb.toInt64) (resF 3 la.toInt64 hb.toInt64)) (lrg (resF 3 ha.toInt64 lb.toInt64) (resF 3 ha.toInt64 hb.toInt64)) = ha.toInt64 + hb.toInt64 ∧ la.toInt64 + lb.toInt64 ≤ ha.toInt64 + hb.toInt64 := by
  rw [ile] at h1 h2
  simp only [r3]
  refine ⟨?_, ?_, ?_⟩
  · rw [jeq]; simp only [sml_i, ad64]; omega
  · rw [jeq]; simp only [lrg_i, ad64]; omega
  · rw [jle]; simp only [ad64]; omega
theorem ari_4 {la ha lb hb : Int32} (h1 : la ≤ ha) (h2 : lb ≤ hb) : sml (sml (resF 4 la.toInt64 lb.toInt64) (resF 4 la.toInt64 hb.toInt64)) (sml (resF 4 ha.toInt64 lb.toInt64) (resF 4 ha.toInt64 hb.toInt64)) = la.toInt64 - hb.toInt64 ∧ lrg (lrg (resF 4 la.toInt64 lb.toInt64) (resF 4 la.toInt64 hb.toInt64)) (lrg (resF 4 ha.toInt64 lb.toInt64) (resF 4 ha.toInt64 hb.toInt64)) = ha.toInt64 - lb.toInt64 ∧ la.toInt64 - hb.toInt64 ≤ ha.toInt64 - lb.toInt64 := by
  rw [ile] at h1 h2
  simp only [r4]
  refine ⟨?_, ?_, ?_⟩
  · rw [jeq]; simp only [sml_i, sb64]; omega
  · rw [jeq]; simp only [lrg_i, sb64]; omega
  · rw [jle]; simp only [sb64]; omega
theorem mnl_sml (a c : Int64) : mnl a c = sml a c := by rw [jeq, mnl_i, sml_i]
theorem ari_5 (p q r s : Int64) : mnl (mnl p q) (mnl r s) = sml (sml p q) (sml r s) ∧ sml (sml p q) (sml r s) ≤ lrg (lrg p q) (lrg r s) := by
  refine ⟨by rw [mnl_sml, mnl_sml, mnl_sml], ?_⟩
  rw [jle]
  simp only [sml_i, lrg_i]
  omega
theorem mx64 (a c : Int32) : (mxi a c).toInt64 = lrg a.toInt64 c.toInt64 := by rw [jeq, j64, mxi_i, lrg_i, j64, j64]
theorem mn64 (a c : Int32) : (mni a c).toInt64 = sml a.toInt64 c.toInt64 := by rw [jeq, j64, mni_i, sml_i, j64, j64]
theorem sg_0 {S : gS} {p : Nat} (hp : p < 1000) : f_X4_isSignedRange S (nI p) = 0 ↔ 0 ≤ rI S 37 p := by
  unfold f_X4_isSignedRange
  rw [nI_c hp]
  by_cases h : (0 : Int32) ≤ rI S 37 p
  · rw [if_pos h]; simp [h]
  · rw [if_neg h]; simp [h]
theorem z64 (a : Int32) : (0 : Int64) ≤ a.toInt64 ↔ 0 ≤ a := by
  rw [jle, ile, j64]
  exact Iff.rfl
theorem onb_nn (v : Int32) : 0 ≤ (f_X4_onesNotBelow v).toInt := by
  rw [onb_i]
  have := p2_pos (lg v.toInt)
  omega
/-- neither range without a negative value -/
theorem log_3 {la ha lb hb : Int32} (hn : la < 0 ∨ lb < 0) : dnL (sml (sml la.toInt64 lb.toInt64) (-(lrg ha.toInt64 hb.toInt64) - 1)) = (f_X4_onesNotBelow (mxi (mni la lb ^^^ -1) (mxi ha hb)) ^^^ -1).toInt64 ∧ -(dnL (sml (sml la.toInt64 lb.toInt64) (-(lrg ha.toInt64 hb.toInt64) - 1))) - 1 = (f_X4_onesNotBelow (mxi (mni la lb ^^^ -1) (mxi ha hb))).toInt64 := by
  have b1 := ib la
  have b2 := ib lb
  have b3 := ib ha
  have b4 := ib hb
  have hmx : (lrg ha.toInt64 hb.toInt64).toInt = max ha.toInt hb.toInt := by rw [lrg_i, j64, j64]
  have hng : (-(lrg ha.toInt64 hb.toInt64)).toInt = -max ha.toInt hb.toInt := by rw [jneg (by omega), hmx]
  have e1 : (1 : Int64).toInt = 1 := rfl
  have hng1 : (-(lrg ha.toInt64 hb.toInt64) - 1).toInt = -max ha.toInt hb.toInt - 1 := by rw [jsub (by omega) (by omega), hng, e1]
  have hv : (sml (sml la.toInt64 lb.toInt64) (-(lrg ha.toInt64 hb.toInt64) - 1)).toInt = min (min la.toInt lb.toInt) (-max ha.toInt hb.toInt - 1) := by rw [sml_i, sml_i, j64, j64, hng1]
  have hM : (mxi (mni la lb ^^^ -1) (mxi ha hb)).toInt = max (-(min la.toInt lb.toInt) - 1) (max ha.toInt hb.toInt) := by rw [mxi_i, not_i, mni_i, mxi_i]
  have hvM : -(sml (sml la.toInt64 lb.toInt64) (-(lrg ha.toInt64 hb.toInt64) - 1)).toInt - 1 = (mxi (mni la lb ^^^ -1) (mxi ha hb)).toInt := by rw [hv, hM]; omega
  have ho := onb_i (mxi (mni la lb ^^^ -1) (mxi ha hb))
  have hob := ib (f_X4_onesNotBelow (mxi (mni la lb ^^^ -1) (mxi ha hb)))
  have hd : (dnL (sml (sml la.toInt64 lb.toInt64) (-(lrg ha.toInt64 hb.toInt64) - 1))).toInt = -(f_X4_onesNotBelow (mxi (mni la lb ^^^ -1) (mxi ha hb))).toInt - 1 := by
    unfold dnL
    rw [hvM, j_of]
    · rw [ho]; omega
    · omega
    · have := p2_pos (lg (mxi (mni la lb ^^^ -1) (mxi ha hb)).toInt)
      omega
  refine ⟨?_, ?_⟩
  · rw [jeq, hd, j64, not_i]
  · rw [jeq, jsub (by rw [jneg (by omega), hd, e1]; omega) (by rw [jneg (by omega), hd, e1]; omega), jneg (by omega), hd, e1, j64]
    omega
theorem sh_mono {x y : Int32} {k : Nat} (hk : k < 16) (h : x ≤ y) : x.toInt64 <<< ((nI k).toInt64 &&& 63) ≤ y.toInt64 <<< ((nI k).toInt64 &&& 63) := by
  have h1 := ib x
  have h2 := ib y
  rw [ile] at h
  rw [jle, shl_i hk (by rw [j64]; omega) (by rw [j64]; omega), shl_i hk (by rw [j64]; omega) (by rw [j64]; omega), j64, j64]
  have := p2_pos k
  exact Int.mul_le_mul_of_nonneg_right h (by omega)
theorem shr_64 (x : Int32) {k : Nat} (hk : k < 16) : (x >>> (nI k &&& 31)).toInt64 = x.toInt64 >>> ((nI k).toInt64 &&& 63) := by
  rw [jeq, j64, shr_i hk, shr_j hk, j64]
theorem shr_mono {x y : Int32} {k : Nat} (hk : k < 16) (h : x ≤ y) : (x >>> (nI k &&& 31)).toInt64 ≤ (y >>> (nI k &&& 31)).toInt64 := by
  rw [ile] at h
  rw [jle, j64, j64, shr_i hk, shr_i hk]
  have := p2_pos k
  exact Int.ediv_le_ediv (by omega) h
/-- what the class and the reference find for one signal -/
def ST (Sc Sr : gS) (j : Nat) : Prop := ∃ l g, f_X4_findOne Sc j = f_X4_become Sc (nI j) l g ∧ l ≤ g ∧ rL (frF Sr j) 115 16 = wl l g ∧ rL (frF Sr j) 115 17 = wg l g
theorem ST.w {Sc Sr : gS} {j : Nat} (l g : Int64) (h1 : f_X4_findOne Sc j = f_X4_become Sc (nI j) l g) (h2 : l ≤ g) (h3 : frF Sr j = witF Sr l g) : ST Sc Sr j := ⟨l, g, h1, h2, by rw [h3]; exact (wit_rd _ _ _).1, by rw [h3]; exact (wit_rd _ _ _).2⟩
theorem ST.f {Sc Sr : gS} {j : Nat} (l g : Int32) (h1 : f_X4_findOne Sc j = f_X4_become Sc (nI j) l.toInt64 g.toInt64) (h2 : l ≤ g) (h3 : frF Sr j = fndF Sr l.toInt64 g.toInt64) : ST Sc Sr j := by
  refine ⟨l.toInt64, g.toInt64, h1, w_le.mpr h2, ?_, ?_⟩
  · rw [h3, (wl_i l g).1]; rfl
  · rw [h3, (wl_i l g).2]; rfl
theorem opA {Sc : gS} {n j : Nat} (hok : okI Sc n j) (hj : j < 24) (h3 : 3 ≤ rI Sc 2 j) : ∃ p, p < j ∧ rI Sc 3 j = nI p := sgn_nI (by omega) (hok.2.1 h3)
theorem opB {Sc : gS} {n j : Nat} (hok : okI Sc n j) (hj : j < 24) (h3 : 3 ≤ rI Sc 2 j) (h9 : rI Sc 2 j ≠ 9) (h10 : rI Sc 2 j ≠ 10) : ∃ p, p < j ∧ rI Sc 4 j = nI p := sgn_nI (by omega) (hok.2.2.1 h3 h9 h10)
theorem opC {Sc : gS} {n j : Nat} (hok : okI Sc n j) (hj : j < 24) (h : rI Sc 2 j = 12) : ∃ p, p < j ∧ rI Sc 5 j = nI p := sgn_nI (by omega) (hok.2.2.2.1 h)
section STEP
variable {Sc Sr : gS} {n j : Nat}
theorem st_3 (hj : j < 24) (hs : CS Sc Sr j) (hok : okI Sc n j) (hcb : cB Sc j) (hR : ∀ i, i < j → RR Sc Sr i) (h : rI Sc 2 j = 3) : ST Sc Sr j := by
  have hk : rI Sr 116 j = 3 := hs.1.trans h
  obtain ⟨p, hp, ea⟩ := opA hok hj (by rw [h]; decide)
  obtain ⟨q, hq, eb⟩ := opB hok hj (by rw [h]; decide) (by rw [h]; decide) (by rw [h]; decide)
  obtain ⟨A1, A2, A3⟩ := hR p hp
  have ca := nI_c (n := p) (by omega)
  obtain ⟨B1, B2, B3⟩ := hR q hq
  have cb := nI_c (n := q) (by omega)
  obtain ⟨s1, s2, s3⟩ := ari_3 A3 B3
  refine ST.w ((rI Sc 37 p).toInt64 + (rI Sc 37 q).toInt64) ((rI Sc 38 p).toInt64 + (rI Sc 38 q).toInt64) ?_ s3 ?_
  · unfold f_X4_findOne
    rw [if_pos h, ea, eb, ca, cb]
  · unfold frF ariF
    rw [hk, hs.2.1, hs.2.2.1, ea, eb, ca, cb, ← A1, ← A2, ← B1, ← B2, s1, s2]
    rfl
theorem st_4 (hj : j < 24) (hs : CS Sc Sr j) (hok : okI Sc n j) (hcb : cB Sc j) (hR : ∀ i, i < j → RR Sc Sr i) (h : rI Sc 2 j = 4) : ST Sc Sr j := by
  have hk : rI Sr 116 j = 4 := hs.1.trans h
  obtain ⟨p, hp, ea⟩ := opA hok hj (by rw [h]; decide)
  obtain ⟨q, hq, eb⟩ := opB hok hj (by rw [h]; decide) (by rw [h]; decide) (by rw [h]; decide)
  obtain ⟨A1, A2, A3⟩ := hR p hp
  have ca := nI_c (n := p) (by omega)
  obtain ⟨B1, B2, B3⟩ := hR q hq
  have cb := nI_c (n := q) (by omega)
  obtain ⟨s1, s2, s3⟩ := ari_4 A3 B3
  refine ST.w ((rI Sc 37 p).toInt64 - (rI Sc 38 q).toInt64) ((rI Sc 38 p).toInt64 - (rI Sc 37 q).toInt64) ?_ s3 ?_
  · unfold f_X4_findOne
    rw [if_neg (by rw [h]; decide : ¬ rI Sc 2 j = 3), if_pos h, ea, eb, ca, cb]
  · unfold frF ariF
    rw [hk, hs.2.1, hs.2.2.1, ea, eb, ca, cb, ← A1, ← A2, ← B1, ← B2, s1, s2]
    rfl
theorem st_5 (hj : j < 24) (hs : CS Sc Sr j) (hok : okI Sc n j) (hcb : cB Sc j) (hR : ∀ i, i < j → RR Sc Sr i) (h : rI Sc 2 j = 5) : ST Sc Sr j := by
  have hk : rI Sr 116 j = 5 := hs.1.trans h
  obtain ⟨p, hp, ea⟩ := opA hok hj (by rw [h]; decide)
  obtain ⟨q, hq, eb⟩ := opB hok hj (by rw [h]; decide) (by rw [h]; decide) (by rw [h]; decide)
  obtain ⟨A1, A2, A3⟩ := hR p hp
  have ca := nI_c (n := p) (by omega)
  obtain ⟨B1, B2, B3⟩ := hR q hq
  have cb := nI_c (n := q) (by omega)
  obtain ⟨s1, s2⟩ := ari_5 ((rI Sc 37 p).toInt64 * (rI Sc 37 q).toInt64) ((rI Sc 37 p).toInt64 * (rI Sc 38 q).toInt64) ((rI Sc 38 p).toInt64 * (rI Sc 37 q).toInt64) ((rI Sc 38 p).toInt64 * (rI Sc 38 q).toInt64)
  refine ST.w _ _ ?_ s2 ?_
  · unfold f_X4_findOne f_X4_findProduct
    rw [if_neg (by rw [h]; decide : ¬ rI Sc 2 j = 3), if_neg (by rw [h]; decide : ¬ rI Sc 2 j = 4), if_pos h, ea, eb, ca, cb, s1]
  · unfold frF ariF
    rw [hk, hs.2.1, hs.2.2.1, ea, eb, ca, cb, ← A1, ← A2, ← B1, ← B2]
    simp only [r5]
    rfl
theorem st_6 (hj : j < 24) (hs : CS Sc Sr j) (hok : okI Sc n j) (hcb : cB Sc j) (hR : ∀ i, i < j → RR Sc Sr i) (h : rI Sc 2 j = 6) : ST Sc Sr j := by
  have hk : rI Sr 116 j = 6 := hs.1.trans h
  obtain ⟨p, hp, ea⟩ := opA hok hj (by rw [h]; decide)
  obtain ⟨q, hq, eb⟩ := opB hok hj (by rw [h]; decide) (by rw [h]; decide) (by rw [h]; decide)
  obtain ⟨A1, A2, A3⟩ := hR p hp
  have ca := nI_c (n := p) (by omega)
  obtain ⟨B1, B2, B3⟩ := hR q hq
  have cb := nI_c (n := q) (by omega)
  have ga := sg_0 (S := Sc) (p := p) (by omega)
  have gb := sg_0 (S := Sc) (p := q) (by omega)
  have e1 : f_X4_findOne Sc j = f_X4_findBitwise Sc (nI j) 6 (nI p) (nI q) := by
    unfold f_X4_findOne
    rw [if_neg (by rw [h]; decide : ¬ rI Sc 2 j = 3), if_neg (by rw [h]; decide : ¬ rI Sc 2 j = 4), if_neg (by rw [h]; decide : ¬ rI Sc 2 j = 5), if_pos h, ea, eb, h]
  have e2 : frF Sr j = logF Sr 6 (rI Sc 37 p).toInt64 (rI Sc 38 p).toInt64 (rI Sc 37 q).toInt64 (rI Sc 38 q).toInt64 := by
    unfold frF
    rw [hk, hs.2.1, hs.2.2.1, ea, eb, ca, cb, ← A1, ← A2, ← B1, ← B2]
    rfl
  have A0 := A3
  have B0 := B3
  rw [ile] at A0 B0
  have z0 : (0 : Int32).toInt = 0 := rfl
  by_cases pa : 0 ≤ rI Sc 37 p
  · have pa2 := pa
    rw [ile] at pa2
    by_cases pb : 0 ≤ rI Sc 37 q
    · have pb2 := pb
      rw [ile] at pb2
      refine ST.f 0 (mni (rI Sc 38 p) (rI Sc 38 q)) ?_ (by rw [ile, mni_i]; omega) ?_
      · rw [e1]
        unfold f_X4_findBitwise
        rw [if_pos rfl, if_pos (ga.mpr pa), if_pos (gb.mpr pb), ca, cb]
        rfl
      · rw [e2]
        unfold logF
        rw [if_pos ⟨(z64 _).mpr pa, (z64 _).mpr pb⟩, if_pos rfl, mn64]
        rfl
    · refine ST.f 0 (rI Sc 38 p) ?_ (by rw [ile]; omega) ?_
      · rw [e1]
        unfold f_X4_findBitwise
        rw [if_pos rfl, if_pos (ga.mpr pa), if_neg (fun w => pb (gb.mp w)), ca]
        rfl
      · rw [e2]
        unfold logF
        rw [if_neg (fun w => pb ((z64 _).mp w.2)), if_pos ⟨rfl, Or.inl ((z64 _).mpr pa)⟩, if_pos ((z64 _).mpr pa)]
        rfl
  · by_cases pb : 0 ≤ rI Sc 37 q
    · have pb2 := pb
      rw [ile] at pb2
      refine ST.f 0 (rI Sc 38 q) ?_ (by rw [ile]; omega) ?_
      · rw [e1]
        unfold f_X4_findBitwise
        rw [if_pos rfl, if_neg (fun w => pa (ga.mp w)), if_pos (gb.mpr pb), cb]
        rfl
      · rw [e2]
        unfold logF
        rw [if_neg (fun w => pa ((z64 _).mp w.1)), if_pos ⟨rfl, Or.inr ((z64 _).mpr pb)⟩, if_neg (fun w => pa ((z64 _).mp w))]
        rfl
    · obtain ⟨s1, s2⟩ := log_3 (la := rI Sc 37 p) (ha := rI Sc 38 p) (lb := rI Sc 37 q) (hb := rI Sc 38 q) (Or.inl (Int32.not_le.mp pa))
      refine ST.f ((f_X4_onesNotBelow (mxi (mni (rI Sc 37 p) (rI Sc 37 q) ^^^ -1) (mxi (rI Sc 38 p) (rI Sc 38 q)))) ^^^ -1) (f_X4_onesNotBelow (mxi (mni (rI Sc 37 p) (rI Sc 37 q) ^^^ -1) (mxi (rI Sc 38 p) (rI Sc 38 q)))) ?_ (by rw [ile, not_i]; have := onb_nn (mxi (mni (rI Sc 37 p) (rI Sc 37 q) ^^^ -1) (mxi (rI Sc 38 p) (rI Sc 38 q))); omega) ?_
      · rw [e1]
        unfold f_X4_findBitwise
        rw [if_pos rfl, if_neg (fun w => pa (ga.mp w)), if_neg (fun w => pb (gb.mp w)), ca, cb]
      · rw [e2]
        unfold logF
        rw [if_neg (fun w => pa ((z64 _).mp w.1)), if_neg (fun w => w.2.elim (fun u => pa ((z64 _).mp u)) (fun u => pb ((z64 _).mp u))), s2, s1]
theorem st_7 (hj : j < 24) (hs : CS Sc Sr j) (hok : okI Sc n j) (hcb : cB Sc j) (hR : ∀ i, i < j → RR Sc Sr i) (h : rI Sc 2 j = 7) : ST Sc Sr j := by
  have hk : rI Sr 116 j = 7 := hs.1.trans h
  obtain ⟨p, hp, ea⟩ := opA hok hj (by rw [h]; decide)
  obtain ⟨q, hq, eb⟩ := opB hok hj (by rw [h]; decide) (by rw [h]; decide) (by rw [h]; decide)
  obtain ⟨A1, A2, A3⟩ := hR p hp
  have ca := nI_c (n := p) (by omega)
  obtain ⟨B1, B2, B3⟩ := hR q hq
  have cb := nI_c (n := q) (by omega)
  have ga := sg_0 (S := Sc) (p := p) (by omega)
  have gb := sg_0 (S := Sc) (p := q) (by omega)
  have e1 : f_X4_findOne Sc j = f_X4_findBitwise Sc (nI j) 7 (nI p) (nI q) := by
    unfold f_X4_findOne
    rw [if_neg (by rw [h]; decide : ¬ rI Sc 2 j = 3), if_neg (by rw [h]; decide : ¬ rI Sc 2 j = 4), if_neg (by rw [h]; decide : ¬ rI Sc 2 j = 5), if_neg (by rw [h]; decide : ¬ rI Sc 2 j = 6), if_pos h, ea, eb, h]
  have e2 : frF Sr j = logF Sr 7 (rI Sc 37 p).toInt64 (rI Sc 38 p).toInt64 (rI Sc 37 q).toInt64 (rI Sc 38 q).toInt64 := by
    unfold frF
    rw [hk, hs.2.1, hs.2.2.1, ea, eb, ca, cb, ← A1, ← A2, ← B1, ← B2]
    rfl
  have A0 := A3
  have B0 := B3
  rw [ile] at A0 B0
  have z0 : (0 : Int32).toInt = 0 := rfl
  by_cases pa : 0 ≤ rI Sc 37 p
  · have pa2 := pa
    rw [ile] at pa2
    by_cases pb : 0 ≤ rI Sc 37 q
    · have pb2 := pb
      rw [ile] at pb2
      refine ST.f 0 (f_X4_onesNotBelow (mxi (rI Sc 38 p) (rI Sc 38 q))) ?_ (by rw [ile]; exact onb_nn _) ?_
      · rw [e1]
        unfold f_X4_findBitwise
        rw [if_neg (by decide), if_pos (ga.mpr pa), if_pos (gb.mpr pb), ca, cb]
        rfl
      · rw [e2]
        unfold logF
        rw [if_pos ⟨(z64 _).mpr pa, (z64 _).mpr pb⟩, if_neg (by decide), onb_j, mx64]
        rfl
    · obtain ⟨s1, s2⟩ := log_3 (la := rI Sc 37 p) (ha := rI Sc 38 p) (lb := rI Sc 37 q) (hb := rI Sc 38 q) (Or.inr (Int32.not_le.mp pb))
      refine ST.f ((f_X4_onesNotBelow (mxi (mni (rI Sc 37 p) (rI Sc 37 q) ^^^ -1) (mxi (rI Sc 38 p) (rI Sc 38 q)))) ^^^ -1) (f_X4_onesNotBelow (mxi (mni (rI Sc 37 p) (rI Sc 37 q) ^^^ -1) (mxi (rI Sc 38 p) (rI Sc 38 q)))) ?_ (by rw [ile, not_i]; have := onb_nn (mxi (mni (rI Sc 37 p) (rI Sc 37 q) ^^^ -1) (mxi (rI Sc 38 p) (rI Sc 38 q))); omega) ?_
      · rw [e1]
        unfold f_X4_findBitwise
        rw [if_neg (by decide), if_pos (ga.mpr pa), if_neg (fun w => pb (gb.mp w)), ca, cb]
      · rw [e2]
        unfold logF
        rw [if_neg (fun w => pb ((z64 _).mp w.2)), if_neg (fun w => absurd w.1 (by decide)), s2, s1]
  · obtain ⟨s1, s2⟩ := log_3 (la := rI Sc 37 p) (ha := rI Sc 38 p) (lb := rI Sc 37 q) (hb := rI Sc 38 q) (Or.inl (Int32.not_le.mp pa))
    refine ST.f ((f_X4_onesNotBelow (mxi (mni (rI Sc 37 p) (rI Sc 37 q) ^^^ -1) (mxi (rI Sc 38 p) (rI Sc 38 q)))) ^^^ -1) (f_X4_onesNotBelow (mxi (mni (rI Sc 37 p) (rI Sc 37 q) ^^^ -1) (mxi (rI Sc 38 p) (rI Sc 38 q)))) ?_ (by rw [ile, not_i]; have := onb_nn (mxi (mni (rI Sc 37 p) (rI Sc 37 q) ^^^ -1) (mxi (rI Sc 38 p) (rI Sc 38 q))); omega) ?_
    · rw [e1]
      unfold f_X4_findBitwise
      rw [if_neg (by decide), if_neg (fun w => pa (ga.mp w)), ca, cb]
    · rw [e2]
      unfold logF
      rw [if_neg (fun w => pa ((z64 _).mp w.1)), if_neg (fun w => absurd w.1 (by decide)), s2, s1]
theorem st_8 (hj : j < 24) (hs : CS Sc Sr j) (hok : okI Sc n j) (hcb : cB Sc j) (hR : ∀ i, i < j → RR Sc Sr i) (h : rI Sc 2 j = 8) : ST Sc Sr j := by
  have hk : rI Sr 116 j = 8 := hs.1.trans h
  obtain ⟨p, hp, ea⟩ := opA hok hj (by rw [h]; decide)
  obtain ⟨q, hq, eb⟩ := opB hok hj (by rw [h]; decide) (by rw [h]; decide) (by rw [h]; decide)
  obtain ⟨A1, A2, A3⟩ := hR p hp
  have ca := nI_c (n := p) (by omega)
  obtain ⟨B1, B2, B3⟩ := hR q hq
  have cb := nI_c (n := q) (by omega)
  have ga := sg_0 (S := Sc) (p := p) (by omega)
  have gb := sg_0 (S := Sc) (p := q) (by omega)
  have e1 : f_X4_findOne Sc j = f_X4_findBitwise Sc (nI j) 8 (nI p) (nI q) := by
    unfold f_X4_findOne
    rw [if_neg (by rw [h]; decide : ¬ rI Sc 2 j = 3), if_neg (by rw [h]; decide : ¬ rI Sc 2 j = 4), if_neg (by rw [h]; decide : ¬ rI Sc 2 j = 5), if_neg (by rw [h]; decide : ¬ rI Sc 2 j = 6), if_neg (by rw [h]; decide : ¬ rI Sc 2 j = 7), if_pos h, ea, eb, h]
  have e2 : frF Sr j = logF Sr 8 (rI Sc 37 p).toInt64 (rI Sc 38 p).toInt64 (rI Sc 37 q).toInt64 (rI Sc 38 q).toInt64 := by
    unfold frF
    rw [hk, hs.2.1, hs.2.2.1, ea, eb, ca, cb, ← A1, ← A2, ← B1, ← B2]
    rfl
  have A0 := A3
  have B0 := B3
  rw [ile] at A0 B0
  have z0 : (0 : Int32).toInt = 0 := rfl
  by_cases pa : 0 ≤ rI Sc 37 p
  · have pa2 := pa
    rw [ile] at pa2
    by_cases pb : 0 ≤ rI Sc 37 q
    · have pb2 := pb
      rw [ile] at pb2
      refine ST.f 0 (f_X4_onesNotBelow (mxi (rI Sc 38 p) (rI Sc 38 q))) ?_ (by rw [ile]; exact onb_nn _) ?_
      · rw [e1]
        unfold f_X4_findBitwise
        rw [if_neg (by decide), if_pos (ga.mpr pa), if_pos (gb.mpr pb), ca, cb]
        rfl
      · rw [e2]
        unfold logF
        rw [if_pos ⟨(z64 _).mpr pa, (z64 _).mpr pb⟩, if_neg (by decide), onb_j, mx64]
        rfl
    · obtain ⟨s1, s2⟩ := log_3 (la := rI Sc 37 p) (ha := rI Sc 38 p) (lb := rI Sc 37 q) (hb := rI Sc 38 q) (Or.inr (Int32.not_le.mp pb))
      refine ST.f ((f_X4_onesNotBelow (mxi (mni (rI Sc 37 p) (rI Sc 37 q) ^^^ -1) (mxi (rI Sc 38 p) (rI Sc 38 q)))) ^^^ -1) (f_X4_onesNotBelow (mxi (mni (rI Sc 37 p) (rI Sc 37 q) ^^^ -1) (mxi (rI Sc 38 p) (rI Sc 38 q)))) ?_ (by rw [ile, not_i]; have := onb_nn (mxi (mni (rI Sc 37 p) (rI Sc 37 q) ^^^ -1) (mxi (rI Sc 38 p) (rI Sc 38 q))); omega) ?_
      · rw [e1]
        unfold f_X4_findBitwise
        rw [if_neg (by decide), if_pos (ga.mpr pa), if_neg (fun w => pb (gb.mp w)), ca, cb]
      · rw [e2]
        unfold logF
        rw [if_neg (fun w => pb ((z64 _).mp w.2)), if_neg (fun w => absurd w.1 (by decide)), s2, s1]
  · obtain ⟨s1, s2⟩ := log_3 (la := rI Sc 37 p) (ha := rI Sc 38 p) (lb := rI Sc 37 q) (hb := rI Sc 38 q) (Or.inl (Int32.not_le.mp pa))
    refine ST.f ((f_X4_onesNotBelow (mxi (mni (rI Sc 37 p) (rI Sc 37 q) ^^^ -1) (mxi (rI Sc 38 p) (rI Sc 38 q)))) ^^^ -1) (f_X4_onesNotBelow (mxi (mni (rI Sc 37 p) (rI Sc 37 q) ^^^ -1) (mxi (rI Sc 38 p) (rI Sc 38 q)))) ?_ (by rw [ile, not_i]; have := onb_nn (mxi (mni (rI Sc 37 p) (rI Sc 37 q) ^^^ -1) (mxi (rI Sc 38 p) (rI Sc 38 q))); omega) ?_
    · rw [e1]
      unfold f_X4_findBitwise
      rw [if_neg (by decide), if_neg (fun w => pa (ga.mp w)), ca, cb]
    · rw [e2]
      unfold logF
      rw [if_neg (fun w => pa ((z64 _).mp w.1)), if_neg (fun w => absurd w.1 (by decide)), s2, s1]
theorem st_9 (hj : j < 24) (hs : CS Sc Sr j) (hok : okI Sc n j) (hcb : cB Sc j) (hR : ∀ i, i < j → RR Sc Sr i) (h : rI Sc 2 j = 9) : ST Sc Sr j := by
  have hk : rI Sr 116 j = 9 := hs.1.trans h
  obtain ⟨p, hp, ea⟩ := opA hok hj (by rw [h]; decide)
  obtain ⟨A1, A2, A3⟩ := hR p hp
  have ca := nI_c (n := p) (by omega)
  obtain ⟨b, hb, eb⟩ := hcb.2 (Or.inl h)
  refine ST.w _ _ ?_ (sh_mono hb A3) ?_
  · unfold f_X4_findOne
    rw [if_neg (by rw [h]; decide : ¬ rI Sc 2 j = 3), if_neg (by rw [h]; decide : ¬ rI Sc 2 j = 4), if_neg (by rw [h]; decide : ¬ rI Sc 2 j = 5), if_neg (by rw [h]; decide : ¬ rI Sc 2 j = 6), if_neg (by rw [h]; decide : ¬ rI Sc 2 j = 7), if_neg (by rw [h]; decide : ¬ rI Sc 2 j = 8), if_pos h, ea, eb, ca]
  · unfold frF
    rw [hk, hs.2.1, hs.2.2.1, ea, eb, ca, ← A1, ← A2]
    rfl
theorem st_10 (hj : j < 24) (hs : CS Sc Sr j) (hok : okI Sc n j) (hcb : cB Sc j) (hR : ∀ i, i < j → RR Sc Sr i) (h : rI Sc 2 j = 10) : ST Sc Sr j := by
  have hk : rI Sr 116 j = 10 := hs.1.trans h
  obtain ⟨p, hp, ea⟩ := opA hok hj (by rw [h]; decide)
  obtain ⟨A1, A2, A3⟩ := hR p hp
  have ca := nI_c (n := p) (by omega)
  obtain ⟨b, hb, eb⟩ := hcb.2 (Or.inr h)
  refine ST.w _ _ ?_ (shr_mono hb A3) ?_
  · unfold f_X4_findOne
    rw [if_neg (by rw [h]; decide : ¬ rI Sc 2 j = 3), if_neg (by rw [h]; decide : ¬ rI Sc 2 j = 4), if_neg (by rw [h]; decide : ¬ rI Sc 2 j = 5), if_neg (by rw [h]; decide : ¬ rI Sc 2 j = 6), if_neg (by rw [h]; decide : ¬ rI Sc 2 j = 7), if_neg (by rw [h]; decide : ¬ rI Sc 2 j = 8), if_neg (by rw [h]; decide : ¬ rI Sc 2 j = 9), if_pos h, ea, eb, ca]
  · unfold frF
    rw [hk, hs.2.1, hs.2.2.1, ea, eb, ca, ← A1, ← A2, shr_64 _ hb, shr_64 _ hb]
    rfl
theorem st_11 (hj : j < 24) (hs : CS Sc Sr j) (hok : okI Sc n j) (hcb : cB Sc j) (hR : ∀ i, i < j → RR Sc Sr i) (h : rI Sc 2 j = 11) : ST Sc Sr j := by
  have hk : rI Sr 116 j = 11 := hs.1.trans h
  obtain ⟨p, hp, ea⟩ := opA hok hj (by rw [h]; decide)
  obtain ⟨q, hq, eb⟩ := opB hok hj (by rw [h]; decide) (by rw [h]; decide) (by rw [h]; decide)
  obtain ⟨A1, A2, A3⟩ := hR p hp
  have ca := nI_c (n := p) (by omega)
  obtain ⟨B1, B2, B3⟩ := hR q hq
  have cb := nI_c (n := q) (by omega)
  have e2 : frF Sr j = fndF Sr (if (rI Sc 38 p).toInt64 < (rI Sc 37 q).toInt64 then 1 else 0) (if (rI Sc 37 p).toInt64 < (rI Sc 38 q).toInt64 then 1 else 0) := by
    unfold frF
    rw [hk, hs.2.1, hs.2.2.1, ea, eb, ca, cb, ← A1, ← A2, ← B1, ← B2]
    rfl
  have e1 : f_X4_findOne Sc j = (if rI Sc 37 q ≤ rI Sc 38 p then (if rI Sc 37 p < rI Sc 38 q then f_X4_become Sc (nI j) 0 1 else f_X4_become Sc (nI j) 0 0) else (if rI Sc 37 p < rI Sc 38 q then f_X4_become Sc (nI j) 1 1 else f_X4_become Sc (nI j) 1 0)) := by
    unfold f_X4_findOne
    rw [if_neg (by rw [h]; decide : ¬ rI Sc 2 j = 3), if_neg (by rw [h]; decide : ¬ rI Sc 2 j = 4), if_neg (by rw [h]; decide : ¬ rI Sc 2 j = 5), if_neg (by rw [h]; decide : ¬ rI Sc 2 j = 6), if_neg (by rw [h]; decide : ¬ rI Sc 2 j = 7), if_neg (by rw [h]; decide : ¬ rI Sc 2 j = 8), if_neg (by rw [h]; decide : ¬ rI Sc 2 j = 9), if_neg (by rw [h]; decide : ¬ rI Sc 2 j = 10), if_pos h, ea, eb, ca, cb]
  rw [ile] at A3 B3
  by_cases c1 : rI Sc 37 q ≤ rI Sc 38 p
  · have d1 : ¬ (rI Sc 38 p).toInt64 < (rI Sc 37 q).toInt64 := by rw [w_lt]; exact Int32.not_lt.mpr c1
    by_cases c2 : rI Sc 37 p < rI Sc 38 q
    · refine ST.f 0 1 (by rw [e1, if_pos c1, if_pos c2]; rfl) (by decide) ?_
      rw [e2, if_neg d1, if_pos (w_lt.mpr c2)]
      rfl
    · refine ST.f 0 0 (by rw [e1, if_pos c1, if_neg c2]; rfl) (by decide) ?_
      rw [e2, if_neg d1, if_neg (fun w => c2 (w_lt.mp w))]
      rfl
  · have d1 : (rI Sc 38 p).toInt64 < (rI Sc 37 q).toInt64 := w_lt.mpr (Int32.not_le.mp c1)
    have c2 : rI Sc 37 p < rI Sc 38 q := by
      rw [ile] at c1
      rw [il]
      omega
    refine ST.f 1 1 (by rw [e1, if_neg c1, if_pos c2]; rfl) (by decide) ?_
    rw [e2, if_pos d1, if_pos (w_lt.mpr c2)]
    rfl
theorem st_12 (hj : j < 24) (hs : CS Sc Sr j) (hok : okI Sc n j) (hcb : cB Sc j) (hR : ∀ i, i < j → RR Sc Sr i) (h : rI Sc 2 j = 12) : ST Sc Sr j := by
  have hk : rI Sr 116 j = 12 := hs.1.trans h
  obtain ⟨p, hp, ea⟩ := opA hok hj (by rw [h]; decide)
  obtain ⟨q, hq, eb⟩ := opB hok hj (by rw [h]; decide) (by rw [h]; decide) (by rw [h]; decide)
  obtain ⟨w, hw, ec⟩ := opC hok hj h
  obtain ⟨A1, A2, A3⟩ := hR p hp
  have ca := nI_c (n := p) (by omega)
  obtain ⟨B1, B2, B3⟩ := hR q hq
  have cb := nI_c (n := q) (by omega)
  obtain ⟨C1, C2, C3⟩ := hR w hw
  have cc := nI_c (n := w) (by omega)
  have e2 : frF Sr j = choF Sr (rI Sc 37 p).toInt64 (rI Sc 38 p).toInt64 (rI Sc 37 q).toInt64 (rI Sc 38 q).toInt64 (rI Sc 37 w).toInt64 (rI Sc 38 w).toInt64 := by
    unfold frF
    rw [hk, hs.2.1, hs.2.2.1, hs.2.2.2.1, ea, eb, ec, ca, cb, cc, ← A1, ← A2, ← B1, ← B2, ← C1, ← C2]
    rfl
  have e1 : f_X4_findOne Sc j = f_X4_findChoice Sc (nI j) (nI p) (nI q) (nI w) := by
    unfold f_X4_findOne
    rw [if_neg (by rw [h]; decide : ¬ rI Sc 2 j = 3), if_neg (by rw [h]; decide : ¬ rI Sc 2 j = 4), if_neg (by rw [h]; decide : ¬ rI Sc 2 j = 5), if_neg (by rw [h]; decide : ¬ rI Sc 2 j = 6), if_neg (by rw [h]; decide : ¬ rI Sc 2 j = 7), if_neg (by rw [h]; decide : ¬ rI Sc 2 j = 8), if_neg (by rw [h]; decide : ¬ rI Sc 2 j = 9), if_neg (by rw [h]; decide : ¬ rI Sc 2 j = 10), if_neg (by rw [h]; decide : ¬ rI Sc 2 j = 11), if_pos h, ea, eb, ec]
  have z1 : (0 : Int64) = (0 : Int32).toInt64 := rfl
  unfold f_X4_findChoice at e1
  unfold choF at e2
  rw [ca, cb, cc] at e1
  rw [z1] at e2
  simp only [w_lt, w_eq] at e2
  have B4 := B3
  have C4 := C3
  rw [ile] at B4 C4
  by_cases c1 : 0 < rI Sc 37 p
  · exact ST.f _ _ (by rw [e1, if_pos c1]) B3 (by rw [e2, if_pos (Or.inl c1)])
  · rw [if_neg c1] at e1
    by_cases c2 : 0 ≤ rI Sc 38 p
    · rw [if_pos c2] at e1
      have d : ¬ (0 < rI Sc 37 p ∨ rI Sc 38 p < 0) := fun u => u.elim c1 (fun z => absurd z (Int32.not_lt.mpr c2))
      rw [if_neg d] at e2
      by_cases c3 : rI Sc 37 p = 0
      · rw [if_pos c3] at e1
        by_cases c4 : rI Sc 38 p = 0
        · rw [if_pos c4] at e1
          rw [if_pos ⟨c3, c4⟩] at e2
          exact ST.f _ _ e1 C3 e2
        · rw [if_neg c4] at e1
          rw [if_neg (fun u => c4 u.2), ← mn64, ← mx64] at e2
          exact ST.f _ _ e1 (by rw [ile, mni_i, mxi_i]; omega) e2
      · rw [if_neg c3] at e1
        rw [if_neg (fun u => c3 u.1), ← mn64, ← mx64] at e2
        exact ST.f _ _ e1 (by rw [ile, mni_i, mxi_i]; omega) e2
    · rw [if_neg c2] at e1
      exact ST.f _ _ e1 B3 (by rw [e2, if_pos (Or.inr (Int32.not_le.mp c2))])
theorem st_all (hj : j < 24) (hs : CS Sc Sr j) (hok : okI Sc n j) (hcb : cB Sc j) (hR : ∀ i, i < j → RR Sc Sr i) (h3 : 3 ≤ rI Sc 2 j) : ST Sc Sr j := by
  rcases kd_all hok.1.1 hok.1.2 with h | h | h | h | h | h | h | h | h | h | h | h | h
  · rw [h] at h3; exact absurd h3 (by decide)
  · rw [h] at h3; exact absurd h3 (by decide)
  · rw [h] at h3; exact absurd h3 (by decide)
  · exact st_3 hj hs hok hcb hR h
  · exact st_4 hj hs hok hcb hR h
  · exact st_5 hj hs hok hcb hR h
  · exact st_6 hj hs hok hcb hR h
  · exact st_7 hj hs hok hcb hR h
  · exact st_8 hj hs hok hcb hR h
  · exact st_9 hj hs hok hcb hR h
  · exact st_10 hj hs hok hcb hR h
  · exact st_11 hj hs hok hcb hR h
  · exact st_12 hj hs hok hcb hR h
end STEP
