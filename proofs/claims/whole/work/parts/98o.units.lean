theorem ph_k : ∀ k, k < 4 → ((1 : Int32) <<< (nI k &&& 31)).toBitVec = BitVec.twoPow 32 k := by decide +kernel
theorem ph_s {x : Int32} {k : Nat} (hk : k < 4) : x &&& (1 <<< (nI k &&& 31)) = 0 ↔ x >>> (nI k &&& 31) &&& 1 = 0 := by
  have e1 : x &&& (1 <<< (nI k &&& 31)) = 0 ↔ x.toBitVec &&& ((1 : Int32) <<< (nI k &&& 31)).toBitVec = 0#32 := ⟨fun z => congrArg Int32.toBitVec z, fun z => Int32.toBitVec_inj.mp z⟩
  have e2 : x >>> (nI k &&& 31) &&& 1 = 0 ↔ x.toBitVec.sshiftRight' ((nI k &&& 31).toBitVec.smod 32#32) &&& 1#32 = 0#32 := ⟨fun z => congrArg Int32.toBitVec z, fun z => Int32.toBitVec_inj.mp z⟩
  rw [e1, e2, ph_k k hk, shc k (by omega), BitVec.and_twoPow, BitVec.and_one_eq_setWidth_ofBool_getLsbD, BitVec.getLsbD_sshiftRight', BitVec.toNat_ofNat, Nat.mod_eq_of_lt (by omega), if_pos (show k + 0 < 32 by omega), Nat.add_zero]
  have hk2 : k = 0 ∨ k = 1 ∨ k = 2 ∨ k = 3 := by omega
  cases x.toBitVec.getLsbD k
  · simp
  · rcases hk2 with q | q | q | q <;> subst q <;> decide
theorem co_eq {k w : Int32} (h : k ≠ 11) : f_X8_costFor k w = cbF k w := by
  unfold f_X8_costFor cbF
  by_cases h2 : k = 2
  · rw [if_pos h2, if_pos h2]
  rw [if_neg h2, if_neg h2]
  by_cases h5 : k = 5
  · subst h5; rfl
  rw [if_neg h5]
  by_cases h12 : k = 12
  · subst h12; rfl
  rw [if_neg h12]
  by_cases h3 : k = 3
  · subst h3; rfl
  by_cases h4 : k = 4
  · subst h4; rfl
  by_cases h6 : k = 6
  · subst h6; rfl
  by_cases h7 : k = 7
  · subst h7; rfl
  by_cases h8 : k = 8
  · subst h8; rfl
  rw [if_neg h3, if_neg h4, if_neg h5, if_neg h6, if_neg h7, if_neg h8]
  have hr : ¬ (¬ k < 3 ∧ ¬ 8 < k) := by
    rintro ⟨z1, z2⟩
    rw [il] at z1 z2
    have e3 : (3 : Int32).toInt = 3 := rfl
    have e8 : (8 : Int32).toInt = 8 := rfl
    have hz : k.toInt = 3 ∨ k.toInt = 4 ∨ k.toInt = 5 ∨ k.toInt = 6 ∨ k.toInt = 7 ∨ k.toInt = 8 := by omega
    rcases hz with q | q | q | q | q | q
    · exact h3 (Int32.toInt_inj.mp (q.trans (show (3 : Int) = (3 : Int32).toInt from rfl)))
    · exact h4 (Int32.toInt_inj.mp (q.trans (show (4 : Int) = (4 : Int32).toInt from rfl)))
    · exact h5 (Int32.toInt_inj.mp (q.trans (show (5 : Int) = (5 : Int32).toInt from rfl)))
    · exact h6 (Int32.toInt_inj.mp (q.trans (show (6 : Int) = (6 : Int32).toInt from rfl)))
    · exact h7 (Int32.toInt_inj.mp (q.trans (show (7 : Int) = (7 : Int32).toInt from rfl)))
    · exact h8 (Int32.toInt_inj.mp (q.trans (show (8 : Int) = (8 : Int32).toInt from rfl)))
  rw [if_neg hr]
  split
  · rfl
  split
  · rfl
  rfl
/-- units alike -/
def UQ (Sc Sr : gS) (m : Nat) : Prop := rI Sc 44 0 = nI m ∧ rI Sr 115 26 = nI m ∧ ∀ u, u < m → rI Sc 45 u = rI Sr 129 u ∧ rI Sc 46 u = rI Sr 130 u ∧ rI Sc 47 u = rI Sr 131 u ∧ rI Sc 48 u = rI Sr 132 u ∧ rI Sc 49 u = rI Sr 133 u ∧ rI Sr 129 u ≠ 11
theorem gw_eq (S : gS) (u j : Nat) (w : Int32) (hw : w = woF S j) : mxi (rI S 130 u) w = gwF S u j := by
  unfold mxi gwF
  rw [hw]
  by_cases h : woF S j ≤ rI S 130 u
  · rw [if_pos h, if_neg (fun z => by rw [il] at z; rw [ile] at h; omega)]
  · rw [if_neg h, if_pos (by rw [il]; rw [ile] at h; omega)]
theorem gr_eq {Sc Sr : gS} {m u j : Nat} (h : UQ Sc Sr m) (hm : m ≤ 24) (hu : u < m) {w : Int32} (hw : w = woF Sr j) : f_X6_costWith Sc (nI u) (mxi (rI Sc 46 u) w) (rI Sc 47 u + 1) - f_X6_costWith Sc (nI u) (rI Sc 46 u) (rI Sc 47 u) = grF Sr u j := by
  obtain ⟨g1, g2, g3, g4, g5, g6⟩ := h.2.2 u hu
  unfold f_X6_costWith grF ucF
  rw [nI_c (by omega), g1, g2, g3, co_eq g6, co_eq g6, gw_eq Sr u j w hw]
theorem cheap_s {Sc Sr : gS} {m j k : Nat} (h : UQ Sc Sr m) (hm : m ≤ 24) {kd w : Int32} (hw : w = woF Sr j) (hkd : kd = rI Sr 116 j) (hk : k < 4) (hp : rI Sr 122 j = nI k) (c0 : Int32) : ∀ i, i ≤ m → (∃ t, t < i ∧ bsN Sr j i = nI t ∧ grF Sr t j < c0 ∧ itr (bd_uChp Sc kd (1 <<< (nI k &&& 31)) w) i ((-1), c0) = (nI t, grF Sr t j)) ∨ ((bsN Sr j i = -1 ∨ ∃ t, t < i ∧ bsN Sr j i = nI t ∧ ¬ grF Sr t j < c0) ∧ itr (bd_uChp Sc kd (1 <<< (nI k &&& 31)) w) i ((-1), c0) = (-1, c0)) := by
  intro i
  induction i with
  | zero => intro _; exact Or.inr ⟨Or.inl rfl, rfl⟩
  | succ i ih =>
    intro hi
    have ih := ih (by omega)
    obtain ⟨g1, g2, g3, g4, g5, g6⟩ := h.2.2 i (by omega)
    rw [bsN_s, show itr (bd_uChp Sc kd (1 <<< (nI k &&& 31)) w) (i + 1) ((-1), c0) = bd_uChp Sc kd (1 <<< (nI k &&& 31)) w i (itr (bd_uChp Sc kd (1 <<< (nI k &&& 31)) w) i ((-1), c0)) from rfl]
    revert ih
    generalize itr (bd_uChp Sc kd (1 <<< (nI k &&& 31)) w) i ((-1), c0) = p
    generalize bsN Sr j i = v
    intro ih
    unfold bs1 bd_uChp
    rw [gr_eq h hm (show i < m by omega) hw, g1, ← hkd, hp, g5]
    by_cases c1 : rI Sr 129 i = kd
    · rw [if_pos c1]
      by_cases c2 : rI Sr 133 i &&& (1 <<< (nI k &&& 31)) = 0
      · rw [if_pos c2]
        have c2' := (ph_s hk).mp c2
        rcases ih with ⟨t, t1, t2, t3, t4⟩ | ⟨hv, t4⟩
        · rw [t4, t2]
          have hnn : ¬ nI t < 0 := by rw [il, nI_toInt (by omega)]; show ¬ ((t : Int) < 0); omega
          by_cases c3 : grF Sr t j ≤ grF Sr i j
          · rw [if_pos c3, if_neg (fun z => z.2.2.elim hnn (fun z => z (by rw [nI_c (by omega)]; exact c3)))]
            exact Or.inl ⟨t, by omega, rfl, t3, rfl⟩
          · rw [if_neg c3, if_pos ⟨c1, c2', Or.inr (by rw [nI_c (by omega)]; exact c3)⟩]
            refine Or.inl ⟨i, by omega, rfl, ?_, rfl⟩
            rw [ile] at c3
            rw [il] at t3 ⊢
            omega
        · rw [t4]
          by_cases c3 : c0 ≤ grF Sr i j
          · rw [if_pos c3]
            have hng : ¬ grF Sr i j < c0 := by rw [il]; rw [ile] at c3; omega
            refine Or.inr ⟨?_, rfl⟩
            split
            · exact Or.inr ⟨i, by omega, rfl, hng⟩
            · rcases hv with hv | ⟨t, t1, t2, t3⟩
              · exact Or.inl hv
              · exact Or.inr ⟨t, by omega, t2, t3⟩
          · have hlt : grF Sr i j < c0 := by rw [il]; rw [ile] at c3; omega
            rw [if_neg c3, if_pos]
            · exact Or.inl ⟨i, by omega, rfl, hlt, rfl⟩
            · refine ⟨c1, c2', ?_⟩
              rcases hv with hv | ⟨t, t1, t2, t3⟩
              · exact Or.inl (by rw [hv]; decide)
              · refine Or.inr ?_
                rw [t2, nI_c (by omega), ile]
                rw [il] at t3 hlt
                omega
      · rw [if_neg c2, if_neg (fun z => c2 ((ph_s hk).mpr z.2.1))]
        rcases ih with ⟨t, t1, t2, t3, t4⟩ | ⟨hv, t4⟩
        · exact Or.inl ⟨t, by omega, t2, t3, t4⟩
        · refine Or.inr ⟨?_, t4⟩
          rcases hv with hv | ⟨t, t1, t2, t3⟩
          · exact Or.inl hv
          · exact Or.inr ⟨t, by omega, t2, t3⟩
    · rw [if_neg c1, if_neg (fun z => c1 z.1)]
      rcases ih with ⟨t, t1, t2, t3, t4⟩ | ⟨hv, t4⟩
      · exact Or.inl ⟨t, by omega, t2, t3, t4⟩
      · refine Or.inr ⟨?_, t4⟩
        rcases hv with hv | ⟨t, t1, t2, t3⟩
        · exact Or.inl hv
        · exact Or.inr ⟨t, by omega, t2, t3⟩

/-- one signal finds its unit -/
theorem place_s {Sc Sr : gS} {n m j : Nat} (hn : n ≤ 24) (hj : j < n) (hC : CS Sc Sr j) (h : UQ Sc Sr m) (hm : m ≤ j) (h42 : rI Sc 42 j = woF Sr j) (hp : ∃ k, k < 4 ∧ rI Sc 8 j = nI k) (hpe : rI Sr 122 j = rI Sc 8 j) : ∃ m', m' ≤ j + 1 ∧ UQ (bd_uasg j Sc) (un1 j Sr) m' ∧ rI (bd_uasg j Sc) 50 j = rI (un1 j Sr) 134 j ∧ (∀ a c, ¬ (a = 44 ∧ c = 0) → ¬ (45 ≤ a ∧ a ≤ 49) → ¬ (a = 50 ∧ c = j) → rI (bd_uasg j Sc) a c = rI Sc a c) ∧ (∀ a c, ¬ (a = 115 ∧ c = 26) → ¬ (129 ≤ a ∧ a ≤ 133) → ¬ (a = 134 ∧ c = j) → rI (un1 j Sr) a c = rI Sr a c) := by
  obtain ⟨k, hk, hp⟩ := hp
  unfold un1
  have hUR : UQ Sc (wI Sr 134 j (-1)) m := ⟨h.1, (rI_wIk (by decide) _ _ _).trans h.2.1, fun u hu => by rw [rI_wIk (by decide), rI_wIk (by decide), rI_wIk (by decide), rI_wIk (by decide), rI_wIk (by decide)]; exact h.2.2 u hu⟩
  have hwo : woF (wI Sr 134 j (-1)) j = woF Sr j := by unfold woF; rw [rI_wIk (by decide)]
  have h116 : rI (wI Sr 134 j (-1)) 116 j = rI Sc 2 j := (rI_wIk (by decide) _ _ _).trans hC.1
  have h122 : rI (wI Sr 134 j (-1)) 122 j = nI k := (rI_wIk (by decide) _ _ _).trans (hpe.trans hp)
  have h134 : rI (wI Sr 134 j (-1)) 134 j = -1 := rI_same _ _ _ _
  have hfr : ∀ a c, ¬ (a = 115 ∧ c = 26) → ¬ (129 ≤ a ∧ a ≤ 133) → ¬ (a = 134 ∧ c = j) → rI (wI Sr 134 j (-1)) a c = rI Sr a c := fun a c _ _ h3 => rI_wIc h3 _ _
  rw [← hwo] at h42
  revert hUR h116 h122 h134 hfr h42
  clear hwo h
  generalize wI Sr 134 j (-1) = R
  intro h42 hUR h116 h122 h134 hfr
  unfold un2 bd_uasg
  have hP : unP R j ↔ (rI Sc 2 j < 3 ∨ 5 < rI Sc 2 j ∨ rI Sc 42 j = 0) := by unfold unP; rw [h116, ← h42]
  by_cases c1 : rI Sc 2 j < 3
  · rw [if_pos c1, if_pos (hP.mpr (Or.inl c1))]
    exact ⟨m, by omega, ⟨(rI_wIk (by decide) _ _ _).trans hUR.1, hUR.2.1, fun u hu => by rw [rI_wIk (by decide), rI_wIk (by decide), rI_wIk (by decide), rI_wIk (by decide), rI_wIk (by decide)]; exact hUR.2.2 u hu⟩, (rI_same _ _ _ _).trans h134.symm, fun a c _ _ h3 => rI_wIc h3 _ _, hfr⟩
  rw [if_neg c1]
  by_cases c2 : 5 < rI Sc 2 j
  · rw [if_pos c2, if_pos (hP.mpr (Or.inr (Or.inl c2)))]
    exact ⟨m, by omega, ⟨(rI_wIk (by decide) _ _ _).trans hUR.1, hUR.2.1, fun u hu => by rw [rI_wIk (by decide), rI_wIk (by decide), rI_wIk (by decide), rI_wIk (by decide), rI_wIk (by decide)]; exact hUR.2.2 u hu⟩, (rI_same _ _ _ _).trans h134.symm, fun a c _ _ h3 => rI_wIc h3 _ _, hfr⟩
  rw [if_neg c2]
  by_cases c3 : rI Sc 42 j = 0
  · rw [if_pos c3, if_pos (hP.mpr (Or.inr (Or.inr c3)))]
    exact ⟨m, by omega, ⟨(rI_wIk (by decide) _ _ _).trans hUR.1, hUR.2.1, fun u hu => by rw [rI_wIk (by decide), rI_wIk (by decide), rI_wIk (by decide), rI_wIk (by decide), rI_wIk (by decide)]; exact hUR.2.2 u hu⟩, (rI_same _ _ _ _).trans h134.symm, fun a c _ _ h3 => rI_wIc h3 _ _, hfr⟩
  rw [if_neg c3, if_neg (fun z => (hP.mp z).elim c1 (fun z => z.elim c2 c3))]
  have hk11 : rI Sc 2 j ≠ 11 := fun z => c2 (by rw [z]; decide)
  have hco : coF R j = f_X8_costFor (rI Sc 2 j) (rI Sc 42 j) := by
    unfold coF
    rw [h116, if_neg hk11, co_eq hk11, h42]
  have hch := cheap_s hUR (by omega) h42 h116.symm hk h122 (f_X8_costFor (rI Sc 2 j) (rI Sc 42 j)) m (Nat.le_refl m)
  have hcc : f_X6_cheapest Sc (rI Sc 2 j) (1 <<< (rI Sc 8 j &&& 31)) (rI Sc 42 j) = (itr (bd_uChp Sc (rI Sc 2 j) (1 <<< (nI k &&& 31)) (rI Sc 42 j)) m ((-1), f_X8_costFor (rI Sc 2 j) (rI Sc 42 j))).1 := by
    unfold f_X6_cheapest
    rw [hUR.1, nI_c (by omega), hp]
  have hB : unB R j = bsN R j m := by
    unfold unB
    rw [hUR.2.1, nI_c (by omega)]
  unfold f_X6_place
  rw [hcc]
  rcases hch with ⟨t, t1, t2, t3, t4⟩ | ⟨hv, t4⟩
  · have hnn : ¬ nI t < 0 := by rw [il, nI_toInt (by omega)]; show ¬ ((t : Int) < 0); omega
    have hn1 : ¬ nI t = -1 := fun z => by rw [z] at hnn; exact hnn (by decide)
    have hW : ¬ unW R j := by
      unfold unW
      rw [hB, t2, hco, nI_c (by omega)]
      exact fun z => z.elim hnn (fun z => z t3)
    rw [t4, if_neg hn1, if_neg hW, hB, t2, nI_c (by omega), hp]
    obtain ⟨g1, g2, g3, g4, g5, g6⟩ := hUR.2.2 t t1
    unfold jnF
    rw [h122, g2, g3, g5, gw_eq R t j _ h42]
    refine ⟨m, by omega, ⟨?_, ?_, ?_⟩, ?_, ?_, ?_⟩
    · rw [rI_wIk (by decide), rI_wIk (by decide), rI_wIk (by decide), rI_wIk (by decide)]; exact hUR.1
    · rw [rI_wIk (by decide), rI_wIk (by decide), rI_wIk (by decide), rI_wIk (by decide)]; exact hUR.2.1
    · intro u hu
      obtain ⟨q1, q2, q3, q4, q5, q6⟩ := hUR.2.2 u hu
      have e1 : ∀ a x y z w v : Int32, True := fun _ _ _ _ _ _ => trivial
      simp only [rI_wI]
      by_cases e : u = t
      · subst e; simp [q1, q4, q6]
      · simp [e, q1, q2, q3, q4, q5, q6]
    · rw [rI_same, rI_same]
    · intro a c h1 h2 h3
      rw [rI_wIc h3, rI_wIc (by omega), rI_wIc (by omega), rI_wIc (by omega)]
    · intro a c h1 h2 h3
      rw [rI_wIc h3, rI_wIc (by omega), rI_wIc (by omega), rI_wIc (by omega)]
      exact hfr a c h1 h2 h3
  · have hW : unW R j := by
      unfold unW
      rw [hB, hco]
      rcases hv with hv | ⟨t, t1, t2, t3⟩
      · exact Or.inl (by rw [hv]; decide)
      · exact Or.inr (by rw [t2, nI_c (by omega)]; exact t3)
    rw [t4, if_pos rfl, if_pos hW, hUR.1, hUR.2.1, nI_c (by omega), hp]
    have hgw : gwF (unN R j) m j = rI Sc 42 j ∨ True := Or.inr trivial
    have u130 : rI (unN R j) 130 m = 0 := by unfold unN; rw [hUR.2.1, nI_c (by omega), rI_wIk (by decide), rI_wIk (by decide), rI_wIk (by decide), rI_wIk (by decide), rI_same]
    have u131 : rI (unN R j) 131 m = 0 := by unfold unN; rw [hUR.2.1, nI_c (by omega), rI_wIk (by decide), rI_wIk (by decide), rI_wIk (by decide), rI_same]
    have u133 : rI (unN R j) 133 m = 0 := by unfold unN; rw [hUR.2.1, nI_c (by omega), rI_wIk (by decide), rI_same]
    have u122 : rI (unN R j) 122 j = nI k := (rI_unN _ _ _ _ (by decide) (by omega)).trans h122
    have uwo : woF (unN R j) j = rI Sc 42 j := by
      rw [h42]
      unfold woF
      rw [rI_unN _ _ _ _ (by decide) (by omega)]
    have ugw : gwF (unN R j) m j = mxi 0 (rI Sc 42 j) := by
      rw [← gw_eq (unN R j) m j (rI Sc 42 j) uwo.symm, u130]
    unfold jnF
    rw [ugw, u131, u133, u122]
    unfold unN
    rw [hUR.2.1, nI_c (by omega), nI_1, h116]
    refine ⟨m + 1, by omega, ⟨?_, ?_, ?_⟩, ?_, ?_, ?_⟩
    · simp [rI_wI]
    · simp [rI_wI]
    · intro u hu
      by_cases e : u = m
      · subst e
        simp [rI_wI, hk11]
      · obtain ⟨q1, q2, q3, q4, q5, q6⟩ := hUR.2.2 u (by omega)
        simp [rI_wI, e, q1, q2, q3, q4, q5, q6]
    · rw [rI_same, rI_same]
    · intro a c h1 h2 h3
      rw [rI_wIc h3, rI_wIc (by omega), rI_wIc (by omega), rI_wIc (by omega), rI_wIc (by omega), rI_wIc (by omega), rI_wIc (by omega), rI_wIc (by omega), rI_wIc (by omega), rI_wIc (by omega)]
    · intro a c h1 h2 h3
      rw [rI_wIc h3, rI_wIc (by omega), rI_wIc (by omega), rI_wIc (by omega), rI_wIc (by omega), rI_wIc (by omega), rI_wIc (by omega), rI_wIc (by omega), rI_wIc (by omega), rI_wIc (by omega)]
      exact hfr a c h1 h2 h3
/-- THE UNITS, class and reference -/
theorem units {Sc Sr : gS} {n : Nat} (hC : CI Sc Sr n) (h42 : ∀ i, i < n → rI Sc 42 i = woF Sr i) (hp : ∀ i, i < n → ∃ k, k < 4 ∧ rI Sc 8 i = nI k) (hpe : ∀ i, i < n → rI Sr 122 i = rI Sc 8 i) : ∀ k, k ≤ n → ∃ m, m ≤ k ∧ UQ (itr bd_uasg k (wI Sc 44 0 0)) (unF Sr k) m ∧ (∀ i, i < k → rI (itr bd_uasg k (wI Sc 44 0 0)) 50 i = rI (unF Sr k) 134 i) ∧ ∀ a c, ¬ (44 ≤ a ∧ a ≤ 50) → rI (itr bd_uasg k (wI Sc 44 0 0)) a c = rI Sc a c := by
  have hn := hC.1.2.1
  intro k
  induction k with
  | zero => exact fun _ => ⟨0, Nat.le_refl _, ⟨rI_same _ _ _ _, rI_same _ _ _ _, fun u hu => absurd hu (Nat.not_lt_zero u)⟩, fun i hi => absurd hi (Nat.not_lt_zero i), fun a c h => rI_wIc (by omega) _ _⟩
  | succ k ih =>
    intro hk
    obtain ⟨m, m1, m2, m3, m4⟩ := ih (by omega)
    rw [show itr bd_uasg (k + 1) (wI Sc 44 0 0) = bd_uasg k (itr bd_uasg k (wI Sc 44 0 0)) from rfl, show unF Sr (k + 1) = un1 k (unF Sr k) from rfl]
    have r1 : ∀ a c, a < 129 → ¬ (a = 115 ∧ c = 26) → rI (unF Sr k) a c = rI Sr a c := fun a c z1 z2 => rI_unF _ _ _ _ (Or.inl z1) z2
    revert m2 m3 m4 r1
    generalize itr bd_uasg k (wI Sc 44 0 0) = A
    generalize unF Sr k = B
    intro m2 m3 m4 r1
    have hCS : CS A B k := by
      obtain ⟨q1, q2, q3, q4, q5, q6⟩ := (hC.2.2 k (by omega)).1
      unfold CS
      simp only [m4 2 k (by omega), m4 3 k (by omega), m4 4 k (by omega), m4 5 k (by omega), m4 6 k (by omega), m4 7 k (by omega), r1 116 k (by omega) (by omega), r1 117 k (by omega) (by omega), r1 118 k (by omega) (by omega), r1 119 k (by omega) (by omega), r1 120 k (by omega) (by omega), r1 121 k (by omega) (by omega)]
      exact ⟨q1, q2, q3, q4, q5, q6⟩
    have hwo : rI A 42 k = woF B k := by
      rw [m4 42 k (by omega), h42 k (by omega)]
      unfold woF
      rw [r1 128 k (by omega) (by omega)]
    obtain ⟨m', w1, w2, w3, w4, w5⟩ := place_s hn (by omega) hCS m2 m1 hwo (by rw [m4 8 k (by omega)]; exact hp k (by omega)) (by rw [m4 8 k (by omega), r1 122 k (by omega) (by omega)]; exact hpe k (by omega))
    refine ⟨m', w1, w2, ?_, ?_⟩
    · intro i hi
      by_cases e : i = k
      · subst e; exact w3
      · rw [w4 50 i (by omega) (by omega) (by omega), w5 134 i (by omega) (by omega) (by omega)]
        exact m3 i (by omega)
    · intro a c h
      rw [w4 a c (by omega) (by omega) (by omega)]
      exact m4 a c h
