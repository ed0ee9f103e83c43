/-- an item's cells -/
def itS (S : gS) (k : Nat) (kd x y z : Int32) : gS := wI (wI (wI (wI S k 0 kd) (k + 1) 0 x) (k + 1) 1 y) (k + 1) 2 z
theorem it_rd (S : gS) (k : Nat) (kd x y z : Int32) (a c : Nat) : rI (itS S k kd x y z) a c = if a = k + 1 ∧ c = 2 then z else if a = k + 1 ∧ c = 1 then y else if a = k + 1 ∧ c = 0 then x else if a = k ∧ c = 0 then kd else rI S a c := rfl
theorem it_ext {S T : gS} (h : ∀ a c, rI S a c = rI T a c) (e : S.2 = T.2) : S = T := by
  obtain ⟨s1, s2⟩ := S
  obtain ⟨t1, t2⟩ := T
  have e1 : s1 = t1 := funext fun a => funext fun c => h a c
  have e2 : s2 = t2 := e
  rw [e1, e2]
theorem it_0 (S : gS) (k : Nat) (kd x y z v : Int32) : wI (itS S k kd x y z) (k + 1) 0 v = itS S k kd v y z := by
  refine it_ext (fun a c => ?_) rfl
  simp only [rI_wI, it_rd]
  by_cases h : a = k + 1
  · subst h
    match c with
    | 0 => simp
    | 1 => simp
    | 2 => simp
    | n + 3 => simp
  · simp [h]
theorem it_1 (S : gS) (k : Nat) (kd x y z v : Int32) : wI (itS S k kd x y z) (k + 1) 1 v = itS S k kd x v z := by
  refine it_ext (fun a c => ?_) rfl
  simp only [rI_wI, it_rd]
  by_cases h : a = k + 1
  · subst h
    match c with
    | 0 => simp
    | 1 => simp
    | 2 => simp
    | n + 3 => simp
  · simp [h]
theorem it_2 (S : gS) (k : Nat) (kd x y z v : Int32) : wI (itS S k kd x y z) (k + 1) 2 v = itS S k kd x y v := wI_over _ _ _ _ _
theorem it_it (S : gS) (k : Nat) (kd x y z kd' x' y' z' : Int32) : itS (itS S k kd x y z) k kd' x' y' z' = itS S k kd' x' y' z' := by
  refine it_ext (fun a c => ?_) rfl
  simp only [it_rd]
  by_cases h1 : a = k + 1 ∧ c = 2
  · simp [h1]
  by_cases h2 : a = k + 1 ∧ c = 1
  · simp [h2]
  by_cases h3 : a = k + 1 ∧ c = 0
  · simp [h3]
  by_cases h4 : a = k ∧ c = 0
  · simp [h4]
  simp [h1, h2, h3, h4]
theorem it_tx {S : gS} {L k : Nat} (ht : txt S L) (hk : k ≠ 55) (hk1 : k + 1 ≠ 55) (kd x y z : Int32) : txt (itS S k kd x y z) L := by
  refine ⟨?_, ht.2⟩
  rw [it_rd]
  have h1 : ¬ 55 = k := fun q => hk q.symm
  have h2 : ¬ 55 = k + 1 := fun q => hk1 q.symm
  simp [h1, h2]
  exact ht.1
theorem it_ch (S : gS) {k : Nat} (hk : k ≠ 56) (hk1 : k + 1 ≠ 56) (kd x y z : Int32) : rI (itS S k kd x y z) 56 = rI S 56 := by
  funext c
  rw [it_rd]
  have h1 : ¬ 56 = k := fun q => hk q.symm
  have h2 : ¬ 56 = k + 1 := fun q => hk1 q.symm
  simp [h1, h2]
theorem bec_0 (S : gS) (k : Nat) (kd x : Int32) : f_X2_become S k kd x 0 0 = itS S k kd x 0 0 := by
  unfold f_X2_become
  simp only [ite_self]
  rfl
theorem cl_it {k : Nat} (hk : k ≠ 55) (hk1 : k + 1 ≠ 55) (S : gS) (a : Nat) (kd x y z : Int32) : itS (clS S a) k kd x y z = clS (itS S k kd x y z) a := by
  unfold itS
  rw [cl_w hk, cl_w hk1, cl_w hk1, cl_w hk1]
theorem take_c {S : gS} {L a : Nat} (ht : txt S L) (ha : a ≤ L) (w : Int32) : f_X5_take (clS S a) w = if pk (rI S 56) L a = w then (1, clS S (a + 1)) else (0, clS S a) := by
  unfold f_X5_take
  rw [pk_c ht ha, cl_rd, nI_p1, cl_over]
theorem sig_c {S : gS} {L a k : Nat} (ht : txt S L) (ha : a ≤ L) (hk : k + 1 ≠ 55) (i : Int32) : f_X5_parseSignal (clS S a) k i = (bi (0 < dN (rI S 56) L 2 a), clS (wI S (k + 1) i.toNatClampNeg (dV (rI S 56) L 2 a 0)) (a + dN (rI S 56) L 2 a)) := by
  unfold f_X5_parseSignal
  rw [dig2_c ht ha hk]
/-- a number: where it ends, its value -/
def nB (c : Nat → Int32) (L a : Nat) : Nat := if pk c L a = 45 then a + 1 else a
def nE (c : Nat → Int32) (L a : Nat) : Nat := nB c L a + dN c L 4 (nB c L a)
def nV (c : Nat → Int32) (L a : Nat) : Int32 := if pk c L a = 45 then -(dV c L 4 (nB c L a) 0) else dV c L 4 (nB c L a) 0
abbrev nO (c : Nat → Int32) (L a : Nat) : Prop := 0 < dN c L 4 (nB c L a)
theorem nB_le {c : Nat → Int32} {L a : Nat} (ha : a ≤ L) : nB c L a ≤ L := by
  unfold nB
  split
  · rename_i q
    exact pk_l q (by decide)
  · exact ha
theorem nE_le {c : Nat → Int32} {L a : Nat} (ha : a ≤ L) : nE c L a ≤ L := dN_le _ _ _ _ (nB_le ha)
theorem num_c {S : gS} {L a k : Nat} (ht : txt S L) (ha : a ≤ L) (hk : k + 1 ≠ 55) (i : Int32) : f_X5_parseNumber (clS S a) k i = (bi (nO (rI S 56) L a), clS (wI S (k + 1) i.toNatClampNeg (nV (rI S 56) L a)) (nE (rI S 56) L a)) := by
  unfold f_X5_parseNumber nV nE nO
  have hb := nB_le (c := rI S 56) ha
  have hb2 : (f_X5_take (clS S a) 45).2 = clS S (nB (rI S 56) L a) := by
    rw [take_c ht ha]
    unfold nB
    split <;> rfl
  rw [hb2, dig4_c ht hb hk, take_c ht ha]
  by_cases q : pk (rI S 56) L a = 45
  · rw [if_pos q, if_neg (show ¬ (1 : Int32) = 0 by decide), if_pos q]
    dsimp only
    rw [cl_fr (by omega), rI_same, cl_w hk, wI_over]
  · rw [if_neg q, if_pos rfl, if_neg q]
/-- an item: whether it is one, its end, its kind and operands -/
def pOp (c : Nat → Int32) (L a : Nat) (x : Int32) : Int32 × Nat × Int32 × Int32 × Int32 × Int32 :=
  if f_X5_kindOf (pk c L a) = -1 then (0, a, 3, x, 0, 0)
  else if 0 < dN c L 2 (a + 1) then
    (if f_X5_kindOf (pk c L a) = 12 then
      (if pk c L (a + 1 + dN c L 2 (a + 1)) = 58 then (bi (0 < dN c L 2 (a + 1 + dN c L 2 (a + 1) + 1)), a + 1 + dN c L 2 (a + 1) + 1 + dN c L 2 (a + 1 + dN c L 2 (a + 1) + 1), 12, x, dV c L 2 (a + 1) 0, dV c L 2 (a + 1 + dN c L 2 (a + 1) + 1) 0)
       else (0, a + 1 + dN c L 2 (a + 1), 12, x, dV c L 2 (a + 1) 0, 0))
     else (1, a + 1 + dN c L 2 (a + 1), f_X5_kindOf (pk c L a), x, dV c L 2 (a + 1) 0, 0))
  else (0, a + 1 + dN c L 2 (a + 1), f_X5_kindOf (pk c L a), x, dV c L 2 (a + 1) 0, 0)
def pPair (ok1 : Prop) [Decidable ok1] (a1 : Nat) (v1 : Int32) (c : Nat → Int32) (L : Nat) (f : Nat → Int32 × Nat × Int32) (kd : Int32) : Int32 × Nat × Int32 × Int32 × Int32 × Int32 :=
  if ok1 then (if pk c L a1 = 58 then ((f (a1 + 1)).1, (f (a1 + 1)).2.1, kd, v1, (f (a1 + 1)).2.2, 0) else (0, a1, kd, v1, 0, 0)) else (0, a1, kd, v1, 0, 0)
def fNum (c : Nat → Int32) (L a : Nat) : Int32 × Nat × Int32 := (bi (nO c L a), nE c L a, nV c L a)
def fSig (c : Nat → Int32) (L a : Nat) : Int32 × Nat × Int32 := (bi (0 < dN c L 2 a), a + dN c L 2 a, dV c L 2 a 0)
def pIt (c : Nat → Int32) (L a : Nat) : Int32 × Nat × Int32 × Int32 × Int32 × Int32 :=
  if pk c L a = 105 then pPair (nO c L (a + 1)) (nE c L (a + 1)) (nV c L (a + 1)) c L (fNum c L) 0
  else if pk c L a = 107 then (bi (nO c L (a + 1)), nE c L (a + 1), 1, nV c L (a + 1), 0, 0)
  else if pk c L a = 114 then (bi (nO c L (a + 1)), nE c L (a + 1), 2, nV c L (a + 1), 0, 0)
  else if pk c L a = 110 then pPair (0 < dN c L 2 (a + 1)) (a + 1 + dN c L 2 (a + 1)) (dV c L 2 (a + 1) 0) c L (fSig c L) 13
  else if pk c L a = 111 then (bi (0 < dN c L 2 (a + 1)), a + 1 + dN c L 2 (a + 1), 14, dV c L 2 (a + 1) 0, 0, 0)
  else if 0 < dN c L 2 a then pOp c L (a + dN c L 2 a) (dV c L 2 a 0) else (0, a + dN c L 2 a, 3, dV c L 2 a 0, 0, 0)
/-- the state behind it -/
def clI (S : gS) (k : Nat) (q : Int32 × Nat × Int32 × Int32 × Int32 × Int32) : Int32 × gS := (q.1, clS (itS S k q.2.2.1 q.2.2.2.1 q.2.2.2.2.1 q.2.2.2.2.2) q.2.1)
theorem bi_if {p : Prop} [Decidable p] {α : Type} (x y : α) : (if bi p = 0 then x else y) = if p then y else x := by
  by_cases h : p
  · rw [bi_t h, if_neg (by decide), if_pos h]
  · rw [bi_f h, if_pos rfl, if_neg h]
theorem op_c {S : gS} {L a k : Nat} (ht : txt S L) (ha : a ≤ L) (hk : itm k) (kd x y z : Int32) : f_X5_parseOperation (clS (itS S k kd x y z) a) k = if f_X5_kindOf (pk (rI S 56) L a) = -1 then (0, clS (itS S k kd x y z) a) else clI S k (pOp (rI S 56) L a x) := by
  have hb := itm_big hk
  have hn := itm_ne hk
  have h56 : k ≠ 56 ∧ k + 1 ≠ 56 := by
    refine ⟨?_, ?_⟩
    · rintro rfl
      exact absurd (hk.1.symm.trans ly_56) (by simp)
    · intro e
      have h9 := hk.2
      rw [e] at h9
      exact absurd (h9.symm.trans ly_56) (by simp)
  have hch : ∀ kd x y z, rI (itS S k kd x y z) 56 = rI S 56 := fun kd x y z => it_ch S h56.1 h56.2 kd x y z
  have htx : ∀ kd x y z, txt (itS S k kd x y z) L := fun kd x y z => it_tx ht hn.1 hn.2 kd x y z
  unfold f_X5_parseOperation pOp
  rw [pk_c (htx kd x y z) ha, hch]
  by_cases h1 : f_X5_kindOf (pk (rI S 56) L a) = -1
  · rw [if_pos h1, if_pos h1]
  · rw [if_neg h1, if_neg h1, if_neg h1]
    have hl : a < L := by
      by_cases q : a < L
      · exact q
      · exfalso
        apply h1
        unfold pk
        rw [if_neg q]
        rfl
    have e1 : f_X2_become (wI (clS (itS S k kd x y z) a) 55 1 (rI (clS (itS S k kd x y z) a) 55 1 + 1)) k (f_X5_kindOf (pk (rI S 56) L a)) (rI (wI (clS (itS S k kd x y z) a) 55 1 (rI (clS (itS S k kd x y z) a) 55 1 + 1)) (k + 1) 0) 0 0 = clS (itS S k (f_X5_kindOf (pk (rI S 56) L a)) x 0 0) (a + 1) := by
      rw [cl_rd, nI_p1, cl_over, bec_0, cl_fr (by omega), it_rd, cl_it hn.1 hn.2, it_it]
      simp
    rw [e1]
    have hd1 := dN_le (rI S 56) L 2 (a + 1) (by omega)
    have e2 := sig_c (htx (f_X5_kindOf (pk (rI S 56) L a)) x 0 0) (a := a + 1) (by omega) hn.2 1
    rw [hch] at e2
    rw [e2]
    dsimp only
    rw [show (1 : Int32).toNatClampNeg = 1 from rfl, it_1, bi_if]
    by_cases h2 : 0 < dN (rI S 56) L 2 (a + 1)
    · rw [if_pos h2, if_pos h2]
      by_cases h3 : f_X5_kindOf (pk (rI S 56) L a) = 12
      · rw [if_pos h3, if_pos h3, take_c (htx _ _ _ _) hd1, hch]
        by_cases h4 : pk (rI S 56) L (a + 1 + dN (rI S 56) L 2 (a + 1)) = 58
        · rw [if_pos h4, if_neg (show ¬ (1 : Int32) = 0 by decide), if_pos h4]
          have hl2 := pk_l h4 (by decide)
          have e3 := sig_c (htx (f_X5_kindOf (pk (rI S 56) L a)) x (dV (rI S 56) L 2 (a + 1) 0) 0) (a := a + 1 + dN (rI S 56) L 2 (a + 1) + 1) (by omega) hn.2 2
          rw [hch] at e3
          dsimp only
          rw [e3]
          dsimp only
          rw [show (2 : Int32).toNatClampNeg = 2 from rfl, it_2, bi_if]
          unfold clI
          rw [h3]
          dsimp only
          by_cases h5 : 0 < dN (rI S 56) L 2 (a + 1 + dN (rI S 56) L 2 (a + 1) + 1)
          · rw [if_pos h5, bi_t h5]
          · rw [if_neg h5, bi_f h5]
        · rw [if_neg h4, if_pos rfl, if_neg h4]
          unfold clI
          rw [h3]
      · rw [if_neg h3, if_neg h3]
        rfl
    · rw [if_neg h2, if_neg h2]
      rfl
theorem item_c {S : gS} {L a k : Nat} (ht : txt S L) (ha : a ≤ L) (hk : itm k) : f_X5_parseItem (clS S a) k = clI S k (pIt (rI S 56) L a) := by
  have hb := itm_big hk
  have hn := itm_ne hk
  have h56 : k ≠ 56 ∧ k + 1 ≠ 56 := by
    refine ⟨?_, ?_⟩
    · rintro rfl
      exact absurd (hk.1.symm.trans ly_56) (by simp)
    · intro e
      have h9 := hk.2
      rw [e] at h9
      exact absurd (h9.symm.trans ly_56) (by simp)
  have hch : ∀ kd x y z, rI (itS S k kd x y z) 56 = rI S 56 := fun kd x y z => it_ch S h56.1 h56.2 kd x y z
  have htx : ∀ kd x y z, txt (itS S k kd x y z) L := fun kd x y z => it_tx ht hn.1 hn.2 kd x y z
  have hne : ¬ (1 : Int32) = 0 := by decide
  have c0 : (0 : Int32).toNatClampNeg = 0 := rfl
  have c1 : (1 : Int32).toNatClampNeg = 1 := rfl
  have tk : ∀ w : Int32, ∀ b, b ≤ L → f_X5_take (clS S b) w = if pk (rI S 56) L b = w then (1, clS S (b + 1)) else (0, clS S b) := fun w b hb => take_c ht hb w
  have tki : ∀ kd x y z (w : Int32), ∀ b, b ≤ L → f_X5_take (clS (itS S k kd x y z) b) w = if pk (rI S 56) L b = w then (1, clS (itS S k kd x y z) (b + 1)) else (0, clS (itS S k kd x y z) b) := fun kd x y z w b hb => by
    rw [take_c (htx kd x y z) hb, hch]
  have nm0 : ∀ kd x y z b, b ≤ L → f_X5_parseNumber (clS (itS S k kd x y z) b) k 0 = (bi (nO (rI S 56) L b), clS (itS S k kd (nV (rI S 56) L b) y z) (nE (rI S 56) L b)) := fun kd x y z b hb => by
    rw [num_c (htx kd x y z) hb hn.2, hch, c0, it_0]
  have nm1 : ∀ kd x y z b, b ≤ L → f_X5_parseNumber (clS (itS S k kd x y z) b) k 1 = (bi (nO (rI S 56) L b), clS (itS S k kd x (nV (rI S 56) L b) z) (nE (rI S 56) L b)) := fun kd x y z b hb => by
    rw [num_c (htx kd x y z) hb hn.2, hch, c1, it_1]
  have sg0 : ∀ kd x y z b, b ≤ L → f_X5_parseSignal (clS (itS S k kd x y z) b) k 0 = (bi (0 < dN (rI S 56) L 2 b), clS (itS S k kd (dV (rI S 56) L 2 b 0) y z) (b + dN (rI S 56) L 2 b)) := fun kd x y z b hb => by
    rw [sig_c (htx kd x y z) hb hn.2, hch, c0, it_0]
  have sg1 : ∀ kd x y z b, b ≤ L → f_X5_parseSignal (clS (itS S k kd x y z) b) k 1 = (bi (0 < dN (rI S 56) L 2 b), clS (itS S k kd x (dV (rI S 56) L 2 b 0) z) (b + dN (rI S 56) L 2 b)) := fun kd x y z b hb => by
    rw [sig_c (htx kd x y z) hb hn.2, hch, c1, it_1]
  have bc : ∀ kd b, f_X2_become (clS S b) k kd 0 0 0 = clS (itS S k kd 0 0 0) b := fun kd b => by rw [bec_0, cl_it hn.1 hn.2]
  unfold f_X5_parseItem pIt
  rw [tk 105 a ha]
  by_cases h1 : pk (rI S 56) L a = 105
  · have hl := pk_l h1 (by decide)
    have hE := nE_le (c := rI S 56) (L := L) (a := a + 1) hl
    simp only [if_pos h1, if_neg hne, bc, nm0 _ _ _ _ (a + 1) hl]
    rw [bi_if]
    unfold pPair
    by_cases h2 : nO (rI S 56) L (a + 1)
    · rw [if_pos h2, if_pos h2, tki _ _ _ _ _ _ hE]
      by_cases h3 : pk (rI S 56) L (nE (rI S 56) L (a + 1)) = 58
      · have hl3 := pk_l h3 (by decide)
        simp only [if_pos h3, if_neg hne, nm1 _ _ _ _ _ hl3]
        rw [bi_if]
        unfold clI fNum
        dsimp only
        by_cases h4 : nO (rI S 56) L (nE (rI S 56) L (a + 1) + 1)
        · rw [if_pos h4, bi_t h4]
        · rw [if_neg h4, bi_f h4]
      · simp only [if_neg h3, if_true]
        rfl
    · rw [if_neg h2, if_neg h2]
      rfl
  simp only [if_neg h1, if_true]
  rw [tk 107 a ha]
  by_cases h1 : pk (rI S 56) L a = 107
  · have hl := pk_l h1 (by decide)
    simp only [if_pos h1, if_neg hne, bc, nm0 _ _ _ _ (a + 1) hl]
    rfl
  simp only [if_neg h1, if_true]
  rw [tk 114 a ha]
  by_cases h1 : pk (rI S 56) L a = 114
  · have hl := pk_l h1 (by decide)
    simp only [if_pos h1, if_neg hne, bc, nm0 _ _ _ _ (a + 1) hl]
    rfl
  simp only [if_neg h1, if_true]
  rw [tk 110 a ha]
  by_cases h1 : pk (rI S 56) L a = 110
  · have hl := pk_l h1 (by decide)
    have hE := dN_le (rI S 56) L 2 (a + 1) hl
    simp only [if_pos h1, if_neg hne, bc, sg0 _ _ _ _ (a + 1) hl]
    rw [bi_if]
    unfold pPair
    by_cases h2 : 0 < dN (rI S 56) L 2 (a + 1)
    · rw [if_pos h2, if_pos h2, tki _ _ _ _ _ _ hE]
      by_cases h3 : pk (rI S 56) L (a + 1 + dN (rI S 56) L 2 (a + 1)) = 58
      · have hl3 := pk_l h3 (by decide)
        simp only [if_pos h3, if_neg hne, sg1 _ _ _ _ _ hl3]
        rw [bi_if]
        unfold clI fSig
        dsimp only
        by_cases h4 : 0 < dN (rI S 56) L 2 (a + 1 + dN (rI S 56) L 2 (a + 1) + 1)
        · rw [if_pos h4, bi_t h4]
        · rw [if_neg h4, bi_f h4]
      · simp only [if_neg h3, if_true]
        rfl
    · rw [if_neg h2, if_neg h2]
      rfl
  simp only [if_neg h1, if_true]
  rw [tk 111 a ha]
  by_cases h1 : pk (rI S 56) L a = 111
  · have hl := pk_l h1 (by decide)
    simp only [if_pos h1, if_neg hne, bc, sg0 _ _ _ _ (a + 1) hl]
    rfl
  simp only [if_neg h1, if_true, bc, sg0 _ _ _ _ a ha]
  rw [bi_if]
  by_cases h2 : 0 < dN (rI S 56) L 2 a
  · rw [if_pos h2, if_pos h2, op_c ht (dN_le _ _ _ _ ha) hk]
    by_cases h3 : f_X5_kindOf (pk (rI S 56) L (a + dN (rI S 56) L 2 a)) = -1
    · rw [if_pos h3]
      simp only [if_true]
      unfold clI pOp
      rw [if_pos h3]
    · simp only [if_neg h3]
      have hz : (clI S k (pOp (rI S 56) L (a + dN (rI S 56) L 2 a) (dV (rI S 56) L 2 a 0))).1 = 0 ∨ (clI S k (pOp (rI S 56) L (a + dN (rI S 56) L 2 a) (dV (rI S 56) L 2 a 0))).1 = 1 := by
        unfold clI pOp bi
        (repeat' split) <;> simp
      revert hz
      generalize clI S k (pOp (rI S 56) L (a + dN (rI S 56) L 2 a) (dV (rI S 56) L 2 a 0)) = q
      intro hz
      obtain ⟨x, y⟩ := q
      dsimp only at hz ⊢
      rcases hz with e | e
      · rw [e, if_pos rfl]
      · rw [e, if_neg hne]
  · rw [if_neg h2, if_neg h2]
    rfl

