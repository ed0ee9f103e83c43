theorem dV_n (c : Nat → Int32) (L : Nat) : ∀ m a v, ∃ k, k < (v + 1) * 10 ^ m ∧ dV c L m a (nI v) = nI k := by
  intro m
  induction m with
  | zero => intro a v; exact ⟨v, by simp, rfl⟩
  | succ m ih =>
    intro a v
    show ∃ k, k < _ ∧ (if dg (pk c L a) = true then dV c L m (a + 1) (10 * nI v + (pk c L a - 48)) else nI v) = nI k
    by_cases h : dg (pk c L a) = true
    · rw [if_pos h]
      obtain ⟨d, h1, h2⟩ := dg_n h
      rw [h2, ten_n]
      obtain ⟨k, h3, h4⟩ := ih (a + 1) (10 * v + d)
      refine ⟨k, Nat.lt_of_lt_of_le h3 ?_, h4⟩
      rw [Nat.pow_succ, Nat.mul_comm (10 ^ m) 10, ← Nat.mul_assoc]
      exact Nat.mul_le_mul_right _ (by omega)
    · rw [if_neg h]
      refine ⟨v, ?_, rfl⟩
      have : 1 ≤ 10 ^ (m + 1) := Nat.one_le_pow _ _ (by decide)
      calc v < v + 1 := Nat.lt_succ_self v
        _ = (v + 1) * 1 := (Nat.mul_one _).symm
        _ ≤ _ := Nat.mul_le_mul_left _ this
theorem dV_nn (c : Nat → Int32) (L m a : Nat) (hm : m ≤ 4) : ¬ dV c L m a 0 < 0 := by
  obtain ⟨k, h1, h2⟩ := dV_n c L m a 0
  rw [show (0 : Int32) = nI 0 from rfl, h2]
  have h3 : 10 ^ m ≤ 10 ^ 4 := Nat.pow_le_pow_right (by decide) hm
  have h4 : k < 10000 := by
    have : (0 + 1) * 10 ^ m = 10 ^ m := by simp
    have e : (10 : Nat) ^ 4 = 10000 := by decide
    omega
  exact Int32.not_lt.mpr (n0_le (by omega))
def rnum (c : Nat → Int32) (L a : Nat) : Int32 := if nO c L a then nV c L a else (if pk c L a = 45 then 1 else -1)
def rdgt (c : Nat → Int32) (L a : Nat) : Int32 := if 0 < dN c L 2 a then dV c L 2 a 0 else -1
/-- the reference's text: its length, the item's number, its signs -/
def RI (S : gS) (L n : Nat) (c : Nat → Int32) : Prop := rI S 115 34 = nI L ∧ L ≤ 80 ∧ rI S 115 36 = nI n ∧ n < 40 ∧ rI S 137 = c
def rtS (S : gS) (n : Nat) (kd x y z : Int32) : gS := wI (wI (wI (wI S 138 n kd) 139 n x) 140 n y) 141 n z
def rX (S : gS) (n : Nat) (kd x y z : Int32) (a : Nat) (m : Int32) : gS := rfP (rtS S n kd x y z) a m
theorem rt_fr {p q : Nat} (h : p < 138 ∨ 141 < p) (S : gS) (n : Nat) (kd x y z : Int32) : rI (rtS S n kd x y z) p q = rI S p q := by
  unfold rtS
  rw [rI_wIk (by omega), rI_wIk (by omega), rI_wIk (by omega), rI_wIk (by omega)]
theorem rt_id (S : gS) (n : Nat) : rtS S n (rI S 138 n) (rI S 139 n) (rI S 140 n) (rI S 141 n) = S := by
  unfold rtS
  rw [wI_id (k := 138) rfl, wI_id (k := 139) rfl, wI_id (k := 140) rfl, wI_id rfl]
theorem RI.rt {S : gS} {L n : Nat} {c : Nat → Int32} (h : RI S L n c) (kd x y z : Int32) : RI (rtS S n kd x y z) L n c := by
  obtain ⟨h1, h2, h3, h4, h5⟩ := h
  refine ⟨(rt_fr (by decide) _ _ _ _ _ _).trans h1, h2, (rt_fr (by decide) _ _ _ _ _ _).trans h3, h4, ?_⟩
  rw [← h5]
  funext j
  exact rt_fr (by decide) _ _ _ _ _ _
section RX
variable {S : gS} {L n : Nat} {c : Nat → Int32} (h : RI S L n c) (kd x y z : Int32) (b : Nat) (m : Int32)
theorem RI.rx (h : RI S L n c) (kd x y z : Int32) : rtx (rtS S n kd x y z) L := ⟨(h.rt kd x y z).1, h.2.1⟩
theorem xn (h : RI S L n c) (kd x y z : Int32) (b : Nat) (m : Int32) : (rI (rX S n kd x y z b m) 115 36).toNatClampNeg = n := by
  unfold rX
  rw [rp_fr (by decide) (by decide), (h.rt kd x y z).2.2.1]
  have := h.2.2.2.1
  exact nI_c (by omega)
theorem xm (S : gS) (n : Nat) (kd x y z : Int32) (b : Nat) (m : Int32) : rI (rX S n kd x y z b m) 115 39 = m := rp_m _ _ _
theorem xa (S : gS) (n : Nat) (kd x y z : Int32) (b : Nat) (m : Int32) : rI (rX S n kd x y z b m) 115 35 = nI b := rp_a _ _ _
theorem xl (h : RI S L n c) (kd x y z : Int32) (b : Nat) (m : Int32) : rI (rX S n kd x y z b m) 115 34 = nI L := (rp_fr (by decide) (by decide) _ _ _).trans (h.rt kd x y z).1
theorem xc (h : RI S L n c) (kd x y z : Int32) (b : Nat) (m : Int32) (j : Nat) : rI (rX S n kd x y z b m) 137 j = c j := (rp_fr (by omega) (by omega) _ _ _).trans (congrFun (h.rt kd x y z).2.2.2.2 j)
theorem x8 (S : gS) (n : Nat) (kd x y z : Int32) (b : Nat) (m v : Int32) : wI (rX S n kd x y z b m) 138 n v = rX S n v x y z b m := by
  unfold rX rtS
  rw [rp_w (by decide), wI_comm (by omega), wI_comm (k := 140) (by omega), wI_comm (k := 139) (by omega), wI_over]
theorem x9 (S : gS) (n : Nat) (kd x y z : Int32) (b : Nat) (m v : Int32) : wI (rX S n kd x y z b m) 139 n v = rX S n kd v y z b m := by
  unfold rX rtS
  rw [rp_w (by decide), wI_comm (by omega), wI_comm (k := 140) (by omega), wI_over]
theorem x10 (S : gS) (n : Nat) (kd x y z : Int32) (b : Nat) (m v : Int32) : wI (rX S n kd x y z b m) 140 n v = rX S n kd x v z b m := by
  unfold rX rtS
  rw [rp_w (by decide), wI_comm (by omega), wI_over]
theorem x11 (S : gS) (n : Nat) (kd x y z : Int32) (b : Nat) (m v : Int32) : wI (rX S n kd x y z b m) 141 n v = rX S n kd x y v b m := by
  unfold rX rtS
  rw [rp_w (by decide), wI_over]
theorem xat (S : gS) (n : Nat) (kd x y z : Int32) (b e : Nat) (m : Int32) : wI (rX S n kd x y z b m) 115 35 (nI e) = rX S n kd x y z e m := rp_at _ _ _ _
theorem xsk (h : RI S L n c) {w : Int32} (hw : w ≠ -1) (kd x y z : Int32) (b : Nat) (m : Int32) (hb : b ≤ L) : f_X9_skips (rX S n kd x y z b m) w = if pk c L b = w then (1, rX S n kd x y z (b + 1) m) else (0, rX S n kd x y z b m) := by
  unfold rX
  rw [rsk (h.rx kd x y z) hb hw, (h.rt kd x y z).2.2.2.2]
theorem xtd (h : RI S L n c) (kd x y z : Int32) (b : Nat) (m : Int32) (hb : b ≤ L) : f_X9_takesDigits (rX S n kd x y z b m) = (bi (0 < dN c L 2 b), rX S n kd x y z (b + dN c L 2 b) (rdgt c L b)) := by
  unfold f_X9_takesDigits rX rdgt
  rw [rdg2_c (h.rx kd x y z) hb, (h.rt kd x y z).2.2.2.2]
  dsimp only
  rw [rp_num]
  by_cases q : 0 < dN c L 2 b
  · rw [if_pos q, if_neg (dV_nn _ _ _ _ (by decide)), bi_t q]
  · rw [if_neg q, if_pos (by decide), bi_f q]
theorem xtn (h : RI S L n c) (kd x y z : Int32) (b : Nat) (m : Int32) (hb : b ≤ L) : f_X9_takesNumber (rX S n kd x y z b m) = (bi (nO c L b), rX S n kd x y z (nE c L b) (rnum c L b)) := by
  have hs : (f_X9_skips (rX S n kd x y z b m) 45).2 = rX S n kd x y z (nB c L b) m := by
    rw [xsk h (by decide) _ _ _ _ _ _ hb]
    unfold nB
    split <;> rfl
  have hB := nB_le (c := c) hb
  have e4 : f_rdg4 (rX S n kd x y z (nB c L b) m) = (if 0 < dN c L 4 (nB c L b) then dV c L 4 (nB c L b) 0 else -1, rX S n kd x y z (nB c L b + dN c L 4 (nB c L b)) m) := by
    unfold rX
    rw [rdg4_c (h.rx kd x y z) hB, (h.rt kd x y z).2.2.2.2]
  unfold f_X9_takesNumber
  rw [hs, e4, xsk h (by decide) _ _ _ _ _ _ hb]
  dsimp only
  have hw : ∀ v, wI (rX S n kd x y z (nB c L b + dN c L 4 (nB c L b)) m) 115 39 v = rX S n kd x y z (nE c L b) v := fun v => rp_num _ _ _ _
  simp only [hw]
  unfold rnum nV
  by_cases q : nO c L b
  · have q2 : 0 < dN c L 4 (nB c L b) := q
    have hn := dV_nn c L 4 (nB c L b) (by decide)
    by_cases p : pk c L b = 45
    · simp only [if_pos q2, if_pos p, if_neg hn, bi_t q]
      rw [if_neg (show ¬ (1 : Int32) = 0 by decide)]
    · simp only [if_pos q2, if_neg p, if_neg hn, bi_t q]
      rw [if_pos trivial]
  · have q2 : ¬ 0 < dN c L 4 (nB c L b) := q
    have hm : (-1 : Int32) < 0 := by decide
    by_cases p : pk c L b = 45
    · simp only [if_neg q2, if_pos p, if_pos hm, bi_f q]
      rw [if_neg (show ¬ (1 : Int32) = 0 by decide)]
      rfl
    · simp only [if_neg q2, if_neg p, if_pos hm, bi_f q]
      rw [if_pos trivial]
theorem xp1 (h : RI S L n c) (kd x y z : Int32) (b : Nat) (m : Int32) (hb : b ≤ L) (k0 : Int32) : ∃ m' x' y', f_pair1 (rX S n kd x y z b m) = ((pPair (nO c L b) (nE c L b) (nV c L b) c L (fNum c L) k0).1, rX S n kd x' y' z (pPair (nO c L b) (nE c L b) (nV c L b) c L (fNum c L) k0).2.1 m') ∧ (¬ (pPair (nO c L b) (nE c L b) (nV c L b) c L (fNum c L) k0).1 = 0 → x' = (pPair (nO c L b) (nE c L b) (nV c L b) c L (fNum c L) k0).2.2.2.1 ∧ y' = (pPair (nO c L b) (nE c L b) (nV c L b) c L (fNum c L) k0).2.2.2.2.1) := by
  have hE := nE_le (c := c) hb
  unfold f_pair1 pPair fNum
  rw [xtn h _ _ _ _ _ _ hb]
  dsimp only
  rw [bi_if, xn h, xm, x9, xsk h (by decide) _ _ _ _ _ _ hE]
  by_cases q : nO c L b
  · rw [if_pos q, if_pos q]
    have hr : rnum c L b = nV c L b := by unfold rnum; rw [if_pos q]
    rw [hr]
    by_cases p : pk c L (nE c L b) = 58
    · have hl := pk_l p (by decide)
      rw [if_pos p, if_neg (show ¬ (1 : Int32) = 0 by decide), if_pos p]
      dsimp only
      rw [xtn h _ _ _ _ _ _ hl]
      dsimp only
      rw [bi_if, xn h, xm, x10]
      by_cases r : nO c L (nE c L b + 1)
      · have hr2 : rnum c L (nE c L b + 1) = nV c L (nE c L b + 1) := by unfold rnum; rw [if_pos r]
        rw [if_pos r, bi_t r, hr2]
        exact ⟨_, _, _, rfl, fun _ => ⟨rfl, rfl⟩⟩
      · rw [if_neg r, bi_f r]
        exact ⟨_, _, _, rfl, fun w => absurd rfl w⟩
    · rw [if_neg p, if_pos rfl, if_neg p]
      exact ⟨_, _, _, rfl, fun w => absurd rfl w⟩
  · rw [if_neg q, if_neg q]
    exact ⟨_, _, _, rfl, fun w => absurd rfl w⟩
theorem xp0 (h : RI S L n c) (kd x y z : Int32) (b : Nat) (m : Int32) (hb : b ≤ L) (k0 : Int32) : ∃ m' x' y', f_pair0 (rX S n kd x y z b m) = ((pPair (0 < dN c L 2 b) (b + dN c L 2 b) (dV c L 2 b 0) c L (fSig c L) k0).1, rX S n kd x' y' z (pPair (0 < dN c L 2 b) (b + dN c L 2 b) (dV c L 2 b 0) c L (fSig c L) k0).2.1 m') ∧ (¬ (pPair (0 < dN c L 2 b) (b + dN c L 2 b) (dV c L 2 b 0) c L (fSig c L) k0).1 = 0 → x' = (pPair (0 < dN c L 2 b) (b + dN c L 2 b) (dV c L 2 b 0) c L (fSig c L) k0).2.2.2.1 ∧ y' = (pPair (0 < dN c L 2 b) (b + dN c L 2 b) (dV c L 2 b 0) c L (fSig c L) k0).2.2.2.2.1) := by
  have hE := dN_le c L 2 b hb
  unfold f_pair0 pPair fSig
  rw [xtd h _ _ _ _ _ _ hb]
  dsimp only
  rw [bi_if, xn h, xm, x9, xsk h (by decide) _ _ _ _ _ _ hE]
  by_cases q : 0 < dN c L 2 b
  · rw [if_pos q, if_pos q]
    have hr : rdgt c L b = dV c L 2 b 0 := by unfold rdgt; rw [if_pos q]
    rw [hr]
    by_cases p : pk c L (b + dN c L 2 b) = 58
    · have hl := pk_l p (by decide)
      rw [if_pos p, if_neg (show ¬ (1 : Int32) = 0 by decide), if_pos p]
      dsimp only
      rw [xtd h _ _ _ _ _ _ hl]
      dsimp only
      rw [bi_if, xn h, xm, x10]
      by_cases r : 0 < dN c L 2 (b + dN c L 2 b + 1)
      · have hr2 : rdgt c L (b + dN c L 2 b + 1) = dV c L 2 (b + dN c L 2 b + 1) 0 := by unfold rdgt; rw [if_pos r]
        rw [if_pos r, bi_t r, hr2]
        exact ⟨_, _, _, rfl, fun _ => ⟨rfl, rfl⟩⟩
      · rw [if_neg r, bi_f r]
        exact ⟨_, _, _, rfl, fun w => absurd rfl w⟩
    · rw [if_neg p, if_pos rfl, if_neg p]
      exact ⟨_, _, _, rfl, fun w => absurd rfl w⟩
  · rw [if_neg q, if_neg q]
    exact ⟨_, _, _, rfl, fun w => absurd rfl w⟩
theorem xo1 (h : RI S L n c) (kd x y z : Int32) (b : Nat) (m : Int32) (hb : b ≤ L) : ∃ m' x', f_one1 (rX S n kd x y z b m) = (bi (nO c L b), rX S n 1 x' y z (nE c L b) m') ∧ (nO c L b → x' = nV c L b) := by
  unfold f_one1
  rw [xn h, x8, xtn h _ _ _ _ _ _ hb]
  dsimp only
  rw [bi_if, xn h, xm, x9]
  by_cases q : nO c L b
  · rw [if_pos q, bi_t q]
    exact ⟨_, _, rfl, fun _ => by unfold rnum; rw [if_pos q]⟩
  · rw [if_neg q, bi_f q]
    exact ⟨_, _, rfl, fun w => absurd w q⟩
theorem xo2 (h : RI S L n c) (kd x y z : Int32) (b : Nat) (m : Int32) (hb : b ≤ L) : ∃ m' x', f_one2 (rX S n kd x y z b m) = (bi (nO c L b), rX S n 2 x' y z (nE c L b) m') ∧ (nO c L b → x' = nV c L b) := by
  unfold f_one2
  rw [xn h, x8, xtn h _ _ _ _ _ _ hb]
  dsimp only
  rw [bi_if, xn h, xm, x9]
  by_cases q : nO c L b
  · rw [if_pos q, bi_t q]
    exact ⟨_, _, rfl, fun _ => by unfold rnum; rw [if_pos q]⟩
  · rw [if_neg q, bi_f q]
    exact ⟨_, _, rfl, fun w => absurd w q⟩
theorem xo14 (h : RI S L n c) (kd x y z : Int32) (b : Nat) (m : Int32) (hb : b ≤ L) : ∃ m' x', f_one14 (rX S n kd x y z b m) = (bi (0 < dN c L 2 b), rX S n 14 x' y z (b + dN c L 2 b) m') ∧ (0 < dN c L 2 b → x' = dV c L 2 b 0) := by
  unfold f_one14
  rw [xn h, x8, xtd h _ _ _ _ _ _ hb]
  dsimp only
  rw [bi_if, xn h, xm, x9]
  by_cases q : 0 < dN c L 2 b
  · rw [if_pos q, bi_t q]
    exact ⟨_, _, rfl, fun _ => by unfold rdgt; rw [if_pos q]⟩
  · rw [if_neg q, bi_f q]
    exact ⟨_, _, rfl, fun w => absurd w q⟩
theorem ko_eq (v : Int32) : f_X9_kindOf v = f_X5_kindOf v := by
  have h : f_X9_kindOf = f_X5_kindOf := rfl
  rw [h]
theorem ko_le (v : Int32) : (0 : Int32) ≤ f_X5_kindOf v ↔ ¬ f_X5_kindOf v = -1 := by
  unfold f_X5_kindOf
  (repeat' split) <;> decide
theorem xsg (h : RI S L n c) (kd x y : Int32) (b : Nat) (m : Int32) (hb : b ≤ L) : ∃ m' k' x' y' z', f_X9_takesSignal (rX S n kd x y 0 b m) = ((if 0 < dN c L 2 b then pOp c L (b + dN c L 2 b) (dV c L 2 b 0) else (0, b + dN c L 2 b, 3, dV c L 2 b 0, 0, 0)).1, rX S n k' x' y' z' (if 0 < dN c L 2 b then pOp c L (b + dN c L 2 b) (dV c L 2 b 0) else (0, b + dN c L 2 b, 3, dV c L 2 b 0, 0, 0)).2.1 m') ∧ (¬ (if 0 < dN c L 2 b then pOp c L (b + dN c L 2 b) (dV c L 2 b 0) else (0, b + dN c L 2 b, 3, dV c L 2 b 0, 0, 0)).1 = 0 → (k', x', y', z') = (if 0 < dN c L 2 b then pOp c L (b + dN c L 2 b) (dV c L 2 b 0) else (0, b + dN c L 2 b, 3, dV c L 2 b 0, 0, 0)).2.2) := by
  have hE := dN_le c L 2 b hb
  have h80 := h.2.1
  unfold f_X9_takesSignal
  rw [xtd h _ _ _ _ _ _ hb]
  dsimp only
  rw [bi_if]
  by_cases q : 0 < dN c L 2 b
  · rw [if_pos q, if_pos q]
    have hr : rdgt c L b = dV c L 2 b 0 := by unfold rdgt; rw [if_pos q]
    rw [hr]
    generalize he : b + dN c L 2 b = e at hE ⊢
    have h9 := @nI_le2 L e (by omega) (by omega)
    rw [xl h, xa, xn h, xm, x9, x8, nI_p1, xat, xc h, nI_c (by omega)]
    by_cases hl : e < L
    · rw [if_neg (by rw [h9]; omega)]
      have hpk : c e = pk c L e := by unfold pk; rw [if_pos hl]
      rw [hpk]
      simp only [ko_eq]
      unfold pOp
      by_cases k1 : f_X5_kindOf (pk c L e) = -1
      · rw [if_pos k1, if_neg (fun w => (ko_le _).mp w k1)]
        exact ⟨_, _, _, _, _, rfl, fun w => absurd rfl w⟩
      · rw [if_neg k1, if_pos ((ko_le _).mpr k1), xtd h _ _ _ _ _ _ hl]
        have hD := dN_le c L 2 (e + 1) hl
        dsimp only
        rw [bi_if]
        by_cases q2 : 0 < dN c L 2 (e + 1)
        · rw [if_pos q2, if_pos q2]
          have hr2 : rdgt c L (e + 1) = dV c L 2 (e + 1) 0 := by unfold rdgt; rw [if_pos q2]
          rw [hr2]
          simp only [xn h, xm, x10]
          by_cases k2 : f_X5_kindOf (pk c L e) = 12
          · rw [if_pos k2, if_pos k2, xsk h (by decide) _ _ _ _ _ _ hD]
            by_cases p : pk c L (e + 1 + dN c L 2 (e + 1)) = 58
            · have hl2 := pk_l p (by decide)
              rw [if_pos p, if_neg (show ¬ (1 : Int32) = 0 by decide), if_pos p]
              dsimp only
              rw [xtd h _ _ _ _ _ _ hl2]
              dsimp only
              rw [bi_if, xn h, xm, x11]
              by_cases q3 : 0 < dN c L 2 (e + 1 + dN c L 2 (e + 1) + 1)
              · have hr3 : rdgt c L (e + 1 + dN c L 2 (e + 1) + 1) = dV c L 2 (e + 1 + dN c L 2 (e + 1) + 1) 0 := by unfold rdgt; rw [if_pos q3]
                rw [if_pos q3, bi_t q3, hr3, k2]
                exact ⟨_, _, _, _, _, rfl, fun _ => rfl⟩
              · rw [if_neg q3, bi_f q3]
                exact ⟨_, _, _, _, _, rfl, fun w => absurd rfl w⟩
            · rw [if_neg p, if_pos rfl, if_neg p]
              exact ⟨_, _, _, _, _, rfl, fun w => absurd rfl w⟩
          · rw [if_neg k2, if_neg k2]
            exact ⟨_, _, _, _, _, rfl, fun _ => rfl⟩
        · rw [if_neg q2, if_neg q2]
          exact ⟨_, _, _, _, _, rfl, fun w => absurd rfl w⟩
    · rw [if_pos (by rw [h9]; omega)]
      have hpk : pk c L e = -1 := by unfold pk; rw [if_neg hl]
      unfold pOp
      rw [hpk, if_pos (show f_X5_kindOf (-1) = -1 from rfl)]
      exact ⟨_, _, _, _, _, rfl, fun w => absurd rfl w⟩
  · rw [if_neg q, if_neg q]
    exact ⟨_, _, _, _, _, rfl, fun w => absurd rfl w⟩
theorem xit (h : RI S L n c) (kd x y z : Int32) (b : Nat) (m : Int32) (hb : b ≤ L) : ∃ m' k' x' y' z', f_X9_takesItem (rX S n kd x y z b m) = ((pIt c L b).1, rX S n k' x' y' z' (pIt c L b).2.1 m') ∧ (¬ (pIt c L b).1 = 0 → (k', x', y', z') = (pIt c L b).2.2) := by
  have hne : ¬ (1 : Int32) = 0 := by decide
  unfold f_X9_takesItem pIt
  rw [xn h, x10, x11, xsk h (w := 105) (by decide) _ _ _ _ _ _ hb]
  by_cases q1 : pk c L b = 105
  · have hl := pk_l q1 (by decide)
    simp only [if_pos q1, if_neg hne, xn h, x8]
    obtain ⟨m', x', y', e1, e2⟩ := xp1 h 0 x 0 0 (b + 1) m hl 0
    rw [e1]
    refine ⟨m', 0, x', y', 0, rfl, fun w => ?_⟩
    obtain ⟨e3, e4⟩ := e2 w
    rw [e3, e4]
    unfold pPair
    (repeat' split) <;> rfl
  simp only [if_neg q1, if_true]
  rw [xsk h (w := 110) (by decide) _ _ _ _ _ _ hb]
  by_cases q2 : pk c L b = 110
  · have hl := pk_l q2 (by decide)
    have n1 : ¬ pk c L b = 107 := by rw [q2]; decide
    have n2 : ¬ pk c L b = 114 := by rw [q2]; decide
    simp only [if_pos q2, if_neg hne, if_neg n1, if_neg n2, xn h, x8]
    obtain ⟨m', x', y', e1, e2⟩ := xp0 h 13 x 0 0 (b + 1) m hl 13
    rw [e1]
    refine ⟨m', 13, x', y', 0, rfl, fun w => ?_⟩
    obtain ⟨e3, e4⟩ := e2 w
    rw [e3, e4]
    unfold pPair
    (repeat' split) <;> rfl
  simp only [if_neg q2, if_true]
  rw [xsk h (w := 107) (by decide) _ _ _ _ _ _ hb]
  by_cases q3 : pk c L b = 107
  · have hl := pk_l q3 (by decide)
    simp only [if_pos q3, if_neg hne]
    obtain ⟨m', x', e1, e2⟩ := xo1 h kd x 0 0 (b + 1) m hl
    rw [e1]
    exact ⟨m', 1, x', 0, 0, rfl, fun w => by rw [e2 (bi_n0 w)]⟩
  simp only [if_neg q3, if_true]
  rw [xsk h (w := 114) (by decide) _ _ _ _ _ _ hb]
  by_cases q4 : pk c L b = 114
  · have hl := pk_l q4 (by decide)
    simp only [if_pos q4, if_neg hne]
    obtain ⟨m', x', e1, e2⟩ := xo2 h kd x 0 0 (b + 1) m hl
    rw [e1]
    exact ⟨m', 2, x', 0, 0, rfl, fun w => by rw [e2 (bi_n0 w)]⟩
  simp only [if_neg q4, if_true]
  rw [xsk h (w := 111) (by decide) _ _ _ _ _ _ hb]
  by_cases q5 : pk c L b = 111
  · have hl := pk_l q5 (by decide)
    simp only [if_pos q5, if_neg hne]
    obtain ⟨m', x', e1, e2⟩ := xo14 h kd x 0 0 (b + 1) m hl
    rw [e1]
    exact ⟨m', 14, x', 0, 0, rfl, fun w => by rw [e2 (bi_n0 w)]⟩
  simp only [if_neg q5, if_true]
  obtain ⟨m', k', x', y', z', e1, e2⟩ := xsg h kd x 0 b m hb
  rw [e1]
  exact ⟨m', k', x', y', z', rfl, e2⟩
end RX
