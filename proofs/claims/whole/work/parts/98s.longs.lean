theorem rL_ite {p : Prop} [Decidable p] (A B : gS) (a c : Nat) : rL (if p then A else B) a c = if p then rL A a c else rL B a c := by split <;> rfl
theorem snd_ite2 {α β : Type} {p : Prop} [Decidable p] (A B : α × β) : (if p then A else B).2 = if p then A.2 else B.2 := by split <;> rfl
theorem rL_itr {f : Nat → gS → gS} {a c : Nat} (h : ∀ i p, rL (f i p) a c = rL p a c) (n : Nat) (p : gS) : rL (itr f n p) a c = rL p a c := by
  induction n with
  | zero => rfl
  | succ n ih => exact (h n _).trans ih

theorem fl_adF (S : gS) (is a c d : Int32) (a9 c9 : Nat) : rL (adF S is a c d) a9 c9 = rL S a9 c9 := by
  unfold adF
  simp only [rL_wI]

theorem fl_f_X2_become (S : gS) (k : Nat) (kd a b c : Int32) (a9 c9 : Nat) : rL (f_X2_become S k kd a b c) a9 c9 = rL S a9 c9 := by
  unfold f_X2_become
  simp only [rL_ite, snd_ite2, ite_self, rL_wI, rL_wR]

theorem fl_f_X0_append (S : gS) (k : Nat) (a9 c9 : Nat) : rL (f_X0_append S k) a9 c9 = rL S a9 c9 := by
  unfold f_X0_append
  simp only [rL_ite, snd_ite2, ite_self, rL_wI, rL_wR]

theorem fl_f_X1_forget (S : gS) (a9 c9 : Nat) : rL (f_X1_forget S) a9 c9 = rL S a9 c9 := by
  unfold f_X1_forget
  simp only [rL_ite, snd_ite2, ite_self, rL_wI, rL_wR]

theorem fl_f_X1_become (S : gS) (a b c : Int32) (a9 c9 : Nat) : rL (f_X1_become S a b c) a9 c9 = rL S a9 c9 := by
  unfold f_X1_become
  simp only [rL_ite, snd_ite2, ite_self, rL_wI, rL_wR]

theorem fl_f_X1_addCause (S : gS) (a b : Int32) (a9 c9 : Nat) : rL (f_X1_addCause S a b) a9 c9 = rL S a9 c9 := by
  unfold f_X1_addCause
  simp only [rL_ite, snd_ite2, ite_self, rL_wI, rL_wR]

theorem fl_bd_rewind (i : Nat) (p : gS) (a9 c9 : Nat) : rL (bd_rewind i p) a9 c9 = rL p a9 c9 := by
  unfold bd_rewind
  simp only [rL_ite, snd_ite2, ite_self, rL_wI, rL_wR]

theorem fl_lp_bd_rewind  (n9 : Nat) (p9 : gS) (a9 c9 : Nat) : rL (itr (bd_rewind ) n9 p9) a9 c9 = rL p9 a9 c9 := rL_itr (fun i p => fl_bd_rewind  i p a9 c9) n9 p9

theorem fl_f_X0_rewind (S : gS) (n : Nat) (a9 c9 : Nat) : rL (f_X0_rewind S n) a9 c9 = rL S a9 c9 := by
  unfold f_X0_rewind
  simp only [rL_ite, snd_ite2, ite_self, rL_wI, rL_wR, fl_lp_bd_rewind]

theorem fl_bd_dropLast (i : Nat) (p : gS) (a9 c9 : Nat) : rL (bd_dropLast i p) a9 c9 = rL p a9 c9 := by
  unfold bd_dropLast
  simp only [rL_ite, snd_ite2, ite_self, rL_wI, rL_wR]

theorem fl_lp_bd_dropLast  (n9 : Nat) (p9 : gS) (a9 c9 : Nat) : rL (itr (bd_dropLast ) n9 p9) a9 c9 = rL p9 a9 c9 := rL_itr (fun i p => fl_bd_dropLast  i p a9 c9) n9 p9

theorem fl_bd_takeF (i : Nat) (p : gS) (a9 c9 : Nat) : rL (bd_takeF i p) a9 c9 = rL p a9 c9 := by
  unfold bd_takeF
  simp only [rL_ite, snd_ite2, ite_self, rL_wI, rL_wR]

theorem fl_lp_bd_takeF  (n9 : Nat) (p9 : gS) (a9 c9 : Nat) : rL (itr (bd_takeF ) n9 p9) a9 c9 = rL p9 a9 c9 := rL_itr (fun i p => fl_bd_takeF  i p a9 c9) n9 p9

theorem fl_f_takeF (S : gS) (n : Nat) (a9 c9 : Nat) : rL (f_takeF S n) a9 c9 = rL S a9 c9 := by
  unfold f_takeF
  simp only [rL_ite, snd_ite2, ite_self, rL_wI, rL_wR, fl_lp_bd_takeF]

theorem fl_bd_takeN (i : Nat) (p : gS) (a9 c9 : Nat) : rL (bd_takeN i p) a9 c9 = rL p a9 c9 := by
  unfold bd_takeN
  simp only [rL_ite, snd_ite2, ite_self, rL_wI, rL_wR]

theorem fl_lp_bd_takeN  (n9 : Nat) (p9 : gS) (a9 c9 : Nat) : rL (itr (bd_takeN ) n9 p9) a9 c9 = rL p9 a9 c9 := rL_itr (fun i p => fl_bd_takeN  i p a9 c9) n9 p9

theorem fl_f_takeN (S : gS) (n : Nat) (a9 c9 : Nat) : rL (f_takeN S n) a9 c9 = rL S a9 c9 := by
  unfold f_takeN
  simp only [rL_ite, snd_ite2, ite_self, rL_wI, rL_wR, fl_lp_bd_takeN]

theorem fl_f_X0_copyRow (S : gS) (k0 k1 : Nat) (a9 c9 : Nat) : rL (f_X0_copyRow S k0 k1) a9 c9 = rL S a9 c9 := by
  unfold f_X0_copyRow
  simp only [rL_ite, snd_ite2, ite_self, rL_wI, rL_wR]

theorem fl_f_X4_become (S : gS) (i : Int32) (l g : Int64) (a9 c9 : Nat) : rL (f_X4_become S i l g) a9 c9 = rL S a9 c9 := by
  unfold f_X4_become
  simp only [rL_ite, snd_ite2, ite_self, rL_wI, rL_wR]

theorem fl_f_X4_findProduct (S : gS) (i a b : Int32) (a9 c9 : Nat) : rL (f_X4_findProduct S i a b) a9 c9 = rL S a9 c9 := by
  unfold f_X4_findProduct
  simp only [rL_ite, snd_ite2, ite_self, rL_wI, rL_wR, fl_f_X4_become]

theorem fl_f_X4_findBitwise (S : gS) (i kd a b : Int32) (a9 c9 : Nat) : rL (f_X4_findBitwise S i kd a b) a9 c9 = rL S a9 c9 := by
  unfold f_X4_findBitwise
  simp only [rL_ite, snd_ite2, ite_self, rL_wI, rL_wR, fl_f_X4_become]

theorem fl_f_X4_findChoice (S : gS) (i a b c : Int32) (a9 c9 : Nat) : rL (f_X4_findChoice S i a b c) a9 c9 = rL S a9 c9 := by
  unfold f_X4_findChoice
  simp only [rL_ite, snd_ite2, ite_self, rL_wI, rL_wR, fl_f_X4_become]

theorem fl_f_X4_findOne (S : gS) (j : Nat) (a9 c9 : Nat) : rL (f_X4_findOne S j) a9 c9 = rL S a9 c9 := by
  unfold f_X4_findOne
  simp only [rL_ite, snd_ite2, ite_self, rL_wI, rL_wR, fl_f_X4_become, fl_f_X4_findProduct, fl_f_X4_findBitwise, fl_f_X4_findChoice]

theorem fl_f_X4_join (S : gS) (r t : Int32) (a9 c9 : Nat) : rL (f_X4_join S r t).2 a9 c9 = rL S a9 c9 := by
  unfold f_X4_join
  simp only [rL_ite, snd_ite2, ite_self, rL_wI, rL_wR]

theorem fl_bd_rini (i : Nat) (p : gS) (a9 c9 : Nat) : rL (bd_rini i p) a9 c9 = rL p a9 c9 := by
  unfold bd_rini
  simp only [rL_ite, snd_ite2, ite_self, rL_wI, rL_wR]

theorem fl_lp_bd_rini  (n9 : Nat) (p9 : gS) (a9 c9 : Nat) : rL (itr (bd_rini ) n9 p9) a9 c9 = rL p9 a9 c9 := rL_itr (fun i p => fl_bd_rini  i p a9 c9) n9 p9

theorem fl_bd_rone (i : Nat) (p : gS) (a9 c9 : Nat) : rL (bd_rone i p) a9 c9 = rL p a9 c9 := by
  unfold bd_rone
  simp only [rL_ite, snd_ite2, ite_self, rL_wI, rL_wR, fl_f_X4_findOne]

theorem fl_lp_bd_rone  (n9 : Nat) (p9 : gS) (a9 c9 : Nat) : rL (itr (bd_rone ) n9 p9) a9 c9 = rL p9 a9 c9 := rL_itr (fun i p => fl_bd_rone  i p a9 c9) n9 p9

theorem fl_bd_rwid (i : Nat) (p : gS) (a9 c9 : Nat) : rL (bd_rwid i p) a9 c9 = rL p a9 c9 := by
  unfold bd_rwid
  simp only [rL_ite, snd_ite2, ite_self, rL_wI, rL_wR]

theorem fl_lp_bd_rwid  (n9 : Nat) (p9 : gS) (a9 c9 : Nat) : rL (itr (bd_rwid ) n9 p9) a9 c9 = rL p9 a9 c9 := rL_itr (fun i p => fl_bd_rwid  i p a9 c9) n9 p9

theorem fl_bd_rjoin (i : Nat) (p : Int32 × gS) (a9 c9 : Nat) : rL (bd_rjoin i p).2 a9 c9 = rL p.2 a9 c9 := by
  unfold bd_rjoin
  simp only [rL_ite, snd_ite2, ite_self, rL_wI, rL_wR, fl_f_X4_join]
theorem fl_lp_bd_rjoin (n : Nat) (p : Int32 × gS) (a9 c9 : Nat) : rL (itr bd_rjoin n p).2 a9 c9 = rL p.2 a9 c9 := by
  induction n with
  | zero => rfl
  | succ n ih => exact (fl_bd_rjoin n _ a9 c9).trans ih
theorem fl_rdC (n : Nat) (S : gS) (a9 c9 : Nat) : rL (rdC n S).2 a9 c9 = rL S a9 c9 := by
  unfold rdC
  simp only [rL_ite, snd_ite2, ite_self, rL_wI, rL_wR, fl_lp_bd_rjoin, fl_lp_bd_rone]
theorem fl_rcS (S : gS) (n k a9 c9 : Nat) : rL (rcS S n k) a9 c9 = rL S a9 c9 := by
  induction k with
  | zero => rfl
  | succ k ih => exact (fl_rdC n _ a9 c9).trans ih

theorem fl_f_X4_find (S : gS) (n K : Nat) (a9 c9 : Nat) : rL (f_X4_find S n K) a9 c9 = rL S a9 c9 := by
  unfold f_X4_find
  simp only [rL_ite, snd_ite2, ite_self, rL_wI, rL_wR, fl_lp_bd_rini, fl_lp_bd_rwid, fl_rcS]

theorem fl_f_X7_ask (S : gS) (i q : Int32) (a9 c9 : Nat) : rL (f_X7_ask S i q) a9 c9 = rL S a9 c9 := by
  unfold f_X7_ask
  simp only [rL_ite, snd_ite2, ite_self, rL_wI, rL_wR]

theorem fl_f_X7_askOperands (S : gS) (j : Nat) (a9 c9 : Nat) : rL (f_X7_askOperands S j) a9 c9 = rL S a9 c9 := by
  unfold f_X7_askOperands
  simp only [rL_ite, snd_ite2, ite_self, rL_wI, rL_wR, fl_f_X7_ask]

theorem fl_bd_fill (v : Int32) (i : Nat) (p : gS) (a9 c9 : Nat) : rL (bd_fill v i p) a9 c9 = rL p a9 c9 := by
  unfold bd_fill
  simp only [rL_ite, snd_ite2, ite_self, rL_wI, rL_wR]

theorem fl_lp_bd_fill (v : Int32) (n9 : Nat) (p9 : gS) (a9 c9 : Nat) : rL (itr (bd_fill v) n9 p9) a9 c9 = rL p9 a9 c9 := rL_itr (fun i p => fl_bd_fill v i p a9 c9) n9 p9

theorem fl_f_fill (S : gS) (v : Int32) (a9 c9 : Nat) : rL (f_fill S v) a9 c9 = rL S a9 c9 := by
  unfold f_fill
  simp only [rL_ite, snd_ite2, ite_self, rL_wI, rL_wR, fl_lp_bd_fill]

theorem fl_bd_wout (i : Nat) (p : gS) (a9 c9 : Nat) : rL (bd_wout i p) a9 c9 = rL p a9 c9 := by
  unfold bd_wout
  simp only [rL_ite, snd_ite2, ite_self, rL_wI, rL_wR, fl_f_X7_ask]

theorem fl_lp_bd_wout  (n9 : Nat) (p9 : gS) (a9 c9 : Nat) : rL (itr (bd_wout ) n9 p9) a9 c9 = rL p9 a9 c9 := rL_itr (fun i p => fl_bd_wout  i p a9 c9) n9 p9

theorem fl_bd_wp (n i : Nat) (p : gS) (a9 c9 : Nat) : rL (bd_wp n i p) a9 c9 = rL p a9 c9 := by
  unfold bd_wp
  simp only [rL_ite, ite_self, fl_f_X7_askOperands]
theorem fl_lp_bd_wp (n n9 : Nat) (p9 : gS) (a9 c9 : Nat) : rL (itr (bd_wp n) n9 p9) a9 c9 = rL p9 a9 c9 := rL_itr (fun i p => fl_bd_wp n i p a9 c9) n9 p9
theorem fl_wpS (S : gS) (n k a9 c9 : Nat) : rL (wpS S n k) a9 c9 = rL S a9 c9 := by
  induction k with
  | zero => rfl
  | succ k ih =>
    refine Eq.trans ?_ ih
    show rL (itr (bd_wp n) n (wI (wpS S n k) 40 3 0)) a9 c9 = _
    rw [fl_lp_bd_wp, rL_wI]

theorem fl_bd_wnar (i : Nat) (p : gS) (a9 c9 : Nat) : rL (bd_wnar i p) a9 c9 = rL p a9 c9 := by
  unfold bd_wnar
  simp only [rL_ite, snd_ite2, ite_self, rL_wI, rL_wR]

theorem fl_lp_bd_wnar  (n9 : Nat) (p9 : gS) (a9 c9 : Nat) : rL (itr (bd_wnar ) n9 p9) a9 c9 = rL p9 a9 c9 := rL_itr (fun i p => fl_bd_wnar  i p a9 c9) n9 p9

theorem fl_f_X7_find (S : gS) (n G : Nat) (a9 c9 : Nat) : rL (f_X7_find S n G) a9 c9 = rL S a9 c9 := by
  unfold f_X7_find
  simp only [rL_ite, snd_ite2, ite_self, rL_wI, rL_wR, fl_f_fill, fl_lp_bd_wout, fl_wpS, fl_lp_bd_wnar]

theorem fl_f_X6_place (S : gS) (j : Nat) (w : Int32) (a9 c9 : Nat) : rL (f_X6_place S j w).2 a9 c9 = rL S a9 c9 := by
  unfold f_X6_place
  simp only [rL_ite, snd_ite2, ite_self, rL_wI, rL_wR]

theorem fl_bd_uasg (i : Nat) (p : gS) (a9 c9 : Nat) : rL (bd_uasg i p) a9 c9 = rL p a9 c9 := by
  unfold bd_uasg
  simp only [rL_ite, snd_ite2, ite_self, rL_wI, rL_wR, fl_f_X6_place]

theorem fl_lp_bd_uasg  (n9 : Nat) (p9 : gS) (a9 c9 : Nat) : rL (itr (bd_uasg ) n9 p9) a9 c9 = rL p9 a9 c9 := rL_itr (fun i p => fl_bd_uasg  i p a9 c9) n9 p9

theorem fl_f_X6_assign (S : gS) (n : Nat) (a9 c9 : Nat) : rL (f_X6_assign S n) a9 c9 = rL S a9 c9 := by
  unfold f_X6_assign
  simp only [rL_ite, snd_ite2, ite_self, rL_wI, rL_wR, fl_lp_bd_uasg]

theorem fl_bd_setF (i : Nat) (p : gS) (a9 c9 : Nat) : rL (bd_setF i p) a9 c9 = rL p a9 c9 := by
  unfold bd_setF
  simp only [rL_ite, snd_ite2, ite_self, rL_wI, rL_wR]

theorem fl_lp_bd_setF  (n9 : Nat) (p9 : gS) (a9 c9 : Nat) : rL (itr (bd_setF ) n9 p9) a9 c9 = rL p9 a9 c9 := rL_itr (fun i p => fl_bd_setF  i p a9 c9) n9 p9

theorem fl_f_X3_settle (S : gS) (n : Nat) (a9 c9 : Nat) : rL (f_X3_settle S n) a9 c9 = rL S a9 c9 := by
  unfold f_X3_settle
  simp only [rL_ite, snd_ite2, ite_self, rL_wI, rL_wR, fl_lp_bd_setF]

theorem fl_bd_setN (i : Nat) (p : gS) (a9 c9 : Nat) : rL (bd_setN i p) a9 c9 = rL p a9 c9 := by
  unfold bd_setN
  simp only [rL_ite, snd_ite2, ite_self, rL_wI, rL_wR]

theorem fl_lp_bd_setN  (n9 : Nat) (p9 : gS) (a9 c9 : Nat) : rL (itr (bd_setN ) n9 p9) a9 c9 = rL p9 a9 c9 := rL_itr (fun i p => fl_bd_setN  i p a9 c9) n9 p9

theorem fl_f_X3_settleNarrowed (S : gS) (n : Nat) (a9 c9 : Nat) : rL (f_X3_settleNarrowed S n) a9 c9 = rL S a9 c9 := by
  unfold f_X3_settleNarrowed
  simp only [rL_ite, snd_ite2, ite_self, rL_wI, rL_wR, fl_lp_bd_setN]

theorem fl_f_X5_append (S : gS) (c : Int32) (a9 c9 : Nat) : rL (f_X5_append S c).2 a9 c9 = rL S a9 c9 := by
  unfold f_X5_append
  simp only [rL_ite, snd_ite2, ite_self, rL_wI, rL_wR]

theorem fl_f_X5_take (S : gS) (w : Int32) (a9 c9 : Nat) : rL (f_X5_take S w).2 a9 c9 = rL S a9 c9 := by
  unfold f_X5_take
  simp only [rL_ite, snd_ite2, ite_self, rL_wI, rL_wR]

theorem fl_f_dig2 (S : gS) (k : Nat) (i : Int32) (a9 c9 : Nat) : rL (f_dig2 S k i).2 a9 c9 = rL S a9 c9 := by
  unfold f_dig2
  simp only [rL_ite, snd_ite2, ite_self, rL_wI, rL_wR]

theorem fl_f_dig4 (S : gS) (k : Nat) (i : Int32) (a9 c9 : Nat) : rL (f_dig4 S k i).2 a9 c9 = rL S a9 c9 := by
  unfold f_dig4
  simp only [rL_ite, snd_ite2, ite_self, rL_wI, rL_wR]

theorem fl_f_X5_parseSignal (S : gS) (k : Nat) (i : Int32) (a9 c9 : Nat) : rL (f_X5_parseSignal S k i).2 a9 c9 = rL S a9 c9 := by
  unfold f_X5_parseSignal
  simp only [rL_ite, snd_ite2, ite_self, rL_wI, rL_wR, fl_f_dig2]

theorem fl_f_X5_parseNumber (S : gS) (k : Nat) (i : Int32) (a9 c9 : Nat) : rL (f_X5_parseNumber S k i).2 a9 c9 = rL S a9 c9 := by
  unfold f_X5_parseNumber
  simp only [rL_ite, snd_ite2, ite_self, rL_wI, rL_wR, fl_f_X5_take, fl_f_dig4]

theorem fl_f_X5_parseOperation (S : gS) (k : Nat) (a9 c9 : Nat) : rL (f_X5_parseOperation S k).2 a9 c9 = rL S a9 c9 := by
  unfold f_X5_parseOperation
  simp only [rL_ite, snd_ite2, ite_self, rL_wI, rL_wR, fl_f_X2_become, fl_f_X5_take, fl_f_X5_parseSignal]

theorem fl_f_X5_parseItem (S : gS) (k : Nat) (a9 c9 : Nat) : rL (f_X5_parseItem S k).2 a9 c9 = rL S a9 c9 := by
  unfold f_X5_parseItem
  simp only [rL_ite, snd_ite2, ite_self, rL_wI, rL_wR, fl_f_X2_become, fl_f_X5_take, fl_f_X5_parseSignal, fl_f_X5_parseNumber, fl_f_X5_parseOperation]

theorem fl_flF (S : gS) (c : Int32) (a9 c9 : Nat) : rL (flF S c).2 a9 c9 = rL S a9 c9 := by
  unfold flF
  simp only [rL_ite, snd_ite2, ite_self, rL_wI, rL_wR]

theorem fl_f_X9_feed (S : gS) (c : Int32) (a9 c9 : Nat) : rL (f_X9_feed S c).2 a9 c9 = rL S a9 c9 := by
  unfold f_X9_feed
  simp only [rL_ite, snd_ite2, ite_self, rL_wI, rL_wR, fl_flF]

theorem fl_f_X9_skips (S : gS) (c : Int32) (a9 c9 : Nat) : rL (f_X9_skips S c).2 a9 c9 = rL S a9 c9 := by
  unfold f_X9_skips
  simp only [rL_ite, snd_ite2, ite_self, rL_wI, rL_wR]

theorem fl_f_rdg2 (S : gS) (a9 c9 : Nat) : rL (f_rdg2 S).2 a9 c9 = rL S a9 c9 := by
  unfold f_rdg2
  simp only [rL_ite, snd_ite2, ite_self, rL_wI, rL_wR]

theorem fl_f_rdg4 (S : gS) (a9 c9 : Nat) : rL (f_rdg4 S).2 a9 c9 = rL S a9 c9 := by
  unfold f_rdg4
  simp only [rL_ite, snd_ite2, ite_self, rL_wI, rL_wR]

theorem fl_f_X9_takesNumber (S : gS) (a9 c9 : Nat) : rL (f_X9_takesNumber S).2 a9 c9 = rL S a9 c9 := by
  unfold f_X9_takesNumber
  simp only [rL_ite, snd_ite2, ite_self, rL_wI, rL_wR, fl_f_X9_skips, fl_f_rdg4]

theorem fl_f_X9_takesDigits (S : gS) (a9 c9 : Nat) : rL (f_X9_takesDigits S).2 a9 c9 = rL S a9 c9 := by
  unfold f_X9_takesDigits
  simp only [rL_ite, snd_ite2, ite_self, rL_wI, rL_wR, fl_f_rdg2]

theorem fl_f_pair1 (S : gS) (a9 c9 : Nat) : rL (f_pair1 S).2 a9 c9 = rL S a9 c9 := by
  unfold f_pair1
  simp only [rL_ite, snd_ite2, ite_self, rL_wI, rL_wR, fl_f_X9_skips, fl_f_X9_takesNumber]

theorem fl_f_pair0 (S : gS) (a9 c9 : Nat) : rL (f_pair0 S).2 a9 c9 = rL S a9 c9 := by
  unfold f_pair0
  simp only [rL_ite, snd_ite2, ite_self, rL_wI, rL_wR, fl_f_X9_skips, fl_f_X9_takesDigits]

theorem fl_f_one1 (S : gS) (a9 c9 : Nat) : rL (f_one1 S).2 a9 c9 = rL S a9 c9 := by
  unfold f_one1
  simp only [rL_ite, snd_ite2, ite_self, rL_wI, rL_wR, fl_f_X9_takesNumber]

theorem fl_f_one2 (S : gS) (a9 c9 : Nat) : rL (f_one2 S).2 a9 c9 = rL S a9 c9 := by
  unfold f_one2
  simp only [rL_ite, snd_ite2, ite_self, rL_wI, rL_wR, fl_f_X9_takesNumber]

theorem fl_f_one14 (S : gS) (a9 c9 : Nat) : rL (f_one14 S).2 a9 c9 = rL S a9 c9 := by
  unfold f_one14
  simp only [rL_ite, snd_ite2, ite_self, rL_wI, rL_wR, fl_f_X9_takesDigits]

theorem fl_f_X9_takesSignal (S : gS) (a9 c9 : Nat) : rL (f_X9_takesSignal S).2 a9 c9 = rL S a9 c9 := by
  unfold f_X9_takesSignal
  simp only [rL_ite, snd_ite2, ite_self, rL_wI, rL_wR, fl_f_X9_skips, fl_f_X9_takesDigits]

theorem fl_f_X9_takesItem (S : gS) (a9 c9 : Nat) : rL (f_X9_takesItem S).2 a9 c9 = rL S a9 c9 := by
  unfold f_X9_takesItem
  simp only [rL_ite, snd_ite2, ite_self, rL_wI, rL_wR, fl_f_X9_skips, fl_f_pair1, fl_f_pair0, fl_f_one1, fl_f_one2, fl_f_one14, fl_f_X9_takesSignal]

theorem fl_f_X9_faults (S : gS) (i k p c r : Int32) (a9 c9 : Nat) : rL (f_X9_faults S i k p c r) a9 c9 = rL S a9 c9 := by
  unfold f_X9_faults
  simp only [rL_ite, snd_ite2, ite_self, rL_wI, rL_wR]

theorem fl_f_X9_fault (S : gS) (l w : Int32) (a9 c9 : Nat) : rL (f_X9_fault S l w).2 a9 c9 = rL S a9 c9 := by
  unfold f_X9_fault
  simp only [rL_ite, snd_ite2, ite_self, rL_wI, rL_wR, fl_flF]

theorem fl_f_X9_notDone (S : gS) (k : Nat) (a9 c9 : Nat) : rL (f_X9_notDone S k).2 a9 c9 = rL S a9 c9 := by
  unfold f_X9_notDone
  simp only [rL_ite, snd_ite2, ite_self, rL_wI, rL_wR]

theorem fl_f_X9_does (S : gS) (k : Nat) (a9 c9 : Nat) : rL (f_X9_does S k) a9 c9 = rL S a9 c9 := by
  unfold f_X9_does
  simp only [rL_ite, snd_ite2, ite_self, rL_wI, rL_wR, fl_adF]

theorem fl_bd_pas (k : Nat) (i : Nat) (p : gS) (a9 c9 : Nat) : rL (bd_pas k i p) a9 c9 = rL p a9 c9 := by
  unfold bd_pas
  simp only [rL_ite, snd_ite2, ite_self, rL_wI, rL_wR]

theorem fl_lp_bd_pas (k : Nat) (n9 : Nat) (p9 : gS) (a9 c9 : Nat) : rL (itr (bd_pas k) n9 p9) a9 c9 = rL p9 a9 c9 := rL_itr (fun i p => fl_bd_pas k i p a9 c9) n9 p9

theorem fl_f_X9_passes (S : gS) (k : Nat) (a9 c9 : Nat) : rL (f_X9_passes S k) a9 c9 = rL S a9 c9 := by
  unfold f_X9_passes
  simp only [rL_ite, snd_ite2, ite_self, rL_wI, rL_wR, fl_lp_bd_pas]

theorem fl_f_X9_passOne (S : gS) (v : Int32) (a9 c9 : Nat) : rL (f_X9_passOne S v).2 a9 c9 = rL S a9 c9 := by
  unfold f_X9_passOne
  simp only [rL_ite, snd_ite2, ite_self, rL_wI, rL_wR]

theorem fl_f_pass00 (S : gS) (a9 c9 : Nat) : rL (f_pass00 S) a9 c9 = rL S a9 c9 := by
  unfold f_pass00
  simp only [rL_ite, snd_ite2, ite_self, rL_wI, rL_wR, fl_f_X9_passes, fl_f_X9_passOne]

theorem fl_f_pass01 (S : gS) (a9 c9 : Nat) : rL (f_pass01 S) a9 c9 = rL S a9 c9 := by
  unfold f_pass01
  simp only [rL_ite, snd_ite2, ite_self, rL_wI, rL_wR, fl_f_X9_passes, fl_f_X9_passOne]

theorem fl_f_pass10 (S : gS) (a9 c9 : Nat) : rL (f_pass10 S) a9 c9 = rL S a9 c9 := by
  unfold f_pass10
  simp only [rL_ite, snd_ite2, ite_self, rL_wI, rL_wR, fl_f_X9_passes, fl_f_X9_passOne]

theorem fl_f_pass11 (S : gS) (a9 c9 : Nat) : rL (f_pass11 S) a9 c9 = rL S a9 c9 := by
  unfold f_pass11
  simp only [rL_ite, snd_ite2, ite_self, rL_wI, rL_wR, fl_f_X9_passes, fl_f_X9_passOne]

theorem fl_f_X9_saveSnapshot (S : gS) (a9 c9 : Nat) : rL (f_X9_saveSnapshot S).2 a9 c9 = rL S a9 c9 := by
  unfold f_X9_saveSnapshot
  simp only [rL_ite, snd_ite2, ite_self, rL_wI, rL_wR, fl_f_pass01]

theorem fl_f_X9_restoreSnapshot (S : gS) (a9 c9 : Nat) : rL (f_X9_restoreSnapshot S).2 a9 c9 = rL S a9 c9 := by
  unfold f_X9_restoreSnapshot
  simp only [rL_ite, snd_ite2, ite_self, rL_wI, rL_wR, fl_flF, fl_f_pass00]

theorem fl_bd_cpo12_1 (i : Nat) (p : gS) (a9 c9 : Nat) : rL (bd_cpo12_1 i p) a9 c9 = rL p a9 c9 := by
  unfold bd_cpo12_1
  simp only [rL_ite, snd_ite2, ite_self, rL_wI, rL_wR]

theorem fl_lp_bd_cpo12_1  (n9 : Nat) (p9 : gS) (a9 c9 : Nat) : rL (itr (bd_cpo12_1 ) n9 p9) a9 c9 = rL p9 a9 c9 := rL_itr (fun i p => fl_bd_cpo12_1  i p a9 c9) n9 p9

theorem fl_f_copy12_1 (S : gS) (a9 c9 : Nat) : rL (f_copy12_1 S) a9 c9 = rL S a9 c9 := by
  unfold f_copy12_1
  simp only [rL_ite, snd_ite2, ite_self, rL_wI, rL_wR, fl_f_X0_copyRow, fl_lp_bd_cpo12_1]

theorem fl_bd_cpo23_1 (i : Nat) (p : gS) (a9 c9 : Nat) : rL (bd_cpo23_1 i p) a9 c9 = rL p a9 c9 := by
  unfold bd_cpo23_1
  simp only [rL_ite, snd_ite2, ite_self, rL_wI, rL_wR]

theorem fl_lp_bd_cpo23_1  (n9 : Nat) (p9 : gS) (a9 c9 : Nat) : rL (itr (bd_cpo23_1 ) n9 p9) a9 c9 = rL p9 a9 c9 := rL_itr (fun i p => fl_bd_cpo23_1  i p a9 c9) n9 p9

theorem fl_f_copy23_1 (S : gS) (a9 c9 : Nat) : rL (f_copy23_1 S) a9 c9 = rL S a9 c9 := by
  unfold f_copy23_1
  simp only [rL_ite, snd_ite2, ite_self, rL_wI, rL_wR, fl_f_X0_copyRow, fl_lp_bd_cpo23_1]

theorem fl_bd_cpo1_12 (i : Nat) (p : gS) (a9 c9 : Nat) : rL (bd_cpo1_12 i p) a9 c9 = rL p a9 c9 := by
  unfold bd_cpo1_12
  simp only [rL_ite, snd_ite2, ite_self, rL_wI, rL_wR]

theorem fl_lp_bd_cpo1_12  (n9 : Nat) (p9 : gS) (a9 c9 : Nat) : rL (itr (bd_cpo1_12 ) n9 p9) a9 c9 = rL p9 a9 c9 := rL_itr (fun i p => fl_bd_cpo1_12  i p a9 c9) n9 p9

theorem fl_f_copy1_12 (S : gS) (a9 c9 : Nat) : rL (f_copy1_12 S) a9 c9 = rL S a9 c9 := by
  unfold f_copy1_12
  simp only [rL_ite, snd_ite2, ite_self, rL_wI, rL_wR, fl_f_X0_copyRow, fl_lp_bd_cpo1_12]

theorem fl_bd_cpo1_23 (i : Nat) (p : gS) (a9 c9 : Nat) : rL (bd_cpo1_23 i p) a9 c9 = rL p a9 c9 := by
  unfold bd_cpo1_23
  simp only [rL_ite, snd_ite2, ite_self, rL_wI, rL_wR]

theorem fl_lp_bd_cpo1_23  (n9 : Nat) (p9 : gS) (a9 c9 : Nat) : rL (itr (bd_cpo1_23 ) n9 p9) a9 c9 = rL p9 a9 c9 := rL_itr (fun i p => fl_bd_cpo1_23  i p a9 c9) n9 p9

theorem fl_f_copy1_23 (S : gS) (a9 c9 : Nat) : rL (f_copy1_23 S) a9 c9 = rL S a9 c9 := by
  unfold f_copy1_23
  simp only [rL_ite, snd_ite2, ite_self, rL_wI, rL_wR, fl_f_X0_copyRow, fl_lp_bd_cpo1_23]

theorem fl_f_X0_dropLast (S : gS) (n : Nat) (a9 c9 : Nat) : rL (f_X0_dropLast S n).2 a9 c9 = rL S a9 c9 := by
  unfold f_X0_dropLast
  simp only [rL_ite, snd_ite2, ite_self, rL_wI, rL_wR, fl_lp_bd_dropLast]

theorem fl_f_X8_beginAnew (S : gS) (n : Nat) (a9 c9 : Nat) : rL (f_X8_beginAnew S n) a9 c9 = rL S a9 c9 := by
  unfold f_X8_beginAnew
  simp only [rL_ite, snd_ite2, ite_self, rL_wI, rL_wR, fl_f_X0_rewind]

theorem fl_f_X8_restart (S : gS) (n : Nat) (a9 c9 : Nat) : rL (f_X8_restart S n).2 a9 c9 = rL S a9 c9 := by
  unfold f_X8_restart
  simp only [rL_ite, snd_ite2, ite_self, rL_wI, rL_wR, fl_f_X0_rewind]

theorem fl_f_X8_settleBoth (S : gS) (n : Nat) (a9 c9 : Nat) : rL (f_X8_settleBoth S n) a9 c9 = rL S a9 c9 := by
  unfold f_X8_settleBoth
  simp only [rL_ite, snd_ite2, ite_self, rL_wI, rL_wR, fl_f_X3_settle, fl_f_X3_settleNarrowed]

theorem fl_f_X8_refuse (S : gS) (i c r : Int32) (a9 c9 : Nat) : rL (f_X8_refuse S i c r).2 a9 c9 = rL S a9 c9 := by
  unfold f_X8_refuse
  simp only [rL_ite, snd_ite2, ite_self, rL_wI, rL_wR, fl_f_X1_become, fl_f_X1_addCause]

theorem fl_f_X8_requireSignal (S : gS) (r : Int32) (a9 c9 : Nat) : rL (f_X8_requireSignal S r).2.2 a9 c9 = rL S a9 c9 := by
  unfold f_X8_requireSignal
  simp only [rL_ite, snd_ite2, ite_self, rL_wI, rL_wR]

theorem fl_f_X8_setNext (S : gS) (r t : Int32) (n : Nat) (a9 c9 : Nat) : rL (f_X8_setNext S r t n).2.2 a9 c9 = rL S a9 c9 := by
  unfold f_X8_setNext
  simp only [rL_ite, snd_ite2, ite_self, rL_wI, rL_wR, fl_f_X8_beginAnew]

theorem fl_f_X8_setOutput (S : gS) (r v : Int32) (n : Nat) (a9 c9 : Nat) : rL (f_X8_setOutput S r v n).2.2 a9 c9 = rL S a9 c9 := by
  unfold f_X8_setOutput
  simp only [rL_ite, snd_ite2, ite_self, rL_wI, rL_wR, fl_f_X8_beginAnew]

theorem fl_f_X8_setPhase (S : gS) (r v : Int32) (a9 c9 : Nat) : rL (f_X8_setPhase S r v).2.2 a9 c9 = rL S a9 c9 := by
  unfold f_X8_setPhase
  simp only [rL_ite, snd_ite2, ite_self, rL_wI, rL_wR]

theorem fl_f_X8_signal (S : gS) (r w : Int32) (a9 c9 : Nat) : rL (f_X8_signal S r w).2.2 a9 c9 = rL S a9 c9 := by
  unfold f_X8_signal
  simp only [rL_ite, snd_ite2, ite_self, rL_wI, rL_wR]

theorem fl_f_X8_setInput (S : gS) (r v : Int32) (a9 c9 : Nat) : rL (f_X8_setInput S r v).2.2 a9 c9 = rL S a9 c9 := by
  unfold f_X8_setInput
  simp only [rL_ite, snd_ite2, ite_self, rL_wI, rL_wR]

theorem fl_f_X8_removeLast (S : gS) (n : Nat) (a9 c9 : Nat) : rL (f_X8_removeLast S n).2.2 a9 c9 = rL S a9 c9 := by
  unfold f_X8_removeLast
  simp only [rL_ite, snd_ite2, ite_self, rL_wI, rL_wR, fl_f_X0_dropLast, fl_f_X8_beginAnew]

theorem fl_f_X8_fault (S : gS) (l w : Int32) (a9 c9 : Nat) : rL (f_X8_fault S l w).2.2 a9 c9 = rL S a9 c9 := by
  unfold f_X8_fault
  simp only [rL_ite, snd_ite2, ite_self, rL_wI, rL_wR]

theorem fl_f_X8_feed (S : gS) (c : Int32) (a9 c9 : Nat) : rL (f_X8_feed S c).2.2 a9 c9 = rL S a9 c9 := by
  unfold f_X8_feed
  simp only [rL_ite, snd_ite2, ite_self, rL_wI, rL_wR, fl_f_X5_append]

theorem fl_f_X8_restoreSnapshot (S : gS) (a9 c9 : Nat) : rL (f_X8_restoreSnapshot S).2.2 a9 c9 = rL S a9 c9 := by
  unfold f_X8_restoreSnapshot
  simp only [rL_ite, snd_ite2, ite_self, rL_wI, rL_wR, fl_f_copy1_12]

theorem fl_f_X8_analyse (S : gS) (n K G : Nat) (a9 c9 : Nat) : rL (f_X8_analyse S n K G) a9 c9 = rL S a9 c9 := by
  unfold f_X8_analyse
  simp only [rL_ite, snd_ite2, ite_self, rL_wI, rL_wR, fl_f_X4_find, fl_f_X7_find, fl_f_X6_assign]

theorem fl_bd_run (n : Nat) (i : Nat) (p : gS) (a9 c9 : Nat) : rL (bd_run n i p) a9 c9 = rL p a9 c9 := by
  unfold bd_run
  simp only [rL_ite, snd_ite2, ite_self, rL_wI, rL_wR, fl_f_takeF, fl_f_takeN, fl_f_X8_settleBoth]

theorem fl_lp_bd_run (n : Nat) (n9 : Nat) (p9 : gS) (a9 c9 : Nat) : rL (itr (bd_run n) n9 p9) a9 c9 = rL p9 a9 c9 := rL_itr (fun i p => fl_bd_run n i p a9 c9) n9 p9

theorem fl_f_X8_saveSnapshot (S : gS) (a9 c9 : Nat) : rL (f_X8_saveSnapshot S).2 a9 c9 = rL S a9 c9 := by
  unfold f_X8_saveSnapshot
  simp only [rL_ite, snd_ite2, ite_self, rL_wI, rL_wR, fl_f_copy12_1]

theorem fl_f_X8_clear (S : gS) (n : Nat) (a9 c9 : Nat) : rL (f_X8_clear S n).2 a9 c9 = rL S a9 c9 := by
  unfold f_X8_clear
  simp only [rL_ite, snd_ite2, ite_self, rL_wI, rL_wR, fl_f_X8_beginAnew]

theorem fl_f_X8_add (S : gS) (kd a b c : Int32) (n : Nat) (a9 c9 : Nat) : rL (f_X8_add S kd a b c n).2.2 a9 c9 = rL S a9 c9 := by
  unfold f_X8_add
  simp only [rL_ite, snd_ite2, ite_self, rL_wI, rL_wR, fl_f_X2_become, fl_f_X0_append, fl_f_X8_beginAnew]

theorem fl_f_X8_carryOut (S : gS) (k : Nat) (i : Int32) (a9 c9 : Nat) : rL (f_X8_carryOut S k i).2 a9 c9 = rL S a9 c9 := by
  unfold f_X8_carryOut
  simp only [rL_ite, snd_ite2, ite_self, rL_wI, rL_wR, fl_f_X0_append, fl_f_X8_refuse]

theorem fl_clS (S : gS) (a : Nat) (a9 c9 : Nat) : rL (clS S a) a9 c9 = rL S a9 c9 := by
  unfold clS
  simp only [rL_ite, snd_ite2, ite_self, rL_wI, rL_wR]

theorem fl_itS (S : gS) (k : Nat) (kd x y z : Int32) (a9 c9 : Nat) : rL (itS S k kd x y z) a9 c9 = rL S a9 c9 := by
  unfold itS
  simp only [rL_ite, snd_ite2, ite_self, rL_wI, rL_wR]

theorem fl_clN (S : gS) (a n : Nat) (a9 c9 : Nat) : rL (clN S a n) a9 c9 = rL S a9 c9 := by
  unfold clN
  simp only [rL_ite, snd_ite2, ite_self, rL_wI, rL_wR]

theorem fl_itX (S : gS) (c : Nat → Int32) (L a n a9 c9 : Nat) : rL (itX S c L a n) a9 c9 = rL S a9 c9 := by
  unfold itX itS
  simp only [rL_wI]
theorem fl_pzS (c : Nat → Int32) (L a9 c9 : Nat) : ∀ f n a S, rL (pzS c L f n a S).2 a9 c9 = rL S a9 c9 := by
  intro f
  induction f with
  | zero => intro n a S; exact fl_clN S a n a9 c9
  | succ f ih =>
    intro n a S
    unfold pzS
    split
    · exact (fl_clN _ _ _ a9 c9).trans (fl_itX _ _ _ _ _ _ _)
    split
    · exact (fl_clN _ _ _ a9 c9).trans (fl_itX _ _ _ _ _ _ _)
    split
    · exact (ih _ _ _).trans (fl_itX _ _ _ _ _ _ _)
    · exact (fl_clN _ _ _ a9 c9).trans (fl_itX _ _ _ _ _ _ _)
theorem fl_cyF (a9 c9 : Nat) : ∀ f i S, rL (cyF f i S).2 a9 c9 = rL S a9 c9 := by
  intro f
  induction f with
  | zero => intro i S; exact fl_f_X8_beginAnew _ _ a9 c9
  | succ f ih =>
    intro i S
    unfold cyF
    split
    · exact (fl_f_copy1_23 _ a9 c9).trans (fl_f_X8_carryOut _ _ _ a9 c9)
    · exact (ih _ _).trans (fl_f_X8_carryOut _ _ _ a9 c9)
theorem fl_f_X8_read (S : gS) (L a9 c9 : Nat) : rL (f_X8_read S L).2 a9 c9 = rL S a9 c9 := by
  unfold f_X8_read
  split
  · exact (fl_f_X1_become _ _ _ _ a9 c9).trans ((rL_wI _ _ _ _ a9 c9).trans ((fl_pzS _ _ a9 c9 _ _ _ _).trans (fl_f_X1_forget _ a9 c9)))
  · exact (fl_cyF a9 c9 _ _ _).trans ((fl_f_copy23_1 _ a9 c9).trans ((rL_wI _ _ _ _ a9 c9).trans ((fl_pzS _ _ a9 c9 _ _ _ _).trans (fl_f_X1_forget _ a9 c9))))

