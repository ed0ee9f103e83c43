section GR
variable {M : go_M} {x : Bool} {Q : go_Q} {cl sl pc : Nat} {ls : List (Nat × Value)} {st : List Value} {h : go_H}
theorem go_iadd (n : Nat) {a c9 : Int32} (hd : decode M.code pc = .ok (.iadd, 1)) (hn : pc + 1 = n) (k : Go M x Q cl sl n ls (.int (a + c9) :: st) h) : Go M x Q cl sl pc ls (.int c9 :: .int a :: st) h := by
  subst hn
  intro p l e s m args below meth c b kap D H locs ks hX hP hS hl
  have hX9 := hX
  obtain ⟨hx, hb, hml, hown, hts, hr, hlk, hnt, hK, hnm, htb⟩ := hX9
  exact lv_iadd hx hb hd (k p l e s m args below meth c b kap D H locs ks hX hP hS hl)
theorem go_isub (n : Nat) {a c9 : Int32} (hd : decode M.code pc = .ok (.isub, 1)) (hn : pc + 1 = n) (k : Go M x Q cl sl n ls (.int (a - c9) :: st) h) : Go M x Q cl sl pc ls (.int c9 :: .int a :: st) h := by
  subst hn
  intro p l e s m args below meth c b kap D H locs ks hX hP hS hl
  have hX9 := hX
  obtain ⟨hx, hb, hml, hown, hts, hr, hlk, hnt, hK, hnm, htb⟩ := hX9
  exact lv_isub hx hb hd (k p l e s m args below meth c b kap D H locs ks hX hP hS hl)
theorem go_imul (n : Nat) {a c9 : Int32} (hd : decode M.code pc = .ok (.imul, 1)) (hn : pc + 1 = n) (k : Go M x Q cl sl n ls (.int (a * c9) :: st) h) : Go M x Q cl sl pc ls (.int c9 :: .int a :: st) h := by
  subst hn
  intro p l e s m args below meth c b kap D H locs ks hX hP hS hl
  have hX9 := hX
  obtain ⟨hx, hb, hml, hown, hts, hr, hlk, hnt, hK, hnm, htb⟩ := hX9
  exact lv_imul hx hb hd (k p l e s m args below meth c b kap D H locs ks hX hP hS hl)
theorem go_iand (n : Nat) {a c9 : Int32} (hd : decode M.code pc = .ok (.iand, 1)) (hn : pc + 1 = n) (k : Go M x Q cl sl n ls (.int (a &&& c9) :: st) h) : Go M x Q cl sl pc ls (.int c9 :: .int a :: st) h := by
  subst hn
  intro p l e s m args below meth c b kap D H locs ks hX hP hS hl
  have hX9 := hX
  obtain ⟨hx, hb, hml, hown, hts, hr, hlk, hnt, hK, hnm, htb⟩ := hX9
  exact lv_iand hx hb hd (k p l e s m args below meth c b kap D H locs ks hX hP hS hl)
theorem go_ior (n : Nat) {a c9 : Int32} (hd : decode M.code pc = .ok (.ior, 1)) (hn : pc + 1 = n) (k : Go M x Q cl sl n ls (.int (a ||| c9) :: st) h) : Go M x Q cl sl pc ls (.int c9 :: .int a :: st) h := by
  subst hn
  intro p l e s m args below meth c b kap D H locs ks hX hP hS hl
  have hX9 := hX
  obtain ⟨hx, hb, hml, hown, hts, hr, hlk, hnt, hK, hnm, htb⟩ := hX9
  exact lv_ior hx hb hd (k p l e s m args below meth c b kap D H locs ks hX hP hS hl)
theorem go_ixor (n : Nat) {a c9 : Int32} (hd : decode M.code pc = .ok (.ixor, 1)) (hn : pc + 1 = n) (k : Go M x Q cl sl n ls (.int (a ^^^ c9) :: st) h) : Go M x Q cl sl pc ls (.int c9 :: .int a :: st) h := by
  subst hn
  intro p l e s m args below meth c b kap D H locs ks hX hP hS hl
  have hX9 := hX
  obtain ⟨hx, hb, hml, hown, hts, hr, hlk, hnt, hK, hnm, htb⟩ := hX9
  exact lv_ixor hx hb hd (k p l e s m args below meth c b kap D H locs ks hX hP hS hl)
theorem go_ishl (n : Nat) {a c9 : Int32} (hd : decode M.code pc = .ok (.ishl, 1)) (hn : pc + 1 = n) (k : Go M x Q cl sl n ls (.int (a <<< (c9 &&& 31)) :: st) h) : Go M x Q cl sl pc ls (.int c9 :: .int a :: st) h := by
  subst hn
  intro p l e s m args below meth c b kap D H locs ks hX hP hS hl
  have hX9 := hX
  obtain ⟨hx, hb, hml, hown, hts, hr, hlk, hnt, hK, hnm, htb⟩ := hX9
  exact lv_ishl hx hb hd (k p l e s m args below meth c b kap D H locs ks hX hP hS hl)
theorem go_ishr (n : Nat) {a c9 : Int32} (hd : decode M.code pc = .ok (.ishr, 1)) (hn : pc + 1 = n) (k : Go M x Q cl sl n ls (.int (a >>> (c9 &&& 31)) :: st) h) : Go M x Q cl sl pc ls (.int c9 :: .int a :: st) h := by
  subst hn
  intro p l e s m args below meth c b kap D H locs ks hX hP hS hl
  have hX9 := hX
  obtain ⟨hx, hb, hml, hown, hts, hr, hlk, hnt, hK, hnm, htb⟩ := hX9
  exact lv_ishr hx hb hd (k p l e s m args below meth c b kap D H locs ks hX hP hS hl)
theorem go_ladd (n : Nat) {a c9 : Int64} (hd : decode M.code pc = .ok (.ladd, 1)) (hn : pc + 1 = n) (k : Go M x Q cl sl n ls (.long (a + c9) :: st) h) : Go M x Q cl sl pc ls (.long c9 :: .long a :: st) h := by
  subst hn
  intro p l e s m args below meth c b kap D H locs ks hX hP hS hl
  have hX9 := hX
  obtain ⟨hx, hb, hml, hown, hts, hr, hlk, hnt, hK, hnm, htb⟩ := hX9
  exact lv_ladd hx hb hd (k p l e s m args below meth c b kap D H locs ks hX hP hS hl)
theorem go_lsub (n : Nat) {a c9 : Int64} (hd : decode M.code pc = .ok (.lsub, 1)) (hn : pc + 1 = n) (k : Go M x Q cl sl n ls (.long (a - c9) :: st) h) : Go M x Q cl sl pc ls (.long c9 :: .long a :: st) h := by
  subst hn
  intro p l e s m args below meth c b kap D H locs ks hX hP hS hl
  have hX9 := hX
  obtain ⟨hx, hb, hml, hown, hts, hr, hlk, hnt, hK, hnm, htb⟩ := hX9
  exact lv_lsub hx hb hd (k p l e s m args below meth c b kap D H locs ks hX hP hS hl)
theorem go_lmul (n : Nat) {a c9 : Int64} (hd : decode M.code pc = .ok (.lmul, 1)) (hn : pc + 1 = n) (k : Go M x Q cl sl n ls (.long (a * c9) :: st) h) : Go M x Q cl sl pc ls (.long c9 :: .long a :: st) h := by
  subst hn
  intro p l e s m args below meth c b kap D H locs ks hX hP hS hl
  have hX9 := hX
  obtain ⟨hx, hb, hml, hown, hts, hr, hlk, hnt, hK, hnm, htb⟩ := hX9
  exact lv_lmul hx hb hd (k p l e s m args below meth c b kap D H locs ks hX hP hS hl)
theorem go_ineg (n : Nat) {a : Int32} (hd : decode M.code pc = .ok (.ineg, 1)) (hn : pc + 1 = n) (k : Go M x Q cl sl n ls (.int (-a) :: st) h) : Go M x Q cl sl pc ls (.int a :: st) h := by
  subst hn
  intro p l e s m args below meth c b kap D H locs ks hX hP hS hl
  have hX9 := hX
  obtain ⟨hx, hb, hml, hown, hts, hr, hlk, hnt, hK, hnm, htb⟩ := hX9
  exact lv_ineg hx hb hd (k p l e s m args below meth c b kap D H locs ks hX hP hS hl)
theorem go_lneg (n : Nat) {a : Int64} (hd : decode M.code pc = .ok (.lneg, 1)) (hn : pc + 1 = n) (k : Go M x Q cl sl n ls (.long (-a) :: st) h) : Go M x Q cl sl pc ls (.long a :: st) h := by
  subst hn
  intro p l e s m args below meth c b kap D H locs ks hX hP hS hl
  have hX9 := hX
  obtain ⟨hx, hb, hml, hown, hts, hr, hlk, hnt, hK, hnm, htb⟩ := hX9
  exact lv_lneg hx hb hd (k p l e s m args below meth c b kap D H locs ks hX hP hS hl)
theorem go_i2l (n : Nat) {a : Int32} (hd : decode M.code pc = .ok (.i2l, 1)) (hn : pc + 1 = n) (k : Go M x Q cl sl n ls (.long a.toInt64 :: st) h) : Go M x Q cl sl pc ls (.int a :: st) h := by
  subst hn
  intro p l e s m args below meth c b kap D H locs ks hX hP hS hl
  have hX9 := hX
  obtain ⟨hx, hb, hml, hown, hts, hr, hlk, hnt, hK, hnm, htb⟩ := hX9
  exact lv_i2l hx hb hd rfl (k p l e s m args below meth c b kap D H locs ks hX hP hS hl)
theorem go_l2i (n : Nat) {a : Int64} (hd : decode M.code pc = .ok (.l2i, 1)) (hn : pc + 1 = n) (k : Go M x Q cl sl n ls (.int a.toInt32 :: st) h) : Go M x Q cl sl pc ls (.long a :: st) h := by
  subst hn
  intro p l e s m args below meth c b kap D H locs ks hX hP hS hl
  have hX9 := hX
  obtain ⟨hx, hb, hml, hown, hts, hr, hlk, hnt, hK, hnm, htb⟩ := hX9
  exact lv_l2i hx hb hd rfl (k p l e s m args below meth c b kap D H locs ks hX hP hS hl)
theorem go_i2c (n : Nat) {a : Int32} (hd : decode M.code pc = .ok (.i2c, 1)) (hn : pc + 1 = n) (k : Go M x Q cl sl n ls (.int (a.toUInt32 % 65536).toInt32 :: st) h) : Go M x Q cl sl pc ls (.int a :: st) h := by
  subst hn
  intro p l e s m args below meth c b kap D H locs ks hX hP hS hl
  have hX9 := hX
  obtain ⟨hx, hb, hml, hown, hts, hr, hlk, hnt, hK, hnm, htb⟩ := hX9
  exact lv_i2c hx hb hd rfl (k p l e s m args below meth c b kap D H locs ks hX hP hS hl)
theorem go_i2d (n : Nat) {a : Int32} (hd : decode M.code pc = .ok (.i2d, 1)) (hn : pc + 1 = n) (k : Go M x Q cl sl n ls (.double (FP.i2d a) :: st) h) : Go M x Q cl sl pc ls (.int a :: st) h := by
  subst hn
  intro p l e s m args below meth c b kap D H locs ks hX hP hS hl
  have hX9 := hX
  obtain ⟨hx, hb, hml, hown, hts, hr, hlk, hnt, hK, hnm, htb⟩ := hX9
  exact lv_i2d hx hb hd (k p l e s m args below meth c b kap D H locs ks hX hP hS hl)
theorem go_iushr (n : Nat) {a c9 : Int32} (hd : decode M.code pc = .ok (.iushr, 1)) (hn : pc + 1 = n) (k : Go M x Q cl sl n ls (.int (a.toUInt32 >>> (c9.toUInt32 &&& Int32.toUInt32 31)).toInt32 :: st) h) : Go M x Q cl sl pc ls (.int c9 :: .int a :: st) h := by
  subst hn
  intro p l e s m args below meth c b kap D H locs ks hX hP hS hl
  have hX9 := hX
  obtain ⟨hx, hb, hml, hown, hts, hr, hlk, hnt, hK, hnm, htb⟩ := hX9
  exact lv_iushr hx hb hd rfl (k p l e s m args below meth c b kap D H locs ks hX hP hS hl)
theorem go_lshl (n : Nat) {a : Int64} {c9 : Int32} (hd : decode M.code pc = .ok (.lshl, 1)) (hn : pc + 1 = n) (k : Go M x Q cl sl n ls (.long (a <<< (c9.toInt64 &&& 63)) :: st) h) : Go M x Q cl sl pc ls (.int c9 :: .long a :: st) h := by
  subst hn
  intro p l e s m args below meth c b kap D H locs ks hX hP hS hl
  have hX9 := hX
  obtain ⟨hx, hb, hml, hown, hts, hr, hlk, hnt, hK, hnm, htb⟩ := hX9
  exact lv_lshl hx hb hd rfl (k p l e s m args below meth c b kap D H locs ks hX hP hS hl)
theorem go_lshr (n : Nat) {a : Int64} {c9 : Int32} (hd : decode M.code pc = .ok (.lshr, 1)) (hn : pc + 1 = n) (k : Go M x Q cl sl n ls (.long (a >>> (c9.toInt64 &&& 63)) :: st) h) : Go M x Q cl sl pc ls (.int c9 :: .long a :: st) h := by
  subst hn
  intro p l e s m args below meth c b kap D H locs ks hX hP hS hl
  have hX9 := hX
  obtain ⟨hx, hb, hml, hown, hts, hr, hlk, hnt, hK, hnm, htb⟩ := hX9
  exact lv_lshr hx hb hd rfl (k p l e s m args below meth c b kap D H locs ks hX hP hS hl)
theorem go_lcmp (n : Nat) {a c9 : Int64} (hd : decode M.code pc = .ok (.lcmp, 1)) (hn : pc + 1 = n) (k : Go M x Q cl sl n ls (.int (lg_cmp a c9) :: st) h) : Go M x Q cl sl pc ls (.long c9 :: .long a :: st) h := by
  subst hn
  intro p l e s m args below meth c b kap D H locs ks hX hP hS hl
  have hX9 := hX
  obtain ⟨hx, hb, hml, hown, hts, hr, hlk, hnt, hK, hnm, htb⟩ := hX9
  exact W.lcmp hx hb hd (k p l e s m args below meth c b kap D H locs ks hX hP hS hl)
theorem go_dcmp (n : Nat) {a c9 : UInt64} {op : CmpOp} (hd : decode M.code pc = .ok (.dcmp op, 1)) (hn : pc + 1 = n) (k : Go M x Q cl sl n ls (.int (Op.cmpValue (FP.dcmp a c9) op) :: st) h) : Go M x Q cl sl pc ls (.double c9 :: .double a :: st) h := by
  subst hn
  intro p l e s m args below meth c b kap D H locs ks hX hP hS hl
  have hX9 := hX
  obtain ⟨hx, hb, hml, hown, hts, hr, hlk, hnt, hK, hnm, htb⟩ := hX9
  exact lv_dcmp hx hb hd (k p l e s m args below meth c b kap D H locs ks hX hP hS hl)
theorem go_ddiv (n : Nat) {a c9 : UInt64} (hd : decode M.code pc = .ok (.ddiv, 1)) (hn : pc + 1 = n) (hne : vf_n64 (FP.ddiv a c9)) (k : Go M x Q cl sl n ls (.double (FP.ddiv a c9) :: st) h) : Go M x Q cl sl pc ls (.double c9 :: .double a :: st) h := by
  subst hn
  intro p l e s m args below meth c b kap D H locs ks hX hP hS hl
  have hX9 := hX
  obtain ⟨hx, hb, hml, hown, hts, hr, hlk, hnt, hK, hnm, htb⟩ := hX9
  exact lv_ddiv hx hb hd hne (k p l e s m args below meth c b kap D H locs ks hX hP hS hl)
theorem go_dconst0 (n : Nat) (hd : decode M.code pc = .ok (.dconst 0, 1)) (hn : pc + 1 = n) (k : Go M x Q cl sl n ls (.double FP.dconst0 :: st) h) : Go M x Q cl sl pc ls (st) h := by
  subst hn
  intro p l e s m args below meth c b kap D H locs ks hX hP hS hl
  have hX9 := hX
  obtain ⟨hx, hb, hml, hown, hts, hr, hlk, hnt, hK, hnm, htb⟩ := hX9
  exact lv_dconst0 hx hb hd (k p l e s m args below meth c b kap D H locs ks hX hP hS hl)
theorem go_dup (n : Nat) {v : Value} (hd : decode M.code pc = .ok (.dup, 1)) (hn : pc + 1 = n) (hc : v.category = 1) (k : Go M x Q cl sl n ls (v :: v :: st) h) : Go M x Q cl sl pc ls (v :: st) h := by
  subst hn
  intro p l e s m args below meth c b kap D H locs ks hX hP hS hl
  have hX9 := hX
  obtain ⟨hx, hb, hml, hown, hts, hr, hlk, hnt, hK, hnm, htb⟩ := hX9
  exact lv_dup hx hb hd (by rw [go_v_cat]; exact hc) (k p l e s m args below meth c b kap D H locs ks hX hP hS hl)
theorem go_pop (n : Nat) {v : Value} (hd : decode M.code pc = .ok (.pop, 1)) (hn : pc + 1 = n) (hc : v.category = 1) (k : Go M x Q cl sl n ls (st) h) : Go M x Q cl sl pc ls (v :: st) h := by
  subst hn
  intro p l e s m args below meth c b kap D H locs ks hX hP hS hl
  have hX9 := hX
  obtain ⟨hx, hb, hml, hown, hts, hr, hlk, hnt, hK, hnm, htb⟩ := hX9
  exact lv_pop hx hb hd (by rw [go_v_cat]; exact hc) (k p l e s m args below meth c b kap D H locs ks hX hP hS hl)
theorem go_dup2 (n : Nat) {v w : Value} (hd : decode M.code pc = .ok (.dup2, 1)) (hn : pc + 1 = n) (hc : v.category = 1) (hc2 : w.category = 1) (k : Go M x Q cl sl n ls (v :: w :: v :: w :: st) h) : Go M x Q cl sl pc ls (v :: w :: st) h := by
  subst hn
  intro p l e s m args below meth c b kap D H locs ks hX hP hS hl
  have hX9 := hX
  obtain ⟨hx, hb, hml, hown, hts, hr, hlk, hnt, hK, hnm, htb⟩ := hX9
  exact lv_dup2_11 hx hb hd (by rw [go_v_cat]; exact hc) (by rw [go_v_cat]; exact hc2) (k p l e s m args below meth c b kap D H locs ks hX hP hS hl)
theorem go_iconst (n : Nat) {i : Int} (v : Int32) (hd : decode M.code pc = .ok (.iconst i, 1)) (hn : pc + 1 = n) (hv : Int32.ofInt i = v) (k : Go M x Q cl sl n ls (.int v :: st) h) : Go M x Q cl sl pc ls (st) h := by
  subst hn
  intro p l e s m args below meth c b kap D H locs ks hX hP hS hl
  have hX9 := hX
  obtain ⟨hx, hb, hml, hown, hts, hr, hlk, hnt, hK, hnm, htb⟩ := hX9
  exact lv_iconst hx hb hd hv (k p l e s m args below meth c b kap D H locs ks hX hP hS hl)
theorem go_bipush (n : Nat) {i : Int} (v : Int32) (hd : decode M.code pc = .ok (.bipush i, 2)) (hn : pc + 2 = n) (hv : (Int8.ofInt i).toInt32 = v) (k : Go M x Q cl sl n ls (.int v :: st) h) : Go M x Q cl sl pc ls (st) h := by
  subst hn
  intro p l e s m args below meth c b kap D H locs ks hX hP hS hl
  have hX9 := hX
  obtain ⟨hx, hb, hml, hown, hts, hr, hlk, hnt, hK, hnm, htb⟩ := hX9
  exact lv_bipush hx hb hd hv (k p l e s m args below meth c b kap D H locs ks hX hP hS hl)
theorem go_sipush (n : Nat) {i : Int} (v : Int32) (hd : decode M.code pc = .ok (.sipush i, 3)) (hn : pc + 3 = n) (hv : (Int16.ofInt i).toInt32 = v) (k : Go M x Q cl sl n ls (.int v :: st) h) : Go M x Q cl sl pc ls (st) h := by
  subst hn
  intro p l e s m args below meth c b kap D H locs ks hX hP hS hl
  have hX9 := hX
  obtain ⟨hx, hb, hml, hown, hts, hr, hlk, hnt, hK, hnm, htb⟩ := hX9
  exact lv_sipush hx hb hd hv (k p l e s m args below meth c b kap D H locs ks hX hP hS hl)
theorem go_lconst (n : Nat) {i : Fin 2} (v : Int64) (hd : decode M.code pc = .ok (.lconst i, 1)) (hn : pc + 1 = n) (hv : Int64.ofNat (i : Nat) = v) (k : Go M x Q cl sl n ls (.long v :: st) h) : Go M x Q cl sl pc ls (st) h := by
  subst hn
  intro p l e s m args below meth c b kap D H locs ks hX hP hS hl
  have hX9 := hX
  obtain ⟨hx, hb, hml, hown, hts, hr, hlk, hnt, hK, hnm, htb⟩ := hX9
  exact lv_lconst hx hb hd hv (k p l e s m args below meth c b kap D H locs ks hX hP hS hl)
theorem go_ldc (n : Nat) {i : Nat} (v : Int32) (hd : decode M.code pc = .ok (.ldc i, 2)) (hn : pc + 2 = n) (hw : Cond.constant M.own i v ∈ go_gw) (k : Go M x Q cl sl n ls (.int v :: st) h) : Go M x Q cl sl pc ls (st) h := by
  subst hn
  intro p l e s m args below meth c b kap D H locs ks hX hP hS hl
  have hX9 := hX
  obtain ⟨hx, hb, hml, hown, hts, hr, hlk, hnt, hK, hnm, htb⟩ := hX9
  exact lv_ldc hx hb hown (hts _ hw) hd (k p l e s m args below meth c b kap D H locs ks hX hP hS hl)
theorem go_ldc_w (n : Nat) {i : Nat} (v : Int32) (hd : decode M.code pc = .ok (.ldc_w i, 3)) (hn : pc + 3 = n) (hw : Cond.constant M.own i v ∈ go_gw) (k : Go M x Q cl sl n ls (.int v :: st) h) : Go M x Q cl sl pc ls (st) h := by
  subst hn
  intro p l e s m args below meth c b kap D H locs ks hX hP hS hl
  have hX9 := hX
  obtain ⟨hx, hb, hml, hown, hts, hr, hlk, hnt, hK, hnm, htb⟩ := hX9
  exact lv_ldcw hx hb hown (hts _ hw) hd (k p l e s m args below meth c b kap D H locs ks hX hP hS hl)
theorem go_ldc2 (n : Nat) {i : Nat} (v : Int64) (hd : decode M.code pc = .ok (.ldc2_w i, 3)) (hn : pc + 3 = n) (hw : Cond.constantLong M.own i v ∈ go_gw) (k : Go M x Q cl sl n ls (.long v :: st) h) : Go M x Q cl sl pc ls (st) h := by
  subst hn
  intro p l e s m args below meth c b kap D H locs ks hX hP hS hl
  have hX9 := hX
  obtain ⟨hx, hb, hml, hown, hts, hr, hlk, hnt, hK, hnm, htb⟩ := hX9
  exact lv_ldc2 hx hb hown (hts _ hw) hd (k p l e s m args below meth c b kap D H locs ks hX hP hS hl)
theorem go_iload_n (n : Nat) {j : Fin 4} {a : Int32} (hd : decode M.code pc = .ok (.iload_n j, 1)) (hn : pc + 1 = n) (hk : ls.lookup (j : Nat) = some (.int a)) (k : Go M x Q cl sl n ls (.int a :: st) h) : Go M x Q cl sl pc ls (st) h := by
  subst hn
  intro p l e s m args below meth c b kap D H locs ks hX hP hS hl
  have hX9 := hX
  obtain ⟨hx, hb, hml, hown, hts, hr, hlk, hnt, hK, hnm, htb⟩ := hX9
  exact lv_iload_n hx hb hd rfl (go_look hl hk) (k p l e s m args below meth c b kap D H locs ks hX hP hS hl)
theorem go_iload (n : Nat) {j : Nat} {a : Int32} (hd : decode M.code pc = .ok (.iload j, 2)) (hn : pc + 2 = n) (hk : ls.lookup j = some (.int a)) (k : Go M x Q cl sl n ls (.int a :: st) h) : Go M x Q cl sl pc ls (st) h := by
  subst hn
  intro p l e s m args below meth c b kap D H locs ks hX hP hS hl
  have hX9 := hX
  obtain ⟨hx, hb, hml, hown, hts, hr, hlk, hnt, hK, hnm, htb⟩ := hX9
  exact lv_iload hx hb hd (go_look hl hk) (k p l e s m args below meth c b kap D H locs ks hX hP hS hl)
theorem go_lload_n (n : Nat) {j : Fin 4} {a : Int64} (hd : decode M.code pc = .ok (.lload_n j, 1)) (hn : pc + 1 = n) (hk : ls.lookup (j : Nat) = some (.long a)) (k : Go M x Q cl sl n ls (.long a :: st) h) : Go M x Q cl sl pc ls (st) h := by
  subst hn
  intro p l e s m args below meth c b kap D H locs ks hX hP hS hl
  have hX9 := hX
  obtain ⟨hx, hb, hml, hown, hts, hr, hlk, hnt, hK, hnm, htb⟩ := hX9
  exact lv_lload_n hx hb hd rfl (go_look hl hk) (k p l e s m args below meth c b kap D H locs ks hX hP hS hl)
theorem go_lload (n : Nat) {j : Nat} {a : Int64} (hd : decode M.code pc = .ok (.lload j, 2)) (hn : pc + 2 = n) (hk : ls.lookup j = some (.long a)) (k : Go M x Q cl sl n ls (.long a :: st) h) : Go M x Q cl sl pc ls (st) h := by
  subst hn
  intro p l e s m args below meth c b kap D H locs ks hX hP hS hl
  have hX9 := hX
  obtain ⟨hx, hb, hml, hown, hts, hr, hlk, hnt, hK, hnm, htb⟩ := hX9
  exact lv_lload hx hb hd (go_look hl hk) (k p l e s m args below meth c b kap D H locs ks hX hP hS hl)
theorem go_aload_n (n : Nat) {j : Fin 4} {a : Nat} (hd : decode M.code pc = .ok (.aload_n j, 1)) (hn : pc + 1 = n) (hk : ls.lookup (j : Nat) = some (.ref a)) (k : Go M x Q cl sl n ls (.ref a :: st) h) : Go M x Q cl sl pc ls (st) h := by
  subst hn
  intro p l e s m args below meth c b kap D H locs ks hX hP hS hl
  have hX9 := hX
  obtain ⟨hx, hb, hml, hown, hts, hr, hlk, hnt, hK, hnm, htb⟩ := hX9
  exact lv_aload_n hx hb hd rfl (go_look hl hk) (k p l e s m args below meth c b kap D H locs ks hX hP hS hl)
theorem go_aload (n : Nat) {j : Nat} {a : Nat} (hd : decode M.code pc = .ok (.aload j, 2)) (hn : pc + 2 = n) (hk : ls.lookup j = some (.ref a)) (k : Go M x Q cl sl n ls (.ref a :: st) h) : Go M x Q cl sl pc ls (st) h := by
  subst hn
  intro p l e s m args below meth c b kap D H locs ks hX hP hS hl
  have hX9 := hX
  obtain ⟨hx, hb, hml, hown, hts, hr, hlk, hnt, hK, hnm, htb⟩ := hX9
  exact lv_aload hx hb hd (go_look hl hk) (k p l e s m args below meth c b kap D H locs ks hX hP hS hl)
theorem go_dload (n : Nat) {j : Nat} {a : UInt64} (hd : decode M.code pc = .ok (.dload j, 2)) (hn : pc + 2 = n) (hk : ls.lookup j = some (.double a)) (k : Go M x Q cl sl n ls (.double a :: st) h) : Go M x Q cl sl pc ls (st) h := by
  subst hn
  intro p l e s m args below meth c b kap D H locs ks hX hP hS hl
  have hX9 := hX
  obtain ⟨hx, hb, hml, hown, hts, hr, hlk, hnt, hK, hnm, htb⟩ := hX9
  exact lv_dload hx hb hd (go_look hl hk) (k p l e s m args below meth c b kap D H locs ks hX hP hS hl)
theorem go_istore_n (n : Nat) (ls2 : List (Nat × Value)) {j : Fin 4} {a : Int32} (hd : decode M.code pc = .ok (.istore_n j, 1)) (hn : pc + 1 = n) (hj : (j : Nat) < M.nL) (hl2 : go_s1 ls (j : Nat) (.int a) = ls2) (k : Go M x Q cl sl n ls2 st h) : Go M x Q cl sl pc ls (.int a :: st) h := by
  subst hn; subst hl2
  intro p l e s m args below meth c b kap D H locs ks hX hP hS hl
  have hX9 := hX
  obtain ⟨hx, hb, hml, hown, hts, hr, hlk, hnt, hK, hnm, htb⟩ := hX9
  exact lv_istore_n hx hb hd rfl hl hj (go_s1_l b ls (j : Nat) (.int a)) (fun ks2 hl2 => k p l e s m args below meth c b kap D H locs ks2 hX hP hS hl2)
theorem go_istore (n : Nat) (ls2 : List (Nat × Value)) {j : Nat} {a : Int32} (hd : decode M.code pc = .ok (.istore j, 2)) (hn : pc + 2 = n) (hj : j < M.nL) (hl2 : go_s1 ls j (.int a) = ls2) (k : Go M x Q cl sl n ls2 st h) : Go M x Q cl sl pc ls (.int a :: st) h := by
  subst hn; subst hl2
  intro p l e s m args below meth c b kap D H locs ks hX hP hS hl
  have hX9 := hX
  obtain ⟨hx, hb, hml, hown, hts, hr, hlk, hnt, hK, hnm, htb⟩ := hX9
  exact lv_istore hx hb hd hl hj (go_s1_l b ls j (.int a)) (fun ks2 hl2 => k p l e s m args below meth c b kap D H locs ks2 hX hP hS hl2)
theorem go_lstore_n (n : Nat) (ls2 : List (Nat × Value)) {j : Fin 4} {a : Int64} (hd : decode M.code pc = .ok (.lstore_n j, 1)) (hn : pc + 1 = n) (hj : (j : Nat) + 1 < M.nL) (hl2 : go_s2 ls (j : Nat) (.long a) = ls2) (k : Go M x Q cl sl n ls2 st h) : Go M x Q cl sl pc ls (.long a :: st) h := by
  subst hn; subst hl2
  intro p l e s m args below meth c b kap D H locs ks hX hP hS hl
  have hX9 := hX
  obtain ⟨hx, hb, hml, hown, hts, hr, hlk, hnt, hK, hnm, htb⟩ := hX9
  exact lv_lstore_n hx hb hd rfl hl hj (go_s2_l b ls (j : Nat) (.long a)) (fun ks2 hl2 => k p l e s m args below meth c b kap D H locs ks2 hX hP hS hl2)
theorem go_lstore (n : Nat) (ls2 : List (Nat × Value)) {j : Nat} {a : Int64} (hd : decode M.code pc = .ok (.lstore j, 2)) (hn : pc + 2 = n) (hj : j + 1 < M.nL) (hl2 : go_s2 ls j (.long a) = ls2) (k : Go M x Q cl sl n ls2 st h) : Go M x Q cl sl pc ls (.long a :: st) h := by
  subst hn; subst hl2
  intro p l e s m args below meth c b kap D H locs ks hX hP hS hl
  have hX9 := hX
  obtain ⟨hx, hb, hml, hown, hts, hr, hlk, hnt, hK, hnm, htb⟩ := hX9
  exact lv_lstore hx hb hd hl hj (go_s2_l b ls j (.long a)) (fun ks2 hl2 => k p l e s m args below meth c b kap D H locs ks2 hX hP hS hl2)
theorem go_astore_n (n : Nat) (ls2 : List (Nat × Value)) {j : Fin 4} {a : Nat} (hd : decode M.code pc = .ok (.astore_n j, 1)) (hn : pc + 1 = n) (hj : (j : Nat) < M.nL) (hl2 : go_s1 ls (j : Nat) (.ref a) = ls2) (k : Go M x Q cl sl n ls2 st h) : Go M x Q cl sl pc ls (.ref a :: st) h := by
  subst hn; subst hl2
  intro p l e s m args below meth c b kap D H locs ks hX hP hS hl
  have hX9 := hX
  obtain ⟨hx, hb, hml, hown, hts, hr, hlk, hnt, hK, hnm, htb⟩ := hX9
  exact lv_astore_n hx hb hd rfl hl hj (go_s1_l b ls (j : Nat) (.ref a)) (fun ks2 hl2 => k p l e s m args below meth c b kap D H locs ks2 hX hP hS hl2)
theorem go_astore (n : Nat) (ls2 : List (Nat × Value)) {j : Nat} {a : Nat} (hd : decode M.code pc = .ok (.astore j, 2)) (hn : pc + 2 = n) (hj : j < M.nL) (hl2 : go_s1 ls j (.ref a) = ls2) (k : Go M x Q cl sl n ls2 st h) : Go M x Q cl sl pc ls (.ref a :: st) h := by
  subst hn; subst hl2
  intro p l e s m args below meth c b kap D H locs ks hX hP hS hl
  have hX9 := hX
  obtain ⟨hx, hb, hml, hown, hts, hr, hlk, hnt, hK, hnm, htb⟩ := hX9
  exact lv_astore hx hb hd hl hj (go_s1_l b ls j (.ref a)) (fun ks2 hl2 => k p l e s m args below meth c b kap D H locs ks2 hX hP hS hl2)
theorem go_dstore (n : Nat) (ls2 : List (Nat × Value)) {j : Nat} {a : UInt64} (hd : decode M.code pc = .ok (.dstore j, 2)) (hn : pc + 2 = n) (hj : j + 1 < M.nL) (hl2 : go_s2 ls j (.double a) = ls2) (k : Go M x Q cl sl n ls2 st h) : Go M x Q cl sl pc ls (.double a :: st) h := by
  subst hn; subst hl2
  intro p l e s m args below meth c b kap D H locs ks hX hP hS hl
  have hX9 := hX
  obtain ⟨hx, hb, hml, hown, hts, hr, hlk, hnt, hK, hnm, htb⟩ := hX9
  exact lv_dstore hx hb hd hl hj (go_s2_l b ls j (.double a)) (fun ks2 hl2 => k p l e s m args below meth c b kap D H locs ks2 hX hP hS hl2)
theorem go_lk {ls : List (Nat × Value)} {i : Nat} {v : Value} (hk : ls.lookup i = some v) : ∃ k : Nat, ls[k]? = some (i, v) := by
  induction ls with
  | nil => simp at hk
  | cons q r ih =>
    obtain ⟨j, w⟩ := q
    rw [List.lookup_cons] at hk
    by_cases hij : i = j
    · subst hij
      simp at hk
      subst hk
      exact ⟨0, rfl⟩
    · rw [show (i == j) = false by simp [hij]] at hk
      obtain ⟨k, hk⟩ := ih hk
      exact ⟨k + 1, by simpa using hk⟩
theorem go_iinc (n : Nat) (ls2 : List (Nat × Value)) {j : Nat} {i : Int} {a : Int32} (v : Int32) (hd : decode M.code pc = .ok (.iinc j i, 3)) (hn : pc + 3 = n) (hj : j < M.nL) (hk : ls.lookup j = some (.int a)) (hv : a + Int32.ofInt i = v) (hl2 : go_s1 ls j (.int v) = ls2) (k : Go M x Q cl sl n ls2 st h) : Go M x Q cl sl pc ls st h := by
  subst hn; subst hl2
  intro p l e s m args below meth c b kap D H locs ks hX hP hS hl
  have hX9 := hX
  obtain ⟨hx, hb, hml, hown, hts, hr, hlk, hnt, hK, hnm, htb⟩ := hX9
  obtain ⟨k0, hk0⟩ := go_lk hk
  exact lv_iinc (k := k0) (x := a) hx hb hd hl (by unfold go_l; rw [List.getElem?_map, hk0]; rfl) hv hj (go_s1_l b ls j (.int v)) (fun ks2 hl2 => k p l e s m args below meth c b kap D H locs ks2 hX hP hS hl2)
theorem go_if_eq (n tgt : Nat) {a : Int32} {off : Int} (hd : decode M.code pc = .ok (.ifCond .eq off, 3)) (hn : pc + 3 = n) (ht : (pc : Int) + off = (tgt : Int)) (kt : a = 0 → Go M x Q cl sl tgt ls st h) (kf : ¬ a = 0 → Go M x Q cl sl n ls st h) : Go M x Q cl sl pc ls (.int a :: st) h := by
  subst hn
  intro p l e s m args below meth c b kap D H locs ks hX hP hS hl
  have hX9 := hX
  obtain ⟨hx, hb, hml, hown, hts, hr, hlk, hnt, hK, hnm, htb⟩ := hX9
  exact lv_if_eq hx hb hd ht (fun q => kt q p l e s m args below meth c b kap D H locs ks hX hP hS hl) (fun q => kf q p l e s m args below meth c b kap D H locs ks hX hP hS hl)
theorem go_if_ne (n tgt : Nat) {a : Int32} {off : Int} (hd : decode M.code pc = .ok (.ifCond .ne off, 3)) (hn : pc + 3 = n) (ht : (pc : Int) + off = (tgt : Int)) (kt : ¬ a = 0 → Go M x Q cl sl tgt ls st h) (kf : a = 0 → Go M x Q cl sl n ls st h) : Go M x Q cl sl pc ls (.int a :: st) h := by
  subst hn
  intro p l e s m args below meth c b kap D H locs ks hX hP hS hl
  have hX9 := hX
  obtain ⟨hx, hb, hml, hown, hts, hr, hlk, hnt, hK, hnm, htb⟩ := hX9
  exact lv_if_ne hx hb hd ht (fun q => kt q p l e s m args below meth c b kap D H locs ks hX hP hS hl) (fun q => kf q p l e s m args below meth c b kap D H locs ks hX hP hS hl)
theorem go_if_lt (n tgt : Nat) {a : Int32} {off : Int} (hd : decode M.code pc = .ok (.ifCond .lt off, 3)) (hn : pc + 3 = n) (ht : (pc : Int) + off = (tgt : Int)) (kt : a < 0 → Go M x Q cl sl tgt ls st h) (kf : ¬ a < 0 → Go M x Q cl sl n ls st h) : Go M x Q cl sl pc ls (.int a :: st) h := by
  subst hn
  intro p l e s m args below meth c b kap D H locs ks hX hP hS hl
  have hX9 := hX
  obtain ⟨hx, hb, hml, hown, hts, hr, hlk, hnt, hK, hnm, htb⟩ := hX9
  exact lv_if_lt hx hb hd ht (fun q => kt q p l e s m args below meth c b kap D H locs ks hX hP hS hl) (fun q => kf q p l e s m args below meth c b kap D H locs ks hX hP hS hl)
theorem go_if_ge (n tgt : Nat) {a : Int32} {off : Int} (hd : decode M.code pc = .ok (.ifCond .ge off, 3)) (hn : pc + 3 = n) (ht : (pc : Int) + off = (tgt : Int)) (kt : 0 ≤ a → Go M x Q cl sl tgt ls st h) (kf : ¬ 0 ≤ a → Go M x Q cl sl n ls st h) : Go M x Q cl sl pc ls (.int a :: st) h := by
  subst hn
  intro p l e s m args below meth c b kap D H locs ks hX hP hS hl
  have hX9 := hX
  obtain ⟨hx, hb, hml, hown, hts, hr, hlk, hnt, hK, hnm, htb⟩ := hX9
  exact lv_if_ge hx hb hd ht (fun q => kt q p l e s m args below meth c b kap D H locs ks hX hP hS hl) (fun q => kf q p l e s m args below meth c b kap D H locs ks hX hP hS hl)
theorem go_if_gt (n tgt : Nat) {a : Int32} {off : Int} (hd : decode M.code pc = .ok (.ifCond .gt off, 3)) (hn : pc + 3 = n) (ht : (pc : Int) + off = (tgt : Int)) (kt : 0 < a → Go M x Q cl sl tgt ls st h) (kf : ¬ 0 < a → Go M x Q cl sl n ls st h) : Go M x Q cl sl pc ls (.int a :: st) h := by
  subst hn
  intro p l e s m args below meth c b kap D H locs ks hX hP hS hl
  have hX9 := hX
  obtain ⟨hx, hb, hml, hown, hts, hr, hlk, hnt, hK, hnm, htb⟩ := hX9
  exact lv_if_gt hx hb hd ht (fun q => kt q p l e s m args below meth c b kap D H locs ks hX hP hS hl) (fun q => kf q p l e s m args below meth c b kap D H locs ks hX hP hS hl)
theorem go_if_le (n tgt : Nat) {a : Int32} {off : Int} (hd : decode M.code pc = .ok (.ifCond .le off, 3)) (hn : pc + 3 = n) (ht : (pc : Int) + off = (tgt : Int)) (kt : a ≤ 0 → Go M x Q cl sl tgt ls st h) (kf : ¬ a ≤ 0 → Go M x Q cl sl n ls st h) : Go M x Q cl sl pc ls (.int a :: st) h := by
  subst hn
  intro p l e s m args below meth c b kap D H locs ks hX hP hS hl
  have hX9 := hX
  obtain ⟨hx, hb, hml, hown, hts, hr, hlk, hnt, hK, hnm, htb⟩ := hX9
  exact lv_if_le hx hb hd ht (fun q => kt q p l e s m args below meth c b kap D H locs ks hX hP hS hl) (fun q => kf q p l e s m args below meth c b kap D H locs ks hX hP hS hl)
theorem go_icmp_eq (n tgt : Nat) {a c9 : Int32} {off : Int} (hd : decode M.code pc = .ok (.if_icmp .eq off, 3)) (hn : pc + 3 = n) (ht : (pc : Int) + off = (tgt : Int)) (kt : a = c9 → Go M x Q cl sl tgt ls st h) (kf : ¬ a = c9 → Go M x Q cl sl n ls st h) : Go M x Q cl sl pc ls (.int c9 :: .int a :: st) h := by
  subst hn
  intro p l e s m args below meth c b kap D H locs ks hX hP hS hl
  have hX9 := hX
  obtain ⟨hx, hb, hml, hown, hts, hr, hlk, hnt, hK, hnm, htb⟩ := hX9
  exact lv_icmp_eq hx hb hd ht (fun q => kt q p l e s m args below meth c b kap D H locs ks hX hP hS hl) (fun q => kf q p l e s m args below meth c b kap D H locs ks hX hP hS hl)
theorem go_icmp_ne (n tgt : Nat) {a c9 : Int32} {off : Int} (hd : decode M.code pc = .ok (.if_icmp .ne off, 3)) (hn : pc + 3 = n) (ht : (pc : Int) + off = (tgt : Int)) (kt : ¬ a = c9 → Go M x Q cl sl tgt ls st h) (kf : a = c9 → Go M x Q cl sl n ls st h) : Go M x Q cl sl pc ls (.int c9 :: .int a :: st) h := by
  subst hn
  intro p l e s m args below meth c b kap D H locs ks hX hP hS hl
  have hX9 := hX
  obtain ⟨hx, hb, hml, hown, hts, hr, hlk, hnt, hK, hnm, htb⟩ := hX9
  exact lv_icmp_ne hx hb hd ht (fun q => kt q p l e s m args below meth c b kap D H locs ks hX hP hS hl) (fun q => kf q p l e s m args below meth c b kap D H locs ks hX hP hS hl)
theorem go_icmp_lt (n tgt : Nat) {a c9 : Int32} {off : Int} (hd : decode M.code pc = .ok (.if_icmp .lt off, 3)) (hn : pc + 3 = n) (ht : (pc : Int) + off = (tgt : Int)) (kt : a < c9 → Go M x Q cl sl tgt ls st h) (kf : ¬ a < c9 → Go M x Q cl sl n ls st h) : Go M x Q cl sl pc ls (.int c9 :: .int a :: st) h := by
  subst hn
  intro p l e s m args below meth c b kap D H locs ks hX hP hS hl
  have hX9 := hX
  obtain ⟨hx, hb, hml, hown, hts, hr, hlk, hnt, hK, hnm, htb⟩ := hX9
  exact lv_icmp_lt hx hb hd ht (fun q => kt q p l e s m args below meth c b kap D H locs ks hX hP hS hl) (fun q => kf q p l e s m args below meth c b kap D H locs ks hX hP hS hl)
theorem go_icmp_ge (n tgt : Nat) {a c9 : Int32} {off : Int} (hd : decode M.code pc = .ok (.if_icmp .ge off, 3)) (hn : pc + 3 = n) (ht : (pc : Int) + off = (tgt : Int)) (kt : c9 ≤ a → Go M x Q cl sl tgt ls st h) (kf : ¬ c9 ≤ a → Go M x Q cl sl n ls st h) : Go M x Q cl sl pc ls (.int c9 :: .int a :: st) h := by
  subst hn
  intro p l e s m args below meth c b kap D H locs ks hX hP hS hl
  have hX9 := hX
  obtain ⟨hx, hb, hml, hown, hts, hr, hlk, hnt, hK, hnm, htb⟩ := hX9
  exact lv_icmp_ge hx hb hd ht (fun q => kt q p l e s m args below meth c b kap D H locs ks hX hP hS hl) (fun q => kf q p l e s m args below meth c b kap D H locs ks hX hP hS hl)
theorem go_icmp_gt (n tgt : Nat) {a c9 : Int32} {off : Int} (hd : decode M.code pc = .ok (.if_icmp .gt off, 3)) (hn : pc + 3 = n) (ht : (pc : Int) + off = (tgt : Int)) (kt : c9 < a → Go M x Q cl sl tgt ls st h) (kf : ¬ c9 < a → Go M x Q cl sl n ls st h) : Go M x Q cl sl pc ls (.int c9 :: .int a :: st) h := by
  subst hn
  intro p l e s m args below meth c b kap D H locs ks hX hP hS hl
  have hX9 := hX
  obtain ⟨hx, hb, hml, hown, hts, hr, hlk, hnt, hK, hnm, htb⟩ := hX9
  exact lv_icmp_gt hx hb hd ht (fun q => kt q p l e s m args below meth c b kap D H locs ks hX hP hS hl) (fun q => kf q p l e s m args below meth c b kap D H locs ks hX hP hS hl)
theorem go_icmp_le (n tgt : Nat) {a c9 : Int32} {off : Int} (hd : decode M.code pc = .ok (.if_icmp .le off, 3)) (hn : pc + 3 = n) (ht : (pc : Int) + off = (tgt : Int)) (kt : a ≤ c9 → Go M x Q cl sl tgt ls st h) (kf : ¬ a ≤ c9 → Go M x Q cl sl n ls st h) : Go M x Q cl sl pc ls (.int c9 :: .int a :: st) h := by
  subst hn
  intro p l e s m args below meth c b kap D H locs ks hX hP hS hl
  have hX9 := hX
  obtain ⟨hx, hb, hml, hown, hts, hr, hlk, hnt, hK, hnm, htb⟩ := hX9
  exact lv_icmp_le hx hb hd ht (fun q => kt q p l e s m args below meth c b kap D H locs ks hX hP hS hl) (fun q => kf q p l e s m args below meth c b kap D H locs ks hX hP hS hl)
theorem go_goto (tgt : Nat) {off : Int} (hd : decode M.code pc = .ok (.goto off, 3)) (ht : (pc : Int) + off = (tgt : Int)) (k : Go M x Q cl sl tgt ls st h) : Go M x Q cl sl pc ls st h := by
  intro p l e s m args below meth c b kap D H locs ks hX hP hS hl
  have hX9 := hX
  obtain ⟨hx, hb, hml, hown, hts, hr, hlk, hnt, hK, hnm, htb⟩ := hX9
  exact lv_goto hx hb hd ht (k p l e s m args below meth c b kap D H locs ks hX hP hS hl)
theorem go_lookup (tgt : Nat) {dflt off : Int} {ps : Array (Int × Int)} {len : Nat} {a : Int32} (hd : decode M.code pc = .ok (.lookupswitch dflt ps, len)) (hp : (ps.toList.zip (ps.toList.drop 1)).all (fun (a, next) => a.1 < next.1) = true) (ho : Op.lookupswitch.offset ps.toList dflt a.toInt = off) (ht : (pc : Int) + off = (tgt : Int)) (k : Go M x Q cl sl tgt ls st h) : Go M x Q cl sl pc ls (.int a :: st) h := by
  intro p l e s m args below meth c b kap D H locs ks hX hP hS hl
  have hX9 := hX
  obtain ⟨hx, hb, hml, hown, hts, hr, hlk, hnt, hK, hnm, htb⟩ := hX9
  exact lv_lookup hx hb hd hp ho ht (k p l e s m args below meth c b kap D H locs ks hX hP hS hl)
theorem go_tableOut (tgt : Nat) {dflt lo hi : Int} {offs : Array Int} {len : Nat} {a : Int32} (hd : decode M.code pc = .ok (.tableswitch dflt lo hi offs, len)) (hr9 : a.toInt < lo ∨ hi < a.toInt) (ht : (pc : Int) + dflt = (tgt : Int)) (k : Go M x Q cl sl tgt ls st h) : Go M x Q cl sl pc ls (.int a :: st) h := by
  intro p l e s m args below meth c b kap D H locs ks hX hP hS hl
  have hX9 := hX
  obtain ⟨hx, hb, hml, hown, hts, hr, hlk, hnt, hK, hnm, htb⟩ := hX9
  exact lv_tableOut hx hb hd hr9 ht (k p l e s m args below meth c b kap D H locs ks hX hP hS hl)
theorem go_tableIn (tgt : Nat) {dflt lo hi off : Int} {offs : Array Int} {len : Nat} {a : Int32} (hd : decode M.code pc = .ok (.tableswitch dflt lo hi offs, len)) (h1 : ¬ a.toInt < lo) (h2 : ¬ hi < a.toInt) (ho : offs[(a.toInt - lo).toNat]? = some off) (ht : (pc : Int) + off = (tgt : Int)) (k : Go M x Q cl sl tgt ls st h) : Go M x Q cl sl pc ls (.int a :: st) h := by
  intro p l e s m args below meth c b kap D H locs ks hX hP hS hl
  have hX9 := hX
  obtain ⟨hx, hb, hml, hown, hts, hr, hlk, hnt, hK, hnm, htb⟩ := hX9
  exact lv_tableIn hx hb hd h1 h2 ho ht (k p l e s m args below meth c b kap D H locs ks hX hP hS hl)
theorem go_ls (ls2 : List (Nat × Value)) (hl2 : ∀ q ∈ ls2, ls.lookup q.1 = some q.2) (k : Go M x Q cl sl pc ls2 st h) : Go M x Q cl sl pc ls st h := by
  intro p l e s m args below meth c b kap D H locs ks hX hP hS hl
  have hX9 := hX
  obtain ⟨hx, hb, hml, hown, hts, hr, hlk, hnt, hK, hnm, htb⟩ := hX9
  refine k p l e s m args below meth c b kap D H locs ks hX hP hS ⟨hl.1, hl.2.1, fun q hq => ?_⟩
  unfold go_l at hq
  obtain ⟨r, hr9, rfl⟩ := List.mem_map.mp hq
  exact go_look hl (hl2 r hr9)
theorem go_wide (cl2 sl2 : Nat) (h1 : cl ≤ cl2) (h2 : sl ≤ sl2) (k : Go M x Q cl2 sl2 pc ls st h) : Go M x Q cl sl pc ls st h := by
  intro p l e s m args below meth c b kap D H locs ks hX hP hS hl
  have hX9 := hX
  obtain ⟨hx, hb, hml, hown, hts, hr, hlk, hnt, hK, hnm, htb⟩ := hX9
  exact W.widen h1 h2 (k p l e s m args below meth c b kap D H locs ks hX hP hS hl)
end GR
section GE
variable {M : go_M} {x : Bool} {Po : Option Value → go_H → Prop} {Px : String → go_H → Prop} {cl sl pc : Nat} {ls : List (Nat × Value)} {st : List Value} {h : go_H}
theorem go_ireturn {ty : FieldType} {a : Int32} (hd : decode M.code pc = .ok (.ireturn, 1)) (hrt : M.ret = some ty) (hnar : narrow ty (.int a) = .int a) (h1 : cl ≤ M.rm.cells) (h2 : sl ≤ M.rm.slots) (hpo : Po (some (.int a)) h) : Go M x (go_Qm M x Po Px) cl sl pc ls [.int a] h := by
  intro p l e s m args below meth c b kap D H locs ks hX hP hS hl
  have hX9 := hX
  obtain ⟨hx, hb, hml, hown, hts, hr, hlk, hnt, hK, hnm, htb⟩ := hX9
  refine vx_ret (W.widen h1 h2 ?_)
  exact W.zret (ty := ty) (v := a) hx hb (hr.trans hrt) hnar (fun t ht hW => ⟨⟨some (.int a), h, rfl, hpo, by rw [ht]; exact hP⟩, hS.F ht⟩) hS.2.2 hd
theorem go_lreturn {a : Int64} (hd : decode M.code pc = .ok (.lreturn, 1)) (hrt : M.ret = some .long) (h1 : cl ≤ M.rm.cells) (h2 : sl ≤ M.rm.slots) (hpo : Po (some (.long a)) h) : Go M x (go_Qm M x Po Px) cl sl pc ls [.long a] h := by
  intro p l e s m args below meth c b kap D H locs ks hX hP hS hl
  have hX9 := hX
  obtain ⟨hx, hb, hml, hown, hts, hr, hlk, hnt, hK, hnm, htb⟩ := hX9
  refine vx_ret (W.widen h1 h2 ?_)
  exact W.lret (v := a) hx hb (hr.trans hrt) (fun t ht hW => ⟨⟨some (.long a), h, rfl, hpo, by rw [ht]; exact hP⟩, hS.F ht⟩) hS.2.2 hd
theorem go_dreturn {a : UInt64} (hd : decode M.code pc = .ok (.dreturn, 1)) (hrt : M.ret = some .double) (h1 : cl ≤ M.rm.cells) (h2 : sl ≤ M.rm.slots) (hpo : Po (some (.double a)) h) : Go M x (go_Qm M x Po Px) cl sl pc ls [.double a] h := by
  intro p l e s m args below meth c b kap D H locs ks hX hP hS hl
  have hX9 := hX
  obtain ⟨hx, hb, hml, hown, hts, hr, hlk, hnt, hK, hnm, htb⟩ := hX9
  refine vx_ret (W.widen h1 h2 ?_)
  exact W.dret (v := a) hx hb (hr.trans hrt) (fun t ht hW => ⟨⟨some (.double a), h, rfl, hpo, by rw [ht]; exact hP⟩, hS.F ht⟩) hS.2.2 hd
theorem go_return (hd : decode M.code pc = .ok (.return_, 1)) (hrt : M.ret = none) (h1 : cl ≤ M.rm.cells) (h2 : sl ≤ M.rm.slots) (hpo : Po none h) : Go M x (go_Qm M x Po Px) cl sl pc ls [] h := by
  intro p l e s m args below meth c b kap D H locs ks hX hP hS hl
  have hX9 := hX
  obtain ⟨hx, hb, hml, hown, hts, hr, hlk, hnt, hK, hnm, htb⟩ := hX9
  refine vx_ret (W.widen h1 h2 ?_)
  exact W.vret hx hb (hr.trans hrt) (fun t ht hW => ⟨⟨none, h, rfl, hpo, by rw [ht]; exact hP⟩, hS.F ht⟩) hS.2.2 hd
theorem go_out {E : String} (hh : M.hh = []) (h1 : cl ≤ M.rm.cells) (h2 : sl ≤ M.rm.slots) (hpx : Px E h) : GoX M (go_Qm M x Po Px) cl sl pc ls st E h := by
  intro p l e s m args below meth c b kap D H locs ks q9 ce hX hP hS hl hce hcv hcl
  obtain ⟨hx, hb, hml, hown, hts, hr, hlk, hnt, hK, hnm, htb⟩ := hX
  refine vx_out (fun z hz => ?_) hlk hce hcv hcl (fun t ht hW => ⟨⟨h, hpx, by rw [ht]; exact hP⟩, hS.F ht⟩) hS.2.2 h1 h2
  rw [htb, hh] at hz
  cases hz
/-- the entry of a method without handlers -/
theorem go_enter (a : List Value) (ls : List (Nat × Value)) (hy : plainName M.y.cls = true) (hown9 : M.y.cls = M.own) (hh : M.hh = []) (hlen : (lg_sl a).length ≤ M.nL) (hls : lv_args 0 a = ls) (k : Go M x (go_Qm M x Po Px) 0 0 0 ls [] h) : go_Ct M x a h Po Px := by
  intro l b kap D hnt
  refine vx_ofW (cc := M.code) (maxL := M.nL) (ret := M.ret) (ws' := go_gw) hy (by unfold go_ws go_w0; rw [if_pos hh]) ?_
  intro p e s m args below meth c s₁ B hml htab hv
  obtain ⟨rfl, hK, hP⟩ := hv
  have hts := atoms_spec (ws := go_ws M) B.pre
  have hown : s.vm.findClass M.own = some m.cls := hown9 ▸ findClass_of_methodNamed B.named
  have hl := lv_entry (go_s b a) (n := M.nL) (by rw [go_sl_len]; exact hlen)
  rw [lg_entry_eq]
  rw [go_args, hls] at hl
  refine k p l e s m _ below meth c b kap D s.heap [] _ ⟨B.exec, B.bytes, hml, hown, fun w hw => hts w (List.mem_cons_of_mem _ hw), B.returns, B.notSynchronized, hnt, hK, (name_of_methodNamed B.named B.method).1, ?_⟩ hP va_S.rf hl
  rw [hh]
  cases hc : c.exceptionTable.toList with
  | nil => rfl
  | cons z r => exact (htab z (by rw [hc]; exact List.mem_cons_self)).elim
theorem go_mono {a : List Value} {Po2 : Option Value → go_H → Prop} {Px2 : String → go_H → Prop} (hC : go_Ct M x a h Po Px) (h1 : ∀ v h', Po v h' → Po2 v h') (h2 : ∀ E h', Px E h' → Px2 E h') : go_Ct M x a h Po2 Px2 := by
  intro l b kap D hnt
  refine MetFree.mono (hC l b kap D hnt) (fun _ _ q => q) (fun _ _ _ _ _ q => q) (fun A s o t _ hq => ?_)
  rcases hq with ⟨⟨⟨v, h', e1, e2, e3⟩, hF⟩, hL⟩ | ⟨q, e0, E, ce, L, ⟨⟨h', e1, e2⟩, hF⟩, hr⟩
  · exact Or.inl ⟨⟨⟨v, h', e1, h1 _ _ e2, e3⟩, hF⟩, hL⟩
  · exact Or.inr ⟨q, e0, E, ce, L, ⟨⟨h', h2 _ _ e1, e2⟩, hF⟩, hr⟩
/-- a contract that never throws, as the kit's Met -/
theorem go_met {a : List Value} (hC : go_Cn M x a h Po) {l : Launch} (hnt : l.stackTraces = false) (b : Nat) (kap : FieldType → ClassId) (D : va_G) : Met l M.y (go_ws M) M.rm (go_Pc x b kap D a h) (go_Qc x b kap D Po) M.rm.cells M.rm.slots (fun q => b ≤ q) := by
  refine MetFree.mono (hC l b kap D hnt) (fun _ _ q => q) (fun _ _ _ _ _ q => q) (fun A s o t _ hq => ?_)
  rcases hq with hq | ⟨q, e0, E, ce, L, ⟨⟨h', e1, e2⟩, hF⟩, hr⟩
  · exact hq
  · exact e1.elim
end GE
