/-- a class's own words: among the good ones; its fields' types, its fields' names apart -/
theorem go_fix0 {C : String} {T : u_T} {N : Nat} (h1 : (u_ws C T N).all (fun w => decide (w ∈ tables_1) && goodWord w) = true) : ∀ w ∈ u_ws C T N, w ∈ go_gw := fun w hw => by
  have h2 := List.all_eq_true.mp h1 w hw
  simp only [Bool.and_eq_true, decide_eq_true_eq] at h2
  exact go_in (List.mem_append_right _ h2.1) h2.2
theorem go_fix_0 : ∀ w ∈ u_ws RX0 TX0 12, w ∈ go_gw := go_fix0 (by decide +kernel)
theorem go_fix_1 : ∀ w ∈ u_ws RX1 TX1 3, w ∈ go_gw := go_fix0 (by decide +kernel)
theorem go_fix_2 : ∀ w ∈ u_ws RX2 TX2 2, w ∈ go_gw := go_fix0 (by decide +kernel)
theorem go_fix_3 : ∀ w ∈ u_ws RX3 TX3 1, w ∈ go_gw := go_fix0 (by decide +kernel)
theorem go_fix_4 : ∀ w ∈ u_ws RX4 TX4 4, w ∈ go_gw := go_fix0 (by decide +kernel)
theorem go_fix_5 : ∀ w ∈ u_ws RX5 TX5 5, w ∈ go_gw := go_fix0 (by decide +kernel)
theorem go_fix_6 : ∀ w ∈ u_ws RX6 TX6 7, w ∈ go_gw := go_fix0 (by decide +kernel)
theorem go_fix_7 : ∀ w ∈ u_ws RX7 TX7 4, w ∈ go_gw := go_fix0 (by decide +kernel)
theorem go_fix_8 : ∀ w ∈ u_ws RX8 TX8 13, w ∈ go_gw := go_fix0 (by decide +kernel)
theorem go_fix_9 : ∀ w ∈ u_ws RX9 TX9 45, w ∈ go_gw := go_fix0 (by decide +kernel)
def go_ok (ci : Nat) (q : vw_C) : Prop := (∀ w ∈ u_ws q.1 q.2.1 q.2.2, w ∈ go_gw) ∧ (∀ k, k < q.2.2 → parseFieldDescriptor (q.2.1 k).2.2.1 = some (go_tyOf ci k)) ∧ (∀ a, a < q.2.2 → ∀ b, b < q.2.2 → a ≠ b → (q.2.1 a).2.1 ≠ (q.2.1 b).2.1)
theorem go_fix {ci : Nat} {q : vw_C} (h : go_cl[ci]? = some q) : go_ok ci q := by
  match ci, h with
  | 0, h => cases h; exact ⟨go_fix_0, tyX0_ok, nmX0⟩
  | 1, h => cases h; exact ⟨go_fix_1, tyX1_ok, nmX1⟩
  | 2, h => cases h; exact ⟨go_fix_2, tyX2_ok, nmX2⟩
  | 3, h => cases h; exact ⟨go_fix_3, tyX3_ok, nmX3⟩
  | 4, h => cases h; exact ⟨go_fix_4, tyX4_ok, nmX4⟩
  | 5, h => cases h; exact ⟨go_fix_5, tyX5_ok, nmX5⟩
  | 6, h => cases h; exact ⟨go_fix_6, tyX6_ok, nmX6⟩
  | 7, h => cases h; exact ⟨go_fix_7, tyX7_ok, nmX7⟩
  | 8, h => cases h; exact ⟨go_fix_8, tyX8_ok, nmX8⟩
  | 9, h => cases h; exact ⟨go_fix_9, tyX9_ok, nmX9⟩
  | n + 10, h => simp at h
section GH
variable {M : go_M} {x : Bool} {Q : go_Q} {cl sl pc : Nat} {ls : List (Nat × Value)} {st : List Value} {h : go_H}
theorem go_P.set {b : Nat} {kap : FieldType → ClassId} {D : va_G} {H H1 : Heap} {k : Nat} {c : go_C} (hP : go_P x b kap D h H) (hP1 : va_P D go_cl ((go_w b kap h).set k (b + k, go_e b kap c)) H1) (hz : H1.size = H.size) : go_P x b kap D (h.set k c) H1 := by
  refine ⟨by rw [go_w_set]; exact hP1, by rw [hz, List.length_set]; exact hP.2.1, fun q => by rw [hz, List.length_set]; exact hP.2.2 q⟩
theorem go_get (n : Nat) {idx k ci j : Nat} {fs : List Value} {v : Value} (hd : decode M.code pc = .ok (.getfield idx, 3)) (hn : pc + 3 = n) (hF : go_F M.own idx ci j) (hc : h[k]? = some (.inr (ci, fs))) (hv : fs[j]? = some v) (k9 : Go M x Q cl sl n ls (v :: st) h) : Go M x Q cl sl pc ls (.ref k :: st) h := by
  subst hn
  intro p l e s m args below meth c b kap D H locs ks hX hP hS hl
  have hX9 := hX
  obtain ⟨hx, hb, hml, hown, hts, hr, hlk, hnt, hK, hnm, htb⟩ := hX9
  obtain ⟨q, hq, hj, hw⟩ := hF
  have hfix := go_fix hq
  exact va_get (D := D) (ci := ci) (v := go_v b v) (C := q.1) (T := q.2.1) (N := q.2.2) hx hb hts hfix.1 hown hK.1 hP.1 k (go_w_at hc) hq j hj (hts _ hw) (fun _ h9 => h9) (by rw [List.getElem?_map, hv]; rfl) hd (k9 p l e s m args below meth c b kap D H locs ks hX hP hS hl)

theorem go_len {b : Nat} {kap : FieldType → ClassId} {D : va_G} {H : Heap} (h1 : va_P D go_cl (go_w b kap h) H) (h2 : b ≤ H.size) : go_P false b kap D h H := by
  refine ⟨h1, ?_, fun q => by cases q⟩
  cases hh : h with
  | nil => simpa using h2
  | cons a r =>
    have hlt : h.length - 1 < h.length := by rw [hh]; simp
    have hg : h[h.length - 1]? = some (h[h.length - 1]'hlt) := List.getElem?_eq_getElem hlt
    have h3 : b + (h.length - 1) < H.size := (h1 _ _ (go_w_at hg)).lt
    rw [← hh]
    omega
theorem go_len2 {b : Nat} {kap : FieldType → ClassId} {D : va_G} {H : Heap} {s : State} {locs : List Loc} (hK : go_K b kap D s) (hS : va_S (fun q => b ≤ q) s.heap H locs) (h1 : va_P D go_cl (go_w b kap h) H) : go_P false b kap D h H := go_len h1 (Nat.le_trans hK.2.2.2.2.2.2.2.2.2 hS.1)
theorem go_set {b : Nat} {kap : FieldType → ClassId} {D : va_G} {H : Heap} {s : State} {locs : List Loc} {k : Nat} {c : go_C} (hK : go_K b kap D s) (hS : va_S (fun q => b ≤ q) s.heap H locs) (h1 : va_P D go_cl ((go_w b kap h).set k (b + k, go_e b kap c)) H) : go_P false b kap D (h.set k c) H := go_len2 hK hS (by rw [go_w_set]; exact h1)
theorem go_weak (k : Go M false Q cl sl pc ls st h) : Go M x Q cl sl pc ls st h := by
  intro p l e s m args below meth c b kap D H locs ks hX hP hS hl
  have hX9 := hX
  obtain ⟨hx, hb, hml, hown, hts, hr, hlk, hnt, hK, hnm, htb⟩ := hX9
  exact k p l e s m args below meth c b kap D H locs ks hX ⟨hP.1, hP.2.1, fun q => by cases q⟩ hS hl
/-- putfield: a field that isn't final -/
theorem go_put (n : Nat) {idx k ci j : Nat} {fs : List Value} {v : Value} (hd : decode M.code pc = .ok (.putfield idx, 3)) (hn : pc + 3 = n) (hF : go_F M.own idx ci j) (hc : h[k]? = some (.inr (ci, fs))) (hl9 : j < fs.length) (hfin : ∀ q : vw_C, go_cl[ci]? = some q → (q.2.1 j).2.2.2 = false) (hna : narrow (go_tyOf ci j) v = v) (hfi : fits (go_tyOf ci j) v = true) (hnr : ∀ b, go_v b v = v) (k9 : Go M x Q cl sl n ls st (h.set k (.inr (ci, fs.set j v)))) : Go M x Q cl sl pc ls (v :: .ref k :: st) h := by
  subst hn
  intro p l e s m args below meth c b kap D H locs ks hX hP hS hl
  have hX9 := hX
  obtain ⟨hx, hb, hml, hown, hts, hr, hlk, hnt, hK, hnm, htb⟩ := hX9
  obtain ⟨q, hq, hj, hw⟩ := hF
  have hfix := go_fix hq
  have hap := va_apart (own := M.own) hts hfix.1 (go_tyOf ci) hfix.2.1 hfix.2.2 hK.1 hq
  obtain ⟨r, h1, cell, q1, q2, q3, q4⟩ := hP.1 k _ (go_w_at hc)
  have hr9 : r = q := Option.some.inj (h1.symm.trans hq)
  subst hr9
  obtain ⟨hS9, hfc, kC, hkC, hkind⟩ := hK.1.1 ci _ hq
  obtain ⟨cf, kf, fi, f, hi, hsl⟩ := hS9 j hj
  have hlay := hts _ (hfix.1 _ (u_in_lay hj))
  unfold u_lay at hlay
  rw [if_neg (by rw [hfin _ hq]; decide)] at hlay
  have hst := (u_facts hfc hkC (u_lays hts hfix.1 hj) hi).1
  have h6 := u_store hfc hkC hkind hlay hi (hfix.2.1 j hj) hna hfi
  refine W.putK (v := v) hx hb (f := f) ⟨hown, hts _ hw, ⟨_, _, _, hi⟩, hst⟩ (by rw [q2]; exact h6) q1 q3 (by rw [hsl]; exact k2_hasslot (q4 j hj)) rfl (by show go_v b v :: _ = _; rw [hnr]; rfl) hd fun H' e1 e2 e3 => ?_
  rw [hsl] at e1 ⊢
  refine k9 p l e s m args below meth c b kap D H' _ ks hX (hP.set (hP.1.set go_w_D (go_w_at hc) ?_ e3) e2) (hS.put e2 e3 (Nat.le_add_right _ _)) hl
  refine ⟨_, hq, t_OB.to (V := updV (vp_V (fs.map (go_v b))) j v) ⟨_, e1, q2, q3, t_set q4 hap hj v⟩ (fun i _ => ?_)⟩
  rw [vp_updV_set (by rw [List.length_map]; exact hl9), List.map_set, hnr]
/-- putfield: a final field, in its class's constructor -/
theorem go_putF (n : Nat) {idx k ci j : Nat} {fs : List Value} {v : Value} (hd : decode M.code pc = .ok (.putfield idx, 3)) (hn : pc + 3 = n) (hF : go_F M.own idx ci j) (hc : h[k]? = some (.inr (ci, fs))) (hl9 : j < fs.length) (hfin : ∀ q : vw_C, go_cl[ci]? = some q → (q.2.1 j).2.2.2 = true ∧ (q.2.1 j).1 = M.own) (hin : M.y.name = "<init>") (hna : ∀ b, narrow (go_tyOf ci j) (go_v b v) = go_v b v) (hfi : ∀ b, fits (go_tyOf ci j) (go_v b v) = true) (k9 : Go M x Q cl sl n ls st (h.set k (.inr (ci, fs.set j v)))) : Go M x Q cl sl pc ls (v :: .ref k :: st) h := by
  subst hn
  intro p l e s m args below meth c b kap D H locs ks hX hP hS hl
  have hX9 := hX
  obtain ⟨hx, hb, hml, hown, hts, hr, hlk, hnt, hK, hnm, htb⟩ := hX9
  obtain ⟨q, hq, hj, hw⟩ := hF
  have hfix := go_fix hq
  have hap := va_apart (own := M.own) hts hfix.1 (go_tyOf ci) hfix.2.1 hfix.2.2 hK.1 hq
  obtain ⟨r, h1, cell, q1, q2, q3, q4⟩ := hP.1 k _ (go_w_at hc)
  have hr9 : r = q := Option.some.inj (h1.symm.trans hq)
  subst hr9
  obtain ⟨hS9, hfc, kC, hkC, hkind⟩ := hK.1.1 ci _ hq
  obtain ⟨cf, kf, fi, f, hi, hsl⟩ := hS9 j hj
  have hlay := hts _ (hfix.1 _ (u_in_lay hj))
  unfold u_lay at hlay
  rw [if_pos (hfin _ hq).1] at hlay
  have hst := (u_facts hfc hkC (u_lays hts hfix.1 hj) hi).1
  have hcf : m.cls = cf := by
    obtain ⟨_, _, c', _, _, _, -, -, hf', -, -, -, hown2, -⟩ := Cond.laysFinal_spec hlay
    have e1 : c' = cf := by have := hi.symm.trans hf'; simp at this; exact this.1.symm
    rw [(hfin _ hq).2] at hown2
    rw [← e1]; exact Option.some.inj (hown.symm.trans hown2)
  have h6 := u_fits hfc hkC hkind (Or.inr hlay) hi (hfix.2.1 j hj) (hna b) (hfi b)
  refine W.putFinK hx hb hown (hts _ hw) hi hst hcf (hnm.trans hin) (by rw [q2]; exact h6) q1 q3 (by rw [hsl]; exact k2_hasslot (q4 j hj)) rfl rfl hd fun H' e1 e2 e3 => ?_
  rw [hsl] at e1 ⊢
  refine k9 p l e s m args below meth c b kap D H' _ ks hX (hP.set (hP.1.set go_w_D (go_w_at hc) ?_ e3) e2) (hS.put e2 e3 (Nat.le_add_right _ _)) hl
  refine ⟨_, hq, t_OB.to (V := updV (vp_V (fs.map (go_v b))) j (go_v b v)) ⟨_, e1, q2, q3, t_set q4 hap hj (go_v b v)⟩ (fun i _ => ?_)⟩
  rw [vp_updV_set (by rw [List.length_map]; exact hl9), List.map_set]
theorem go_iald (n : Nat) {k N : Nat} {f : Nat → Int32} {i : Int32} (hd : decode M.code pc = .ok (.iaload, 1)) (hn : pc + 1 = n) (hc : h[k]? = some (.inl (.int, N, .inl f))) (hi : vp_in i N) (k9 : Go M x Q cl sl n ls (.int (f i.toNatClampNeg) :: st) h) : Go M x Q cl sl pc ls (.int i :: .ref k :: st) h := by
  subst hn
  intro p l e s m args below meth c b kap D H locs ks hX hP hS hl
  have hX9 := hX
  obtain ⟨hx, hb, hml, hown, hts, hr, hlk, hnt, hK, hnm, htb⟩ := hX9
  exact va_iald hx hb hK.1 hP.1 k 0 (go_w_at hc) rfl hi hd (k9 p l e s m args below meth c b kap D H locs ks hX hP hS hl)
theorem go_iast (n : Nat) {k N : Nat} {f : Nat → Int32} {i : Int32} {a : Int32} (hd : decode M.code pc = .ok (.iastore, 1)) (hn : pc + 1 = n) (hc : h[k]? = some (.inl (.int, N, .inl f))) (hi : vp_in i N) (k9 : Go M false Q cl sl n ls st (h.set k (.inl (.int, N, .inl (upd f i.toNatClampNeg a))))) : Go M false Q cl sl pc ls (.int a :: .int i :: .ref k :: st) h := by
  subst hn
  intro p l e s m args below meth c b kap D H locs ks hX hP hS hl
  have hX9 := hX
  obtain ⟨hx, hb, hml, hown, hts, hr, hlk, hnt, hK, hnm, htb⟩ := hX9
  exact va_iast hx hb hK.1 hP.1 go_w_D hS k 0 (go_w_at hc) rfl hi hd (fun H1 locs1 p1 _ s1 => k9 p l e s m args below meth c b kap D H1 locs1 ks hX (go_set hK s1 p1) s1 hl)
theorem go_zald (n : Nat) {k N : Nat} {f : Nat → Int32} {i : Int32} (hd : decode M.code pc = .ok (.baload, 1)) (hn : pc + 1 = n) (hc : h[k]? = some (.inl (.boolean, N, .inl f))) (hi : vp_in i N) (k9 : Go M x Q cl sl n ls (.int (f i.toNatClampNeg) :: st) h) : Go M x Q cl sl pc ls (.int i :: .ref k :: st) h := by
  subst hn
  intro p l e s m args below meth c b kap D H locs ks hX hP hS hl
  have hX9 := hX
  obtain ⟨hx, hb, hml, hown, hts, hr, hlk, hnt, hK, hnm, htb⟩ := hX9
  exact va_zald hx hb hK.1 hP.1 k 2 (go_w_at hc) rfl hi hd (k9 p l e s m args below meth c b kap D H locs ks hX hP hS hl)
theorem go_zast (n : Nat) {k N : Nat} {f : Nat → Int32} {i : Int32} {a : Int32} (hd : decode M.code pc = .ok (.bastore, 1)) (hn : pc + 1 = n) (hc : h[k]? = some (.inl (.boolean, N, .inl f))) (hi : vp_in i N) (k9 : Go M false Q cl sl n ls st (h.set k (.inl (.boolean, N, .inl (upd f i.toNatClampNeg (vp_nar .boolean a)))))) : Go M false Q cl sl pc ls (.int a :: .int i :: .ref k :: st) h := by
  subst hn
  intro p l e s m args below meth c b kap D H locs ks hX hP hS hl
  have hX9 := hX
  obtain ⟨hx, hb, hml, hown, hts, hr, hlk, hnt, hK, hnm, htb⟩ := hX9
  exact va_zast hx hb hK.1 hP.1 go_w_D hS k 2 (go_w_at hc) rfl hi hd (fun H1 locs1 p1 _ s1 => k9 p l e s m args below meth c b kap D H1 locs1 ks hX (go_set hK s1 p1) s1 hl)
theorem go_cald (n : Nat) {k N : Nat} {f : Nat → Int32} {i : Int32} (hd : decode M.code pc = .ok (.caload, 1)) (hn : pc + 1 = n) (hc : h[k]? = some (.inl (.char, N, .inl f))) (hi : vp_in i N) (k9 : Go M x Q cl sl n ls (.int (f i.toNatClampNeg) :: st) h) : Go M x Q cl sl pc ls (.int i :: .ref k :: st) h := by
  subst hn
  intro p l e s m args below meth c b kap D H locs ks hX hP hS hl
  have hX9 := hX
  obtain ⟨hx, hb, hml, hown, hts, hr, hlk, hnt, hK, hnm, htb⟩ := hX9
  exact va_cald hx hb hK.1 hP.1 k 3 (go_w_at hc) rfl hi hd (k9 p l e s m args below meth c b kap D H locs ks hX hP hS hl)
theorem go_cast (n : Nat) {k N : Nat} {f : Nat → Int32} {i : Int32} {a : Int32} (hd : decode M.code pc = .ok (.castore, 1)) (hn : pc + 1 = n) (hc : h[k]? = some (.inl (.char, N, .inl f))) (hi : vp_in i N) (k9 : Go M false Q cl sl n ls st (h.set k (.inl (.char, N, .inl (upd f i.toNatClampNeg (vp_nar .char a)))))) : Go M false Q cl sl pc ls (.int a :: .int i :: .ref k :: st) h := by
  subst hn
  intro p l e s m args below meth c b kap D H locs ks hX hP hS hl
  have hX9 := hX
  obtain ⟨hx, hb, hml, hown, hts, hr, hlk, hnt, hK, hnm, htb⟩ := hX9
  exact va_cast hx hb hK.1 hP.1 go_w_D hS k 3 (go_w_at hc) rfl hi hd (fun H1 locs1 p1 _ s1 => k9 p l e s m args below meth c b kap D H1 locs1 ks hX (go_set hK s1 p1) s1 hl)
theorem go_lald (n : Nat) {k N : Nat} {f : Nat → Int64} {i : Int32} (hd : decode M.code pc = .ok (.laload, 1)) (hn : pc + 1 = n) (hc : h[k]? = some (.inl (.long, N, .inr (.inl f)))) (hi : vp_in i N) (k9 : Go M x Q cl sl n ls (.long (f i.toNatClampNeg) :: st) h) : Go M x Q cl sl pc ls (.int i :: .ref k :: st) h := by
  subst hn
  intro p l e s m args below meth c b kap D H locs ks hX hP hS hl
  have hX9 := hX
  obtain ⟨hx, hb, hml, hown, hts, hr, hlk, hnt, hK, hnm, htb⟩ := hX9
  exact va_lald hx hb hK.1 hP.1 k 1 (go_w_at hc) rfl hi hd (k9 p l e s m args below meth c b kap D H locs ks hX hP hS hl)
theorem go_last (n : Nat) {k N : Nat} {f : Nat → Int64} {i : Int32} {a : Int64} (hd : decode M.code pc = .ok (.lastore, 1)) (hn : pc + 1 = n) (hc : h[k]? = some (.inl (.long, N, .inr (.inl f)))) (hi : vp_in i N) (k9 : Go M false Q cl sl n ls st (h.set k (.inl (.long, N, .inr (.inl (vp_updL f i.toNatClampNeg a)))))) : Go M false Q cl sl pc ls (.long a :: .int i :: .ref k :: st) h := by
  subst hn
  intro p l e s m args below meth c b kap D H locs ks hX hP hS hl
  have hX9 := hX
  obtain ⟨hx, hb, hml, hown, hts, hr, hlk, hnt, hK, hnm, htb⟩ := hX9
  exact va_last hx hb hK.1 hP.1 go_w_D hS k 1 (go_w_at hc) rfl hi hd (fun H1 locs1 p1 _ s1 => k9 p l e s m args below meth c b kap D H1 locs1 ks hX (go_set hK s1 p1) s1 hl)
theorem go_dald (n : Nat) {k N : Nat} {f : Nat → UInt64} {i : Int32} (hd : decode M.code pc = .ok (.daload, 1)) (hn : pc + 1 = n) (hc : h[k]? = some (.inl (.double, N, .inr (.inr (.inr (.inl f)))))) (hi : vp_in i N) (k9 : Go M x Q cl sl n ls (.double (f i.toNatClampNeg) :: st) h) : Go M x Q cl sl pc ls (.int i :: .ref k :: st) h := by
  subst hn
  intro p l e s m args below meth c b kap D H locs ks hX hP hS hl
  have hX9 := hX
  obtain ⟨hx, hb, hml, hown, hts, hr, hlk, hnt, hK, hnm, htb⟩ := hX9
  exact va_dald hx hb hK.1 hP.1 k 4 (go_w_at hc) rfl hi hd (k9 p l e s m args below meth c b kap D H locs ks hX hP hS hl)
theorem go_dast (n : Nat) {k N : Nat} {f : Nat → UInt64} {i : Int32} {a : UInt64} (hd : decode M.code pc = .ok (.dastore, 1)) (hn : pc + 1 = n) (hc : h[k]? = some (.inl (.double, N, .inr (.inr (.inr (.inl f)))))) (hi : vp_in i N) (k9 : Go M false Q cl sl n ls st (h.set k (.inl (.double, N, .inr (.inr (.inr (.inl (vf_upd f i.toNatClampNeg a)))))))) : Go M false Q cl sl pc ls (.double a :: .int i :: .ref k :: st) h := by
  subst hn
  intro p l e s m args below meth c b kap D H locs ks hX hP hS hl
  have hX9 := hX
  obtain ⟨hx, hb, hml, hown, hts, hr, hlk, hnt, hK, hnm, htb⟩ := hX9
  exact va_dast hx hb hK.1 hP.1 go_w_D hS k 4 (go_w_at hc) rfl hi hd (fun H1 locs1 p1 _ s1 => k9 p l e s m args below meth c b kap D H1 locs1 ks hX (go_set hK s1 p1) s1 hl)
theorem go_alen (n : Nat) {k : Nat} {ty : FieldType} {q : vp_A} (t0 : Nat) (v : Int32) (hd : decode M.code pc = .ok (.arraylength, 1)) (hn : pc + 1 = n) (hc : h[k]? = some (.inl (ty, q))) (ht : ∀ kap, (go_ty kap)[t0]? = some (kap ty, ty)) (hv : Int32.ofNat q.1 = v) (k9 : Go M x Q cl sl n ls (.int v :: st) h) : Go M x Q cl sl pc ls (.ref k :: st) h := by
  subst hn
  intro p l e s m args below meth c b kap D H locs ks hX hP hS hl
  have hX9 := hX
  obtain ⟨hx, hb, hml, hown, hts, hr, hlk, hnt, hK, hnm, htb⟩ := hX9
  exact va_alen hx hb hK.1 hP.1 k t0 (go_w_at hc) (ht kap) (show Int32.ofNat (go_a b q).1 = v from hv) hd (k9 p l e s m args below meth c b kap D H locs ks hX hP hS hl)
theorem go_rf (b : Nat) (r : Option Nat) : va_rf (r.map (fun k => b + k)) = go_v b (va_rf r) := by cases r <;> rfl
theorem go_aald (n : Nat) {k N : Nat} {f : Nat → Option Nat} {i : Int32} (hd : decode M.code pc = .ok (.aaload, 1)) (hn : pc + 1 = n) (hc : h[k]? = some (.inl (.object RX2, N, .inr (.inr (.inr (.inr f)))))) (hi : vp_in i N) (k9 : Go M x Q cl sl n ls (va_rf (f i.toNatClampNeg) :: st) h) : Go M x Q cl sl pc ls (.int i :: .ref k :: st) h := by
  subst hn
  intro p l e s m args below meth c b kap D H locs ks hX hP hS hl
  have hX9 := hX
  obtain ⟨hx, hb, hml, hown, hts, hr, hlk, hnt, hK, hnm, htb⟩ := hX9
  refine va_aldq hx hb hK.1 hP.1 k 5 (go_w_at hc) rfl hi hd ?_
  rw [go_rf]
  exact k9 p l e s m args below meth c b kap D H locs ks hX hP hS hl
end GH
