-- needs 57.units2
/-! rows: tables by value, lengths of rows -/
theorem look_off (pc : Nat) (dflt : Int) (a : Int32) : ∀ (l : List (Int × Int)) (tg : List (Int32 × Nat)), l.map (fun p => (p.1, (pc : Int) + p.2)) = tg.map (fun q => (q.1.toInt, (q.2 : Int))) → (∃ q, q ∈ tg ∧ a = q.1 ∧ (pc : Int) + Op.lookupswitch.offset l dflt a.toInt = (q.2 : Int)) ∨ ((∀ q, q ∈ tg → a ≠ q.1) ∧ Op.lookupswitch.offset l dflt a.toInt = dflt) := by
  intro l
  induction l with
  | nil =>
    intro tg h
    cases tg with
    | nil => exact Or.inr ⟨fun q hq => absurd hq List.not_mem_nil, rfl⟩
    | cons q tg => simp at h
  | cons p l ih =>
    intro tg h
    cases tg with
    | nil => simp at h
    | cons q tg =>
      obtain ⟨pa, po⟩ := p
      rw [List.map_cons, List.map_cons] at h
      have h1 := (List.cons.inj h).1
      have h2 := (List.cons.inj h).2
      have h3 : pa = q.1.toInt := congrArg Prod.fst h1
      have h4 : (pc : Int) + po = (q.2 : Int) := congrArg Prod.snd h1
      rw [Op.lookupswitch.offset_cons]
      by_cases he : pa = a.toInt
      · rw [if_pos he]
        exact Or.inl ⟨q, List.mem_cons_self, Int32.toInt_inj.mp (by omega), h4⟩
      · rw [if_neg he]
        rcases ih tg h2 with ⟨z, hz, ha, ho⟩ | ⟨hn, ho⟩
        · exact Or.inl ⟨z, List.mem_cons_of_mem _ hz, ha, ho⟩
        · refine Or.inr ⟨fun z hz => ?_, ho⟩
          rcases List.mem_cons.mp hz with rfl | hz
          · intro e
            rw [e] at he
            exact he h3
          · exact hn z hz
section GLK
variable {M : go_M} {x : Bool} {Q : go_Q} {cl sl pc : Nat} {ls : List (Nat × Value)} {st : List Value}
theorem go_lookS {h : go_H} {dflt : Int} {ps : Array (Int × Int)} {len : Nat} {a : Int32} (tg : List (Int32 × Nat)) (dn : Nat) (hd : decode M.code pc = .ok (.lookupswitch dflt ps, len)) (hps : (ps.toList.zip (ps.toList.drop 1)).all (fun (a, next) => a.1 < next.1) = true) (hall : ps.toList.map (fun p => (p.1, (pc : Int) + p.2)) = tg.map (fun q => (q.1.toInt, (q.2 : Int)))) (hdn : (pc : Int) + dflt = (dn : Int)) (kk : ∀ q ∈ tg, a = q.1 → Go M x Q cl sl q.2 ls st h) (kd : (∀ q ∈ tg, a ≠ q.1) → Go M x Q cl sl dn ls st h) : Go M x Q cl sl pc ls (.int a :: st) h := by
  rcases look_off pc dflt a ps.toList tg hall with ⟨q, hq, ha, ho⟩ | ⟨hn, ho⟩
  · exact go_lookup q.2 hd hps rfl ho (kk q hq ha)
  · exact go_lookup dn hd hps ho hdn (kd hn)
theorem g_aleni (n : Nat) {S : gS} {k N : Nat} {f0 : Nat → Int32} (hd : decode M.code pc = .ok (.arraylength, 1)) (hn : pc + 1 = n) (hk : ly[k]? = some (.inl (.int, N, .inl f0))) (k9 : Go M x Q cl sl n ls (.int (nI N) :: st) (hp S)) : Go M x Q cl sl pc ls (.ref k :: st) (hp S) :=
  go_alen n 0 (nI N) hd hn (hp_at hk) (fun _ => rfl) rfl k9
end GLK
/-! the text of the reference -/
def pkS (S : gS) : Int32 := if rI S 115 35 < rI S 115 34 then rI S 137 (rI S 115 35).toNatClampNeg else -1
abbrev isD (c : Int32) : Prop := 48 ≤ c ∧ c ≤ 57
def atS (S : gS) : gS := wI S 115 35 (rI S 115 35 + 1)
def skF (S : gS) (c : Int32) : Int32 × gS := if pkS S = c then (1, atS S) else (0, S)
def dgF : Nat → gS → Int32 → Int32 × gS
  | 0, S, v => (v, S)
  | n + 1, S, v => if isD (pkS S) then dgF n (atS S) ((if 0 ≤ v then 10 * v else 0) + pkS S - 48) else (v, S)
def tnF (S : gS) : Int32 × gS := (bi (¬ (dgF 4 (skF S 45).2 (-1)).1 < 0), wI (dgF 4 (skF S 45).2 (-1)).2 115 39 (if (skF S 45).1 = 0 then (dgF 4 (skF S 45).2 (-1)).1 else -(dgF 4 (skF S 45).2 (-1)).1))
def tdF (S : gS) : Int32 × gS := (bi (¬ (dgF 2 S (-1)).1 < 0), wI (dgF 2 S (-1)).2 115 39 (dgF 2 S (-1)).1)
def kof (c : Int32) : Int32 := if c = 38 then 6 else if c = 42 then 5 else if c = 43 then 3 else if c = 45 then 4 else if c = 60 then 11 else if c = 63 then 12 else if c = 94 then 8 else if c = 104 then 10 else if c = 108 then 9 else if c = 124 then 7 else -1
/-- a text under way -/
def okT (S : gS) : Prop := ∃ len a it : Nat, rI S 115 34 = nI len ∧ rI S 115 35 = nI a ∧ rI S 115 36 = nI it ∧ a ≤ len ∧ len ≤ 80 ∧ it < 40
theorem okT.in1 {S : gS} (h : okT S) (hl : rI S 115 35 < rI S 115 34) : vp_in (rI S 115 35) 80 := by
  obtain ⟨len, a, it, h1, h2, h3, h4, h5, h6⟩ := h
  rw [h1, h2] at hl
  rw [nI_lt2 (by omega) (by omega)] at hl
  rw [h2]
  exact nI_i (by omega) (by omega)
theorem okT.lt {S : gS} (h : okT S) (hl : ¬ rI S 115 35 = rI S 115 34) : rI S 115 35 < rI S 115 34 := by
  obtain ⟨len, a, it, h1, h2, h3, h4, h5, h6⟩ := h
  rw [h1, h2] at hl ⊢
  rw [nI_lt2 (by omega) (by omega)]
  have : ¬ a = len := fun q => hl (by rw [q])
  omega
theorem okT.it {S : gS} (h : okT S) : vp_in (rI S 115 36) 40 := by
  obtain ⟨len, a, it, h1, h2, h3, h4, h5, h6⟩ := h
  rw [h3]
  exact nI_i (by omega) (by omega)
theorem okT.w {S : gS} (h : okT S) (k j : Nat) (v : Int32) (hk : ¬ (k = 115 ∧ (j = 34 ∨ j = 35 ∨ j = 36))) : okT (wI S k j v) := by
  obtain ⟨len, a, it, h1, h2, h3, h4, h5, h6⟩ := h
  refine ⟨len, a, it, ?_, ?_, ?_, h4, h5, h6⟩
  · rw [rI_wI, if_neg (by omega)]; exact h1
  · rw [rI_wI, if_neg (by omega)]; exact h2
  · rw [rI_wI, if_neg (by omega)]; exact h3
theorem okT.at {S : gS} (h : okT S) (hl : rI S 115 35 < rI S 115 34) : okT (atS S) := by
  obtain ⟨len, a, it, h1, h2, h3, h4, h5, h6⟩ := h
  rw [h1, h2] at hl
  rw [nI_lt2 (by omega) (by omega)] at hl
  refine ⟨len, a + 1, it, ?_, ?_, ?_, by omega, h5, h6⟩
  · unfold atS; rw [rI_wI, if_neg (by decide)]; exact h1
  · unfold atS; rw [rI_wI, if_pos ⟨rfl, rfl⟩, h2, nI_1]
  · unfold atS; rw [rI_wI, if_neg (by decide)]; exact h3
theorem pkS_lt {S : gS} {c : Int32} (h : pkS S = c) (hc : c ≠ -1) : rI S 115 35 < rI S 115 34 := by
  unfold pkS at h
  split at h
  · assumption
  · exact absurd h.symm hc
theorem pkS_l {S : gS} (h : rI S 115 35 < rI S 115 34) : pkS S = rI S 137 (rI S 115 35).toNatClampNeg := by
  unfold pkS
  rw [if_pos h]
theorem pkS_n {S : gS} (h : ¬ rI S 115 35 < rI S 115 34) : pkS S = -1 := by
  unfold pkS
  rw [if_neg h]
theorem isD_lt {S : gS} (h : isD (pkS S)) : rI S 115 35 < rI S 115 34 := by
  by_cases q : rI S 115 35 < rI S 115 34
  · exact q
  · rw [pkS_n q] at h
    exact absurd h (by decide)
theorem okT_sk {S : gS} (h : okT S) {c : Int32} (hc : c ≠ -1) : okT (skF S c).2 := by
  unfold skF
  split
  · rename_i q
    exact h.at (pkS_lt q hc)
  · exact h
theorem okT_dg : ∀ (n : Nat) {S : gS} (h : okT S) (v : Int32), okT (dgF n S v).2 := by
  intro n
  induction n with
  | zero => intro S h v; exact h
  | succ n ih =>
    intro S h v
    show okT (if isD (pkS S) then dgF n (atS S) ((if 0 ≤ v then 10 * v else 0) + pkS S - 48) else (v, S)).2
    split
    · rename_i q
      exact ih (h.at (isD_lt q)) _
    · exact h
theorem okT_tn {S : gS} (h : okT S) : okT (tnF S).2 := (okT_dg 4 (okT_sk h (by decide)) _).w _ _ _ (by decide)
theorem okT_td {S : gS} (h : okT S) : okT (tdF S).2 := (okT_dg 2 h _).w _ _ _ (by decide)
/-- the item's cells, at the item's number -/
def wIt (S : gS) (k : Nat) (v : Int32) : gS := wI S k (rI S 115 36).toNatClampNeg v
def numS (S : gS) : Int32 := rI S 115 39
theorem okT_wIt {S : gS} (h : okT S) (k : Nat) (hk : k ≠ 115) (v : Int32) : okT (wIt S k v) := h.w _ _ _ (by omega)
/-- one number or signal -/
def tkN (S : gS) (n : Int32) : Int32 × gS := if n = 0 then tdF S else tnF S
theorem okT_tkN {S : gS} (h : okT S) (n : Int32) : okT (tkN S n).2 := by
  unfold tkN
  split
  · exact okT_td h
  · exact okT_tn h
def tpF (S : gS) (n : Int32) : Int32 × gS :=
  if (tkN S n).1 = 0 then (0, (tkN S n).2)
  else if (skF (wIt (tkN S n).2 139 (numS (tkN S n).2)) 58).1 = 0 then (0, (skF (wIt (tkN S n).2 139 (numS (tkN S n).2)) 58).2)
  else if (tkN (skF (wIt (tkN S n).2 139 (numS (tkN S n).2)) 58).2 n).1 = 0 then (0, (tkN (skF (wIt (tkN S n).2 139 (numS (tkN S n).2)) 58).2 n).2)
  else (1, wIt (tkN (skF (wIt (tkN S n).2 139 (numS (tkN S n).2)) 58).2 n).2 140 (numS (tkN (skF (wIt (tkN S n).2 139 (numS (tkN S n).2)) 58).2 n).2))
def toneF (S : gS) (k : Int32) : Int32 × gS :=
  if (if k = 14 then tdF (wIt S 138 k) else tnF (wIt S 138 k)).1 = 0 then (0, (if k = 14 then tdF (wIt S 138 k) else tnF (wIt S 138 k)).2)
  else (1, wIt (if k = 14 then tdF (wIt S 138 k) else tnF (wIt S 138 k)).2 139 (numS (if k = 14 then tdF (wIt S 138 k) else tnF (wIt S 138 k)).2))
/-- behind the first operand: A -/
def ts1 (S : gS) : gS := wIt (tdF S).2 139 (numS (tdF S).2)
def ts2 (A : gS) : gS := atS (wIt A 138 (kof (pkS A)))
def ts3 (B : gS) : gS := wIt (tdF B).2 140 (numS (tdF B).2)
def ts4 (C : gS) : gS := wIt (tdF C).2 141 (numS (tdF C).2)
def tsC (C : gS) : Int32 × gS := if (skF C 58).1 = 0 then (0, (skF C 58).2) else if (tdF (skF C 58).2).1 = 0 then (0, (tdF (skF C 58).2).2) else (1, ts4 (skF C 58).2)
def tsB (A B : gS) : Int32 × gS := if (tdF B).1 = 0 then (0, (tdF B).2) else if kof (pkS A) = 12 then tsC (ts3 B) else (1, ts3 B)
def tsA (A : gS) : Int32 × gS := if 0 ≤ kof (pkS A) then tsB A (ts2 A) else (0, A)
def tsG (S : gS) : Int32 × gS := if (tdF S).1 = 0 then (0, (tdF S).2) else tsA (ts1 S)
def tiF (S : gS) : Int32 × gS :=
  let Z := wIt (wIt S 140 0) 141 0
  if pkS Z = 105 then tpF (wIt (atS Z) 138 0) 1
  else if pkS Z = 110 then tpF (wIt (atS Z) 138 13) 0
  else if pkS Z = 107 then toneF (atS Z) 1
  else if pkS Z = 114 then toneF (atS Z) 2
  else if pkS Z = 111 then toneF (atS Z) 14
  else tsG Z
