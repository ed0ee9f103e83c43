/-! what the walker that writes its own defs stands on -/
theorem rI_wIk {k a0 c0 : Nat} (h : a0 ≠ k) (S : gS) (j : Nat) (v : Int32) : rI (wI S k j v) a0 c0 = rI S a0 c0 := by
  rw [rI_wI, if_neg (fun q => h q.1)]
theorem rI_wIc {k j a0 c0 : Nat} (h : ¬ (a0 = k ∧ c0 = j)) (S : gS) (v : Int32) : rI (wI S k j v) a0 c0 = rI S a0 c0 := by
  rw [rI_wI, if_neg h]
theorem rI_wRk {k a0 c0 : Nat} (h : a0 ≠ k) (S : gS) (f : Nat → Int32) : rI (wR S k f) a0 c0 = rI S a0 c0 := by
  rw [rI_wR, if_neg h]
def mxi (a c : Int32) : Int32 := if a < c then c else a
def mni (a c : Int32) : Int32 := if c < a then c else a
def mnl (a c : Int64) : Int64 := if c < a then c else a
/-- the cell number k is an item -/
def itm (k : Nat) : Prop := ly[k]? = some (.inr (2, [.int 0, .ref (k + 1)])) ∧ ly[k + 1]? = some (.inl (.int, 3, .inl (fun _ => 0)))
theorem itm_34 : itm 34 := ⟨ly_34, ly_35⟩
theorem itm_all : ∀ i, i < 27 → itm (58 + 2 * i) := by
  intro i hi
  match i, hi with
  | 0, _ => exact ⟨ly_58, ly_59⟩
  | 1, _ => exact ⟨ly_60, ly_61⟩
  | 2, _ => exact ⟨ly_62, ly_63⟩
  | 3, _ => exact ⟨ly_64, ly_65⟩
  | 4, _ => exact ⟨ly_66, ly_67⟩
  | 5, _ => exact ⟨ly_68, ly_69⟩
  | 6, _ => exact ⟨ly_70, ly_71⟩
  | 7, _ => exact ⟨ly_72, ly_73⟩
  | 8, _ => exact ⟨ly_74, ly_75⟩
  | 9, _ => exact ⟨ly_76, ly_77⟩
  | 10, _ => exact ⟨ly_78, ly_79⟩
  | 11, _ => exact ⟨ly_80, ly_81⟩
  | 12, _ => exact ⟨ly_82, ly_83⟩
  | 13, _ => exact ⟨ly_84, ly_85⟩
  | 14, _ => exact ⟨ly_86, ly_87⟩
  | 15, _ => exact ⟨ly_88, ly_89⟩
  | 16, _ => exact ⟨ly_90, ly_91⟩
  | 17, _ => exact ⟨ly_92, ly_93⟩
  | 18, _ => exact ⟨ly_94, ly_95⟩
  | 19, _ => exact ⟨ly_96, ly_97⟩
  | 20, _ => exact ⟨ly_98, ly_99⟩
  | 21, _ => exact ⟨ly_100, ly_101⟩
  | 22, _ => exact ⟨ly_102, ly_103⟩
  | 23, _ => exact ⟨ly_104, ly_105⟩
  | 24, _ => exact ⟨ly_106, ly_107⟩
  | 25, _ => exact ⟨ly_108, ly_109⟩
  | 26, _ => exact ⟨ly_110, ly_111⟩
  | i + 27, hi => exact absurd hi (by omega)
section GQ
variable {M : go_M} {x : Bool} {Q : go_Q} {cl sl pc : Nat} {ls : List (Nat × Value)} {st : List Value}
theorem g_aald (n : Nat) {S : gS} {i : Int32} (hd : decode M.code pc = .ok (.aaload, 1)) (hn : pc + 1 = n) (hi : vp_in i 27) (k9 : Go M x Q cl sl n ls (.ref (58 + 2 * i.toNatClampNeg) :: st) (hp S)) : Go M x Q cl sl pc ls (.int i :: .ref 57 :: st) (hp S) := by
  refine go_aald n hd hn (hp_at ly_57) hi ?_
  have h9 : i.toNatClampNeg < 27 := by
    have h8 := hi
    unfold vp_in at h8
    omega
  have e9 : va_rf (go_items i.toNatClampNeg) = .ref (58 + 2 * i.toNatClampNeg) := by
    unfold go_items
    rw [if_pos h9]
    rfl
  rw [e9]
  exact k9
end GQ
section GQ2
variable {M : go_M} {x : Bool} {Q : go_Q} {cl sl pc : Nat} {ls : List (Nat × Value)} {st : List Value} {S : gS}
theorem g_iald2 (n j : Nat) {k N : Nat} {f0 : Nat → Int32} {i : Int32} (hd : decode M.code pc = .ok (.iaload, 1)) (hn : pc + 1 = n) (hk : ly[k]? = some (.inl (.int, N, .inl f0))) (hi : vp_in i N) (hj : i.toNatClampNeg = j) (k9 : Go M x Q cl sl n ls (.int (rI S k j) :: st) (hp S)) : Go M x Q cl sl pc ls (.int i :: .ref k :: st) (hp S) := by
  subst hj
  exact g_iald n hd hn hk hi k9
theorem g_iast2 (n j : Nat) {k N : Nat} {f0 : Nat → Int32} {i : Int32} {v : Int32} (hd : decode M.code pc = .ok (.iastore, 1)) (hn : pc + 1 = n) (hk : ly[k]? = some (.inl (.int, N, .inl f0))) (hi : vp_in i N) (hj : i.toNatClampNeg = j) (k9 : Go M false Q cl sl n ls st (hp (wI S k j v))) : Go M false Q cl sl pc ls (.int v :: .int i :: .ref k :: st) (hp S) := by
  subst hj
  exact g_iast n hd hn hk hi k9
theorem g_zald2 (n j : Nat) {k N : Nat} {f0 : Nat → Int32} {i : Int32} (hd : decode M.code pc = .ok (.baload, 1)) (hn : pc + 1 = n) (hk : ly[k]? = some (.inl (.boolean, N, .inl f0))) (hi : vp_in i N) (hj : i.toNatClampNeg = j) (k9 : Go M x Q cl sl n ls (.int (rI S k j) :: st) (hp S)) : Go M x Q cl sl pc ls (.int i :: .ref k :: st) (hp S) := by
  subst hj
  exact g_zald n hd hn hk hi k9
theorem g_zast2 (n j : Nat) {k N : Nat} {f0 : Nat → Int32} {i : Int32} {v : Int32} (hd : decode M.code pc = .ok (.bastore, 1)) (hn : pc + 1 = n) (hk : ly[k]? = some (.inl (.boolean, N, .inl f0))) (hi : vp_in i N) (hj : i.toNatClampNeg = j) (k9 : Go M false Q cl sl n ls st (hp (wI S k j (vp_nar .boolean v)))) : Go M false Q cl sl pc ls (.int v :: .int i :: .ref k :: st) (hp S) := by
  subst hj
  exact g_zast n hd hn hk hi k9
theorem g_cald2 (n j : Nat) {k N : Nat} {f0 : Nat → Int32} {i : Int32} (hd : decode M.code pc = .ok (.caload, 1)) (hn : pc + 1 = n) (hk : ly[k]? = some (.inl (.char, N, .inl f0))) (hi : vp_in i N) (hj : i.toNatClampNeg = j) (k9 : Go M x Q cl sl n ls (.int (rI S k j) :: st) (hp S)) : Go M x Q cl sl pc ls (.int i :: .ref k :: st) (hp S) := by
  subst hj
  exact g_cald n hd hn hk hi k9
theorem g_cast2 (n j : Nat) {k N : Nat} {f0 : Nat → Int32} {i : Int32} {v : Int32} (hd : decode M.code pc = .ok (.castore, 1)) (hn : pc + 1 = n) (hk : ly[k]? = some (.inl (.char, N, .inl f0))) (hi : vp_in i N) (hj : i.toNatClampNeg = j) (k9 : Go M false Q cl sl n ls st (hp (wI S k j (vp_nar .char v)))) : Go M false Q cl sl pc ls (.int v :: .int i :: .ref k :: st) (hp S) := by
  subst hj
  exact g_cast n hd hn hk hi k9
theorem g_aald2 (n j : Nat) {i : Int32} (hd : decode M.code pc = .ok (.aaload, 1)) (hn : pc + 1 = n) (hi : vp_in i 27) (hj : i.toNatClampNeg = j) (k9 : Go M x Q cl sl n ls (.ref (58 + 2 * j) :: st) (hp S)) : Go M x Q cl sl pc ls (.int i :: .ref 57 :: st) (hp S) := by
  subst hj
  exact g_aald n hd hn hi k9
end GQ2
theorem itr_fr {g : Nat → gS → gS} {a c : Nat} (h : ∀ i T, rI (g i T) a c = rI T a c) (n : Nat) (S : gS) : rI (itr g n S) a c = rI S a c := by
  induction n with
  | zero => rfl
  | succ n ih => exact (h _ _).trans ih
