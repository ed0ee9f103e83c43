section GY
variable {M M' : go_M} {x : Bool} {Q : go_Q} {cl sl pc : Nat} {ls : List (Nat × Value)} {st : List Value} {h : go_H} {S T : gS} {r : Value} {idx : Nat}
theorem g_callV (n : Nat) (a rest : List Value) {k : Nat} {ci : Nat} {fs : List Value} {q : vw_C} (hd : decode M.code pc = .ok (.invokevirtual idx, 3)) (hn : pc + 3 = n) (hC : gF M' (.ref k :: a) S (some r) T) (hst : st = a.reverse ++ .ref k :: rest) (hs9 : go_V M idx M') (hpar : (parseMethodDescriptor M'.y.desc).map (fun d => d.parameters.length) = some a.length) (hk : ly[k]? = some (.inr (ci, fs))) (hq : go_cl[ci]? = some q) (hqc : M'.y.cls = q.1) (hw : (rest.map fun v => v.category).sum ≤ 8) (h1 : cl + M'.rm.cells ≤ M.rm.cells) (h2 : sl + M'.rm.slots ≤ M.rm.slots) (k9 : Go M false Q (cl + M'.rm.cells) (sl + M'.rm.slots) n ls (r :: rest) (hp T)) : Go M false Q cl sl pc ls st (hp S) := by
  refine go_callV n a rest hd hn hC hst hs9 hpar (hp_at hk) hq hqc hw h1 h2 (fun v h' hv => ?_)
  rw [hv.1, hv.2]
  exact k9
theorem g_callV0 (n : Nat) (a rest : List Value) {k : Nat} {ci : Nat} {fs : List Value} {q : vw_C} (hd : decode M.code pc = .ok (.invokevirtual idx, 3)) (hn : pc + 3 = n) (hC : gF M' (.ref k :: a) S none T) (hst : st = a.reverse ++ .ref k :: rest) (hs9 : go_V M idx M') (hpar : (parseMethodDescriptor M'.y.desc).map (fun d => d.parameters.length) = some a.length) (hk : ly[k]? = some (.inr (ci, fs))) (hq : go_cl[ci]? = some q) (hqc : M'.y.cls = q.1) (hw : (rest.map fun v => v.category).sum ≤ 8) (h1 : cl + M'.rm.cells ≤ M.rm.cells) (h2 : sl + M'.rm.slots ≤ M.rm.slots) (k9 : Go M false Q (cl + M'.rm.cells) (sl + M'.rm.slots) n ls (rest) (hp T)) : Go M false Q cl sl pc ls st (hp S) := by
  refine go_callV n a rest hd hn hC hst hs9 hpar (hp_at hk) hq hqc hw h1 h2 (fun v h' hv => ?_)
  rw [hv.1, hv.2]
  exact k9
theorem g_callS (n : Nat) (a rest : List Value) (hd : decode M.code pc = .ok (.invokestatic idx, 3)) (hn : pc + 3 = n) (hC : gF M' a S (some r) T) (hst : st = a.reverse ++ rest) (hs9 : go_S M idx M') (hpar : (parseMethodDescriptor M'.y.desc).map (fun d => d.parameters.length) = some a.length) (hw : (rest.map fun v => v.category).sum ≤ 8) (h1 : cl + M'.rm.cells ≤ M.rm.cells) (h2 : sl + M'.rm.slots ≤ M.rm.slots) (k9 : Go M false Q (cl + M'.rm.cells) (sl + M'.rm.slots) n ls (r :: rest) (hp T)) : Go M false Q cl sl pc ls st (hp S) := by
  refine go_callS n a rest hd hn hC hst hs9 hpar hw h1 h2 (fun v h' hv => ?_)
  rw [hv.1, hv.2]
  exact k9
theorem g_callS0 (n : Nat) (a rest : List Value) (hd : decode M.code pc = .ok (.invokestatic idx, 3)) (hn : pc + 3 = n) (hC : gF M' a S none T) (hst : st = a.reverse ++ rest) (hs9 : go_S M idx M') (hpar : (parseMethodDescriptor M'.y.desc).map (fun d => d.parameters.length) = some a.length) (hw : (rest.map fun v => v.category).sum ≤ 8) (h1 : cl + M'.rm.cells ≤ M.rm.cells) (h2 : sl + M'.rm.slots ≤ M.rm.slots) (k9 : Go M false Q (cl + M'.rm.cells) (sl + M'.rm.slots) n ls (rest) (hp T)) : Go M false Q cl sl pc ls st (hp S) := by
  refine go_callS n a rest hd hn hC hst hs9 hpar hw h1 h2 (fun v h' hv => ?_)
  rw [hv.1, hv.2]
  exact k9
theorem g_callSN (n : Nat) (a rest : List Value) (hd : decode M.code pc = .ok (.invokestatic idx, 3)) (hn : pc + 3 = n) (hC : gF M' a S (some r) T) (hst : st = a.reverse ++ rest) (hs9 : go_SN M idx M') (hpar : (parseMethodDescriptor M'.y.desc).map (fun d => d.parameters.length) = some a.length) (hw : (rest.map fun v => v.category).sum ≤ 8) (h1 : cl + M'.rm.cells ≤ M.rm.cells) (h2 : sl + M'.rm.slots ≤ M.rm.slots) (k9 : Go M false Q (cl + M'.rm.cells) (sl + M'.rm.slots) n ls (r :: rest) (hp T)) : Go M false Q cl sl pc ls st (hp S) := by
  refine go_callSN n a rest hd hn hC hst hs9 hpar hw h1 h2 (fun v h' hv => ?_)
  rw [hv.1, hv.2]
  exact k9
theorem g_callSN0 (n : Nat) (a rest : List Value) (hd : decode M.code pc = .ok (.invokestatic idx, 3)) (hn : pc + 3 = n) (hC : gF M' a S none T) (hst : st = a.reverse ++ rest) (hs9 : go_SN M idx M') (hpar : (parseMethodDescriptor M'.y.desc).map (fun d => d.parameters.length) = some a.length) (hw : (rest.map fun v => v.category).sum ≤ 8) (h1 : cl + M'.rm.cells ≤ M.rm.cells) (h2 : sl + M'.rm.slots ≤ M.rm.slots) (k9 : Go M false Q (cl + M'.rm.cells) (sl + M'.rm.slots) n ls (rest) (hp T)) : Go M false Q cl sl pc ls st (hp S) := by
  refine go_callSN n a rest hd hn hC hst hs9 hpar hw h1 h2 (fun v h' hv => ?_)
  rw [hv.1, hv.2]
  exact k9
theorem g_callSH (n : Nat) (a rest : List Value) (hd : decode M.code pc = .ok (.invokestatic idx, 3)) (hn : pc + 3 = n) (hC : gF M' a S (some r) T) (hst : st = a.reverse ++ rest) (hs9 : go_SH M idx M') (hpar : (parseMethodDescriptor M'.y.desc).map (fun d => d.parameters.length) = some a.length) (hw : (rest.map fun v => v.category).sum ≤ 8) (h1 : cl + M'.rm.cells ≤ M.rm.cells) (h2 : sl + M'.rm.slots ≤ M.rm.slots) (k9 : Go M false Q (cl + M'.rm.cells) (sl + M'.rm.slots) n ls (r :: rest) (hp T)) : Go M false Q cl sl pc ls st (hp S) := by
  refine go_callSH n a rest hd hn hC hst hs9 hpar hw h1 h2 (fun v h' hv => ?_)
  rw [hv.1, hv.2]
  exact k9
theorem g_callSH0 (n : Nat) (a rest : List Value) (hd : decode M.code pc = .ok (.invokestatic idx, 3)) (hn : pc + 3 = n) (hC : gF M' a S none T) (hst : st = a.reverse ++ rest) (hs9 : go_SH M idx M') (hpar : (parseMethodDescriptor M'.y.desc).map (fun d => d.parameters.length) = some a.length) (hw : (rest.map fun v => v.category).sum ≤ 8) (h1 : cl + M'.rm.cells ≤ M.rm.cells) (h2 : sl + M'.rm.slots ≤ M.rm.slots) (k9 : Go M false Q (cl + M'.rm.cells) (sl + M'.rm.slots) n ls (rest) (hp T)) : Go M false Q cl sl pc ls st (hp S) := by
  refine go_callSH n a rest hd hn hC hst hs9 hpar hw h1 h2 (fun v h' hv => ?_)
  rw [hv.1, hv.2]
  exact k9
/-- a table: the values with their places, and the rest -/
theorem go_tableS {dflt lo hi : Int} {offs : Array Int} {len : Nat} {a : Int32} (tg : List (Int32 × Nat)) (dn : Nat) (hd : decode M.code pc = .ok (.tableswitch dflt lo hi offs, len)) (hlo : lo = 0) (hhi : (offs.size : Int) = hi + 1) (hdn : (pc : Int) + dflt = (dn : Int)) (hsm : offs.size < 1000) (htg : tg.length = offs.size) (hall : ∀ i, i < offs.size → tg[i]? = some (Int32.ofNat i, ((pc : Int) + offs.getD i 0).toNat) ∧ 0 ≤ (pc : Int) + offs.getD i 0) (kk : ∀ q ∈ tg, a = q.1 → Go M x Q cl sl q.2 ls st h) (kd : (∀ q ∈ tg, a ≠ q.1) → Go M x Q cl sl dn ls st h) : Go M x Q cl sl pc ls (.int a :: st) h := by
  subst hlo
  by_cases hr : a.toInt < 0 ∨ hi < a.toInt
  · refine go_tableOut dn hd hr hdn (kd (fun q hq e => ?_))
    obtain ⟨i, hi9⟩ := List.getElem?_of_mem hq
    have hlt : i < offs.size := by rw [← htg]; exact (List.getElem?_eq_some_iff.mp hi9).1
    have h1 := (hall i hlt).1
    rw [hi9] at h1
    have h2 := Option.some.inj h1
    rw [e, h2] at hr
    have h3 : (Int32.ofNat i).toInt = (i : Int) := nI_toInt (by omega)
    rw [h3] at hr
    omega
  · have h1 : ¬ a.toInt < 0 := fun q => hr (Or.inl q)
    have h2 : ¬ hi < a.toInt := fun q => hr (Or.inr q)
    have hlt : (a.toInt - 0).toNat < offs.size := by omega
    obtain ⟨g1, g2⟩ := hall _ hlt
    have hmem := List.mem_of_getElem? g1
    have hae : a = Int32.ofNat (a.toInt - 0).toNat := by
      apply Int32.toInt_inj.mp
      have h3 : (Int32.ofNat (a.toInt - 0).toNat).toInt = ((a.toInt - 0).toNat : Int) := nI_toInt (by omega)
      rw [h3]
      omega
    have k0 := kk _ hmem hae
    refine go_tableIn (off := offs.getD (a.toInt - 0).toNat 0) _ hd h1 h2 ?_ ?_ k0
    · rw [Array.getD_eq_getD_getElem?]
      rw [Array.getElem?_eq_getElem hlt]
      rfl
    · show (pc : Int) + _ = _
      omega
end GY
