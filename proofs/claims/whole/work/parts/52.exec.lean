-- needs 50.units
/-! the reference executes -/
section GTb
variable {M : go_M} {x : Bool} {Q : go_Q} {cl sl pc : Nat} {ls : List (Nat × Value)} {st : List Value} {h : go_H}
/-- a table that begins at l0 -/
theorem go_tableN (l0 : Nat) {dflt lo hi : Int} {offs : Array Int} {len : Nat} {a : Int32} (tg : List (Int32 × Nat)) (dn : Nat) (hd : decode M.code pc = .ok (.tableswitch dflt lo hi offs, len)) (hlo : lo = (l0 : Int)) (hhi : (offs.size : Int) + l0 = hi + 1) (hdn : (pc : Int) + dflt = (dn : Int)) (hsm : offs.size + l0 < 1000) (htg : tg.length = offs.size) (hall : ∀ i, i < offs.size → tg[i]? = some (Int32.ofNat (l0 + i), ((pc : Int) + offs.getD i 0).toNat) ∧ 0 ≤ (pc : Int) + offs.getD i 0) (kk : ∀ q ∈ tg, a = q.1 → Go M x Q cl sl q.2 ls st h) (kd : (∀ q ∈ tg, a ≠ q.1) → Go M x Q cl sl dn ls st h) : Go M x Q cl sl pc ls (.int a :: st) h := by
  subst hlo
  by_cases hr : a.toInt < l0 ∨ hi < a.toInt
  · refine go_tableOut dn hd hr hdn (kd (fun q hq e => ?_))
    obtain ⟨i, hi9⟩ := List.getElem?_of_mem hq
    have hlt : i < offs.size := by rw [← htg]; exact (List.getElem?_eq_some_iff.mp hi9).1
    have h1 := (hall i hlt).1
    rw [hi9] at h1
    have h2 := Option.some.inj h1
    rw [e, h2] at hr
    have h3 : (Int32.ofNat (l0 + i)).toInt = ((l0 + i : Nat) : Int) := nI_toInt (by omega)
    rw [h3] at hr
    omega
  · have h1 : ¬ a.toInt < l0 := fun q => hr (Or.inl q)
    have h2 : ¬ hi < a.toInt := fun q => hr (Or.inr q)
    have hlt : (a.toInt - l0).toNat < offs.size := by omega
    obtain ⟨g1, g2⟩ := hall _ hlt
    have hmem := List.mem_of_getElem? g1
    have hae : a = Int32.ofNat (l0 + (a.toInt - l0).toNat) := by
      apply Int32.toInt_inj.mp
      have h3 : (Int32.ofNat (l0 + (a.toInt - l0).toNat)).toInt = ((l0 + (a.toInt - l0).toNat : Nat) : Int) := nI_toInt (by omega)
      rw [h3]
      omega
    have k0 := kk _ hmem hae
    refine go_tableIn (off := offs.getD (a.toInt - l0).toNat 0) _ hd h1 h2 ?_ ?_ k0
    · rw [Array.getD_eq_getD_getElem?]
      rw [Array.getElem?_eq_getElem hlt]
      rfl
    · show (pc : Int) + _ = _
      omega
end GTb
def naF (S : gS) (j : Nat) (v : Int32) : Int32 := if woF S j = 0 then 0 else if woF S j = 32 then v else if nsP S j then v <<< ((32 - woF S j) &&& 31) >>> ((32 - woF S j) &&& 31) else v &&& (1 <<< (woF S j &&& 31) - 1)
def cmX (S : gS) (j : Nat) : Int32 := if rI S 116 j < 3 then 0 else rI S 135 (rI S 117 j).toNatClampNeg
def cmY (S : gS) (j : Nat) : Int32 := if opS (rI S 116 j) 1 then rI S 135 (rI S 118 j).toNatClampNeg else rI S 118 j
def cmF (S : gS) (j : Nat) : Int32 :=
  if rI S 116 j = 1 then rI S 117 j
  else if rI S 116 j = 3 then cmX S j + cmY S j
  else if rI S 116 j = 4 then cmX S j - cmY S j
  else if rI S 116 j = 5 then cmX S j * cmY S j
  else if rI S 116 j = 6 then cmX S j &&& cmY S j
  else if rI S 116 j = 7 then cmX S j ||| cmY S j
  else if rI S 116 j = 8 then cmX S j ^^^ cmY S j
  else if rI S 116 j = 9 then cmX S j <<< (cmY S j &&& 31)
  else if rI S 116 j = 10 then cmX S j >>> (cmY S j &&& 31)
  else if rI S 116 j = 11 then (if cmY S j ≤ cmX S j then 0 else 1)
  else if cmX S j = 0 then rI S 135 (rI S 119 j).toNatClampNeg else cmY S j
def evI (S : gS) (j : Nat) (b : Int32) : Int32 := if rI S 116 j = 0 then rI S 123 j else if rI S 116 j = 2 then (if b = 0 then rI S 123 j else rI S 124 j) else cmF S j
def ev1 (b : Int32) (i : Nat) (T : gS) : gS := wI T 135 i (if b = 0 then evI T i b else naF T i (evI T i b))
def evF (S : gS) (b : Int32) (i : Nat) : gS := itr (ev1 b) i S
theorem rI_evF (S : gS) (b : Int32) (i a c : Nat) (h : a ≠ 135) : rI (evF S b i) a c = rI S a c := by
  induction i with
  | zero => rfl
  | succ i ih =>
    show rI (ev1 b i (evF S b i)) a c = _
    unfold ev1
    rw [rI_wI, if_neg (fun q => h q.1)]
    exact ih
theorem rL_evF (S : gS) (b : Int32) (i a c : Nat) : rL (evF S b i) a c = rL S a c := by
  induction i with
  | zero => rfl
  | succ i ih => exact ih
