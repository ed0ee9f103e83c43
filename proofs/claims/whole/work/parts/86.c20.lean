-- needs 
def f_X8_requireSignal (S : gS) (r : Int32) : Nat × Int32 × gS := (if (f_X0_has S r) = 0 then (2, 0, S) else (0, 0, S))
set_option maxRecDepth 100000 in
set_option maxHeartbeats 1000000 in
theorem ct_X8_requireSignal (S : gS) (r : Int32)  : gO mX8_requireSignal [.ref 0, .int r] S (f_X8_requireSignal S r).1 none (f_X8_requireSignal S r).2.2 := by
  refine go_enter [.ref 0, .int r] [(0, .ref 0), (1, .int r)] (by decide +kernel) rfl rfl (Nat.le_of_ble_eq_true rfl) rfl ?_
  refine go_aload_n 1 dX8_requireSignal_0 rfl rfl ?_
  refine g_getR 4 dX8_requireSignal_1 rfl fF_RX8_10 ly_0 rfl ?_
  refine go_iload_n 5 dX8_requireSignal_4 rfl rfl ?_
  refine g_callV 8 [.int _] [] dX8_requireSignal_5 rfl (ct_X0_has _ _) rfl sV_X8_requireSignal_328 rfl ly_1 rfl rfl (Nat.le_of_ble_eq_true rfl) (Nat.le_of_ble_eq_true rfl) (Nat.le_of_ble_eq_true rfl) ?_
  refine go_if_ne 11 22 dX8_requireSignal_8 rfl (by decide) (fun hc1 => ?_) (fun hc1 => ?_)
  · refine go_return dX8_requireSignal_22 rfl (Nat.le_of_ble_eq_true rfl) (Nat.le_of_ble_eq_true rfl) ?_
    exact ⟨(by unfold f_X8_requireSignal; simp only [if_neg hc1]; try first | rfl | contradiction), rfl, congrArg hp (by unfold f_X8_requireSignal; simp only [if_neg hc1]; try first | rfl | contradiction)⟩
  · refine go_throwW "java/lang/IndexOutOfBoundsException" "there is no such signal" dX8_requireSignal_11 dX8_requireSignal_14 dX8_requireSignal_15 dX8_requireSignal_18 dX8_requireSignal_21 rfl sT_RX8_106 (List.mem_of_getElem? (i := 5) rfl) (Nat.le_of_ble_eq_true rfl) (Nat.le_of_ble_eq_true rfl) (Nat.le_of_ble_eq_true rfl) (Nat.le_of_ble_eq_true rfl) ?_
    exact ⟨(by unfold f_X8_requireSignal; simp only [if_pos hc1]; try decide), (by unfold f_X8_requireSignal; simp only [if_pos hc1]; try rfl), congrArg hp (by unfold f_X8_requireSignal; simp only [if_pos hc1]; try first | rfl | contradiction)⟩

section GQ6
variable {M : go_M} {Po : Option Value → go_H → Prop} {Px : String → go_H → Prop} {cl sl pc : Nat} {ls : List (Nat × Value)} {S : gS} {r : Int32} {idx : Nat}
theorem g_req (n : Nat) (rest : List Value) (hd : decode M.code pc = .ok (.invokevirtual idx, 3)) (hn : pc + 3 = n) (hs9 : go_V M idx mX8_requireSignal) (hh : M.hh = []) (hw : (rest.map fun v => v.category).sum ≤ 8) (h1 : cl + mX8_requireSignal.rm.cells ≤ M.rm.cells) (h2 : sl + mX8_requireSignal.rm.slots ≤ M.rm.slots)
    (kx : f_X0_has S r = 0 → Px "java/lang/IndexOutOfBoundsException" (hp S)) (k9 : ¬ f_X0_has S r = 0 → Go M false (go_Qm M false Po Px) (cl + mX8_requireSignal.rm.cells) (sl + mX8_requireSignal.rm.slots) n ls rest (hp S)) : Go M false (go_Qm M false Po Px) cl sl pc ls (.int r :: .ref 0 :: rest) (hp S) := by
  have hC := ct_X8_requireSignal S r
  unfold gO f_X8_requireSignal at hC
  refine go_callVX (Po := _) (Px := _) n [.int r] rest hd hn hC rfl hs9 rfl (hp_at ly_0) rfl rfl hw h1 h2 (fun E h' hx => ?_) (fun v h' hv => ?_)
  · by_cases h : f_X0_has S r = 0
    · rw [if_pos h] at hx
      obtain ⟨-, q2, q3⟩ := hx
      have e2 : "java/lang/IndexOutOfBoundsException" = E := Option.some.inj q2
      rw [q3, ← e2]
      exact go_out hh h1 h2 (kx h)
    · rw [if_neg h] at hx
      exact absurd hx.1 (Nat.lt_irrefl _)
  · by_cases h : f_X0_has S r = 0
    · rw [if_pos h] at hv
      exact absurd (show (2 : Nat) = 0 from hv.1) (by decide)
    · rw [if_neg h] at hv
      obtain ⟨-, q2, q3⟩ := hv
      rw [q2, q3]
      exact k9 h
end GQ6
theorem has_sgn {S : gS} {n : Nat} {r : Int32} (hn : rI S 1 0 = nI n) : ¬ f_X0_has S r = 0 ↔ sgn (nI n) r := by
  unfold f_X0_has
  rw [hn]
  by_cases h1 : r < 0
  · rw [if_pos h1]
    constructor
    · intro q; exact absurd rfl q
    · intro q
      exact absurd h1 (Int32.not_lt.mpr q.1)
  · rw [if_neg h1]
    by_cases h2 : nI n ≤ r
    · rw [if_pos h2]
      constructor
      · intro q; exact absurd rfl q
      · intro q
        exact absurd q.2 (Int32.not_lt.mpr h2)
    · rw [if_neg h2]
      constructor
      · intro _; exact ⟨Int32.not_lt.mp h1, Int32.not_le.mp h2⟩
      · intro _; decide
theorem has_in {S : gS} {n : Nat} {r : Int32} (ho : okC S n) (h : ¬ f_X0_has S r = 0) : vp_in r 24 := vin_of ((has_sgn ho.1).mp h) ho.2.1
