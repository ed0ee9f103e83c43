theorem lz_c1 (i : Nat) {w : Cond} (h : tables_1_1[i]? = some w) : w ∈ lw_tbl := List.mem_append_right _ (List.mem_append_left _ (List.mem_of_getElem? h))
theorem lz_c2 (i : Nat) {w : Cond} (h : tables_1_2[i]? = some w) : w ∈ lw_tbl := List.mem_append_right _ (List.mem_append_right _ (List.mem_append_left _ (List.mem_of_getElem? h)))
theorem lz_c3 (i : Nat) {w : Cond} (h : tables_1_3[i]? = some w) : w ∈ lw_tbl := List.mem_append_right _ (List.mem_append_right _ (List.mem_append_right _ (List.mem_append_left _ (List.mem_of_getElem? h))))
theorem lz_c4 (i : Nat) {w : Cond} (h : tables_1_4[i]? = some w) : w ∈ lw_tbl := List.mem_append_right _ (List.mem_append_right _ (List.mem_append_right _ (List.mem_append_right _ (List.mem_append_left _ (List.mem_of_getElem? h)))))
theorem lz_c5 (i : Nat) {w : Cond} (h : tables_1_5[i]? = some w) : w ∈ lw_tbl := List.mem_append_right _ (List.mem_append_right _ (List.mem_append_right _ (List.mem_append_right _ (List.mem_append_right _ (List.mem_append_left _ (List.mem_of_getElem? h))))))
theorem lz_c6 (i : Nat) {w : Cond} (h : tables_1_6[i]? = some w) : w ∈ lw_tbl := List.mem_append_right _ (List.mem_append_right _ (List.mem_append_right _ (List.mem_append_right _ (List.mem_append_right _ (List.mem_append_right _ (List.mem_append_left _ (List.mem_of_getElem? h)))))))
theorem lz_c7 (i : Nat) {w : Cond} (h : tables_1_7[i]? = some w) : w ∈ lw_tbl := List.mem_append_right _ (List.mem_append_right _ (List.mem_append_right _ (List.mem_append_right _ (List.mem_append_right _ (List.mem_append_right _ (List.mem_append_right _ (List.mem_of_getElem? h)))))))
section ST
variable {s : State} {args : Array Value}
theorem uw_X0 : ∀ w ∈ u_ws RX0 TX0 12, w ∈ lw_tbl := by decide +kernel
theorem uw_X1 : ∀ w ∈ u_ws RX1 TX1 3, w ∈ lw_tbl := by decide +kernel
theorem uw_X2 : ∀ w ∈ u_ws RX2 TX2 2, w ∈ lw_tbl := by decide +kernel
theorem uw_X3 : ∀ w ∈ u_ws RX3 TX3 1, w ∈ lw_tbl := by decide +kernel
theorem uw_X4 : ∀ w ∈ u_ws RX4 TX4 4, w ∈ lw_tbl := by decide +kernel
theorem uw_X5 : ∀ w ∈ u_ws RX5 TX5 5, w ∈ lw_tbl := by decide +kernel
theorem uw_X6 : ∀ w ∈ u_ws RX6 TX6 7, w ∈ lw_tbl := by decide +kernel
theorem uw_X7 : ∀ w ∈ u_ws RX7 TX7 4, w ∈ lw_tbl := by decide +kernel
theorem uw_X8 : ∀ w ∈ u_ws RX8 TX8 13, w ∈ lw_tbl := by decide +kernel
theorem uw_X9 : ∀ w ∈ u_ws RX9 TX9 45, w ∈ lw_tbl := by decide +kernel
end ST
