theorem st_s {s : State} {args : Array Value} {own tx : String} {k : Nat} (h1 : (Cond.stringRef own k tx).before args s = true) (h2 : (Cond.exactly (.string own k) "java/lang/String").before args s = true) : ∃ a, vk_R own k tx a s := by
  obtain ⟨a, c, cell, kk, q1, _⟩ := Cond.exactly_spec h2
  exact ⟨a, vk_R.of h1 q1⟩

theorem st_in {w : Cond} (h : w ∈ go_gw) : w ∈ lw_tbl := (List.mem_filter.mp h).1
set_option maxRecDepth 100000 in
theorem st_K {s : State} {args : Array Value} (hts : ∀ w ∈ lw_tbl, w.before args s = true) (hgv : (Jvm.Cond.and given_1 narrow_1).before args s = true) : ∃ kap D, go_K s.heap.size kap D s := by
  have hs := flat_of_before _ hgv
  obtain ⟨c0, i0, k0⟩ := u_known (n := 12) hts uw_X0 (hts _ (st_in wA_X0))
  obtain ⟨c1, i1, k1⟩ := u_known (n := 3) hts uw_X1 (hts _ (st_in wA_X1))
  obtain ⟨c2, i2, k2⟩ := u_known (n := 2) hts uw_X2 (hts _ (st_in wA_X2))
  obtain ⟨c3, i3, k3⟩ := u_known (n := 1) hts uw_X3 (hts _ (st_in wA_X3))
  obtain ⟨c4, i4, k4⟩ := u_known (n := 4) hts uw_X4 (hts _ (st_in wA_X4))
  obtain ⟨c5, i5, k5⟩ := u_known (n := 5) hts uw_X5 (hts _ (st_in wA_X5))
  obtain ⟨c6, i6, k6⟩ := u_known (n := 7) hts uw_X6 (hts _ (st_in wA_X6))
  obtain ⟨c7, i7, k7⟩ := u_known (n := 4) hts uw_X7 (hts _ (st_in wA_X7))
  obtain ⟨c8, i8, k8⟩ := u_known (n := 13) hts uw_X8 (hts _ (st_in wA_X8))
  obtain ⟨c9, i9, k9⟩ := u_known (n := 45) hts uw_X9 (hts _ (st_in wA_X9))
  obtain ⟨a0, b0, e0, p0, q0, r0⟩ := Cond.arrayClass_spec (hts _ (st_in wB_int))
  obtain ⟨a1, b1, e1, p1, q1, r1⟩ := Cond.arrayClass_spec (hts _ (st_in wB_long))
  obtain ⟨a2, b2, e2, p2, q2, r2⟩ := Cond.arrayClass_spec (hts _ (st_in wB_boolean))
  obtain ⟨a3, b3, e3, p3, q3, r3⟩ := Cond.arrayClass_spec (hts _ (st_in wB_char))
  obtain ⟨a4, b4, e4, p4, q4, r4⟩ := Cond.arrayClass_spec (hts _ (st_in wB_double))
  obtain ⟨e5, a5, b5, p5, _, q5, r5, t5⟩ := Cond.arrayOver_spec (hts (.arrayOver (.object RX2)) (lz_c1 230 (by decide +kernel)))
  refine ⟨fun ty => match ty with | .int => a0 | .long => a1 | .boolean => a2 | .char => a3 | .double => a4 | _ => a5, (fun c => match c with | 0 => c0 | 1 => c1 | 2 => c2 | 3 => c3 | 4 => c4 | 5 => c5 | 6 => c6 | 7 => c7 | 8 => c8 | _ => c9, fun c => match c with | 0 => i0 | 1 => i1 | 2 => i2 | 3 => i3 | 4 => i4 | 5 => i5 | 6 => i6 | 7 => i7 | 8 => i8 | _ => i9), ⟨fun c q hq => ?_, fun k q hk => ?_⟩, ?_, ?_, ?_, ?_, ?_, ?_, ?_, ?_, Nat.le_refl _⟩
  · match c, hq with
    | 0, hq => cases hq; exact k0
    | 1, hq => cases hq; exact k1
    | 2, hq => cases hq; exact k2
    | 3, hq => cases hq; exact k3
    | 4, hq => cases hq; exact k4
    | 5, hq => cases hq; exact k5
    | 6, hq => cases hq; exact k6
    | 7, hq => cases hq; exact k7
    | 8, hq => cases hq; exact k8
    | 9, hq => cases hq; exact k9
    | n + 10, hq => cases hq
  · match k, hk with
    | 0, hk => cases hk; exact ⟨fun n z => ⟨fun k h => (by cases h), b0, q0, e0, r0⟩, p0⟩
    | 1, hk => cases hk; exact ⟨fun n z => ⟨fun k h => (by cases h), b1, q1, e1, r1⟩, p1⟩
    | 2, hk => cases hk; exact ⟨fun n z => ⟨fun k h => (by cases h), b2, q2, e2, r2⟩, p2⟩
    | 3, hk => cases hk; exact ⟨fun n z => ⟨fun k h => (by cases h), b3, q3, e3, r3⟩, p3⟩
    | 4, hk => cases hk; exact ⟨fun n z => ⟨fun k h => (by cases h), b4, q4, e4, r4⟩, p4⟩
    | 5, hk => cases hk; exact ⟨fun n z => ⟨fun k h => (by cases h), b5, q5, e5, r5⟩, b5, e5, q5, r5, p5, t5⟩
    | n + 6, hk => cases hk
  · exact vx_Zqof (hts _ (lz_c3 109 (by decide +kernel))) (hts (.initialized "java/lang/Throwable") (lz_c1 11 (by decide +kernel))) (hs _ (by decide +kernel)) (fun a h1 h2 => absurd h1 (by omega))
  · exact vx_Zqof (hts _ (lz_c3 111 (by decide +kernel))) (hts (.initialized "java/lang/Throwable") (lz_c1 11 (by decide +kernel))) (hs _ (by decide +kernel)) (fun a h1 h2 => absurd h1 (by omega))
  · exact List.forall_mem_cons.mpr ⟨st_s (hts _ (lz_c3 185 (by decide +kernel))) (hs _ (by decide +kernel)), List.forall_mem_cons.mpr ⟨st_s (hts _ (lz_c3 197 (by decide +kernel))) (hs _ (by decide +kernel)), List.forall_mem_cons.mpr ⟨st_s (hts _ (lz_c3 211 (by decide +kernel))) (hs _ (by decide +kernel)), List.forall_mem_cons.mpr ⟨st_s (hts _ (lz_c3 224 (by decide +kernel))) (hs _ (by decide +kernel)), List.forall_mem_cons.mpr ⟨st_s (hts _ (lz_c4 8 (by decide +kernel))) (hs _ (by decide +kernel)), List.forall_mem_cons.mpr ⟨st_s (hts _ (lz_c4 35 (by decide +kernel))) (hs _ (by decide +kernel)), List.forall_mem_cons.mpr ⟨st_s (hts _ (lz_c4 45 (by decide +kernel))) (hs _ (by decide +kernel)), List.forall_mem_cons.mpr ⟨st_s (hts _ (lz_c4 66 (by decide +kernel))) (hs _ (by decide +kernel)), List.forall_mem_cons.mpr ⟨st_s (hts _ (lz_c4 74 (by decide +kernel))) (hs _ (by decide +kernel)), List.forall_mem_cons.mpr ⟨st_s (hts _ (lz_c4 153 (by decide +kernel))) (hs _ (by decide +kernel)), List.forall_mem_cons.mpr ⟨st_s (hts _ (lz_c4 176 (by decide +kernel))) (hs _ (by decide +kernel)), List.forall_mem_cons.mpr ⟨st_s (hts _ (lz_c4 185 (by decide +kernel))) (hs _ (by decide +kernel)), List.forall_mem_cons.mpr ⟨st_s (hts _ (lz_c4 187 (by decide +kernel))) (hs _ (by decide +kernel)), List.forall_mem_cons.mpr ⟨st_s (hts _ (lz_c4 195 (by decide +kernel))) (hs _ (by decide +kernel)), List.forall_mem_cons.mpr ⟨st_s (hts _ (lz_c4 203 (by decide +kernel))) (hs _ (by decide +kernel)), List.forall_mem_cons.mpr ⟨st_s (hts _ (lz_c4 204 (by decide +kernel))) (hs _ (by decide +kernel)), List.forall_mem_cons.mpr ⟨st_s (hts _ (lz_c4 212 (by decide +kernel))) (hs _ (by decide +kernel)), List.forall_mem_cons.mpr ⟨st_s (hts _ (lz_c5 15 (by decide +kernel))) (hs _ (by decide +kernel)), List.forall_mem_cons.mpr ⟨st_s (hts _ (lz_c5 27 (by decide +kernel))) (hs _ (by decide +kernel)), List.forall_mem_cons.mpr ⟨st_s (hts _ (lz_c5 28 (by decide +kernel))) (hs _ (by decide +kernel)), List.forall_mem_cons.mpr ⟨st_s (hts _ (lz_c5 36 (by decide +kernel))) (hs _ (by decide +kernel)), fun _ h => absurd h List.not_mem_nil⟩⟩⟩⟩⟩⟩⟩⟩⟩⟩⟩⟩⟩⟩⟩⟩⟩⟩⟩⟩⟩
  · exact List.forall_mem_cons.mpr ⟨va_Nw.of rfl (hts _ (lz_c1 36 (by decide +kernel))), List.forall_mem_cons.mpr ⟨va_Nw.of rfl (hts _ (lz_c1 115 (by decide +kernel))), List.forall_mem_cons.mpr ⟨va_Nw.of rfl (hts _ (lz_c1 133 (by decide +kernel))), List.forall_mem_cons.mpr ⟨va_Nw.of rfl (hts _ (lz_c1 157 (by decide +kernel))), List.forall_mem_cons.mpr ⟨va_Nw.of rfl (hts _ (lz_c1 180 (by decide +kernel))), List.forall_mem_cons.mpr ⟨va_Nw.of rfl (hts _ (lz_c1 214 (by decide +kernel))), List.forall_mem_cons.mpr ⟨va_Nw.of rfl (hts _ (lz_c1 231 (by decide +kernel))), List.forall_mem_cons.mpr ⟨va_Nw.of rfl (hts _ (lz_c2 15 (by decide +kernel))), List.forall_mem_cons.mpr ⟨va_Nw.of rfl (hts _ (lz_c2 159 (by decide +kernel))), List.forall_mem_cons.mpr ⟨va_Nw.of rfl (hts _ (lz_c2 174 (by decide +kernel))), List.forall_mem_cons.mpr ⟨va_Nw.of rfl (hts _ (lz_c2 182 (by decide +kernel))), List.forall_mem_cons.mpr ⟨va_Nw.of rfl (hts _ (lz_c2 202 (by decide +kernel))), List.forall_mem_cons.mpr ⟨va_Nw.of rfl (hts _ (lz_c4 115 (by decide +kernel))), fun _ h => absurd h List.not_mem_nil⟩⟩⟩⟩⟩⟩⟩⟩⟩⟩⟩⟩⟩
  · exact va_AO.of (hts (.arrayOver (.object RX2)) (lz_c1 230 (by decide +kernel)))
  · exact List.forall_mem_cons.mpr ⟨va_Nc.of (hs _ (by decide +kernel)), List.forall_mem_cons.mpr ⟨va_Nc.of (hs _ (by decide +kernel)), List.forall_mem_cons.mpr ⟨va_Nc.of (hs _ (by decide +kernel)), List.forall_mem_cons.mpr ⟨va_Nc.of (hs _ (by decide +kernel)), List.forall_mem_cons.mpr ⟨va_Nc.of (hs _ (by decide +kernel)), List.forall_mem_cons.mpr ⟨va_Nc.of (hs _ (by decide +kernel)), List.forall_mem_cons.mpr ⟨va_Nc.of (hs _ (by decide +kernel)), List.forall_mem_cons.mpr ⟨va_Nc.of (hs _ (by decide +kernel)), fun _ h => absurd h List.not_mem_nil⟩⟩⟩⟩⟩⟩⟩⟩
  · exact List.forall_mem_cons.mpr ⟨va_Yc.of (hts _ (lz_c3 178 (by decide +kernel))), List.forall_mem_cons.mpr ⟨va_Yc.of (hts _ (lz_c3 204 (by decide +kernel))), List.forall_mem_cons.mpr ⟨va_Yc.of (hts _ (lz_c3 217 (by decide +kernel))), List.forall_mem_cons.mpr ⟨va_Yc.of (hts _ (lz_c4 1 (by decide +kernel))), List.forall_mem_cons.mpr ⟨va_Yc.of (hts _ (lz_c4 38 (by decide +kernel))), List.forall_mem_cons.mpr ⟨va_Yc.of (hts _ (lz_c4 169 (by decide +kernel))), fun _ h => absurd h List.not_mem_nil⟩⟩⟩⟩⟩⟩
  · exact List.forall_mem_cons.mpr ⟨va_Nw.of rfl (hts _ (lz_c3 150 (by decide +kernel))), List.forall_mem_cons.mpr ⟨va_Nw.of rfl (hts _ (lz_c3 152 (by decide +kernel))), List.forall_mem_cons.mpr ⟨va_Nw.of rfl (hts _ (lz_c3 154 (by decide +kernel))), fun _ h => absurd h List.not_mem_nil⟩⟩⟩
