theorem ch_nar (a : Int32) : vp_nar .char (a.toUInt32 % 65536).toInt32 = (a.toUInt32 % 65536).toInt32 := by
  have h : ∀ w : UInt32, (w % 65536).toUInt16.toUInt32 = w % 65536 := fun w => UInt32.toNat_inj.mp (by rw [UInt16.toNat_toUInt32, UInt32.toNat_toUInt16, UInt32.toNat_mod]; exact Nat.mod_mod w.toNat 65536)
  exact congrArg UInt32.toInt32 (h a.toUInt32)
theorem lg_self (a : Int64) : lg_cmp a a = 0 := by
  have h1 := (cmp_le (a := a) (c := a)).mpr (Int64.le_refl a)
  have h2 : ¬ lg_cmp a a < 0 := fun q => Int64.lt_irrefl (cmp_lt.mp q)
  rw [ile] at h1
  rw [il] at h2
  rw [ieq]
  have e : (0 : Int32).toInt = 0 := rfl
  omega

theorem lc_0 {z : Nat × Nat × (Nat → Int32)} {Q : go_Q} {cl sl k : Nat} {S : gS} (hI : Inv S) (h1 : vp_in (nI (5 * k) + 1) z.2.1) (h2 : vp_in (nI (5 * k) + 2) z.2.1) (h3 : vp_in (nI (5 * k) + 3) z.2.1) (h4 : vp_in (nI (5 * k) + 4) z.2.1) (hc : cl + 4 ≤ 603072) (hs : sl + 24 ≤ 7194730) (kn : ∀ T, Inv T → ∀ c2 s2, c2 ≤ cl + 4 → s2 ≤ sl + 24 → Gl z mL_law false Q c2 s2 1660 [(5, .int (nI (5 * k))), (4, .ref 146), (3, .ref 145), (2, .ref 115), (1, .ref 0)] [] (hp T)) : Gl z mL_law false Q cl sl 172 [(5, .int (nI (5 * k))), (4, .ref 146), (3, .ref 145), (2, .ref 115), (1, .ref 0)] [] (hp S) := by
  refine gl_aload_n 173 dL_law_172 rfl rfl ?_
  refine gl_sk 179 (nI (5 * k)) 1 dL_law_173 dL_law_174 dL_law_176 dL_law_177 dL_law_178 rfl rfl (by decide) h1 ?_
  refine gl_sk 185 (nI (5 * k)) 2 dL_law_179 dL_law_180 dL_law_182 dL_law_183 dL_law_184 rfl rfl (by decide) h2 ?_
  refine gl_sk 191 (nI (5 * k)) 3 dL_law_185 dL_law_186 dL_law_188 dL_law_189 dL_law_190 rfl rfl (by decide) h3 ?_
  refine gl_sk 197 (nI (5 * k)) 4 dL_law_191 dL_law_192 dL_law_194 dL_law_195 dL_law_196 rfl rfl (by decide) h4 ?_
  refine gl_aload_n 198 dL_law_197 rfl rfl ?_
  obtain ⟨k9, T1, b9, T2, hL, hR, h0, hW, hJ⟩ := q_add hI (z.2.2 (nI (5 * k) + 1).toNatClampNeg) (z.2.2 (nI (5 * k) + 2).toNatClampNeg) (z.2.2 (nI (5 * k) + 3).toNatClampNeg) (z.2.2 (nI (5 * k) + 4).toNatClampNeg)
  refine gm_callSH 201 [.ref 0, .int (z.2.2 (nI (5 * k) + 1).toNatClampNeg), .int (z.2.2 (nI (5 * k) + 2).toNatClampNeg), .int (z.2.2 (nI (5 * k) + 3).toNatClampNeg), .int (z.2.2 (nI (5 * k) + 4).toNatClampNeg), .ref 145] [] dL_law_198 rfl hL rfl sV_L_law_97 rfl (Nat.le_of_ble_eq_true rfl) (show cl + 4 ≤ 603072 by omega) (show sl + 24 ≤ 7194730 by omega) ?_
  refine gl_istore 203 [(6, .int k9), (5, .int (nI (5 * k))), (4, .ref 146), (3, .ref 145), (2, .ref 115), (1, .ref 0)] dL_law_201 rfl (Nat.le_of_ble_eq_true rfl) (by decide) rfl ?_
  refine gl_aload_n 204 dL_law_203 rfl rfl ?_
  refine gl_sk 210 (nI (5 * k)) 1 dL_law_204 dL_law_205 dL_law_207 dL_law_208 dL_law_209 rfl rfl (by decide) h1 ?_
  refine gl_sk 216 (nI (5 * k)) 2 dL_law_210 dL_law_211 dL_law_213 dL_law_214 dL_law_215 rfl rfl (by decide) h2 ?_
  refine gl_sk 222 (nI (5 * k)) 3 dL_law_216 dL_law_217 dL_law_219 dL_law_220 dL_law_221 rfl rfl (by decide) h3 ?_
  refine gl_sk 228 (nI (5 * k)) 4 dL_law_222 dL_law_223 dL_law_225 dL_law_226 dL_law_227 rfl rfl (by decide) h4 ?_
  refine gm_callV 231 [.int (z.2.2 (nI (5 * k) + 1).toNatClampNeg), .int (z.2.2 (nI (5 * k) + 2).toNatClampNeg), .int (z.2.2 (nI (5 * k) + 3).toNatClampNeg), .int (z.2.2 (nI (5 * k) + 4).toNatClampNeg)] [] dL_law_228 rfl hR rfl sV_L_law_102 rfl ly_115 rfl rfl (Nat.le_of_ble_eq_true rfl) (show cl + 4 + 0 ≤ 603072 by omega) (show sl + 24 + 0 ≤ 7194730 by omega) ?_
  refine gl_istore 233 [(7, .int b9), (6, .int k9), (5, .int (nI (5 * k))), (4, .ref 146), (3, .ref 145), (2, .ref 115), (1, .ref 0)] dL_law_231 rfl (Nat.le_of_ble_eq_true rfl) (by decide) rfl ?_
  refine gl_aload_n 234 dL_law_233 rfl rfl ?_
  refine gm_callV 237 [] [] dL_law_234 rfl (ct_X9_thrown _) rfl sV_L_law_103 rfl ly_115 rfl rfl (Nat.le_of_ble_eq_true rfl) (show cl + 4 + 0 + 0 ≤ 603072 by omega) (show sl + 24 + 0 + 0 ≤ 7194730 by omega) ?_
  refine gl_iload 239 dL_law_237 rfl rfl ?_
  refine gl_icmp_eq 242 244 dL_law_239 rfl (by decide) (fun _ => ?_) (fun q => absurd h0 q)
  refine gl_iload 246 dL_law_244 rfl rfl ?_
  refine gl_if_ne 249 261 dL_law_246 rfl (by decide) (fun _ => ?_) (fun hk0 => ?_)
  · refine gl_goto 1660 dL_law_261 (by decide) ?_
    refine gl_ls [(5, .int (nI (5 * k))), (4, .ref 146), (3, .ref 145), (2, .ref 115), (1, .ref 0)] (List.forall_mem_cons.mpr ⟨rfl, List.forall_mem_cons.mpr ⟨rfl, List.forall_mem_cons.mpr ⟨rfl, List.forall_mem_cons.mpr ⟨rfl, List.forall_mem_cons.mpr ⟨rfl, fun _ h => absurd h List.not_mem_nil⟩⟩⟩⟩⟩) ?_
    exact kn T2 hJ _ _ (show cl + 4 + 0 + 0 ≤ cl + 4 by omega) (show sl + 24 + 0 + 0 ≤ sl + 24 by omega)
  · refine gl_aload_n 250 dL_law_249 rfl rfl ?_
    refine gl_iconst 251 (0) dL_law_250 rfl (by decide) ?_
    refine gm_lald 252 dL_law_251 rfl ly_145 (by unfold vp_in; decide) ?_
    rw [show rL T2 145 (0 : Int32).toNatClampNeg = b9.toInt64 from hW hk0]
    refine gl_iload 254 dL_law_252 rfl rfl ?_
    refine gl_i2l 255 dL_law_254 rfl ?_
    refine gl_lcmp 256 dL_law_255 rfl ?_
    refine gl_if_eq 259 261 dL_law_256 rfl (by decide) (fun _ => ?_) (fun q => absurd (lg_self _) q)
    refine gl_goto 1660 dL_law_261 (by decide) ?_
    refine gl_ls [(5, .int (nI (5 * k))), (4, .ref 146), (3, .ref 145), (2, .ref 115), (1, .ref 0)] (List.forall_mem_cons.mpr ⟨rfl, List.forall_mem_cons.mpr ⟨rfl, List.forall_mem_cons.mpr ⟨rfl, List.forall_mem_cons.mpr ⟨rfl, List.forall_mem_cons.mpr ⟨rfl, fun _ h => absurd h List.not_mem_nil⟩⟩⟩⟩⟩) ?_
    exact kn T2 hJ _ _ (show cl + 4 + 0 + 0 ≤ cl + 4 by omega) (show sl + 24 + 0 + 0 ≤ sl + 24 by omega)

theorem lc_1 {z : Nat × Nat × (Nat → Int32)} {Q : go_Q} {cl sl k : Nat} {S : gS} (hI : Inv S) (h1 : vp_in (nI (5 * k) + 1) z.2.1) (h2 : vp_in (nI (5 * k) + 2) z.2.1) (h3 : vp_in (nI (5 * k) + 3) z.2.1) (h4 : vp_in (nI (5 * k) + 4) z.2.1) (hc : cl + 4 ≤ 603072) (hs : sl + 24 ≤ 7194730) (kn : ∀ T, Inv T → ∀ c2 s2, c2 ≤ cl + 4 → s2 ≤ sl + 24 → Gl z mL_law false Q c2 s2 1660 [(5, .int (nI (5 * k))), (4, .ref 146), (3, .ref 145), (2, .ref 115), (1, .ref 0)] [] (hp T)) : Gl z mL_law false Q cl sl 264 [(5, .int (nI (5 * k))), (4, .ref 146), (3, .ref 145), (2, .ref 115), (1, .ref 0)] [] (hp S) := by
  refine gl_aload_n 265 dL_law_264 rfl rfl ?_
  refine gl_aload_n 266 dL_law_265 rfl rfl ?_
  obtain ⟨k9, T1, b9, T2, hL, hR, h0, hW, hJ⟩ := q_removeLast hI 
  refine gm_callSH 269 [.ref 0, .ref 145] [] dL_law_266 rfl hL rfl sV_L_law_106 rfl (Nat.le_of_ble_eq_true rfl) (show cl + 1 ≤ 603072 by omega) (show sl + 6 ≤ 7194730 by omega) ?_
  refine gl_istore 271 [(6, .int k9), (5, .int (nI (5 * k))), (4, .ref 146), (3, .ref 145), (2, .ref 115), (1, .ref 0)] dL_law_269 rfl (Nat.le_of_ble_eq_true rfl) (by decide) rfl ?_
  refine gl_aload_n 272 dL_law_271 rfl rfl ?_
  refine gm_callV 275 [] [] dL_law_272 rfl hR rfl sV_L_law_109 rfl ly_115 rfl rfl (Nat.le_of_ble_eq_true rfl) (show cl + 1 + 0 ≤ 603072 by omega) (show sl + 6 + 0 ≤ 7194730 by omega) ?_
  refine gl_istore 277 [(7, .int b9), (6, .int k9), (5, .int (nI (5 * k))), (4, .ref 146), (3, .ref 145), (2, .ref 115), (1, .ref 0)] dL_law_275 rfl (Nat.le_of_ble_eq_true rfl) (by decide) rfl ?_
  refine gl_aload_n 278 dL_law_277 rfl rfl ?_
  refine gm_callV 281 [] [] dL_law_278 rfl (ct_X9_thrown _) rfl sV_L_law_103 rfl ly_115 rfl rfl (Nat.le_of_ble_eq_true rfl) (show cl + 1 + 0 + 0 ≤ 603072 by omega) (show sl + 6 + 0 + 0 ≤ 7194730 by omega) ?_
  refine gl_iload 283 dL_law_281 rfl rfl ?_
  refine gl_icmp_eq 286 288 dL_law_283 rfl (by decide) (fun _ => ?_) (fun q => absurd h0 q)
  refine gl_iload 290 dL_law_288 rfl rfl ?_
  refine gl_if_ne 293 305 dL_law_290 rfl (by decide) (fun _ => ?_) (fun hk0 => ?_)
  · refine gl_goto 1660 dL_law_305 (by decide) ?_
    refine gl_ls [(5, .int (nI (5 * k))), (4, .ref 146), (3, .ref 145), (2, .ref 115), (1, .ref 0)] (List.forall_mem_cons.mpr ⟨rfl, List.forall_mem_cons.mpr ⟨rfl, List.forall_mem_cons.mpr ⟨rfl, List.forall_mem_cons.mpr ⟨rfl, List.forall_mem_cons.mpr ⟨rfl, fun _ h => absurd h List.not_mem_nil⟩⟩⟩⟩⟩) ?_
    exact kn T2 hJ _ _ (show cl + 1 + 0 + 0 ≤ cl + 4 by omega) (show sl + 6 + 0 + 0 ≤ sl + 24 by omega)
  · refine gl_aload_n 294 dL_law_293 rfl rfl ?_
    refine gl_iconst 295 (0) dL_law_294 rfl (by decide) ?_
    refine gm_lald 296 dL_law_295 rfl ly_145 (by unfold vp_in; decide) ?_
    rw [show rL T2 145 (0 : Int32).toNatClampNeg = b9.toInt64 from hW hk0]
    refine gl_iload 298 dL_law_296 rfl rfl ?_
    refine gl_i2l 299 dL_law_298 rfl ?_
    refine gl_lcmp 300 dL_law_299 rfl ?_
    refine gl_if_eq 303 305 dL_law_300 rfl (by decide) (fun _ => ?_) (fun q => absurd (lg_self _) q)
    refine gl_goto 1660 dL_law_305 (by decide) ?_
    refine gl_ls [(5, .int (nI (5 * k))), (4, .ref 146), (3, .ref 145), (2, .ref 115), (1, .ref 0)] (List.forall_mem_cons.mpr ⟨rfl, List.forall_mem_cons.mpr ⟨rfl, List.forall_mem_cons.mpr ⟨rfl, List.forall_mem_cons.mpr ⟨rfl, List.forall_mem_cons.mpr ⟨rfl, fun _ h => absurd h List.not_mem_nil⟩⟩⟩⟩⟩) ?_
    exact kn T2 hJ _ _ (show cl + 1 + 0 + 0 ≤ cl + 4 by omega) (show sl + 6 + 0 + 0 ≤ sl + 24 by omega)

theorem lc_2 {z : Nat × Nat × (Nat → Int32)} {Q : go_Q} {cl sl k : Nat} {S : gS} (hI : Inv S) (h1 : vp_in (nI (5 * k) + 1) z.2.1) (h2 : vp_in (nI (5 * k) + 2) z.2.1) (h3 : vp_in (nI (5 * k) + 3) z.2.1) (h4 : vp_in (nI (5 * k) + 4) z.2.1) (hc : cl + 4 ≤ 603072) (hs : sl + 24 ≤ 7194730) (kn : ∀ T, Inv T → ∀ c2 s2, c2 ≤ cl + 4 → s2 ≤ sl + 24 → Gl z mL_law false Q c2 s2 1660 [(5, .int (nI (5 * k))), (4, .ref 146), (3, .ref 145), (2, .ref 115), (1, .ref 0)] [] (hp T)) : Gl z mL_law false Q cl sl 308 [(5, .int (nI (5 * k))), (4, .ref 146), (3, .ref 145), (2, .ref 115), (1, .ref 0)] [] (hp S) := by
  refine gl_aload_n 309 dL_law_308 rfl rfl ?_
  refine gl_sk 315 (nI (5 * k)) 1 dL_law_309 dL_law_310 dL_law_312 dL_law_313 dL_law_314 rfl rfl (by decide) h1 ?_
  refine gl_sk 321 (nI (5 * k)) 2 dL_law_315 dL_law_316 dL_law_318 dL_law_319 dL_law_320 rfl rfl (by decide) h2 ?_
  refine gl_aload_n 322 dL_law_321 rfl rfl ?_
  obtain ⟨k9, T1, b9, T2, hL, hR, h0, hW, hJ⟩ := q_setNext hI (z.2.2 (nI (5 * k) + 1).toNatClampNeg) (z.2.2 (nI (5 * k) + 2).toNatClampNeg)
  refine gm_callSH 325 [.ref 0, .int (z.2.2 (nI (5 * k) + 1).toNatClampNeg), .int (z.2.2 (nI (5 * k) + 2).toNatClampNeg), .ref 145] [] dL_law_322 rfl hL rfl sV_L_law_110 rfl (Nat.le_of_ble_eq_true rfl) (show cl + 3 ≤ 603072 by omega) (show sl + 18 ≤ 7194730 by omega) ?_
  refine gl_istore 327 [(6, .int k9), (5, .int (nI (5 * k))), (4, .ref 146), (3, .ref 145), (2, .ref 115), (1, .ref 0)] dL_law_325 rfl (Nat.le_of_ble_eq_true rfl) (by decide) rfl ?_
  refine gl_aload_n 328 dL_law_327 rfl rfl ?_
  refine gl_sk 334 (nI (5 * k)) 1 dL_law_328 dL_law_329 dL_law_331 dL_law_332 dL_law_333 rfl rfl (by decide) h1 ?_
  refine gl_sk 340 (nI (5 * k)) 2 dL_law_334 dL_law_335 dL_law_337 dL_law_338 dL_law_339 rfl rfl (by decide) h2 ?_
  refine gm_callV 343 [.int (z.2.2 (nI (5 * k) + 1).toNatClampNeg), .int (z.2.2 (nI (5 * k) + 2).toNatClampNeg)] [] dL_law_340 rfl hR rfl sV_L_law_113 rfl ly_115 rfl rfl (Nat.le_of_ble_eq_true rfl) (show cl + 3 + 0 ≤ 603072 by omega) (show sl + 18 + 0 ≤ 7194730 by omega) ?_
  refine gl_istore 345 [(7, .int b9), (6, .int k9), (5, .int (nI (5 * k))), (4, .ref 146), (3, .ref 145), (2, .ref 115), (1, .ref 0)] dL_law_343 rfl (Nat.le_of_ble_eq_true rfl) (by decide) rfl ?_
  refine gl_aload_n 346 dL_law_345 rfl rfl ?_
  refine gm_callV 349 [] [] dL_law_346 rfl (ct_X9_thrown _) rfl sV_L_law_103 rfl ly_115 rfl rfl (Nat.le_of_ble_eq_true rfl) (show cl + 3 + 0 + 0 ≤ 603072 by omega) (show sl + 18 + 0 + 0 ≤ 7194730 by omega) ?_
  refine gl_iload 351 dL_law_349 rfl rfl ?_
  refine gl_icmp_eq 354 356 dL_law_351 rfl (by decide) (fun _ => ?_) (fun q => absurd h0 q)
  refine gl_iload 358 dL_law_356 rfl rfl ?_
  refine gl_if_ne 361 373 dL_law_358 rfl (by decide) (fun _ => ?_) (fun hk0 => ?_)
  · refine gl_goto 1660 dL_law_373 (by decide) ?_
    refine gl_ls [(5, .int (nI (5 * k))), (4, .ref 146), (3, .ref 145), (2, .ref 115), (1, .ref 0)] (List.forall_mem_cons.mpr ⟨rfl, List.forall_mem_cons.mpr ⟨rfl, List.forall_mem_cons.mpr ⟨rfl, List.forall_mem_cons.mpr ⟨rfl, List.forall_mem_cons.mpr ⟨rfl, fun _ h => absurd h List.not_mem_nil⟩⟩⟩⟩⟩) ?_
    exact kn T2 hJ _ _ (show cl + 3 + 0 + 0 ≤ cl + 4 by omega) (show sl + 18 + 0 + 0 ≤ sl + 24 by omega)
  · refine gl_aload_n 362 dL_law_361 rfl rfl ?_
    refine gl_iconst 363 (0) dL_law_362 rfl (by decide) ?_
    refine gm_lald 364 dL_law_363 rfl ly_145 (by unfold vp_in; decide) ?_
    rw [show rL T2 145 (0 : Int32).toNatClampNeg = b9.toInt64 from hW hk0]
    refine gl_iload 366 dL_law_364 rfl rfl ?_
    refine gl_i2l 367 dL_law_366 rfl ?_
    refine gl_lcmp 368 dL_law_367 rfl ?_
    refine gl_if_eq 371 373 dL_law_368 rfl (by decide) (fun _ => ?_) (fun q => absurd (lg_self _) q)
    refine gl_goto 1660 dL_law_373 (by decide) ?_
    refine gl_ls [(5, .int (nI (5 * k))), (4, .ref 146), (3, .ref 145), (2, .ref 115), (1, .ref 0)] (List.forall_mem_cons.mpr ⟨rfl, List.forall_mem_cons.mpr ⟨rfl, List.forall_mem_cons.mpr ⟨rfl, List.forall_mem_cons.mpr ⟨rfl, List.forall_mem_cons.mpr ⟨rfl, fun _ h => absurd h List.not_mem_nil⟩⟩⟩⟩⟩) ?_
    exact kn T2 hJ _ _ (show cl + 3 + 0 + 0 ≤ cl + 4 by omega) (show sl + 18 + 0 + 0 ≤ sl + 24 by omega)

theorem lc_3 {z : Nat × Nat × (Nat → Int32)} {Q : go_Q} {cl sl k : Nat} {S : gS} (hI : Inv S) (h1 : vp_in (nI (5 * k) + 1) z.2.1) (h2 : vp_in (nI (5 * k) + 2) z.2.1) (h3 : vp_in (nI (5 * k) + 3) z.2.1) (h4 : vp_in (nI (5 * k) + 4) z.2.1) (hc : cl + 4 ≤ 603072) (hs : sl + 24 ≤ 7194730) (kn : ∀ T, Inv T → ∀ c2 s2, c2 ≤ cl + 4 → s2 ≤ sl + 24 → Gl z mL_law false Q c2 s2 1660 [(5, .int (nI (5 * k))), (4, .ref 146), (3, .ref 145), (2, .ref 115), (1, .ref 0)] [] (hp T)) : Gl z mL_law false Q cl sl 376 [(5, .int (nI (5 * k))), (4, .ref 146), (3, .ref 145), (2, .ref 115), (1, .ref 0)] [] (hp S) := by
  refine gl_aload_n 377 dL_law_376 rfl rfl ?_
  refine gl_sk 383 (nI (5 * k)) 1 dL_law_377 dL_law_378 dL_law_380 dL_law_381 dL_law_382 rfl rfl (by decide) h1 ?_
  refine gl_sk 389 (nI (5 * k)) 2 dL_law_383 dL_law_384 dL_law_386 dL_law_387 dL_law_388 rfl rfl (by decide) h2 ?_
  refine gl_if_eq 392 396 dL_law_389 rfl (by decide) (fun q389 => ?_) (fun q389 => ?_)
  · refine gl_iconst 397 (0) dL_law_396 rfl (by decide) ?_
    refine gl_aload_n 398 dL_law_397 rfl rfl ?_
    obtain ⟨k9, T1, b9, T2, hL, hR, h0, hW, hJ⟩ := q_setOutput hI (z.2.2 (nI (5 * k) + 1).toNatClampNeg) 0 (by decide)
    refine gm_callSH 401 [.ref 0, .int (z.2.2 (nI (5 * k) + 1).toNatClampNeg), .int 0, .ref 145] [] dL_law_398 rfl hL rfl sV_L_law_114 rfl (Nat.le_of_ble_eq_true rfl) (show cl + 1 ≤ 603072 by omega) (show sl + 6 ≤ 7194730 by omega) ?_
    refine gl_istore 403 [(6, .int k9), (5, .int (nI (5 * k))), (4, .ref 146), (3, .ref 145), (2, .ref 115), (1, .ref 0)] dL_law_401 rfl (Nat.le_of_ble_eq_true rfl) (by decide) rfl ?_
    refine gl_aload_n 404 dL_law_403 rfl rfl ?_
    refine gl_sk 410 (nI (5 * k)) 1 dL_law_404 dL_law_405 dL_law_407 dL_law_408 dL_law_409 rfl rfl (by decide) h1 ?_
    refine gl_sk 416 (nI (5 * k)) 2 dL_law_410 dL_law_411 dL_law_413 dL_law_414 dL_law_415 rfl rfl (by decide) h2 ?_
    refine gl_if_eq 419 423 dL_law_416 rfl (by decide) (fun _ => ?_) (fun q => absurd q389 q)
    refine gl_iconst 424 (0) dL_law_423 rfl (by decide) ?_
    refine gm_callV 427 [.int (z.2.2 (nI (5 * k) + 1).toNatClampNeg), .int 0] [] dL_law_424 rfl hR rfl sV_L_law_117 rfl ly_115 rfl rfl (Nat.le_of_ble_eq_true rfl) (show cl + 1 + 0 ≤ 603072 by omega) (show sl + 6 + 0 ≤ 7194730 by omega) ?_
    refine gl_istore 429 [(7, .int b9), (6, .int k9), (5, .int (nI (5 * k))), (4, .ref 146), (3, .ref 145), (2, .ref 115), (1, .ref 0)] dL_law_427 rfl (Nat.le_of_ble_eq_true rfl) (by decide) rfl ?_
    refine gl_aload_n 430 dL_law_429 rfl rfl ?_
    refine gm_callV 433 [] [] dL_law_430 rfl (ct_X9_thrown _) rfl sV_L_law_103 rfl ly_115 rfl rfl (Nat.le_of_ble_eq_true rfl) (show cl + 1 + 0 + 0 ≤ 603072 by omega) (show sl + 6 + 0 + 0 ≤ 7194730 by omega) ?_
    refine gl_iload 435 dL_law_433 rfl rfl ?_
    refine gl_icmp_eq 438 440 dL_law_435 rfl (by decide) (fun _ => ?_) (fun q => absurd h0 q)
    refine gl_iload 442 dL_law_440 rfl rfl ?_
    refine gl_if_ne 445 464 dL_law_442 rfl (by decide) (fun _ => ?_) (fun hk0 => ?_)
    · refine gl_goto 1660 dL_law_464 (by decide) ?_
      refine gl_ls [(5, .int (nI (5 * k))), (4, .ref 146), (3, .ref 145), (2, .ref 115), (1, .ref 0)] (List.forall_mem_cons.mpr ⟨rfl, List.forall_mem_cons.mpr ⟨rfl, List.forall_mem_cons.mpr ⟨rfl, List.forall_mem_cons.mpr ⟨rfl, List.forall_mem_cons.mpr ⟨rfl, fun _ h => absurd h List.not_mem_nil⟩⟩⟩⟩⟩) ?_
      exact kn T2 hJ _ _ (show cl + 1 + 0 + 0 ≤ cl + 4 by omega) (show sl + 6 + 0 + 0 ≤ sl + 24 by omega)
    · refine gl_aload_n 446 dL_law_445 rfl rfl ?_
      refine gl_iconst 447 (0) dL_law_446 rfl (by decide) ?_
      refine gm_lald 448 dL_law_447 rfl ly_145 (by unfold vp_in; decide) ?_
      rw [show rL T2 145 (0 : Int32).toNatClampNeg = (if b9 = 0 then 0 else 1) from hW hk0]
      refine gl_iload 450 dL_law_448 rfl rfl ?_
      refine gl_if_eq 453 457 dL_law_450 rfl (by decide) (fun q450 => ?_) (fun q450 => ?_)
      · rw [if_pos q450]
        refine gl_lconst 458 (0) dL_law_457 rfl (by decide) ?_
        refine gl_lcmp 459 dL_law_458 rfl ?_
        refine gl_if_eq 462 464 dL_law_459 rfl (by decide) (fun _ => ?_) (fun q => absurd (lg_self _) q)
        refine gl_goto 1660 dL_law_464 (by decide) ?_
        refine gl_ls [(5, .int (nI (5 * k))), (4, .ref 146), (3, .ref 145), (2, .ref 115), (1, .ref 0)] (List.forall_mem_cons.mpr ⟨rfl, List.forall_mem_cons.mpr ⟨rfl, List.forall_mem_cons.mpr ⟨rfl, List.forall_mem_cons.mpr ⟨rfl, List.forall_mem_cons.mpr ⟨rfl, fun _ h => absurd h List.not_mem_nil⟩⟩⟩⟩⟩) ?_
        exact kn T2 hJ _ _ (show cl + 1 + 0 + 0 ≤ cl + 4 by omega) (show sl + 6 + 0 + 0 ≤ sl + 24 by omega)
      · rw [if_neg q450]
        refine gl_lconst 454 (1) dL_law_453 rfl (by decide) ?_
        refine gl_goto 458 dL_law_454 (by decide) ?_
        refine gl_lcmp 459 dL_law_458 rfl ?_
        refine gl_if_eq 462 464 dL_law_459 rfl (by decide) (fun _ => ?_) (fun q => absurd (lg_self _) q)
        refine gl_goto 1660 dL_law_464 (by decide) ?_
        refine gl_ls [(5, .int (nI (5 * k))), (4, .ref 146), (3, .ref 145), (2, .ref 115), (1, .ref 0)] (List.forall_mem_cons.mpr ⟨rfl, List.forall_mem_cons.mpr ⟨rfl, List.forall_mem_cons.mpr ⟨rfl, List.forall_mem_cons.mpr ⟨rfl, List.forall_mem_cons.mpr ⟨rfl, fun _ h => absurd h List.not_mem_nil⟩⟩⟩⟩⟩) ?_
        exact kn T2 hJ _ _ (show cl + 1 + 0 + 0 ≤ cl + 4 by omega) (show sl + 6 + 0 + 0 ≤ sl + 24 by omega)
  · refine gl_iconst 393 (1) dL_law_392 rfl (by decide) ?_
    refine gl_goto 397 dL_law_393 (by decide) ?_
    refine gl_aload_n 398 dL_law_397 rfl rfl ?_
    obtain ⟨k9, T1, b9, T2, hL, hR, h0, hW, hJ⟩ := q_setOutput hI (z.2.2 (nI (5 * k) + 1).toNatClampNeg) 1 (by decide)
    refine gm_callSH 401 [.ref 0, .int (z.2.2 (nI (5 * k) + 1).toNatClampNeg), .int 1, .ref 145] [] dL_law_398 rfl hL rfl sV_L_law_114 rfl (Nat.le_of_ble_eq_true rfl) (show cl + 1 ≤ 603072 by omega) (show sl + 6 ≤ 7194730 by omega) ?_
    refine gl_istore 403 [(6, .int k9), (5, .int (nI (5 * k))), (4, .ref 146), (3, .ref 145), (2, .ref 115), (1, .ref 0)] dL_law_401 rfl (Nat.le_of_ble_eq_true rfl) (by decide) rfl ?_
    refine gl_aload_n 404 dL_law_403 rfl rfl ?_
    refine gl_sk 410 (nI (5 * k)) 1 dL_law_404 dL_law_405 dL_law_407 dL_law_408 dL_law_409 rfl rfl (by decide) h1 ?_
    refine gl_sk 416 (nI (5 * k)) 2 dL_law_410 dL_law_411 dL_law_413 dL_law_414 dL_law_415 rfl rfl (by decide) h2 ?_
    refine gl_if_eq 419 423 dL_law_416 rfl (by decide) (fun q => absurd q q389) (fun _ => ?_)
    refine gl_iconst 420 (1) dL_law_419 rfl (by decide) ?_
    refine gl_goto 424 dL_law_420 (by decide) ?_
    refine gm_callV 427 [.int (z.2.2 (nI (5 * k) + 1).toNatClampNeg), .int 1] [] dL_law_424 rfl hR rfl sV_L_law_117 rfl ly_115 rfl rfl (Nat.le_of_ble_eq_true rfl) (show cl + 1 + 0 ≤ 603072 by omega) (show sl + 6 + 0 ≤ 7194730 by omega) ?_
    refine gl_istore 429 [(7, .int b9), (6, .int k9), (5, .int (nI (5 * k))), (4, .ref 146), (3, .ref 145), (2, .ref 115), (1, .ref 0)] dL_law_427 rfl (Nat.le_of_ble_eq_true rfl) (by decide) rfl ?_
    refine gl_aload_n 430 dL_law_429 rfl rfl ?_
    refine gm_callV 433 [] [] dL_law_430 rfl (ct_X9_thrown _) rfl sV_L_law_103 rfl ly_115 rfl rfl (Nat.le_of_ble_eq_true rfl) (show cl + 1 + 0 + 0 ≤ 603072 by omega) (show sl + 6 + 0 + 0 ≤ 7194730 by omega) ?_
    refine gl_iload 435 dL_law_433 rfl rfl ?_
    refine gl_icmp_eq 438 440 dL_law_435 rfl (by decide) (fun _ => ?_) (fun q => absurd h0 q)
    refine gl_iload 442 dL_law_440 rfl rfl ?_
    refine gl_if_ne 445 464 dL_law_442 rfl (by decide) (fun _ => ?_) (fun hk0 => ?_)
    · refine gl_goto 1660 dL_law_464 (by decide) ?_
      refine gl_ls [(5, .int (nI (5 * k))), (4, .ref 146), (3, .ref 145), (2, .ref 115), (1, .ref 0)] (List.forall_mem_cons.mpr ⟨rfl, List.forall_mem_cons.mpr ⟨rfl, List.forall_mem_cons.mpr ⟨rfl, List.forall_mem_cons.mpr ⟨rfl, List.forall_mem_cons.mpr ⟨rfl, fun _ h => absurd h List.not_mem_nil⟩⟩⟩⟩⟩) ?_
      exact kn T2 hJ _ _ (show cl + 1 + 0 + 0 ≤ cl + 4 by omega) (show sl + 6 + 0 + 0 ≤ sl + 24 by omega)
    · refine gl_aload_n 446 dL_law_445 rfl rfl ?_
      refine gl_iconst 447 (0) dL_law_446 rfl (by decide) ?_
      refine gm_lald 448 dL_law_447 rfl ly_145 (by unfold vp_in; decide) ?_
      rw [show rL T2 145 (0 : Int32).toNatClampNeg = (if b9 = 0 then 0 else 1) from hW hk0]
      refine gl_iload 450 dL_law_448 rfl rfl ?_
      refine gl_if_eq 453 457 dL_law_450 rfl (by decide) (fun q450 => ?_) (fun q450 => ?_)
      · rw [if_pos q450]
        refine gl_lconst 458 (0) dL_law_457 rfl (by decide) ?_
        refine gl_lcmp 459 dL_law_458 rfl ?_
        refine gl_if_eq 462 464 dL_law_459 rfl (by decide) (fun _ => ?_) (fun q => absurd (lg_self _) q)
        refine gl_goto 1660 dL_law_464 (by decide) ?_
        refine gl_ls [(5, .int (nI (5 * k))), (4, .ref 146), (3, .ref 145), (2, .ref 115), (1, .ref 0)] (List.forall_mem_cons.mpr ⟨rfl, List.forall_mem_cons.mpr ⟨rfl, List.forall_mem_cons.mpr ⟨rfl, List.forall_mem_cons.mpr ⟨rfl, List.forall_mem_cons.mpr ⟨rfl, fun _ h => absurd h List.not_mem_nil⟩⟩⟩⟩⟩) ?_
        exact kn T2 hJ _ _ (show cl + 1 + 0 + 0 ≤ cl + 4 by omega) (show sl + 6 + 0 + 0 ≤ sl + 24 by omega)
      · rw [if_neg q450]
        refine gl_lconst 454 (1) dL_law_453 rfl (by decide) ?_
        refine gl_goto 458 dL_law_454 (by decide) ?_
        refine gl_lcmp 459 dL_law_458 rfl ?_
        refine gl_if_eq 462 464 dL_law_459 rfl (by decide) (fun _ => ?_) (fun q => absurd (lg_self _) q)
        refine gl_goto 1660 dL_law_464 (by decide) ?_
        refine gl_ls [(5, .int (nI (5 * k))), (4, .ref 146), (3, .ref 145), (2, .ref 115), (1, .ref 0)] (List.forall_mem_cons.mpr ⟨rfl, List.forall_mem_cons.mpr ⟨rfl, List.forall_mem_cons.mpr ⟨rfl, List.forall_mem_cons.mpr ⟨rfl, List.forall_mem_cons.mpr ⟨rfl, fun _ h => absurd h List.not_mem_nil⟩⟩⟩⟩⟩) ?_
        exact kn T2 hJ _ _ (show cl + 1 + 0 + 0 ≤ cl + 4 by omega) (show sl + 6 + 0 + 0 ≤ sl + 24 by omega)

theorem lc_4 {z : Nat × Nat × (Nat → Int32)} {Q : go_Q} {cl sl k : Nat} {S : gS} (hI : Inv S) (h1 : vp_in (nI (5 * k) + 1) z.2.1) (h2 : vp_in (nI (5 * k) + 2) z.2.1) (h3 : vp_in (nI (5 * k) + 3) z.2.1) (h4 : vp_in (nI (5 * k) + 4) z.2.1) (hc : cl + 4 ≤ 603072) (hs : sl + 24 ≤ 7194730) (kn : ∀ T, Inv T → ∀ c2 s2, c2 ≤ cl + 4 → s2 ≤ sl + 24 → Gl z mL_law false Q c2 s2 1660 [(5, .int (nI (5 * k))), (4, .ref 146), (3, .ref 145), (2, .ref 115), (1, .ref 0)] [] (hp T)) : Gl z mL_law false Q cl sl 467 [(5, .int (nI (5 * k))), (4, .ref 146), (3, .ref 145), (2, .ref 115), (1, .ref 0)] [] (hp S) := by
  refine gl_aload_n 468 dL_law_467 rfl rfl ?_
  refine gl_sk 474 (nI (5 * k)) 1 dL_law_468 dL_law_469 dL_law_471 dL_law_472 dL_law_473 rfl rfl (by decide) h1 ?_
  refine gl_sk 480 (nI (5 * k)) 2 dL_law_474 dL_law_475 dL_law_477 dL_law_478 dL_law_479 rfl rfl (by decide) h2 ?_
  refine gl_aload_n 481 dL_law_480 rfl rfl ?_
  obtain ⟨k9, T1, b9, T2, hL, hR, h0, hW, hJ⟩ := q_setPhase hI (z.2.2 (nI (5 * k) + 1).toNatClampNeg) (z.2.2 (nI (5 * k) + 2).toNatClampNeg)
  refine gm_callSH 484 [.ref 0, .int (z.2.2 (nI (5 * k) + 1).toNatClampNeg), .int (z.2.2 (nI (5 * k) + 2).toNatClampNeg), .ref 145] [] dL_law_481 rfl hL rfl sV_L_law_118 rfl (Nat.le_of_ble_eq_true rfl) (show cl + 2 ≤ 603072 by omega) (show sl + 12 ≤ 7194730 by omega) ?_
  refine gl_istore 486 [(6, .int k9), (5, .int (nI (5 * k))), (4, .ref 146), (3, .ref 145), (2, .ref 115), (1, .ref 0)] dL_law_484 rfl (Nat.le_of_ble_eq_true rfl) (by decide) rfl ?_
  refine gl_aload_n 487 dL_law_486 rfl rfl ?_
  refine gl_sk 493 (nI (5 * k)) 1 dL_law_487 dL_law_488 dL_law_490 dL_law_491 dL_law_492 rfl rfl (by decide) h1 ?_
  refine gl_sk 499 (nI (5 * k)) 2 dL_law_493 dL_law_494 dL_law_496 dL_law_497 dL_law_498 rfl rfl (by decide) h2 ?_
  refine gm_callV 502 [.int (z.2.2 (nI (5 * k) + 1).toNatClampNeg), .int (z.2.2 (nI (5 * k) + 2).toNatClampNeg)] [] dL_law_499 rfl hR rfl sV_L_law_120 rfl ly_115 rfl rfl (Nat.le_of_ble_eq_true rfl) (show cl + 2 + 0 ≤ 603072 by omega) (show sl + 12 + 0 ≤ 7194730 by omega) ?_
  refine gl_istore 504 [(7, .int b9), (6, .int k9), (5, .int (nI (5 * k))), (4, .ref 146), (3, .ref 145), (2, .ref 115), (1, .ref 0)] dL_law_502 rfl (Nat.le_of_ble_eq_true rfl) (by decide) rfl ?_
  refine gl_aload_n 505 dL_law_504 rfl rfl ?_
  refine gm_callV 508 [] [] dL_law_505 rfl (ct_X9_thrown _) rfl sV_L_law_103 rfl ly_115 rfl rfl (Nat.le_of_ble_eq_true rfl) (show cl + 2 + 0 + 0 ≤ 603072 by omega) (show sl + 12 + 0 + 0 ≤ 7194730 by omega) ?_
  refine gl_iload 510 dL_law_508 rfl rfl ?_
  refine gl_icmp_eq 513 515 dL_law_510 rfl (by decide) (fun _ => ?_) (fun q => absurd h0 q)
  refine gl_iload 517 dL_law_515 rfl rfl ?_
  refine gl_if_ne 520 532 dL_law_517 rfl (by decide) (fun _ => ?_) (fun hk0 => ?_)
  · refine gl_goto 1660 dL_law_532 (by decide) ?_
    refine gl_ls [(5, .int (nI (5 * k))), (4, .ref 146), (3, .ref 145), (2, .ref 115), (1, .ref 0)] (List.forall_mem_cons.mpr ⟨rfl, List.forall_mem_cons.mpr ⟨rfl, List.forall_mem_cons.mpr ⟨rfl, List.forall_mem_cons.mpr ⟨rfl, List.forall_mem_cons.mpr ⟨rfl, fun _ h => absurd h List.not_mem_nil⟩⟩⟩⟩⟩) ?_
    exact kn T2 hJ _ _ (show cl + 2 + 0 + 0 ≤ cl + 4 by omega) (show sl + 12 + 0 + 0 ≤ sl + 24 by omega)
  · refine gl_aload_n 521 dL_law_520 rfl rfl ?_
    refine gl_iconst 522 (0) dL_law_521 rfl (by decide) ?_
    refine gm_lald 523 dL_law_522 rfl ly_145 (by unfold vp_in; decide) ?_
    rw [show rL T2 145 (0 : Int32).toNatClampNeg = b9.toInt64 from hW hk0]
    refine gl_iload 525 dL_law_523 rfl rfl ?_
    refine gl_i2l 526 dL_law_525 rfl ?_
    refine gl_lcmp 527 dL_law_526 rfl ?_
    refine gl_if_eq 530 532 dL_law_527 rfl (by decide) (fun _ => ?_) (fun q => absurd (lg_self _) q)
    refine gl_goto 1660 dL_law_532 (by decide) ?_
    refine gl_ls [(5, .int (nI (5 * k))), (4, .ref 146), (3, .ref 145), (2, .ref 115), (1, .ref 0)] (List.forall_mem_cons.mpr ⟨rfl, List.forall_mem_cons.mpr ⟨rfl, List.forall_mem_cons.mpr ⟨rfl, List.forall_mem_cons.mpr ⟨rfl, List.forall_mem_cons.mpr ⟨rfl, fun _ h => absurd h List.not_mem_nil⟩⟩⟩⟩⟩) ?_
    exact kn T2 hJ _ _ (show cl + 2 + 0 + 0 ≤ cl + 4 by omega) (show sl + 12 + 0 + 0 ≤ sl + 24 by omega)

theorem lc_5 {z : Nat × Nat × (Nat → Int32)} {Q : go_Q} {cl sl k : Nat} {S : gS} (hI : Inv S) (h1 : vp_in (nI (5 * k) + 1) z.2.1) (h2 : vp_in (nI (5 * k) + 2) z.2.1) (h3 : vp_in (nI (5 * k) + 3) z.2.1) (h4 : vp_in (nI (5 * k) + 4) z.2.1) (hc : cl + 4 ≤ 603072) (hs : sl + 24 ≤ 7194730) (kn : ∀ T, Inv T → ∀ c2 s2, c2 ≤ cl + 4 → s2 ≤ sl + 24 → Gl z mL_law false Q c2 s2 1660 [(5, .int (nI (5 * k))), (4, .ref 146), (3, .ref 145), (2, .ref 115), (1, .ref 0)] [] (hp T)) : Gl z mL_law false Q cl sl 535 [(5, .int (nI (5 * k))), (4, .ref 146), (3, .ref 145), (2, .ref 115), (1, .ref 0)] [] (hp S) := by
  refine gl_aload_n 536 dL_law_535 rfl rfl ?_
  refine gl_sk 542 (nI (5 * k)) 1 dL_law_536 dL_law_537 dL_law_539 dL_law_540 dL_law_541 rfl rfl (by decide) h1 ?_
  refine gl_sk 548 (nI (5 * k)) 2 dL_law_542 dL_law_543 dL_law_545 dL_law_546 dL_law_547 rfl rfl (by decide) h2 ?_
  refine gl_aload_n 549 dL_law_548 rfl rfl ?_
  obtain ⟨k9, T1, b9, T2, hL, hR, h0, hW, hJ⟩ := q_signal hI (z.2.2 (nI (5 * k) + 1).toNatClampNeg) (z.2.2 (nI (5 * k) + 2).toNatClampNeg)
  refine gm_callSH 552 [.ref 0, .int (z.2.2 (nI (5 * k) + 1).toNatClampNeg), .int (z.2.2 (nI (5 * k) + 2).toNatClampNeg), .ref 145] [] dL_law_549 rfl hL rfl sV_L_law_121 rfl (Nat.le_of_ble_eq_true rfl) (show cl + 2 ≤ 603072 by omega) (show sl + 12 ≤ 7194730 by omega) ?_
  refine gl_istore 554 [(6, .int k9), (5, .int (nI (5 * k))), (4, .ref 146), (3, .ref 145), (2, .ref 115), (1, .ref 0)] dL_law_552 rfl (Nat.le_of_ble_eq_true rfl) (by decide) rfl ?_
  refine gl_aload_n 555 dL_law_554 rfl rfl ?_
  refine gl_sk 561 (nI (5 * k)) 1 dL_law_555 dL_law_556 dL_law_558 dL_law_559 dL_law_560 rfl rfl (by decide) h1 ?_
  refine gl_sk 567 (nI (5 * k)) 2 dL_law_561 dL_law_562 dL_law_564 dL_law_565 dL_law_566 rfl rfl (by decide) h2 ?_
  refine gm_callV 570 [.int (z.2.2 (nI (5 * k) + 1).toNatClampNeg), .int (z.2.2 (nI (5 * k) + 2).toNatClampNeg)] [] dL_law_567 rfl hR rfl sV_L_law_123 rfl ly_115 rfl rfl (Nat.le_of_ble_eq_true rfl) (show cl + 2 + 0 ≤ 603072 by omega) (show sl + 12 + 0 ≤ 7194730 by omega) ?_
  refine gl_istore 572 [(7, .int b9), (6, .int k9), (5, .int (nI (5 * k))), (4, .ref 146), (3, .ref 145), (2, .ref 115), (1, .ref 0)] dL_law_570 rfl (Nat.le_of_ble_eq_true rfl) (by decide) rfl ?_
  refine gl_aload_n 573 dL_law_572 rfl rfl ?_
  refine gm_callV 576 [] [] dL_law_573 rfl (ct_X9_thrown _) rfl sV_L_law_103 rfl ly_115 rfl rfl (Nat.le_of_ble_eq_true rfl) (show cl + 2 + 0 + 0 ≤ 603072 by omega) (show sl + 12 + 0 + 0 ≤ 7194730 by omega) ?_
  refine gl_iload 578 dL_law_576 rfl rfl ?_
  refine gl_icmp_eq 581 583 dL_law_578 rfl (by decide) (fun _ => ?_) (fun q => absurd h0 q)
  refine gl_iload 585 dL_law_583 rfl rfl ?_
  refine gl_if_ne 588 600 dL_law_585 rfl (by decide) (fun _ => ?_) (fun hk0 => ?_)
  · refine gl_goto 1660 dL_law_600 (by decide) ?_
    refine gl_ls [(5, .int (nI (5 * k))), (4, .ref 146), (3, .ref 145), (2, .ref 115), (1, .ref 0)] (List.forall_mem_cons.mpr ⟨rfl, List.forall_mem_cons.mpr ⟨rfl, List.forall_mem_cons.mpr ⟨rfl, List.forall_mem_cons.mpr ⟨rfl, List.forall_mem_cons.mpr ⟨rfl, fun _ h => absurd h List.not_mem_nil⟩⟩⟩⟩⟩) ?_
    exact kn T2 hJ _ _ (show cl + 2 + 0 + 0 ≤ cl + 4 by omega) (show sl + 12 + 0 + 0 ≤ sl + 24 by omega)
  · refine gl_aload_n 589 dL_law_588 rfl rfl ?_
    refine gl_iconst 590 (0) dL_law_589 rfl (by decide) ?_
    refine gm_lald 591 dL_law_590 rfl ly_145 (by unfold vp_in; decide) ?_
    rw [show rL T2 145 (0 : Int32).toNatClampNeg = b9.toInt64 from hW hk0]
    refine gl_iload 593 dL_law_591 rfl rfl ?_
    refine gl_i2l 594 dL_law_593 rfl ?_
    refine gl_lcmp 595 dL_law_594 rfl ?_
    refine gl_if_eq 598 600 dL_law_595 rfl (by decide) (fun _ => ?_) (fun q => absurd (lg_self _) q)
    refine gl_goto 1660 dL_law_600 (by decide) ?_
    refine gl_ls [(5, .int (nI (5 * k))), (4, .ref 146), (3, .ref 145), (2, .ref 115), (1, .ref 0)] (List.forall_mem_cons.mpr ⟨rfl, List.forall_mem_cons.mpr ⟨rfl, List.forall_mem_cons.mpr ⟨rfl, List.forall_mem_cons.mpr ⟨rfl, List.forall_mem_cons.mpr ⟨rfl, fun _ h => absurd h List.not_mem_nil⟩⟩⟩⟩⟩) ?_
    exact kn T2 hJ _ _ (show cl + 2 + 0 + 0 ≤ cl + 4 by omega) (show sl + 12 + 0 + 0 ≤ sl + 24 by omega)

theorem lc_6 {z : Nat × Nat × (Nat → Int32)} {Q : go_Q} {cl sl k : Nat} {S : gS} (hI : Inv S) (h1 : vp_in (nI (5 * k) + 1) z.2.1) (h2 : vp_in (nI (5 * k) + 2) z.2.1) (h3 : vp_in (nI (5 * k) + 3) z.2.1) (h4 : vp_in (nI (5 * k) + 4) z.2.1) (hc : cl + 4 ≤ 603072) (hs : sl + 24 ≤ 7194730) (kn : ∀ T, Inv T → ∀ c2 s2, c2 ≤ cl + 4 → s2 ≤ sl + 24 → Gl z mL_law false Q c2 s2 1660 [(5, .int (nI (5 * k))), (4, .ref 146), (3, .ref 145), (2, .ref 115), (1, .ref 0)] [] (hp T)) : Gl z mL_law false Q cl sl 603 [(5, .int (nI (5 * k))), (4, .ref 146), (3, .ref 145), (2, .ref 115), (1, .ref 0)] [] (hp S) := by
  refine gl_aload_n 604 dL_law_603 rfl rfl ?_
  obtain ⟨b9, T1, T2, hL, hR, hJ⟩ := q_count hI
  refine gm_callV 607 [] [] dL_law_604 rfl hL rfl sV_L_law_124 rfl ly_0 rfl rfl (Nat.le_of_ble_eq_true rfl) (show cl + 0 ≤ 603072 by omega) (show sl + 0 ≤ 7194730 by omega) ?_
  refine gl_aload_n 608 dL_law_607 rfl rfl ?_
  refine gm_callV 611 [] [.int b9] dL_law_608 rfl hR rfl sV_L_law_127 rfl ly_115 rfl rfl (Nat.le_of_ble_eq_true rfl) (show cl + 0 + 0 ≤ 603072 by omega) (show sl + 0 + 0 ≤ 7194730 by omega) ?_
  refine gl_icmp_eq 614 1660 dL_law_611 rfl (by decide) (fun _ => ?_) (fun q => absurd rfl q)
  refine gl_ls [(5, .int (nI (5 * k))), (4, .ref 146), (3, .ref 145), (2, .ref 115), (1, .ref 0)] (List.forall_mem_cons.mpr ⟨rfl, List.forall_mem_cons.mpr ⟨rfl, List.forall_mem_cons.mpr ⟨rfl, List.forall_mem_cons.mpr ⟨rfl, List.forall_mem_cons.mpr ⟨rfl, fun _ h => absurd h List.not_mem_nil⟩⟩⟩⟩⟩) ?_
  exact kn T2 hJ _ _ (show cl + 0 + 0 ≤ cl + 4 by omega) (show sl + 0 + 0 ≤ sl + 24 by omega)

theorem lc_7 {z : Nat × Nat × (Nat → Int32)} {Q : go_Q} {cl sl k : Nat} {S : gS} (hI : Inv S) (h1 : vp_in (nI (5 * k) + 1) z.2.1) (h2 : vp_in (nI (5 * k) + 2) z.2.1) (h3 : vp_in (nI (5 * k) + 3) z.2.1) (h4 : vp_in (nI (5 * k) + 4) z.2.1) (hc : cl + 4 ≤ 603072) (hs : sl + 24 ≤ 7194730) (kn : ∀ T, Inv T → ∀ c2 s2, c2 ≤ cl + 4 → s2 ≤ sl + 24 → Gl z mL_law false Q c2 s2 1660 [(5, .int (nI (5 * k))), (4, .ref 146), (3, .ref 145), (2, .ref 115), (1, .ref 0)] [] (hp T)) : Gl z mL_law false Q cl sl 616 [(5, .int (nI (5 * k))), (4, .ref 146), (3, .ref 145), (2, .ref 115), (1, .ref 0)] [] (hp S) := by
  refine gl_aload_n 617 dL_law_616 rfl rfl ?_
  obtain ⟨b9, T1, T2, hL, hR, hJ⟩ := q_clear hI
  refine gm_callV 620 [] [] dL_law_617 rfl hL rfl sV_L_law_128 rfl ly_0 rfl rfl (Nat.le_of_ble_eq_true rfl) (show cl + 0 ≤ 603072 by omega) (show sl + 0 ≤ 7194730 by omega) ?_
  refine gl_aload_n 621 dL_law_620 rfl rfl ?_
  refine gm_callV 624 [] [.int b9] dL_law_621 rfl hR rfl sV_L_law_131 rfl ly_115 rfl rfl (Nat.le_of_ble_eq_true rfl) (show cl + 0 + 0 ≤ 603072 by omega) (show sl + 0 + 0 ≤ 7194730 by omega) ?_
  refine gl_icmp_eq 627 1660 dL_law_624 rfl (by decide) (fun _ => ?_) (fun q => absurd rfl q)
  refine gl_ls [(5, .int (nI (5 * k))), (4, .ref 146), (3, .ref 145), (2, .ref 115), (1, .ref 0)] (List.forall_mem_cons.mpr ⟨rfl, List.forall_mem_cons.mpr ⟨rfl, List.forall_mem_cons.mpr ⟨rfl, List.forall_mem_cons.mpr ⟨rfl, List.forall_mem_cons.mpr ⟨rfl, fun _ h => absurd h List.not_mem_nil⟩⟩⟩⟩⟩) ?_
  exact kn T2 hJ _ _ (show cl + 0 + 0 ≤ cl + 4 by omega) (show sl + 0 + 0 ≤ sl + 24 by omega)

theorem lc_8 {z : Nat × Nat × (Nat → Int32)} {Q : go_Q} {cl sl k : Nat} {S : gS} (hI : Inv S) (h1 : vp_in (nI (5 * k) + 1) z.2.1) (h2 : vp_in (nI (5 * k) + 2) z.2.1) (h3 : vp_in (nI (5 * k) + 3) z.2.1) (h4 : vp_in (nI (5 * k) + 4) z.2.1) (hc : cl + 4 ≤ 603072) (hs : sl + 24 ≤ 7194730) (kn : ∀ T, Inv T → ∀ c2 s2, c2 ≤ cl + 4 → s2 ≤ sl + 24 → Gl z mL_law false Q c2 s2 1660 [(5, .int (nI (5 * k))), (4, .ref 146), (3, .ref 145), (2, .ref 115), (1, .ref 0)] [] (hp T)) : Gl z mL_law false Q cl sl 629 [(5, .int (nI (5 * k))), (4, .ref 146), (3, .ref 145), (2, .ref 115), (1, .ref 0)] [] (hp S) := by
  refine gl_aload_n 630 dL_law_629 rfl rfl ?_
  refine gl_sk 636 (nI (5 * k)) 1 dL_law_630 dL_law_631 dL_law_633 dL_law_634 dL_law_635 rfl rfl (by decide) h1 ?_
  refine gl_sk 642 (nI (5 * k)) 2 dL_law_636 dL_law_637 dL_law_639 dL_law_640 dL_law_641 rfl rfl (by decide) h2 ?_
  refine gl_if_eq 645 649 dL_law_642 rfl (by decide) (fun q642 => ?_) (fun q642 => ?_)
  · refine gl_iconst 650 (0) dL_law_649 rfl (by decide) ?_
    refine gl_aload_n 651 dL_law_650 rfl rfl ?_
    obtain ⟨k9, T1, b9, T2, hL, hR, h0, hW, hJ⟩ := q_range hI (z.2.2 (nI (5 * k) + 1).toNatClampNeg) 0
    refine gm_callSH 654 [.ref 0, .int (z.2.2 (nI (5 * k) + 1).toNatClampNeg), .int 0, .ref 145] [] dL_law_651 rfl hL rfl sV_L_law_132 rfl (Nat.le_of_ble_eq_true rfl) (show cl + 1 ≤ 603072 by omega) (show sl + 6 ≤ 7194730 by omega) ?_
    refine gl_istore 656 [(6, .int k9), (5, .int (nI (5 * k))), (4, .ref 146), (3, .ref 145), (2, .ref 115), (1, .ref 0)] dL_law_654 rfl (Nat.le_of_ble_eq_true rfl) (by decide) rfl ?_
    refine gl_aload_n 657 dL_law_656 rfl rfl ?_
    refine gl_sk 663 (nI (5 * k)) 1 dL_law_657 dL_law_658 dL_law_660 dL_law_661 dL_law_662 rfl rfl (by decide) h1 ?_
    refine gl_sk 669 (nI (5 * k)) 2 dL_law_663 dL_law_664 dL_law_666 dL_law_667 dL_law_668 rfl rfl (by decide) h2 ?_
    refine gl_if_eq 672 676 dL_law_669 rfl (by decide) (fun _ => ?_) (fun q => absurd q642 q)
    refine gl_iconst 677 (0) dL_law_676 rfl (by decide) ?_
    refine gm_callV 680 [.int (z.2.2 (nI (5 * k) + 1).toNatClampNeg), .int 0] [] dL_law_677 rfl hR rfl sV_L_law_134 rfl ly_115 rfl rfl (Nat.le_of_ble_eq_true rfl) (show cl + 1 + 0 ≤ 603072 by omega) (show sl + 6 + 0 ≤ 7194730 by omega) ?_
    refine gl_istore 682 [(7, .int b9), (6, .int k9), (5, .int (nI (5 * k))), (4, .ref 146), (3, .ref 145), (2, .ref 115), (1, .ref 0)] dL_law_680 rfl (Nat.le_of_ble_eq_true rfl) (by decide) rfl ?_
    refine gl_aload_n 683 dL_law_682 rfl rfl ?_
    refine gm_callV 686 [] [] dL_law_683 rfl (ct_X9_thrown _) rfl sV_L_law_103 rfl ly_115 rfl rfl (Nat.le_of_ble_eq_true rfl) (show cl + 1 + 0 + 0 ≤ 603072 by omega) (show sl + 6 + 0 + 0 ≤ 7194730 by omega) ?_
    refine gl_iload 688 dL_law_686 rfl rfl ?_
    refine gl_icmp_eq 691 693 dL_law_688 rfl (by decide) (fun _ => ?_) (fun q => absurd h0 q)
    refine gl_iload 695 dL_law_693 rfl rfl ?_
    refine gl_if_ne 698 710 dL_law_695 rfl (by decide) (fun _ => ?_) (fun hk0 => ?_)
    · refine gl_goto 1660 dL_law_710 (by decide) ?_
      refine gl_ls [(5, .int (nI (5 * k))), (4, .ref 146), (3, .ref 145), (2, .ref 115), (1, .ref 0)] (List.forall_mem_cons.mpr ⟨rfl, List.forall_mem_cons.mpr ⟨rfl, List.forall_mem_cons.mpr ⟨rfl, List.forall_mem_cons.mpr ⟨rfl, List.forall_mem_cons.mpr ⟨rfl, fun _ h => absurd h List.not_mem_nil⟩⟩⟩⟩⟩) ?_
      exact kn T2 hJ _ _ (show cl + 1 + 0 + 0 ≤ cl + 4 by omega) (show sl + 6 + 0 + 0 ≤ sl + 24 by omega)
    · refine gl_aload_n 699 dL_law_698 rfl rfl ?_
      refine gl_iconst 700 (0) dL_law_699 rfl (by decide) ?_
      refine gm_lald 701 dL_law_700 rfl ly_145 (by unfold vp_in; decide) ?_
      rw [show rL T2 145 (0 : Int32).toNatClampNeg = b9.toInt64 from hW hk0]
      refine gl_iload 703 dL_law_701 rfl rfl ?_
      refine gl_i2l 704 dL_law_703 rfl ?_
      refine gl_lcmp 705 dL_law_704 rfl ?_
      refine gl_if_eq 708 710 dL_law_705 rfl (by decide) (fun _ => ?_) (fun q => absurd (lg_self _) q)
      refine gl_goto 1660 dL_law_710 (by decide) ?_
      refine gl_ls [(5, .int (nI (5 * k))), (4, .ref 146), (3, .ref 145), (2, .ref 115), (1, .ref 0)] (List.forall_mem_cons.mpr ⟨rfl, List.forall_mem_cons.mpr ⟨rfl, List.forall_mem_cons.mpr ⟨rfl, List.forall_mem_cons.mpr ⟨rfl, List.forall_mem_cons.mpr ⟨rfl, fun _ h => absurd h List.not_mem_nil⟩⟩⟩⟩⟩) ?_
      exact kn T2 hJ _ _ (show cl + 1 + 0 + 0 ≤ cl + 4 by omega) (show sl + 6 + 0 + 0 ≤ sl + 24 by omega)
  · refine gl_iconst 646 (1) dL_law_645 rfl (by decide) ?_
    refine gl_goto 650 dL_law_646 (by decide) ?_
    refine gl_aload_n 651 dL_law_650 rfl rfl ?_
    obtain ⟨k9, T1, b9, T2, hL, hR, h0, hW, hJ⟩ := q_range hI (z.2.2 (nI (5 * k) + 1).toNatClampNeg) 1
    refine gm_callSH 654 [.ref 0, .int (z.2.2 (nI (5 * k) + 1).toNatClampNeg), .int 1, .ref 145] [] dL_law_651 rfl hL rfl sV_L_law_132 rfl (Nat.le_of_ble_eq_true rfl) (show cl + 1 ≤ 603072 by omega) (show sl + 6 ≤ 7194730 by omega) ?_
    refine gl_istore 656 [(6, .int k9), (5, .int (nI (5 * k))), (4, .ref 146), (3, .ref 145), (2, .ref 115), (1, .ref 0)] dL_law_654 rfl (Nat.le_of_ble_eq_true rfl) (by decide) rfl ?_
    refine gl_aload_n 657 dL_law_656 rfl rfl ?_
    refine gl_sk 663 (nI (5 * k)) 1 dL_law_657 dL_law_658 dL_law_660 dL_law_661 dL_law_662 rfl rfl (by decide) h1 ?_
    refine gl_sk 669 (nI (5 * k)) 2 dL_law_663 dL_law_664 dL_law_666 dL_law_667 dL_law_668 rfl rfl (by decide) h2 ?_
    refine gl_if_eq 672 676 dL_law_669 rfl (by decide) (fun q => absurd q q642) (fun _ => ?_)
    refine gl_iconst 673 (1) dL_law_672 rfl (by decide) ?_
    refine gl_goto 677 dL_law_673 (by decide) ?_
    refine gm_callV 680 [.int (z.2.2 (nI (5 * k) + 1).toNatClampNeg), .int 1] [] dL_law_677 rfl hR rfl sV_L_law_134 rfl ly_115 rfl rfl (Nat.le_of_ble_eq_true rfl) (show cl + 1 + 0 ≤ 603072 by omega) (show sl + 6 + 0 ≤ 7194730 by omega) ?_
    refine gl_istore 682 [(7, .int b9), (6, .int k9), (5, .int (nI (5 * k))), (4, .ref 146), (3, .ref 145), (2, .ref 115), (1, .ref 0)] dL_law_680 rfl (Nat.le_of_ble_eq_true rfl) (by decide) rfl ?_
    refine gl_aload_n 683 dL_law_682 rfl rfl ?_
    refine gm_callV 686 [] [] dL_law_683 rfl (ct_X9_thrown _) rfl sV_L_law_103 rfl ly_115 rfl rfl (Nat.le_of_ble_eq_true rfl) (show cl + 1 + 0 + 0 ≤ 603072 by omega) (show sl + 6 + 0 + 0 ≤ 7194730 by omega) ?_
    refine gl_iload 688 dL_law_686 rfl rfl ?_
    refine gl_icmp_eq 691 693 dL_law_688 rfl (by decide) (fun _ => ?_) (fun q => absurd h0 q)
    refine gl_iload 695 dL_law_693 rfl rfl ?_
    refine gl_if_ne 698 710 dL_law_695 rfl (by decide) (fun _ => ?_) (fun hk0 => ?_)
    · refine gl_goto 1660 dL_law_710 (by decide) ?_
      refine gl_ls [(5, .int (nI (5 * k))), (4, .ref 146), (3, .ref 145), (2, .ref 115), (1, .ref 0)] (List.forall_mem_cons.mpr ⟨rfl, List.forall_mem_cons.mpr ⟨rfl, List.forall_mem_cons.mpr ⟨rfl, List.forall_mem_cons.mpr ⟨rfl, List.forall_mem_cons.mpr ⟨rfl, fun _ h => absurd h List.not_mem_nil⟩⟩⟩⟩⟩) ?_
      exact kn T2 hJ _ _ (show cl + 1 + 0 + 0 ≤ cl + 4 by omega) (show sl + 6 + 0 + 0 ≤ sl + 24 by omega)
    · refine gl_aload_n 699 dL_law_698 rfl rfl ?_
      refine gl_iconst 700 (0) dL_law_699 rfl (by decide) ?_
      refine gm_lald 701 dL_law_700 rfl ly_145 (by unfold vp_in; decide) ?_
      rw [show rL T2 145 (0 : Int32).toNatClampNeg = b9.toInt64 from hW hk0]
      refine gl_iload 703 dL_law_701 rfl rfl ?_
      refine gl_i2l 704 dL_law_703 rfl ?_
      refine gl_lcmp 705 dL_law_704 rfl ?_
      refine gl_if_eq 708 710 dL_law_705 rfl (by decide) (fun _ => ?_) (fun q => absurd (lg_self _) q)
      refine gl_goto 1660 dL_law_710 (by decide) ?_
      refine gl_ls [(5, .int (nI (5 * k))), (4, .ref 146), (3, .ref 145), (2, .ref 115), (1, .ref 0)] (List.forall_mem_cons.mpr ⟨rfl, List.forall_mem_cons.mpr ⟨rfl, List.forall_mem_cons.mpr ⟨rfl, List.forall_mem_cons.mpr ⟨rfl, List.forall_mem_cons.mpr ⟨rfl, fun _ h => absurd h List.not_mem_nil⟩⟩⟩⟩⟩) ?_
      exact kn T2 hJ _ _ (show cl + 1 + 0 + 0 ≤ cl + 4 by omega) (show sl + 6 + 0 + 0 ≤ sl + 24 by omega)

theorem lc_9 {z : Nat × Nat × (Nat → Int32)} {Q : go_Q} {cl sl k : Nat} {S : gS} (hI : Inv S) (h1 : vp_in (nI (5 * k) + 1) z.2.1) (h2 : vp_in (nI (5 * k) + 2) z.2.1) (h3 : vp_in (nI (5 * k) + 3) z.2.1) (h4 : vp_in (nI (5 * k) + 4) z.2.1) (hc : cl + 4 ≤ 603072) (hs : sl + 24 ≤ 7194730) (kn : ∀ T, Inv T → ∀ c2 s2, c2 ≤ cl + 4 → s2 ≤ sl + 24 → Gl z mL_law false Q c2 s2 1660 [(5, .int (nI (5 * k))), (4, .ref 146), (3, .ref 145), (2, .ref 115), (1, .ref 0)] [] (hp T)) : Gl z mL_law false Q cl sl 713 [(5, .int (nI (5 * k))), (4, .ref 146), (3, .ref 145), (2, .ref 115), (1, .ref 0)] [] (hp S) := by
  refine gl_aload_n 714 dL_law_713 rfl rfl ?_
  obtain ⟨b9, T1, T2, hL, hR, hJ⟩ := q_rounds hI
  refine gm_callV 717 [] [] dL_law_714 rfl hL rfl sV_L_law_135 rfl ly_0 rfl rfl (Nat.le_of_ble_eq_true rfl) (show cl + 0 ≤ 603072 by omega) (show sl + 0 ≤ 7194730 by omega) ?_
  refine gl_aload_n 718 dL_law_717 rfl rfl ?_
  refine gm_callV 721 [] [.int b9] dL_law_718 rfl hR rfl sV_L_law_138 rfl ly_115 rfl rfl (Nat.le_of_ble_eq_true rfl) (show cl + 0 + 0 ≤ 603072 by omega) (show sl + 0 + 0 ≤ 7194730 by omega) ?_
  refine gl_icmp_eq 724 1660 dL_law_721 rfl (by decide) (fun _ => ?_) (fun q => absurd rfl q)
  refine gl_ls [(5, .int (nI (5 * k))), (4, .ref 146), (3, .ref 145), (2, .ref 115), (1, .ref 0)] (List.forall_mem_cons.mpr ⟨rfl, List.forall_mem_cons.mpr ⟨rfl, List.forall_mem_cons.mpr ⟨rfl, List.forall_mem_cons.mpr ⟨rfl, List.forall_mem_cons.mpr ⟨rfl, fun _ h => absurd h List.not_mem_nil⟩⟩⟩⟩⟩) ?_
  exact kn T2 hJ _ _ (show cl + 0 + 0 ≤ cl + 4 by omega) (show sl + 0 + 0 ≤ sl + 24 by omega)

theorem lc_10 {z : Nat × Nat × (Nat → Int32)} {Q : go_Q} {cl sl k : Nat} {S : gS} (hI : Inv S) (h1 : vp_in (nI (5 * k) + 1) z.2.1) (h2 : vp_in (nI (5 * k) + 2) z.2.1) (h3 : vp_in (nI (5 * k) + 3) z.2.1) (h4 : vp_in (nI (5 * k) + 4) z.2.1) (hc : cl + 4 ≤ 603072) (hs : sl + 24 ≤ 7194730) (kn : ∀ T, Inv T → ∀ c2 s2, c2 ≤ cl + 4 → s2 ≤ sl + 24 → Gl z mL_law false Q c2 s2 1660 [(5, .int (nI (5 * k))), (4, .ref 146), (3, .ref 145), (2, .ref 115), (1, .ref 0)] [] (hp T)) : Gl z mL_law false Q cl sl 726 [(5, .int (nI (5 * k))), (4, .ref 146), (3, .ref 145), (2, .ref 115), (1, .ref 0)] [] (hp S) := by
  refine gl_aload_n 727 dL_law_726 rfl rfl ?_
  refine gl_sk 733 (nI (5 * k)) 1 dL_law_727 dL_law_728 dL_law_730 dL_law_731 dL_law_732 rfl rfl (by decide) h1 ?_
  refine gl_aload_n 734 dL_law_733 rfl rfl ?_
  obtain ⟨k9, T1, b9, T2, hL, hR, h0, hW, hJ⟩ := q_demanded hI (z.2.2 (nI (5 * k) + 1).toNatClampNeg)
  refine gm_callSH 737 [.ref 0, .int (z.2.2 (nI (5 * k) + 1).toNatClampNeg), .ref 145] [] dL_law_734 rfl hL rfl sV_L_law_139 rfl (Nat.le_of_ble_eq_true rfl) (show cl + 1 ≤ 603072 by omega) (show sl + 6 ≤ 7194730 by omega) ?_
  refine gl_istore 739 [(6, .int k9), (5, .int (nI (5 * k))), (4, .ref 146), (3, .ref 145), (2, .ref 115), (1, .ref 0)] dL_law_737 rfl (Nat.le_of_ble_eq_true rfl) (by decide) rfl ?_
  refine gl_aload_n 740 dL_law_739 rfl rfl ?_
  refine gl_sk 746 (nI (5 * k)) 1 dL_law_740 dL_law_741 dL_law_743 dL_law_744 dL_law_745 rfl rfl (by decide) h1 ?_
  refine gm_callV 749 [.int (z.2.2 (nI (5 * k) + 1).toNatClampNeg)] [] dL_law_746 rfl hR rfl sV_L_law_142 rfl ly_115 rfl rfl (Nat.le_of_ble_eq_true rfl) (show cl + 1 + 0 ≤ 603072 by omega) (show sl + 6 + 0 ≤ 7194730 by omega) ?_
  refine gl_istore 751 [(7, .int b9), (6, .int k9), (5, .int (nI (5 * k))), (4, .ref 146), (3, .ref 145), (2, .ref 115), (1, .ref 0)] dL_law_749 rfl (Nat.le_of_ble_eq_true rfl) (by decide) rfl ?_
  refine gl_aload_n 752 dL_law_751 rfl rfl ?_
  refine gm_callV 755 [] [] dL_law_752 rfl (ct_X9_thrown _) rfl sV_L_law_103 rfl ly_115 rfl rfl (Nat.le_of_ble_eq_true rfl) (show cl + 1 + 0 + 0 ≤ 603072 by omega) (show sl + 6 + 0 + 0 ≤ 7194730 by omega) ?_
  refine gl_iload 757 dL_law_755 rfl rfl ?_
  refine gl_icmp_eq 760 762 dL_law_757 rfl (by decide) (fun _ => ?_) (fun q => absurd h0 q)
  refine gl_iload 764 dL_law_762 rfl rfl ?_
  refine gl_if_ne 767 779 dL_law_764 rfl (by decide) (fun _ => ?_) (fun hk0 => ?_)
  · refine gl_goto 1660 dL_law_779 (by decide) ?_
    refine gl_ls [(5, .int (nI (5 * k))), (4, .ref 146), (3, .ref 145), (2, .ref 115), (1, .ref 0)] (List.forall_mem_cons.mpr ⟨rfl, List.forall_mem_cons.mpr ⟨rfl, List.forall_mem_cons.mpr ⟨rfl, List.forall_mem_cons.mpr ⟨rfl, List.forall_mem_cons.mpr ⟨rfl, fun _ h => absurd h List.not_mem_nil⟩⟩⟩⟩⟩) ?_
    exact kn T2 hJ _ _ (show cl + 1 + 0 + 0 ≤ cl + 4 by omega) (show sl + 6 + 0 + 0 ≤ sl + 24 by omega)
  · refine gl_aload_n 768 dL_law_767 rfl rfl ?_
    refine gl_iconst 769 (0) dL_law_768 rfl (by decide) ?_
    refine gm_lald 770 dL_law_769 rfl ly_145 (by unfold vp_in; decide) ?_
    rw [show rL T2 145 (0 : Int32).toNatClampNeg = b9.toInt64 from hW hk0]
    refine gl_iload 772 dL_law_770 rfl rfl ?_
    refine gl_i2l 773 dL_law_772 rfl ?_
    refine gl_lcmp 774 dL_law_773 rfl ?_
    refine gl_if_eq 777 779 dL_law_774 rfl (by decide) (fun _ => ?_) (fun q => absurd (lg_self _) q)
    refine gl_goto 1660 dL_law_779 (by decide) ?_
    refine gl_ls [(5, .int (nI (5 * k))), (4, .ref 146), (3, .ref 145), (2, .ref 115), (1, .ref 0)] (List.forall_mem_cons.mpr ⟨rfl, List.forall_mem_cons.mpr ⟨rfl, List.forall_mem_cons.mpr ⟨rfl, List.forall_mem_cons.mpr ⟨rfl, List.forall_mem_cons.mpr ⟨rfl, fun _ h => absurd h List.not_mem_nil⟩⟩⟩⟩⟩) ?_
    exact kn T2 hJ _ _ (show cl + 1 + 0 + 0 ≤ cl + 4 by omega) (show sl + 6 + 0 + 0 ≤ sl + 24 by omega)

theorem lc_11 {z : Nat × Nat × (Nat → Int32)} {Q : go_Q} {cl sl k : Nat} {S : gS} (hI : Inv S) (h1 : vp_in (nI (5 * k) + 1) z.2.1) (h2 : vp_in (nI (5 * k) + 2) z.2.1) (h3 : vp_in (nI (5 * k) + 3) z.2.1) (h4 : vp_in (nI (5 * k) + 4) z.2.1) (hc : cl + 4 ≤ 603072) (hs : sl + 24 ≤ 7194730) (kn : ∀ T, Inv T → ∀ c2 s2, c2 ≤ cl + 4 → s2 ≤ sl + 24 → Gl z mL_law false Q c2 s2 1660 [(5, .int (nI (5 * k))), (4, .ref 146), (3, .ref 145), (2, .ref 115), (1, .ref 0)] [] (hp T)) : Gl z mL_law false Q cl sl 782 [(5, .int (nI (5 * k))), (4, .ref 146), (3, .ref 145), (2, .ref 115), (1, .ref 0)] [] (hp S) := by
  refine gl_aload_n 783 dL_law_782 rfl rfl ?_
  refine gl_sk 789 (nI (5 * k)) 1 dL_law_783 dL_law_784 dL_law_786 dL_law_787 dL_law_788 rfl rfl (by decide) h1 ?_
  refine gl_sk 795 (nI (5 * k)) 2 dL_law_789 dL_law_790 dL_law_792 dL_law_793 dL_law_794 rfl rfl (by decide) h2 ?_
  refine gl_if_eq 798 802 dL_law_795 rfl (by decide) (fun q795 => ?_) (fun q795 => ?_)
  · refine gl_iconst 803 (0) dL_law_802 rfl (by decide) ?_
    refine gl_aload_n 804 dL_law_803 rfl rfl ?_
    obtain ⟨k9, T1, b9, T2, hL, hR, h0, hW, hJ⟩ := q_width hI (z.2.2 (nI (5 * k) + 1).toNatClampNeg) 0
    refine gm_callSH 807 [.ref 0, .int (z.2.2 (nI (5 * k) + 1).toNatClampNeg), .int 0, .ref 145] [] dL_law_804 rfl hL rfl sV_L_law_143 rfl (Nat.le_of_ble_eq_true rfl) (show cl + 1 ≤ 603072 by omega) (show sl + 6 ≤ 7194730 by omega) ?_
    refine gl_istore 809 [(6, .int k9), (5, .int (nI (5 * k))), (4, .ref 146), (3, .ref 145), (2, .ref 115), (1, .ref 0)] dL_law_807 rfl (Nat.le_of_ble_eq_true rfl) (by decide) rfl ?_
    refine gl_aload_n 810 dL_law_809 rfl rfl ?_
    refine gl_sk 816 (nI (5 * k)) 1 dL_law_810 dL_law_811 dL_law_813 dL_law_814 dL_law_815 rfl rfl (by decide) h1 ?_
    refine gl_sk 822 (nI (5 * k)) 2 dL_law_816 dL_law_817 dL_law_819 dL_law_820 dL_law_821 rfl rfl (by decide) h2 ?_
    refine gl_if_eq 825 829 dL_law_822 rfl (by decide) (fun _ => ?_) (fun q => absurd q795 q)
    refine gl_iconst 830 (0) dL_law_829 rfl (by decide) ?_
    refine gm_callV 833 [.int (z.2.2 (nI (5 * k) + 1).toNatClampNeg), .int 0] [] dL_law_830 rfl hR rfl sV_L_law_145 rfl ly_115 rfl rfl (Nat.le_of_ble_eq_true rfl) (show cl + 1 + 0 ≤ 603072 by omega) (show sl + 6 + 0 ≤ 7194730 by omega) ?_
    refine gl_istore 835 [(7, .int b9), (6, .int k9), (5, .int (nI (5 * k))), (4, .ref 146), (3, .ref 145), (2, .ref 115), (1, .ref 0)] dL_law_833 rfl (Nat.le_of_ble_eq_true rfl) (by decide) rfl ?_
    refine gl_aload_n 836 dL_law_835 rfl rfl ?_
    refine gm_callV 839 [] [] dL_law_836 rfl (ct_X9_thrown _) rfl sV_L_law_103 rfl ly_115 rfl rfl (Nat.le_of_ble_eq_true rfl) (show cl + 1 + 0 + 0 ≤ 603072 by omega) (show sl + 6 + 0 + 0 ≤ 7194730 by omega) ?_
    refine gl_iload 841 dL_law_839 rfl rfl ?_
    refine gl_icmp_eq 844 846 dL_law_841 rfl (by decide) (fun _ => ?_) (fun q => absurd h0 q)
    refine gl_iload 848 dL_law_846 rfl rfl ?_
    refine gl_if_ne 851 863 dL_law_848 rfl (by decide) (fun _ => ?_) (fun hk0 => ?_)
    · refine gl_goto 1660 dL_law_863 (by decide) ?_
      refine gl_ls [(5, .int (nI (5 * k))), (4, .ref 146), (3, .ref 145), (2, .ref 115), (1, .ref 0)] (List.forall_mem_cons.mpr ⟨rfl, List.forall_mem_cons.mpr ⟨rfl, List.forall_mem_cons.mpr ⟨rfl, List.forall_mem_cons.mpr ⟨rfl, List.forall_mem_cons.mpr ⟨rfl, fun _ h => absurd h List.not_mem_nil⟩⟩⟩⟩⟩) ?_
      exact kn T2 hJ _ _ (show cl + 1 + 0 + 0 ≤ cl + 4 by omega) (show sl + 6 + 0 + 0 ≤ sl + 24 by omega)
    · refine gl_aload_n 852 dL_law_851 rfl rfl ?_
      refine gl_iconst 853 (0) dL_law_852 rfl (by decide) ?_
      refine gm_lald 854 dL_law_853 rfl ly_145 (by unfold vp_in; decide) ?_
      rw [show rL T2 145 (0 : Int32).toNatClampNeg = b9.toInt64 from hW hk0]
      refine gl_iload 856 dL_law_854 rfl rfl ?_
      refine gl_i2l 857 dL_law_856 rfl ?_
      refine gl_lcmp 858 dL_law_857 rfl ?_
      refine gl_if_eq 861 863 dL_law_858 rfl (by decide) (fun _ => ?_) (fun q => absurd (lg_self _) q)
      refine gl_goto 1660 dL_law_863 (by decide) ?_
      refine gl_ls [(5, .int (nI (5 * k))), (4, .ref 146), (3, .ref 145), (2, .ref 115), (1, .ref 0)] (List.forall_mem_cons.mpr ⟨rfl, List.forall_mem_cons.mpr ⟨rfl, List.forall_mem_cons.mpr ⟨rfl, List.forall_mem_cons.mpr ⟨rfl, List.forall_mem_cons.mpr ⟨rfl, fun _ h => absurd h List.not_mem_nil⟩⟩⟩⟩⟩) ?_
      exact kn T2 hJ _ _ (show cl + 1 + 0 + 0 ≤ cl + 4 by omega) (show sl + 6 + 0 + 0 ≤ sl + 24 by omega)
  · refine gl_iconst 799 (1) dL_law_798 rfl (by decide) ?_
    refine gl_goto 803 dL_law_799 (by decide) ?_
    refine gl_aload_n 804 dL_law_803 rfl rfl ?_
    obtain ⟨k9, T1, b9, T2, hL, hR, h0, hW, hJ⟩ := q_width hI (z.2.2 (nI (5 * k) + 1).toNatClampNeg) 1
    refine gm_callSH 807 [.ref 0, .int (z.2.2 (nI (5 * k) + 1).toNatClampNeg), .int 1, .ref 145] [] dL_law_804 rfl hL rfl sV_L_law_143 rfl (Nat.le_of_ble_eq_true rfl) (show cl + 1 ≤ 603072 by omega) (show sl + 6 ≤ 7194730 by omega) ?_
    refine gl_istore 809 [(6, .int k9), (5, .int (nI (5 * k))), (4, .ref 146), (3, .ref 145), (2, .ref 115), (1, .ref 0)] dL_law_807 rfl (Nat.le_of_ble_eq_true rfl) (by decide) rfl ?_
    refine gl_aload_n 810 dL_law_809 rfl rfl ?_
    refine gl_sk 816 (nI (5 * k)) 1 dL_law_810 dL_law_811 dL_law_813 dL_law_814 dL_law_815 rfl rfl (by decide) h1 ?_
    refine gl_sk 822 (nI (5 * k)) 2 dL_law_816 dL_law_817 dL_law_819 dL_law_820 dL_law_821 rfl rfl (by decide) h2 ?_
    refine gl_if_eq 825 829 dL_law_822 rfl (by decide) (fun q => absurd q q795) (fun _ => ?_)
    refine gl_iconst 826 (1) dL_law_825 rfl (by decide) ?_
    refine gl_goto 830 dL_law_826 (by decide) ?_
    refine gm_callV 833 [.int (z.2.2 (nI (5 * k) + 1).toNatClampNeg), .int 1] [] dL_law_830 rfl hR rfl sV_L_law_145 rfl ly_115 rfl rfl (Nat.le_of_ble_eq_true rfl) (show cl + 1 + 0 ≤ 603072 by omega) (show sl + 6 + 0 ≤ 7194730 by omega) ?_
    refine gl_istore 835 [(7, .int b9), (6, .int k9), (5, .int (nI (5 * k))), (4, .ref 146), (3, .ref 145), (2, .ref 115), (1, .ref 0)] dL_law_833 rfl (Nat.le_of_ble_eq_true rfl) (by decide) rfl ?_
    refine gl_aload_n 836 dL_law_835 rfl rfl ?_
    refine gm_callV 839 [] [] dL_law_836 rfl (ct_X9_thrown _) rfl sV_L_law_103 rfl ly_115 rfl rfl (Nat.le_of_ble_eq_true rfl) (show cl + 1 + 0 + 0 ≤ 603072 by omega) (show sl + 6 + 0 + 0 ≤ 7194730 by omega) ?_
    refine gl_iload 841 dL_law_839 rfl rfl ?_
    refine gl_icmp_eq 844 846 dL_law_841 rfl (by decide) (fun _ => ?_) (fun q => absurd h0 q)
    refine gl_iload 848 dL_law_846 rfl rfl ?_
    refine gl_if_ne 851 863 dL_law_848 rfl (by decide) (fun _ => ?_) (fun hk0 => ?_)
    · refine gl_goto 1660 dL_law_863 (by decide) ?_
      refine gl_ls [(5, .int (nI (5 * k))), (4, .ref 146), (3, .ref 145), (2, .ref 115), (1, .ref 0)] (List.forall_mem_cons.mpr ⟨rfl, List.forall_mem_cons.mpr ⟨rfl, List.forall_mem_cons.mpr ⟨rfl, List.forall_mem_cons.mpr ⟨rfl, List.forall_mem_cons.mpr ⟨rfl, fun _ h => absurd h List.not_mem_nil⟩⟩⟩⟩⟩) ?_
      exact kn T2 hJ _ _ (show cl + 1 + 0 + 0 ≤ cl + 4 by omega) (show sl + 6 + 0 + 0 ≤ sl + 24 by omega)
    · refine gl_aload_n 852 dL_law_851 rfl rfl ?_
      refine gl_iconst 853 (0) dL_law_852 rfl (by decide) ?_
      refine gm_lald 854 dL_law_853 rfl ly_145 (by unfold vp_in; decide) ?_
      rw [show rL T2 145 (0 : Int32).toNatClampNeg = b9.toInt64 from hW hk0]
      refine gl_iload 856 dL_law_854 rfl rfl ?_
      refine gl_i2l 857 dL_law_856 rfl ?_
      refine gl_lcmp 858 dL_law_857 rfl ?_
      refine gl_if_eq 861 863 dL_law_858 rfl (by decide) (fun _ => ?_) (fun q => absurd (lg_self _) q)
      refine gl_goto 1660 dL_law_863 (by decide) ?_
      refine gl_ls [(5, .int (nI (5 * k))), (4, .ref 146), (3, .ref 145), (2, .ref 115), (1, .ref 0)] (List.forall_mem_cons.mpr ⟨rfl, List.forall_mem_cons.mpr ⟨rfl, List.forall_mem_cons.mpr ⟨rfl, List.forall_mem_cons.mpr ⟨rfl, List.forall_mem_cons.mpr ⟨rfl, fun _ h => absurd h List.not_mem_nil⟩⟩⟩⟩⟩) ?_
      exact kn T2 hJ _ _ (show cl + 1 + 0 + 0 ≤ cl + 4 by omega) (show sl + 6 + 0 + 0 ≤ sl + 24 by omega)

theorem lc_12 {z : Nat × Nat × (Nat → Int32)} {Q : go_Q} {cl sl k : Nat} {S : gS} (hI : Inv S) (h1 : vp_in (nI (5 * k) + 1) z.2.1) (h2 : vp_in (nI (5 * k) + 2) z.2.1) (h3 : vp_in (nI (5 * k) + 3) z.2.1) (h4 : vp_in (nI (5 * k) + 4) z.2.1) (hc : cl + 4 ≤ 603072) (hs : sl + 24 ≤ 7194730) (kn : ∀ T, Inv T → ∀ c2 s2, c2 ≤ cl + 4 → s2 ≤ sl + 24 → Gl z mL_law false Q c2 s2 1660 [(5, .int (nI (5 * k))), (4, .ref 146), (3, .ref 145), (2, .ref 115), (1, .ref 0)] [] (hp T)) : Gl z mL_law false Q cl sl 866 [(5, .int (nI (5 * k))), (4, .ref 146), (3, .ref 145), (2, .ref 115), (1, .ref 0)] [] (hp S) := by
  refine gl_aload_n 867 dL_law_866 rfl rfl ?_
  refine gl_sk 873 (nI (5 * k)) 1 dL_law_867 dL_law_868 dL_law_870 dL_law_871 dL_law_872 rfl rfl (by decide) h1 ?_
  refine gl_aload_n 874 dL_law_873 rfl rfl ?_
  obtain ⟨k9, T1, b9, T2, hL, hR, h0, hW, hJ⟩ := q_isSigned hI (z.2.2 (nI (5 * k) + 1).toNatClampNeg)
  refine gm_callSH 877 [.ref 0, .int (z.2.2 (nI (5 * k) + 1).toNatClampNeg), .ref 145] [] dL_law_874 rfl hL rfl sV_L_law_146 rfl (Nat.le_of_ble_eq_true rfl) (show cl + 1 ≤ 603072 by omega) (show sl + 6 ≤ 7194730 by omega) ?_
  refine gl_istore 879 [(6, .int k9), (5, .int (nI (5 * k))), (4, .ref 146), (3, .ref 145), (2, .ref 115), (1, .ref 0)] dL_law_877 rfl (Nat.le_of_ble_eq_true rfl) (by decide) rfl ?_
  refine gl_aload_n 880 dL_law_879 rfl rfl ?_
  refine gl_sk 886 (nI (5 * k)) 1 dL_law_880 dL_law_881 dL_law_883 dL_law_884 dL_law_885 rfl rfl (by decide) h1 ?_
  refine gm_callV 889 [.int (z.2.2 (nI (5 * k) + 1).toNatClampNeg)] [] dL_law_886 rfl hR rfl sV_L_law_148 rfl ly_115 rfl rfl (Nat.le_of_ble_eq_true rfl) (show cl + 1 + 0 ≤ 603072 by omega) (show sl + 6 + 0 ≤ 7194730 by omega) ?_
  refine gl_istore 891 [(7, .int b9), (6, .int k9), (5, .int (nI (5 * k))), (4, .ref 146), (3, .ref 145), (2, .ref 115), (1, .ref 0)] dL_law_889 rfl (Nat.le_of_ble_eq_true rfl) (by decide) rfl ?_
  refine gl_aload_n 892 dL_law_891 rfl rfl ?_
  refine gm_callV 895 [] [] dL_law_892 rfl (ct_X9_thrown _) rfl sV_L_law_103 rfl ly_115 rfl rfl (Nat.le_of_ble_eq_true rfl) (show cl + 1 + 0 + 0 ≤ 603072 by omega) (show sl + 6 + 0 + 0 ≤ 7194730 by omega) ?_
  refine gl_iload 897 dL_law_895 rfl rfl ?_
  refine gl_icmp_eq 900 902 dL_law_897 rfl (by decide) (fun _ => ?_) (fun q => absurd h0 q)
  refine gl_iload 904 dL_law_902 rfl rfl ?_
  refine gl_if_ne 907 926 dL_law_904 rfl (by decide) (fun _ => ?_) (fun hk0 => ?_)
  · refine gl_goto 1660 dL_law_926 (by decide) ?_
    refine gl_ls [(5, .int (nI (5 * k))), (4, .ref 146), (3, .ref 145), (2, .ref 115), (1, .ref 0)] (List.forall_mem_cons.mpr ⟨rfl, List.forall_mem_cons.mpr ⟨rfl, List.forall_mem_cons.mpr ⟨rfl, List.forall_mem_cons.mpr ⟨rfl, List.forall_mem_cons.mpr ⟨rfl, fun _ h => absurd h List.not_mem_nil⟩⟩⟩⟩⟩) ?_
    exact kn T2 hJ _ _ (show cl + 1 + 0 + 0 ≤ cl + 4 by omega) (show sl + 6 + 0 + 0 ≤ sl + 24 by omega)
  · refine gl_aload_n 908 dL_law_907 rfl rfl ?_
    refine gl_iconst 909 (0) dL_law_908 rfl (by decide) ?_
    refine gm_lald 910 dL_law_909 rfl ly_145 (by unfold vp_in; decide) ?_
    rw [show rL T2 145 (0 : Int32).toNatClampNeg = (if b9 = 0 then 0 else 1) from hW hk0]
    refine gl_iload 912 dL_law_910 rfl rfl ?_
    refine gl_if_eq 915 919 dL_law_912 rfl (by decide) (fun q912 => ?_) (fun q912 => ?_)
    · rw [if_pos q912]
      refine gl_lconst 920 (0) dL_law_919 rfl (by decide) ?_
      refine gl_lcmp 921 dL_law_920 rfl ?_
      refine gl_if_eq 924 926 dL_law_921 rfl (by decide) (fun _ => ?_) (fun q => absurd (lg_self _) q)
      refine gl_goto 1660 dL_law_926 (by decide) ?_
      refine gl_ls [(5, .int (nI (5 * k))), (4, .ref 146), (3, .ref 145), (2, .ref 115), (1, .ref 0)] (List.forall_mem_cons.mpr ⟨rfl, List.forall_mem_cons.mpr ⟨rfl, List.forall_mem_cons.mpr ⟨rfl, List.forall_mem_cons.mpr ⟨rfl, List.forall_mem_cons.mpr ⟨rfl, fun _ h => absurd h List.not_mem_nil⟩⟩⟩⟩⟩) ?_
      exact kn T2 hJ _ _ (show cl + 1 + 0 + 0 ≤ cl + 4 by omega) (show sl + 6 + 0 + 0 ≤ sl + 24 by omega)
    · rw [if_neg q912]
      refine gl_lconst 916 (1) dL_law_915 rfl (by decide) ?_
      refine gl_goto 920 dL_law_916 (by decide) ?_
      refine gl_lcmp 921 dL_law_920 rfl ?_
      refine gl_if_eq 924 926 dL_law_921 rfl (by decide) (fun _ => ?_) (fun q => absurd (lg_self _) q)
      refine gl_goto 1660 dL_law_926 (by decide) ?_
      refine gl_ls [(5, .int (nI (5 * k))), (4, .ref 146), (3, .ref 145), (2, .ref 115), (1, .ref 0)] (List.forall_mem_cons.mpr ⟨rfl, List.forall_mem_cons.mpr ⟨rfl, List.forall_mem_cons.mpr ⟨rfl, List.forall_mem_cons.mpr ⟨rfl, List.forall_mem_cons.mpr ⟨rfl, fun _ h => absurd h List.not_mem_nil⟩⟩⟩⟩⟩) ?_
      exact kn T2 hJ _ _ (show cl + 1 + 0 + 0 ≤ cl + 4 by omega) (show sl + 6 + 0 + 0 ≤ sl + 24 by omega)

theorem lc_13 {z : Nat × Nat × (Nat → Int32)} {Q : go_Q} {cl sl k : Nat} {S : gS} (hI : Inv S) (h1 : vp_in (nI (5 * k) + 1) z.2.1) (h2 : vp_in (nI (5 * k) + 2) z.2.1) (h3 : vp_in (nI (5 * k) + 3) z.2.1) (h4 : vp_in (nI (5 * k) + 4) z.2.1) (hc : cl + 4 ≤ 603072) (hs : sl + 24 ≤ 7194730) (kn : ∀ T, Inv T → ∀ c2 s2, c2 ≤ cl + 4 → s2 ≤ sl + 24 → Gl z mL_law false Q c2 s2 1660 [(5, .int (nI (5 * k))), (4, .ref 146), (3, .ref 145), (2, .ref 115), (1, .ref 0)] [] (hp T)) : Gl z mL_law false Q cl sl 929 [(5, .int (nI (5 * k))), (4, .ref 146), (3, .ref 145), (2, .ref 115), (1, .ref 0)] [] (hp S) := by
  refine gl_aload_n 930 dL_law_929 rfl rfl ?_
  refine gl_sk 936 (nI (5 * k)) 1 dL_law_930 dL_law_931 dL_law_933 dL_law_934 dL_law_935 rfl rfl (by decide) h1 ?_
  refine gl_aload_n 937 dL_law_936 rfl rfl ?_
  obtain ⟨k9, T1, b9, T2, hL, hR, h0, hW, hJ⟩ := q_cost hI (z.2.2 (nI (5 * k) + 1).toNatClampNeg)
  refine gm_callSH 940 [.ref 0, .int (z.2.2 (nI (5 * k) + 1).toNatClampNeg), .ref 145] [] dL_law_937 rfl hL rfl sV_L_law_149 rfl (Nat.le_of_ble_eq_true rfl) (show cl + 1 ≤ 603072 by omega) (show sl + 6 ≤ 7194730 by omega) ?_
  refine gl_istore 942 [(6, .int k9), (5, .int (nI (5 * k))), (4, .ref 146), (3, .ref 145), (2, .ref 115), (1, .ref 0)] dL_law_940 rfl (Nat.le_of_ble_eq_true rfl) (by decide) rfl ?_
  refine gl_aload_n 943 dL_law_942 rfl rfl ?_
  refine gl_sk 949 (nI (5 * k)) 1 dL_law_943 dL_law_944 dL_law_946 dL_law_947 dL_law_948 rfl rfl (by decide) h1 ?_
  refine gm_callV 952 [.int (z.2.2 (nI (5 * k) + 1).toNatClampNeg)] [] dL_law_949 rfl hR rfl sV_L_law_151 rfl ly_115 rfl rfl (Nat.le_of_ble_eq_true rfl) (show cl + 1 + 0 ≤ 603072 by omega) (show sl + 6 + 0 ≤ 7194730 by omega) ?_
  refine gl_istore 954 [(7, .int b9), (6, .int k9), (5, .int (nI (5 * k))), (4, .ref 146), (3, .ref 145), (2, .ref 115), (1, .ref 0)] dL_law_952 rfl (Nat.le_of_ble_eq_true rfl) (by decide) rfl ?_
  refine gl_aload_n 955 dL_law_954 rfl rfl ?_
  refine gm_callV 958 [] [] dL_law_955 rfl (ct_X9_thrown _) rfl sV_L_law_103 rfl ly_115 rfl rfl (Nat.le_of_ble_eq_true rfl) (show cl + 1 + 0 + 0 ≤ 603072 by omega) (show sl + 6 + 0 + 0 ≤ 7194730 by omega) ?_
  refine gl_iload 960 dL_law_958 rfl rfl ?_
  refine gl_icmp_eq 963 965 dL_law_960 rfl (by decide) (fun _ => ?_) (fun q => absurd h0 q)
  refine gl_iload 967 dL_law_965 rfl rfl ?_
  refine gl_if_ne 970 982 dL_law_967 rfl (by decide) (fun _ => ?_) (fun hk0 => ?_)
  · refine gl_goto 1660 dL_law_982 (by decide) ?_
    refine gl_ls [(5, .int (nI (5 * k))), (4, .ref 146), (3, .ref 145), (2, .ref 115), (1, .ref 0)] (List.forall_mem_cons.mpr ⟨rfl, List.forall_mem_cons.mpr ⟨rfl, List.forall_mem_cons.mpr ⟨rfl, List.forall_mem_cons.mpr ⟨rfl, List.forall_mem_cons.mpr ⟨rfl, fun _ h => absurd h List.not_mem_nil⟩⟩⟩⟩⟩) ?_
    exact kn T2 hJ _ _ (show cl + 1 + 0 + 0 ≤ cl + 4 by omega) (show sl + 6 + 0 + 0 ≤ sl + 24 by omega)
  · refine gl_aload_n 971 dL_law_970 rfl rfl ?_
    refine gl_iconst 972 (0) dL_law_971 rfl (by decide) ?_
    refine gm_lald 973 dL_law_972 rfl ly_145 (by unfold vp_in; decide) ?_
    rw [show rL T2 145 (0 : Int32).toNatClampNeg = b9.toInt64 from hW hk0]
    refine gl_iload 975 dL_law_973 rfl rfl ?_
    refine gl_i2l 976 dL_law_975 rfl ?_
    refine gl_lcmp 977 dL_law_976 rfl ?_
    refine gl_if_eq 980 982 dL_law_977 rfl (by decide) (fun _ => ?_) (fun q => absurd (lg_self _) q)
    refine gl_goto 1660 dL_law_982 (by decide) ?_
    refine gl_ls [(5, .int (nI (5 * k))), (4, .ref 146), (3, .ref 145), (2, .ref 115), (1, .ref 0)] (List.forall_mem_cons.mpr ⟨rfl, List.forall_mem_cons.mpr ⟨rfl, List.forall_mem_cons.mpr ⟨rfl, List.forall_mem_cons.mpr ⟨rfl, List.forall_mem_cons.mpr ⟨rfl, fun _ h => absurd h List.not_mem_nil⟩⟩⟩⟩⟩) ?_
    exact kn T2 hJ _ _ (show cl + 1 + 0 + 0 ≤ cl + 4 by omega) (show sl + 6 + 0 + 0 ≤ sl + 24 by omega)

theorem lc_14 {z : Nat × Nat × (Nat → Int32)} {Q : go_Q} {cl sl k : Nat} {S : gS} (hI : Inv S) (h1 : vp_in (nI (5 * k) + 1) z.2.1) (h2 : vp_in (nI (5 * k) + 2) z.2.1) (h3 : vp_in (nI (5 * k) + 3) z.2.1) (h4 : vp_in (nI (5 * k) + 4) z.2.1) (hc : cl + 4 ≤ 603072) (hs : sl + 24 ≤ 7194730) (kn : ∀ T, Inv T → ∀ c2 s2, c2 ≤ cl + 4 → s2 ≤ sl + 24 → Gl z mL_law false Q c2 s2 1660 [(5, .int (nI (5 * k))), (4, .ref 146), (3, .ref 145), (2, .ref 115), (1, .ref 0)] [] (hp T)) : Gl z mL_law false Q cl sl 985 [(5, .int (nI (5 * k))), (4, .ref 146), (3, .ref 145), (2, .ref 115), (1, .ref 0)] [] (hp S) := by
  refine gl_aload_n 986 dL_law_985 rfl rfl ?_
  refine gl_sk 992 (nI (5 * k)) 1 dL_law_986 dL_law_987 dL_law_989 dL_law_990 dL_law_991 rfl rfl (by decide) h1 ?_
  refine gl_aload_n 993 dL_law_992 rfl rfl ?_
  obtain ⟨k9, T1, b9, T2, hL, hR, h0, hW, hJ⟩ := q_total hI (z.2.2 (nI (5 * k) + 1).toNatClampNeg)
  refine gm_callSH 996 [.ref 0, .int (z.2.2 (nI (5 * k) + 1).toNatClampNeg), .ref 145] [] dL_law_993 rfl hL rfl sV_L_law_152 rfl (Nat.le_of_ble_eq_true rfl) (show cl + 1 ≤ 603072 by omega) (show sl + 6 ≤ 7194730 by omega) ?_
  refine gl_istore 998 [(6, .int k9), (5, .int (nI (5 * k))), (4, .ref 146), (3, .ref 145), (2, .ref 115), (1, .ref 0)] dL_law_996 rfl (Nat.le_of_ble_eq_true rfl) (by decide) rfl ?_
  refine gl_aload_n 999 dL_law_998 rfl rfl ?_
  refine gl_sk 1005 (nI (5 * k)) 1 dL_law_999 dL_law_1000 dL_law_1002 dL_law_1003 dL_law_1004 rfl rfl (by decide) h1 ?_
  refine gm_callV 1008 [.int (z.2.2 (nI (5 * k) + 1).toNatClampNeg)] [] dL_law_1005 rfl hR rfl sV_L_law_154 rfl ly_115 rfl rfl (Nat.le_of_ble_eq_true rfl) (show cl + 1 + 0 ≤ 603072 by omega) (show sl + 6 + 0 ≤ 7194730 by omega) ?_
  refine gl_istore 1010 [(7, .int b9), (6, .int k9), (5, .int (nI (5 * k))), (4, .ref 146), (3, .ref 145), (2, .ref 115), (1, .ref 0)] dL_law_1008 rfl (Nat.le_of_ble_eq_true rfl) (by decide) rfl ?_
  refine gl_aload_n 1011 dL_law_1010 rfl rfl ?_
  refine gm_callV 1014 [] [] dL_law_1011 rfl (ct_X9_thrown _) rfl sV_L_law_103 rfl ly_115 rfl rfl (Nat.le_of_ble_eq_true rfl) (show cl + 1 + 0 + 0 ≤ 603072 by omega) (show sl + 6 + 0 + 0 ≤ 7194730 by omega) ?_
  refine gl_iload 1016 dL_law_1014 rfl rfl ?_
  refine gl_icmp_eq 1019 1021 dL_law_1016 rfl (by decide) (fun _ => ?_) (fun q => absurd h0 q)
  refine gl_iload 1023 dL_law_1021 rfl rfl ?_
  refine gl_if_ne 1026 1038 dL_law_1023 rfl (by decide) (fun _ => ?_) (fun hk0 => ?_)
  · refine gl_goto 1660 dL_law_1038 (by decide) ?_
    refine gl_ls [(5, .int (nI (5 * k))), (4, .ref 146), (3, .ref 145), (2, .ref 115), (1, .ref 0)] (List.forall_mem_cons.mpr ⟨rfl, List.forall_mem_cons.mpr ⟨rfl, List.forall_mem_cons.mpr ⟨rfl, List.forall_mem_cons.mpr ⟨rfl, List.forall_mem_cons.mpr ⟨rfl, fun _ h => absurd h List.not_mem_nil⟩⟩⟩⟩⟩) ?_
    exact kn T2 hJ _ _ (show cl + 1 + 0 + 0 ≤ cl + 4 by omega) (show sl + 6 + 0 + 0 ≤ sl + 24 by omega)
  · refine gl_aload_n 1027 dL_law_1026 rfl rfl ?_
    refine gl_iconst 1028 (0) dL_law_1027 rfl (by decide) ?_
    refine gm_lald 1029 dL_law_1028 rfl ly_145 (by unfold vp_in; decide) ?_
    rw [show rL T2 145 (0 : Int32).toNatClampNeg = b9.toInt64 from hW hk0]
    refine gl_iload 1031 dL_law_1029 rfl rfl ?_
    refine gl_i2l 1032 dL_law_1031 rfl ?_
    refine gl_lcmp 1033 dL_law_1032 rfl ?_
    refine gl_if_eq 1036 1038 dL_law_1033 rfl (by decide) (fun _ => ?_) (fun q => absurd (lg_self _) q)
    refine gl_goto 1660 dL_law_1038 (by decide) ?_
    refine gl_ls [(5, .int (nI (5 * k))), (4, .ref 146), (3, .ref 145), (2, .ref 115), (1, .ref 0)] (List.forall_mem_cons.mpr ⟨rfl, List.forall_mem_cons.mpr ⟨rfl, List.forall_mem_cons.mpr ⟨rfl, List.forall_mem_cons.mpr ⟨rfl, List.forall_mem_cons.mpr ⟨rfl, fun _ h => absurd h List.not_mem_nil⟩⟩⟩⟩⟩) ?_
    exact kn T2 hJ _ _ (show cl + 1 + 0 + 0 ≤ cl + 4 by omega) (show sl + 6 + 0 + 0 ≤ sl + 24 by omega)

theorem lc_15 {z : Nat × Nat × (Nat → Int32)} {Q : go_Q} {cl sl k : Nat} {S : gS} (hI : Inv S) (h1 : vp_in (nI (5 * k) + 1) z.2.1) (h2 : vp_in (nI (5 * k) + 2) z.2.1) (h3 : vp_in (nI (5 * k) + 3) z.2.1) (h4 : vp_in (nI (5 * k) + 4) z.2.1) (hc : cl + 4 ≤ 603072) (hs : sl + 24 ≤ 7194730) (kn : ∀ T, Inv T → ∀ c2 s2, c2 ≤ cl + 4 → s2 ≤ sl + 24 → Gl z mL_law false Q c2 s2 1660 [(5, .int (nI (5 * k))), (4, .ref 146), (3, .ref 145), (2, .ref 115), (1, .ref 0)] [] (hp T)) : Gl z mL_law false Q cl sl 1041 [(5, .int (nI (5 * k))), (4, .ref 146), (3, .ref 145), (2, .ref 115), (1, .ref 0)] [] (hp S) := by
  refine gl_aload_n 1042 dL_law_1041 rfl rfl ?_
  refine gl_aload 1044 dL_law_1042 rfl rfl ?_
  obtain ⟨k9, T1, b9, T2, hL, hR, h0, hW, hJ⟩ := q_share hI
  refine gm_callSH 1047 [.ref 0, .ref 146] [] dL_law_1044 rfl hL rfl sV_L_law_155 rfl (Nat.le_of_ble_eq_true rfl) (show cl + 1 ≤ 603072 by omega) (show sl + 6 ≤ 7194730 by omega) ?_
  refine gl_istore 1049 [(6, .int k9), (5, .int (nI (5 * k))), (4, .ref 146), (3, .ref 145), (2, .ref 115), (1, .ref 0)] dL_law_1047 rfl (Nat.le_of_ble_eq_true rfl) (by decide) rfl ?_
  refine gl_aload_n 1050 dL_law_1049 rfl rfl ?_
  refine gm_callV 1053 [] [] dL_law_1050 rfl hR rfl sV_L_law_158 rfl ly_115 rfl rfl (Nat.le_of_ble_eq_true rfl) (show cl + 1 + 0 ≤ 603072 by omega) (show sl + 6 + 0 ≤ 7194730 by omega) ?_
  refine gl_dstore 1055 [(7, .double b9), (6, .int k9), (5, .int (nI (5 * k))), (4, .ref 146), (3, .ref 145), (2, .ref 115), (1, .ref 0)] dL_law_1053 rfl (Nat.le_of_ble_eq_true rfl) (by decide) rfl ?_
  refine gl_aload_n 1056 dL_law_1055 rfl rfl ?_
  refine gm_callV 1059 [] [] dL_law_1056 rfl (ct_X9_thrown _) rfl sV_L_law_103 rfl ly_115 rfl rfl (Nat.le_of_ble_eq_true rfl) (show cl + 1 + 0 + 0 ≤ 603072 by omega) (show sl + 6 + 0 + 0 ≤ 7194730 by omega) ?_
  refine gl_iload 1061 dL_law_1059 rfl rfl ?_
  refine gl_icmp_eq 1064 1066 dL_law_1061 rfl (by decide) (fun _ => ?_) (fun q => absurd h0 q)
  refine gl_iload 1068 dL_law_1066 rfl rfl ?_
  refine gl_if_ne 1071 1103 dL_law_1068 rfl (by decide) (fun _ => ?_) (fun hk0 => ?_)
  · refine gl_goto 1660 dL_law_1103 (by decide) ?_
    refine gl_ls [(5, .int (nI (5 * k))), (4, .ref 146), (3, .ref 145), (2, .ref 115), (1, .ref 0)] (List.forall_mem_cons.mpr ⟨rfl, List.forall_mem_cons.mpr ⟨rfl, List.forall_mem_cons.mpr ⟨rfl, List.forall_mem_cons.mpr ⟨rfl, List.forall_mem_cons.mpr ⟨rfl, fun _ h => absurd h List.not_mem_nil⟩⟩⟩⟩⟩) ?_
    exact kn T2 hJ _ _ (show cl + 1 + 0 + 0 ≤ cl + 4 by omega) (show sl + 6 + 0 + 0 ≤ sl + 24 by omega)
  · refine gl_aload 1073 dL_law_1071 rfl rfl ?_
    refine gl_iconst 1074 (0) dL_law_1073 rfl (by decide) ?_
    refine gm_dald 1075 dL_law_1074 rfl ly_146 (by unfold vp_in; decide) ?_
    rw [show rD T2 146 (0 : Int32).toNatClampNeg = b9 from (hW hk0).1]
    refine gl_dload 1077 dL_law_1075 rfl rfl ?_
    refine gl_dcmp 1078 dL_law_1077 rfl ?_
    refine gl_if_eq 1081 1103 dL_law_1078 rfl (by decide) (fun _ => ?_) (fun q => absurd (by rw [(hW hk0).2]; rfl) q)
    refine gl_goto 1660 dL_law_1103 (by decide) ?_
    refine gl_ls [(5, .int (nI (5 * k))), (4, .ref 146), (3, .ref 145), (2, .ref 115), (1, .ref 0)] (List.forall_mem_cons.mpr ⟨rfl, List.forall_mem_cons.mpr ⟨rfl, List.forall_mem_cons.mpr ⟨rfl, List.forall_mem_cons.mpr ⟨rfl, List.forall_mem_cons.mpr ⟨rfl, fun _ h => absurd h List.not_mem_nil⟩⟩⟩⟩⟩) ?_
    exact kn T2 hJ _ _ (show cl + 1 + 0 + 0 ≤ cl + 4 by omega) (show sl + 6 + 0 + 0 ≤ sl + 24 by omega)

theorem lc_16 {z : Nat × Nat × (Nat → Int32)} {Q : go_Q} {cl sl k : Nat} {S : gS} (hI : Inv S) (h1 : vp_in (nI (5 * k) + 1) z.2.1) (h2 : vp_in (nI (5 * k) + 2) z.2.1) (h3 : vp_in (nI (5 * k) + 3) z.2.1) (h4 : vp_in (nI (5 * k) + 4) z.2.1) (hc : cl + 4 ≤ 603072) (hs : sl + 24 ≤ 7194730) (kn : ∀ T, Inv T → ∀ c2 s2, c2 ≤ cl + 4 → s2 ≤ sl + 24 → Gl z mL_law false Q c2 s2 1660 [(5, .int (nI (5 * k))), (4, .ref 146), (3, .ref 145), (2, .ref 115), (1, .ref 0)] [] (hp T)) : Gl z mL_law false Q cl sl 1106 [(5, .int (nI (5 * k))), (4, .ref 146), (3, .ref 145), (2, .ref 115), (1, .ref 0)] [] (hp S) := by
  refine gl_aload_n 1107 dL_law_1106 rfl rfl ?_
  obtain ⟨b9, T1, T2, hL, hR, hJ⟩ := q_units hI
  refine gm_callV 1110 [] [] dL_law_1107 rfl hL rfl sV_L_law_159 rfl ly_0 rfl rfl (Nat.le_of_ble_eq_true rfl) (show cl + 0 ≤ 603072 by omega) (show sl + 0 ≤ 7194730 by omega) ?_
  refine gl_aload_n 1111 dL_law_1110 rfl rfl ?_
  refine gm_callV 1114 [] [.int b9] dL_law_1111 rfl hR rfl sV_L_law_162 rfl ly_115 rfl rfl (Nat.le_of_ble_eq_true rfl) (show cl + 0 + 0 ≤ 603072 by omega) (show sl + 0 + 0 ≤ 7194730 by omega) ?_
  refine gl_icmp_eq 1117 1660 dL_law_1114 rfl (by decide) (fun _ => ?_) (fun q => absurd rfl q)
  refine gl_ls [(5, .int (nI (5 * k))), (4, .ref 146), (3, .ref 145), (2, .ref 115), (1, .ref 0)] (List.forall_mem_cons.mpr ⟨rfl, List.forall_mem_cons.mpr ⟨rfl, List.forall_mem_cons.mpr ⟨rfl, List.forall_mem_cons.mpr ⟨rfl, List.forall_mem_cons.mpr ⟨rfl, fun _ h => absurd h List.not_mem_nil⟩⟩⟩⟩⟩) ?_
  exact kn T2 hJ _ _ (show cl + 0 + 0 ≤ cl + 4 by omega) (show sl + 0 + 0 ≤ sl + 24 by omega)

theorem lc_17 {z : Nat × Nat × (Nat → Int32)} {Q : go_Q} {cl sl k : Nat} {S : gS} (hI : Inv S) (h1 : vp_in (nI (5 * k) + 1) z.2.1) (h2 : vp_in (nI (5 * k) + 2) z.2.1) (h3 : vp_in (nI (5 * k) + 3) z.2.1) (h4 : vp_in (nI (5 * k) + 4) z.2.1) (hc : cl + 4 ≤ 603072) (hs : sl + 24 ≤ 7194730) (kn : ∀ T, Inv T → ∀ c2 s2, c2 ≤ cl + 4 → s2 ≤ sl + 24 → Gl z mL_law false Q c2 s2 1660 [(5, .int (nI (5 * k))), (4, .ref 146), (3, .ref 145), (2, .ref 115), (1, .ref 0)] [] (hp T)) : Gl z mL_law false Q cl sl 1119 [(5, .int (nI (5 * k))), (4, .ref 146), (3, .ref 145), (2, .ref 115), (1, .ref 0)] [] (hp S) := by
  refine gl_aload_n 1120 dL_law_1119 rfl rfl ?_
  refine gl_sk 1126 (nI (5 * k)) 1 dL_law_1120 dL_law_1121 dL_law_1123 dL_law_1124 dL_law_1125 rfl rfl (by decide) h1 ?_
  refine gl_sk 1132 (nI (5 * k)) 2 dL_law_1126 dL_law_1127 dL_law_1129 dL_law_1130 dL_law_1131 rfl rfl (by decide) h2 ?_
  refine gl_aload_n 1133 dL_law_1132 rfl rfl ?_
  obtain ⟨k9, T1, b9, T2, hL, hR, h0, hW, hJ⟩ := q_unit hI (z.2.2 (nI (5 * k) + 1).toNatClampNeg) (z.2.2 (nI (5 * k) + 2).toNatClampNeg)
  refine gm_callSH 1136 [.ref 0, .int (z.2.2 (nI (5 * k) + 1).toNatClampNeg), .int (z.2.2 (nI (5 * k) + 2).toNatClampNeg), .ref 145] [] dL_law_1133 rfl hL rfl sV_L_law_163 rfl (Nat.le_of_ble_eq_true rfl) (show cl + 2 ≤ 603072 by omega) (show sl + 12 ≤ 7194730 by omega) ?_
  refine gl_istore 1138 [(6, .int k9), (5, .int (nI (5 * k))), (4, .ref 146), (3, .ref 145), (2, .ref 115), (1, .ref 0)] dL_law_1136 rfl (Nat.le_of_ble_eq_true rfl) (by decide) rfl ?_
  refine gl_aload_n 1139 dL_law_1138 rfl rfl ?_
  refine gl_sk 1145 (nI (5 * k)) 1 dL_law_1139 dL_law_1140 dL_law_1142 dL_law_1143 dL_law_1144 rfl rfl (by decide) h1 ?_
  refine gl_sk 1151 (nI (5 * k)) 2 dL_law_1145 dL_law_1146 dL_law_1148 dL_law_1149 dL_law_1150 rfl rfl (by decide) h2 ?_
  refine gm_callV 1154 [.int (z.2.2 (nI (5 * k) + 1).toNatClampNeg), .int (z.2.2 (nI (5 * k) + 2).toNatClampNeg)] [] dL_law_1151 rfl hR rfl sV_L_law_165 rfl ly_115 rfl rfl (Nat.le_of_ble_eq_true rfl) (show cl + 2 + 0 ≤ 603072 by omega) (show sl + 12 + 0 ≤ 7194730 by omega) ?_
  refine gl_istore 1156 [(7, .int b9), (6, .int k9), (5, .int (nI (5 * k))), (4, .ref 146), (3, .ref 145), (2, .ref 115), (1, .ref 0)] dL_law_1154 rfl (Nat.le_of_ble_eq_true rfl) (by decide) rfl ?_
  refine gl_aload_n 1157 dL_law_1156 rfl rfl ?_
  refine gm_callV 1160 [] [] dL_law_1157 rfl (ct_X9_thrown _) rfl sV_L_law_103 rfl ly_115 rfl rfl (Nat.le_of_ble_eq_true rfl) (show cl + 2 + 0 + 0 ≤ 603072 by omega) (show sl + 12 + 0 + 0 ≤ 7194730 by omega) ?_
  refine gl_iload 1162 dL_law_1160 rfl rfl ?_
  refine gl_icmp_eq 1165 1167 dL_law_1162 rfl (by decide) (fun _ => ?_) (fun q => absurd h0 q)
  refine gl_iload 1169 dL_law_1167 rfl rfl ?_
  refine gl_if_ne 1172 1184 dL_law_1169 rfl (by decide) (fun _ => ?_) (fun hk0 => ?_)
  · refine gl_goto 1660 dL_law_1184 (by decide) ?_
    refine gl_ls [(5, .int (nI (5 * k))), (4, .ref 146), (3, .ref 145), (2, .ref 115), (1, .ref 0)] (List.forall_mem_cons.mpr ⟨rfl, List.forall_mem_cons.mpr ⟨rfl, List.forall_mem_cons.mpr ⟨rfl, List.forall_mem_cons.mpr ⟨rfl, List.forall_mem_cons.mpr ⟨rfl, fun _ h => absurd h List.not_mem_nil⟩⟩⟩⟩⟩) ?_
    exact kn T2 hJ _ _ (show cl + 2 + 0 + 0 ≤ cl + 4 by omega) (show sl + 12 + 0 + 0 ≤ sl + 24 by omega)
  · refine gl_aload_n 1173 dL_law_1172 rfl rfl ?_
    refine gl_iconst 1174 (0) dL_law_1173 rfl (by decide) ?_
    refine gm_lald 1175 dL_law_1174 rfl ly_145 (by unfold vp_in; decide) ?_
    rw [show rL T2 145 (0 : Int32).toNatClampNeg = b9.toInt64 from hW hk0]
    refine gl_iload 1177 dL_law_1175 rfl rfl ?_
    refine gl_i2l 1178 dL_law_1177 rfl ?_
    refine gl_lcmp 1179 dL_law_1178 rfl ?_
    refine gl_if_eq 1182 1184 dL_law_1179 rfl (by decide) (fun _ => ?_) (fun q => absurd (lg_self _) q)
    refine gl_goto 1660 dL_law_1184 (by decide) ?_
    refine gl_ls [(5, .int (nI (5 * k))), (4, .ref 146), (3, .ref 145), (2, .ref 115), (1, .ref 0)] (List.forall_mem_cons.mpr ⟨rfl, List.forall_mem_cons.mpr ⟨rfl, List.forall_mem_cons.mpr ⟨rfl, List.forall_mem_cons.mpr ⟨rfl, List.forall_mem_cons.mpr ⟨rfl, fun _ h => absurd h List.not_mem_nil⟩⟩⟩⟩⟩) ?_
    exact kn T2 hJ _ _ (show cl + 2 + 0 + 0 ≤ cl + 4 by omega) (show sl + 12 + 0 + 0 ≤ sl + 24 by omega)

theorem lc_18 {z : Nat × Nat × (Nat → Int32)} {Q : go_Q} {cl sl k : Nat} {S : gS} (hI : Inv S) (h1 : vp_in (nI (5 * k) + 1) z.2.1) (h2 : vp_in (nI (5 * k) + 2) z.2.1) (h3 : vp_in (nI (5 * k) + 3) z.2.1) (h4 : vp_in (nI (5 * k) + 4) z.2.1) (hc : cl + 4 ≤ 603072) (hs : sl + 24 ≤ 7194730) (kn : ∀ T, Inv T → ∀ c2 s2, c2 ≤ cl + 4 → s2 ≤ sl + 24 → Gl z mL_law false Q c2 s2 1660 [(5, .int (nI (5 * k))), (4, .ref 146), (3, .ref 145), (2, .ref 115), (1, .ref 0)] [] (hp T)) : Gl z mL_law false Q cl sl 1187 [(5, .int (nI (5 * k))), (4, .ref 146), (3, .ref 145), (2, .ref 115), (1, .ref 0)] [] (hp S) := by
  refine gl_aload_n 1188 dL_law_1187 rfl rfl ?_
  refine gl_sk 1194 (nI (5 * k)) 1 dL_law_1188 dL_law_1189 dL_law_1191 dL_law_1192 dL_law_1193 rfl rfl (by decide) h1 ?_
  refine gl_aload_n 1195 dL_law_1194 rfl rfl ?_
  obtain ⟨k9, T1, b9, T2, hL, hR, h0, hW, hJ⟩ := q_unitOf hI (z.2.2 (nI (5 * k) + 1).toNatClampNeg)
  refine gm_callSH 1198 [.ref 0, .int (z.2.2 (nI (5 * k) + 1).toNatClampNeg), .ref 145] [] dL_law_1195 rfl hL rfl sV_L_law_166 rfl (Nat.le_of_ble_eq_true rfl) (show cl + 2 ≤ 603072 by omega) (show sl + 12 ≤ 7194730 by omega) ?_
  refine gl_istore 1200 [(6, .int k9), (5, .int (nI (5 * k))), (4, .ref 146), (3, .ref 145), (2, .ref 115), (1, .ref 0)] dL_law_1198 rfl (Nat.le_of_ble_eq_true rfl) (by decide) rfl ?_
  refine gl_aload_n 1201 dL_law_1200 rfl rfl ?_
  refine gl_sk 1207 (nI (5 * k)) 1 dL_law_1201 dL_law_1202 dL_law_1204 dL_law_1205 dL_law_1206 rfl rfl (by decide) h1 ?_
  refine gm_callV 1210 [.int (z.2.2 (nI (5 * k) + 1).toNatClampNeg)] [] dL_law_1207 rfl hR rfl sV_L_law_168 rfl ly_115 rfl rfl (Nat.le_of_ble_eq_true rfl) (show cl + 2 + 0 ≤ 603072 by omega) (show sl + 12 + 0 ≤ 7194730 by omega) ?_
  refine gl_istore 1212 [(7, .int b9), (6, .int k9), (5, .int (nI (5 * k))), (4, .ref 146), (3, .ref 145), (2, .ref 115), (1, .ref 0)] dL_law_1210 rfl (Nat.le_of_ble_eq_true rfl) (by decide) rfl ?_
  refine gl_aload_n 1213 dL_law_1212 rfl rfl ?_
  refine gm_callV 1216 [] [] dL_law_1213 rfl (ct_X9_thrown _) rfl sV_L_law_103 rfl ly_115 rfl rfl (Nat.le_of_ble_eq_true rfl) (show cl + 2 + 0 + 0 ≤ 603072 by omega) (show sl + 12 + 0 + 0 ≤ 7194730 by omega) ?_
  refine gl_iload 1218 dL_law_1216 rfl rfl ?_
  refine gl_icmp_eq 1221 1223 dL_law_1218 rfl (by decide) (fun _ => ?_) (fun q => absurd h0 q)
  refine gl_iload 1225 dL_law_1223 rfl rfl ?_
  refine gl_if_ne 1228 1240 dL_law_1225 rfl (by decide) (fun _ => ?_) (fun hk0 => ?_)
  · refine gl_goto 1660 dL_law_1240 (by decide) ?_
    refine gl_ls [(5, .int (nI (5 * k))), (4, .ref 146), (3, .ref 145), (2, .ref 115), (1, .ref 0)] (List.forall_mem_cons.mpr ⟨rfl, List.forall_mem_cons.mpr ⟨rfl, List.forall_mem_cons.mpr ⟨rfl, List.forall_mem_cons.mpr ⟨rfl, List.forall_mem_cons.mpr ⟨rfl, fun _ h => absurd h List.not_mem_nil⟩⟩⟩⟩⟩) ?_
    exact kn T2 hJ _ _ (show cl + 2 + 0 + 0 ≤ cl + 4 by omega) (show sl + 12 + 0 + 0 ≤ sl + 24 by omega)
  · refine gl_aload_n 1229 dL_law_1228 rfl rfl ?_
    refine gl_iconst 1230 (0) dL_law_1229 rfl (by decide) ?_
    refine gm_lald 1231 dL_law_1230 rfl ly_145 (by unfold vp_in; decide) ?_
    rw [show rL T2 145 (0 : Int32).toNatClampNeg = b9.toInt64 from hW hk0]
    refine gl_iload 1233 dL_law_1231 rfl rfl ?_
    refine gl_i2l 1234 dL_law_1233 rfl ?_
    refine gl_lcmp 1235 dL_law_1234 rfl ?_
    refine gl_if_eq 1238 1240 dL_law_1235 rfl (by decide) (fun _ => ?_) (fun q => absurd (lg_self _) q)
    refine gl_goto 1660 dL_law_1240 (by decide) ?_
    refine gl_ls [(5, .int (nI (5 * k))), (4, .ref 146), (3, .ref 145), (2, .ref 115), (1, .ref 0)] (List.forall_mem_cons.mpr ⟨rfl, List.forall_mem_cons.mpr ⟨rfl, List.forall_mem_cons.mpr ⟨rfl, List.forall_mem_cons.mpr ⟨rfl, List.forall_mem_cons.mpr ⟨rfl, fun _ h => absurd h List.not_mem_nil⟩⟩⟩⟩⟩) ?_
    exact kn T2 hJ _ _ (show cl + 2 + 0 + 0 ≤ cl + 4 by omega) (show sl + 12 + 0 + 0 ≤ sl + 24 by omega)

theorem lc_19 {z : Nat × Nat × (Nat → Int32)} {Q : go_Q} {cl sl k : Nat} {S : gS} (hI : Inv S) (h1 : vp_in (nI (5 * k) + 1) z.2.1) (h2 : vp_in (nI (5 * k) + 2) z.2.1) (h3 : vp_in (nI (5 * k) + 3) z.2.1) (h4 : vp_in (nI (5 * k) + 4) z.2.1) (hc : cl + 4 ≤ 603072) (hs : sl + 24 ≤ 7194730) (kn : ∀ T, Inv T → ∀ c2 s2, c2 ≤ cl + 4 → s2 ≤ sl + 24 → Gl z mL_law false Q c2 s2 1660 [(5, .int (nI (5 * k))), (4, .ref 146), (3, .ref 145), (2, .ref 115), (1, .ref 0)] [] (hp T)) : Gl z mL_law false Q cl sl 1243 [(5, .int (nI (5 * k))), (4, .ref 146), (3, .ref 145), (2, .ref 115), (1, .ref 0)] [] (hp S) := by
  refine gl_aload_n 1244 dL_law_1243 rfl rfl ?_
  refine gl_sk 1250 (nI (5 * k)) 1 dL_law_1244 dL_law_1245 dL_law_1247 dL_law_1248 dL_law_1249 rfl rfl (by decide) h1 ?_
  refine gl_sk 1256 (nI (5 * k)) 2 dL_law_1250 dL_law_1251 dL_law_1253 dL_law_1254 dL_law_1255 rfl rfl (by decide) h2 ?_
  refine gl_aload_n 1257 dL_law_1256 rfl rfl ?_
  obtain ⟨k9, T1, b9, T2, hL, hR, h0, hW, hJ⟩ := q_setInput hI (z.2.2 (nI (5 * k) + 1).toNatClampNeg) (z.2.2 (nI (5 * k) + 2).toNatClampNeg)
  refine gm_callSH 1260 [.ref 0, .int (z.2.2 (nI (5 * k) + 1).toNatClampNeg), .int (z.2.2 (nI (5 * k) + 2).toNatClampNeg), .ref 145] [] dL_law_1257 rfl hL rfl sV_L_law_169 rfl (Nat.le_of_ble_eq_true rfl) (show cl + 3 ≤ 603072 by omega) (show sl + 18 ≤ 7194730 by omega) ?_
  refine gl_istore 1262 [(6, .int k9), (5, .int (nI (5 * k))), (4, .ref 146), (3, .ref 145), (2, .ref 115), (1, .ref 0)] dL_law_1260 rfl (Nat.le_of_ble_eq_true rfl) (by decide) rfl ?_
  refine gl_aload_n 1263 dL_law_1262 rfl rfl ?_
  refine gl_sk 1269 (nI (5 * k)) 1 dL_law_1263 dL_law_1264 dL_law_1266 dL_law_1267 dL_law_1268 rfl rfl (by decide) h1 ?_
  refine gl_sk 1275 (nI (5 * k)) 2 dL_law_1269 dL_law_1270 dL_law_1272 dL_law_1273 dL_law_1274 rfl rfl (by decide) h2 ?_
  refine gm_callV 1278 [.int (z.2.2 (nI (5 * k) + 1).toNatClampNeg), .int (z.2.2 (nI (5 * k) + 2).toNatClampNeg)] [] dL_law_1275 rfl hR rfl sV_L_law_171 rfl ly_115 rfl rfl (Nat.le_of_ble_eq_true rfl) (show cl + 3 + 0 ≤ 603072 by omega) (show sl + 18 + 0 ≤ 7194730 by omega) ?_
  refine gl_istore 1280 [(7, .int b9), (6, .int k9), (5, .int (nI (5 * k))), (4, .ref 146), (3, .ref 145), (2, .ref 115), (1, .ref 0)] dL_law_1278 rfl (Nat.le_of_ble_eq_true rfl) (by decide) rfl ?_
  refine gl_aload_n 1281 dL_law_1280 rfl rfl ?_
  refine gm_callV 1284 [] [] dL_law_1281 rfl (ct_X9_thrown _) rfl sV_L_law_103 rfl ly_115 rfl rfl (Nat.le_of_ble_eq_true rfl) (show cl + 3 + 0 + 0 ≤ 603072 by omega) (show sl + 18 + 0 + 0 ≤ 7194730 by omega) ?_
  refine gl_iload 1286 dL_law_1284 rfl rfl ?_
  refine gl_icmp_eq 1289 1291 dL_law_1286 rfl (by decide) (fun _ => ?_) (fun q => absurd h0 q)
  refine gl_iload 1293 dL_law_1291 rfl rfl ?_
  refine gl_if_ne 1296 1308 dL_law_1293 rfl (by decide) (fun _ => ?_) (fun hk0 => ?_)
  · refine gl_goto 1660 dL_law_1308 (by decide) ?_
    refine gl_ls [(5, .int (nI (5 * k))), (4, .ref 146), (3, .ref 145), (2, .ref 115), (1, .ref 0)] (List.forall_mem_cons.mpr ⟨rfl, List.forall_mem_cons.mpr ⟨rfl, List.forall_mem_cons.mpr ⟨rfl, List.forall_mem_cons.mpr ⟨rfl, List.forall_mem_cons.mpr ⟨rfl, fun _ h => absurd h List.not_mem_nil⟩⟩⟩⟩⟩) ?_
    exact kn T2 hJ _ _ (show cl + 3 + 0 + 0 ≤ cl + 4 by omega) (show sl + 18 + 0 + 0 ≤ sl + 24 by omega)
  · refine gl_aload_n 1297 dL_law_1296 rfl rfl ?_
    refine gl_iconst 1298 (0) dL_law_1297 rfl (by decide) ?_
    refine gm_lald 1299 dL_law_1298 rfl ly_145 (by unfold vp_in; decide) ?_
    rw [show rL T2 145 (0 : Int32).toNatClampNeg = b9.toInt64 from hW hk0]
    refine gl_iload 1301 dL_law_1299 rfl rfl ?_
    refine gl_i2l 1302 dL_law_1301 rfl ?_
    refine gl_lcmp 1303 dL_law_1302 rfl ?_
    refine gl_if_eq 1306 1308 dL_law_1303 rfl (by decide) (fun _ => ?_) (fun q => absurd (lg_self _) q)
    refine gl_goto 1660 dL_law_1308 (by decide) ?_
    refine gl_ls [(5, .int (nI (5 * k))), (4, .ref 146), (3, .ref 145), (2, .ref 115), (1, .ref 0)] (List.forall_mem_cons.mpr ⟨rfl, List.forall_mem_cons.mpr ⟨rfl, List.forall_mem_cons.mpr ⟨rfl, List.forall_mem_cons.mpr ⟨rfl, List.forall_mem_cons.mpr ⟨rfl, fun _ h => absurd h List.not_mem_nil⟩⟩⟩⟩⟩) ?_
    exact kn T2 hJ _ _ (show cl + 3 + 0 + 0 ≤ cl + 4 by omega) (show sl + 18 + 0 + 0 ≤ sl + 24 by omega)

theorem lc_20 {z : Nat × Nat × (Nat → Int32)} {Q : go_Q} {cl sl k : Nat} {S : gS} (hI : Inv S) (h1 : vp_in (nI (5 * k) + 1) z.2.1) (h2 : vp_in (nI (5 * k) + 2) z.2.1) (h3 : vp_in (nI (5 * k) + 3) z.2.1) (h4 : vp_in (nI (5 * k) + 4) z.2.1) (hc : cl + 4 ≤ 603072) (hs : sl + 24 ≤ 7194730) (kn : ∀ T, Inv T → ∀ c2 s2, c2 ≤ cl + 4 → s2 ≤ sl + 24 → Gl z mL_law false Q c2 s2 1660 [(5, .int (nI (5 * k))), (4, .ref 146), (3, .ref 145), (2, .ref 115), (1, .ref 0)] [] (hp T)) : Gl z mL_law false Q cl sl 1311 [(5, .int (nI (5 * k))), (4, .ref 146), (3, .ref 145), (2, .ref 115), (1, .ref 0)] [] (hp S) := by
  refine gl_aload_n 1312 dL_law_1311 rfl rfl ?_
  refine gl_sk 1318 (nI (5 * k)) 1 dL_law_1312 dL_law_1313 dL_law_1315 dL_law_1316 dL_law_1317 rfl rfl (by decide) h1 ?_
  refine gl_aload_n 1319 dL_law_1318 rfl rfl ?_
  obtain ⟨k9, T1, b9, T2, hL, hR, h0, hW, hJ⟩ := q_run hI (z.2.2 (nI (5 * k) + 1).toNatClampNeg)
  refine gm_callSH 1322 [.ref 0, .int (z.2.2 (nI (5 * k) + 1).toNatClampNeg), .ref 145] [] dL_law_1319 rfl hL rfl sV_L_law_172 rfl (Nat.le_of_ble_eq_true rfl) (show cl + 1 ≤ 603072 by omega) (show sl + 6 ≤ 7194730 by omega) ?_
  refine gl_istore 1324 [(6, .int k9), (5, .int (nI (5 * k))), (4, .ref 146), (3, .ref 145), (2, .ref 115), (1, .ref 0)] dL_law_1322 rfl (Nat.le_of_ble_eq_true rfl) (by decide) rfl ?_
  refine gl_aload_n 1325 dL_law_1324 rfl rfl ?_
  refine gl_sk 1331 (nI (5 * k)) 1 dL_law_1325 dL_law_1326 dL_law_1328 dL_law_1329 dL_law_1330 rfl rfl (by decide) h1 ?_
  refine gm_callV 1334 [.int (z.2.2 (nI (5 * k) + 1).toNatClampNeg)] [] dL_law_1331 rfl hR rfl sV_L_law_174 rfl ly_115 rfl rfl (Nat.le_of_ble_eq_true rfl) (show cl + 1 + 0 ≤ 603072 by omega) (show sl + 6 + 0 ≤ 7194730 by omega) ?_
  refine gl_istore 1336 [(7, .int b9), (6, .int k9), (5, .int (nI (5 * k))), (4, .ref 146), (3, .ref 145), (2, .ref 115), (1, .ref 0)] dL_law_1334 rfl (Nat.le_of_ble_eq_true rfl) (by decide) rfl ?_
  refine gl_aload_n 1337 dL_law_1336 rfl rfl ?_
  refine gm_callV 1340 [] [] dL_law_1337 rfl (ct_X9_thrown _) rfl sV_L_law_103 rfl ly_115 rfl rfl (Nat.le_of_ble_eq_true rfl) (show cl + 1 + 0 + 0 ≤ 603072 by omega) (show sl + 6 + 0 + 0 ≤ 7194730 by omega) ?_
  refine gl_iload 1342 dL_law_1340 rfl rfl ?_
  refine gl_icmp_eq 1345 1347 dL_law_1342 rfl (by decide) (fun _ => ?_) (fun q => absurd h0 q)
  refine gl_iload 1349 dL_law_1347 rfl rfl ?_
  refine gl_if_ne 1352 1364 dL_law_1349 rfl (by decide) (fun _ => ?_) (fun hk0 => ?_)
  · refine gl_goto 1660 dL_law_1364 (by decide) ?_
    refine gl_ls [(5, .int (nI (5 * k))), (4, .ref 146), (3, .ref 145), (2, .ref 115), (1, .ref 0)] (List.forall_mem_cons.mpr ⟨rfl, List.forall_mem_cons.mpr ⟨rfl, List.forall_mem_cons.mpr ⟨rfl, List.forall_mem_cons.mpr ⟨rfl, List.forall_mem_cons.mpr ⟨rfl, fun _ h => absurd h List.not_mem_nil⟩⟩⟩⟩⟩) ?_
    exact kn T2 hJ _ _ (show cl + 1 + 0 + 0 ≤ cl + 4 by omega) (show sl + 6 + 0 + 0 ≤ sl + 24 by omega)
  · refine gl_aload_n 1353 dL_law_1352 rfl rfl ?_
    refine gl_iconst 1354 (0) dL_law_1353 rfl (by decide) ?_
    refine gm_lald 1355 dL_law_1354 rfl ly_145 (by unfold vp_in; decide) ?_
    rw [show rL T2 145 (0 : Int32).toNatClampNeg = b9.toInt64 from hW hk0]
    refine gl_iload 1357 dL_law_1355 rfl rfl ?_
    refine gl_i2l 1358 dL_law_1357 rfl ?_
    refine gl_lcmp 1359 dL_law_1358 rfl ?_
    refine gl_if_eq 1362 1364 dL_law_1359 rfl (by decide) (fun _ => ?_) (fun q => absurd (lg_self _) q)
    refine gl_goto 1660 dL_law_1364 (by decide) ?_
    refine gl_ls [(5, .int (nI (5 * k))), (4, .ref 146), (3, .ref 145), (2, .ref 115), (1, .ref 0)] (List.forall_mem_cons.mpr ⟨rfl, List.forall_mem_cons.mpr ⟨rfl, List.forall_mem_cons.mpr ⟨rfl, List.forall_mem_cons.mpr ⟨rfl, List.forall_mem_cons.mpr ⟨rfl, fun _ h => absurd h List.not_mem_nil⟩⟩⟩⟩⟩) ?_
    exact kn T2 hJ _ _ (show cl + 1 + 0 + 0 ≤ cl + 4 by omega) (show sl + 6 + 0 + 0 ≤ sl + 24 by omega)

theorem lc_21 {z : Nat × Nat × (Nat → Int32)} {Q : go_Q} {cl sl k : Nat} {S : gS} (hI : Inv S) (h1 : vp_in (nI (5 * k) + 1) z.2.1) (h2 : vp_in (nI (5 * k) + 2) z.2.1) (h3 : vp_in (nI (5 * k) + 3) z.2.1) (h4 : vp_in (nI (5 * k) + 4) z.2.1) (hc : cl + 4 ≤ 603072) (hs : sl + 24 ≤ 7194730) (kn : ∀ T, Inv T → ∀ c2 s2, c2 ≤ cl + 4 → s2 ≤ sl + 24 → Gl z mL_law false Q c2 s2 1660 [(5, .int (nI (5 * k))), (4, .ref 146), (3, .ref 145), (2, .ref 115), (1, .ref 0)] [] (hp T)) : Gl z mL_law false Q cl sl 1367 [(5, .int (nI (5 * k))), (4, .ref 146), (3, .ref 145), (2, .ref 115), (1, .ref 0)] [] (hp S) := by
  refine gl_aload_n 1368 dL_law_1367 rfl rfl ?_
  refine gl_sk 1374 (nI (5 * k)) 1 dL_law_1368 dL_law_1369 dL_law_1371 dL_law_1372 dL_law_1373 rfl rfl (by decide) h1 ?_
  refine gl_sk 1380 (nI (5 * k)) 2 dL_law_1374 dL_law_1375 dL_law_1377 dL_law_1378 dL_law_1379 rfl rfl (by decide) h2 ?_
  refine gl_if_eq 1383 1387 dL_law_1380 rfl (by decide) (fun q1380 => ?_) (fun q1380 => ?_)
  · refine gl_iconst 1388 (0) dL_law_1387 rfl (by decide) ?_
    refine gl_aload_n 1389 dL_law_1388 rfl rfl ?_
    obtain ⟨k9, T1, b9, T2, hL, hR, h0, hW, hJ⟩ := q_value hI (z.2.2 (nI (5 * k) + 1).toNatClampNeg) 0 (by decide)
    refine gm_callSH 1392 [.ref 0, .int (z.2.2 (nI (5 * k) + 1).toNatClampNeg), .int 0, .ref 145] [] dL_law_1389 rfl hL rfl sV_L_law_175 rfl (Nat.le_of_ble_eq_true rfl) (show cl + 1 ≤ 603072 by omega) (show sl + 6 ≤ 7194730 by omega) ?_
    refine gl_istore 1394 [(6, .int k9), (5, .int (nI (5 * k))), (4, .ref 146), (3, .ref 145), (2, .ref 115), (1, .ref 0)] dL_law_1392 rfl (Nat.le_of_ble_eq_true rfl) (by decide) rfl ?_
    refine gl_aload_n 1395 dL_law_1394 rfl rfl ?_
    refine gl_sk 1401 (nI (5 * k)) 1 dL_law_1395 dL_law_1396 dL_law_1398 dL_law_1399 dL_law_1400 rfl rfl (by decide) h1 ?_
    refine gl_sk 1407 (nI (5 * k)) 2 dL_law_1401 dL_law_1402 dL_law_1404 dL_law_1405 dL_law_1406 rfl rfl (by decide) h2 ?_
    refine gl_if_eq 1410 1414 dL_law_1407 rfl (by decide) (fun _ => ?_) (fun q => absurd q1380 q)
    refine gl_iconst 1415 (0) dL_law_1414 rfl (by decide) ?_
    refine gm_callV 1418 [.int (z.2.2 (nI (5 * k) + 1).toNatClampNeg), .int 0] [] dL_law_1415 rfl hR rfl sV_L_law_177 rfl ly_115 rfl rfl (Nat.le_of_ble_eq_true rfl) (show cl + 1 + 0 ≤ 603072 by omega) (show sl + 6 + 0 ≤ 7194730 by omega) ?_
    refine gl_istore 1420 [(7, .int b9), (6, .int k9), (5, .int (nI (5 * k))), (4, .ref 146), (3, .ref 145), (2, .ref 115), (1, .ref 0)] dL_law_1418 rfl (Nat.le_of_ble_eq_true rfl) (by decide) rfl ?_
    refine gl_aload_n 1421 dL_law_1420 rfl rfl ?_
    refine gm_callV 1424 [] [] dL_law_1421 rfl (ct_X9_thrown _) rfl sV_L_law_103 rfl ly_115 rfl rfl (Nat.le_of_ble_eq_true rfl) (show cl + 1 + 0 + 0 ≤ 603072 by omega) (show sl + 6 + 0 + 0 ≤ 7194730 by omega) ?_
    refine gl_iload 1426 dL_law_1424 rfl rfl ?_
    refine gl_icmp_eq 1429 1431 dL_law_1426 rfl (by decide) (fun _ => ?_) (fun q => absurd h0 q)
    refine gl_iload 1433 dL_law_1431 rfl rfl ?_
    refine gl_if_ne 1436 1448 dL_law_1433 rfl (by decide) (fun _ => ?_) (fun hk0 => ?_)
    · refine gl_goto 1660 dL_law_1448 (by decide) ?_
      refine gl_ls [(5, .int (nI (5 * k))), (4, .ref 146), (3, .ref 145), (2, .ref 115), (1, .ref 0)] (List.forall_mem_cons.mpr ⟨rfl, List.forall_mem_cons.mpr ⟨rfl, List.forall_mem_cons.mpr ⟨rfl, List.forall_mem_cons.mpr ⟨rfl, List.forall_mem_cons.mpr ⟨rfl, fun _ h => absurd h List.not_mem_nil⟩⟩⟩⟩⟩) ?_
      exact kn T2 hJ _ _ (show cl + 1 + 0 + 0 ≤ cl + 4 by omega) (show sl + 6 + 0 + 0 ≤ sl + 24 by omega)
    · refine gl_aload_n 1437 dL_law_1436 rfl rfl ?_
      refine gl_iconst 1438 (0) dL_law_1437 rfl (by decide) ?_
      refine gm_lald 1439 dL_law_1438 rfl ly_145 (by unfold vp_in; decide) ?_
      rw [show rL T2 145 (0 : Int32).toNatClampNeg = b9.toInt64 from hW hk0]
      refine gl_iload 1441 dL_law_1439 rfl rfl ?_
      refine gl_i2l 1442 dL_law_1441 rfl ?_
      refine gl_lcmp 1443 dL_law_1442 rfl ?_
      refine gl_if_eq 1446 1448 dL_law_1443 rfl (by decide) (fun _ => ?_) (fun q => absurd (lg_self _) q)
      refine gl_goto 1660 dL_law_1448 (by decide) ?_
      refine gl_ls [(5, .int (nI (5 * k))), (4, .ref 146), (3, .ref 145), (2, .ref 115), (1, .ref 0)] (List.forall_mem_cons.mpr ⟨rfl, List.forall_mem_cons.mpr ⟨rfl, List.forall_mem_cons.mpr ⟨rfl, List.forall_mem_cons.mpr ⟨rfl, List.forall_mem_cons.mpr ⟨rfl, fun _ h => absurd h List.not_mem_nil⟩⟩⟩⟩⟩) ?_
      exact kn T2 hJ _ _ (show cl + 1 + 0 + 0 ≤ cl + 4 by omega) (show sl + 6 + 0 + 0 ≤ sl + 24 by omega)
  · refine gl_iconst 1384 (1) dL_law_1383 rfl (by decide) ?_
    refine gl_goto 1388 dL_law_1384 (by decide) ?_
    refine gl_aload_n 1389 dL_law_1388 rfl rfl ?_
    obtain ⟨k9, T1, b9, T2, hL, hR, h0, hW, hJ⟩ := q_value hI (z.2.2 (nI (5 * k) + 1).toNatClampNeg) 1 (by decide)
    refine gm_callSH 1392 [.ref 0, .int (z.2.2 (nI (5 * k) + 1).toNatClampNeg), .int 1, .ref 145] [] dL_law_1389 rfl hL rfl sV_L_law_175 rfl (Nat.le_of_ble_eq_true rfl) (show cl + 1 ≤ 603072 by omega) (show sl + 6 ≤ 7194730 by omega) ?_
    refine gl_istore 1394 [(6, .int k9), (5, .int (nI (5 * k))), (4, .ref 146), (3, .ref 145), (2, .ref 115), (1, .ref 0)] dL_law_1392 rfl (Nat.le_of_ble_eq_true rfl) (by decide) rfl ?_
    refine gl_aload_n 1395 dL_law_1394 rfl rfl ?_
    refine gl_sk 1401 (nI (5 * k)) 1 dL_law_1395 dL_law_1396 dL_law_1398 dL_law_1399 dL_law_1400 rfl rfl (by decide) h1 ?_
    refine gl_sk 1407 (nI (5 * k)) 2 dL_law_1401 dL_law_1402 dL_law_1404 dL_law_1405 dL_law_1406 rfl rfl (by decide) h2 ?_
    refine gl_if_eq 1410 1414 dL_law_1407 rfl (by decide) (fun q => absurd q q1380) (fun _ => ?_)
    refine gl_iconst 1411 (1) dL_law_1410 rfl (by decide) ?_
    refine gl_goto 1415 dL_law_1411 (by decide) ?_
    refine gm_callV 1418 [.int (z.2.2 (nI (5 * k) + 1).toNatClampNeg), .int 1] [] dL_law_1415 rfl hR rfl sV_L_law_177 rfl ly_115 rfl rfl (Nat.le_of_ble_eq_true rfl) (show cl + 1 + 0 ≤ 603072 by omega) (show sl + 6 + 0 ≤ 7194730 by omega) ?_
    refine gl_istore 1420 [(7, .int b9), (6, .int k9), (5, .int (nI (5 * k))), (4, .ref 146), (3, .ref 145), (2, .ref 115), (1, .ref 0)] dL_law_1418 rfl (Nat.le_of_ble_eq_true rfl) (by decide) rfl ?_
    refine gl_aload_n 1421 dL_law_1420 rfl rfl ?_
    refine gm_callV 1424 [] [] dL_law_1421 rfl (ct_X9_thrown _) rfl sV_L_law_103 rfl ly_115 rfl rfl (Nat.le_of_ble_eq_true rfl) (show cl + 1 + 0 + 0 ≤ 603072 by omega) (show sl + 6 + 0 + 0 ≤ 7194730 by omega) ?_
    refine gl_iload 1426 dL_law_1424 rfl rfl ?_
    refine gl_icmp_eq 1429 1431 dL_law_1426 rfl (by decide) (fun _ => ?_) (fun q => absurd h0 q)
    refine gl_iload 1433 dL_law_1431 rfl rfl ?_
    refine gl_if_ne 1436 1448 dL_law_1433 rfl (by decide) (fun _ => ?_) (fun hk0 => ?_)
    · refine gl_goto 1660 dL_law_1448 (by decide) ?_
      refine gl_ls [(5, .int (nI (5 * k))), (4, .ref 146), (3, .ref 145), (2, .ref 115), (1, .ref 0)] (List.forall_mem_cons.mpr ⟨rfl, List.forall_mem_cons.mpr ⟨rfl, List.forall_mem_cons.mpr ⟨rfl, List.forall_mem_cons.mpr ⟨rfl, List.forall_mem_cons.mpr ⟨rfl, fun _ h => absurd h List.not_mem_nil⟩⟩⟩⟩⟩) ?_
      exact kn T2 hJ _ _ (show cl + 1 + 0 + 0 ≤ cl + 4 by omega) (show sl + 6 + 0 + 0 ≤ sl + 24 by omega)
    · refine gl_aload_n 1437 dL_law_1436 rfl rfl ?_
      refine gl_iconst 1438 (0) dL_law_1437 rfl (by decide) ?_
      refine gm_lald 1439 dL_law_1438 rfl ly_145 (by unfold vp_in; decide) ?_
      rw [show rL T2 145 (0 : Int32).toNatClampNeg = b9.toInt64 from hW hk0]
      refine gl_iload 1441 dL_law_1439 rfl rfl ?_
      refine gl_i2l 1442 dL_law_1441 rfl ?_
      refine gl_lcmp 1443 dL_law_1442 rfl ?_
      refine gl_if_eq 1446 1448 dL_law_1443 rfl (by decide) (fun _ => ?_) (fun q => absurd (lg_self _) q)
      refine gl_goto 1660 dL_law_1448 (by decide) ?_
      refine gl_ls [(5, .int (nI (5 * k))), (4, .ref 146), (3, .ref 145), (2, .ref 115), (1, .ref 0)] (List.forall_mem_cons.mpr ⟨rfl, List.forall_mem_cons.mpr ⟨rfl, List.forall_mem_cons.mpr ⟨rfl, List.forall_mem_cons.mpr ⟨rfl, List.forall_mem_cons.mpr ⟨rfl, fun _ h => absurd h List.not_mem_nil⟩⟩⟩⟩⟩) ?_
      exact kn T2 hJ _ _ (show cl + 1 + 0 + 0 ≤ cl + 4 by omega) (show sl + 6 + 0 + 0 ≤ sl + 24 by omega)

theorem lc_22 {z : Nat × Nat × (Nat → Int32)} {Q : go_Q} {cl sl k : Nat} {S : gS} (hI : Inv S) (h1 : vp_in (nI (5 * k) + 1) z.2.1) (h2 : vp_in (nI (5 * k) + 2) z.2.1) (h3 : vp_in (nI (5 * k) + 3) z.2.1) (h4 : vp_in (nI (5 * k) + 4) z.2.1) (hc : cl + 4 ≤ 603072) (hs : sl + 24 ≤ 7194730) (kn : ∀ T, Inv T → ∀ c2 s2, c2 ≤ cl + 4 → s2 ≤ sl + 24 → Gl z mL_law false Q c2 s2 1660 [(5, .int (nI (5 * k))), (4, .ref 146), (3, .ref 145), (2, .ref 115), (1, .ref 0)] [] (hp T)) : Gl z mL_law false Q cl sl 1451 [(5, .int (nI (5 * k))), (4, .ref 146), (3, .ref 145), (2, .ref 115), (1, .ref 0)] [] (hp S) := by
  refine gl_aload_n 1452 dL_law_1451 rfl rfl ?_
  obtain ⟨b9, T1, T2, hL, hR, hJ⟩ := q_restart hI
  refine gm_callV 1455 [] [] dL_law_1452 rfl hL rfl sV_L_law_178 rfl ly_0 rfl rfl (Nat.le_of_ble_eq_true rfl) (show cl + 0 ≤ 603072 by omega) (show sl + 0 ≤ 7194730 by omega) ?_
  refine gl_aload_n 1456 dL_law_1455 rfl rfl ?_
  refine gm_callV 1459 [] [.int b9] dL_law_1456 rfl hR rfl sV_L_law_181 rfl ly_115 rfl rfl (Nat.le_of_ble_eq_true rfl) (show cl + 0 + 0 ≤ 603072 by omega) (show sl + 0 + 0 ≤ 7194730 by omega) ?_
  refine gl_icmp_eq 1462 1660 dL_law_1459 rfl (by decide) (fun _ => ?_) (fun q => absurd rfl q)
  refine gl_ls [(5, .int (nI (5 * k))), (4, .ref 146), (3, .ref 145), (2, .ref 115), (1, .ref 0)] (List.forall_mem_cons.mpr ⟨rfl, List.forall_mem_cons.mpr ⟨rfl, List.forall_mem_cons.mpr ⟨rfl, List.forall_mem_cons.mpr ⟨rfl, List.forall_mem_cons.mpr ⟨rfl, fun _ h => absurd h List.not_mem_nil⟩⟩⟩⟩⟩) ?_
  exact kn T2 hJ _ _ (show cl + 0 + 0 ≤ cl + 4 by omega) (show sl + 0 + 0 ≤ sl + 24 by omega)

theorem lc_23 {z : Nat × Nat × (Nat → Int32)} {Q : go_Q} {cl sl k : Nat} {S : gS} (hI : Inv S) (h1 : vp_in (nI (5 * k) + 1) z.2.1) (h2 : vp_in (nI (5 * k) + 2) z.2.1) (h3 : vp_in (nI (5 * k) + 3) z.2.1) (h4 : vp_in (nI (5 * k) + 4) z.2.1) (hc : cl + 4 ≤ 603072) (hs : sl + 24 ≤ 7194730) (kn : ∀ T, Inv T → ∀ c2 s2, c2 ≤ cl + 4 → s2 ≤ sl + 24 → Gl z mL_law false Q c2 s2 1660 [(5, .int (nI (5 * k))), (4, .ref 146), (3, .ref 145), (2, .ref 115), (1, .ref 0)] [] (hp T)) : Gl z mL_law false Q cl sl 1464 [(5, .int (nI (5 * k))), (4, .ref 146), (3, .ref 145), (2, .ref 115), (1, .ref 0)] [] (hp S) := by
  refine gl_aload_n 1465 dL_law_1464 rfl rfl ?_
  refine gl_sk 1471 (nI (5 * k)) 1 dL_law_1465 dL_law_1466 dL_law_1468 dL_law_1469 dL_law_1470 rfl rfl (by decide) h1 ?_
  refine gl_i2c 1472 dL_law_1471 rfl ?_
  refine gl_aload_n 1473 dL_law_1472 rfl rfl ?_
  obtain ⟨k9, T1, b9, T2, hL, hR, h0, hW, hJ⟩ := q_feed hI ((z.2.2 (nI (5 * k) + 1).toNatClampNeg).toUInt32 % 65536).toInt32 (ch_nar _)
  refine gm_callSH 1476 [.ref 0, .int ((z.2.2 (nI (5 * k) + 1).toNatClampNeg).toUInt32 % 65536).toInt32, .ref 145] [] dL_law_1473 rfl hL rfl sV_L_law_182 rfl (Nat.le_of_ble_eq_true rfl) (show cl + 1 ≤ 603072 by omega) (show sl + 6 ≤ 7194730 by omega) ?_
  refine gl_istore 1478 [(6, .int k9), (5, .int (nI (5 * k))), (4, .ref 146), (3, .ref 145), (2, .ref 115), (1, .ref 0)] dL_law_1476 rfl (Nat.le_of_ble_eq_true rfl) (by decide) rfl ?_
  refine gl_aload_n 1479 dL_law_1478 rfl rfl ?_
  refine gl_sk 1485 (nI (5 * k)) 1 dL_law_1479 dL_law_1480 dL_law_1482 dL_law_1483 dL_law_1484 rfl rfl (by decide) h1 ?_
  refine gl_i2c 1486 dL_law_1485 rfl ?_
  refine gm_callV 1489 [.int ((z.2.2 (nI (5 * k) + 1).toNatClampNeg).toUInt32 % 65536).toInt32] [] dL_law_1486 rfl hR rfl sV_L_law_185 rfl ly_115 rfl rfl (Nat.le_of_ble_eq_true rfl) (show cl + 1 + 0 ≤ 603072 by omega) (show sl + 6 + 0 ≤ 7194730 by omega) ?_
  refine gl_istore 1491 [(7, .int b9), (6, .int k9), (5, .int (nI (5 * k))), (4, .ref 146), (3, .ref 145), (2, .ref 115), (1, .ref 0)] dL_law_1489 rfl (Nat.le_of_ble_eq_true rfl) (by decide) rfl ?_
  refine gl_aload_n 1492 dL_law_1491 rfl rfl ?_
  refine gm_callV 1495 [] [] dL_law_1492 rfl (ct_X9_thrown _) rfl sV_L_law_103 rfl ly_115 rfl rfl (Nat.le_of_ble_eq_true rfl) (show cl + 1 + 0 + 0 ≤ 603072 by omega) (show sl + 6 + 0 + 0 ≤ 7194730 by omega) ?_
  refine gl_iload 1497 dL_law_1495 rfl rfl ?_
  refine gl_icmp_eq 1500 1502 dL_law_1497 rfl (by decide) (fun _ => ?_) (fun q => absurd h0 q)
  refine gl_iload 1504 dL_law_1502 rfl rfl ?_
  refine gl_if_ne 1507 1519 dL_law_1504 rfl (by decide) (fun _ => ?_) (fun hk0 => ?_)
  · refine gl_goto 1660 dL_law_1519 (by decide) ?_
    refine gl_ls [(5, .int (nI (5 * k))), (4, .ref 146), (3, .ref 145), (2, .ref 115), (1, .ref 0)] (List.forall_mem_cons.mpr ⟨rfl, List.forall_mem_cons.mpr ⟨rfl, List.forall_mem_cons.mpr ⟨rfl, List.forall_mem_cons.mpr ⟨rfl, List.forall_mem_cons.mpr ⟨rfl, fun _ h => absurd h List.not_mem_nil⟩⟩⟩⟩⟩) ?_
    exact kn T2 hJ _ _ (show cl + 1 + 0 + 0 ≤ cl + 4 by omega) (show sl + 6 + 0 + 0 ≤ sl + 24 by omega)
  · refine gl_aload_n 1508 dL_law_1507 rfl rfl ?_
    refine gl_iconst 1509 (0) dL_law_1508 rfl (by decide) ?_
    refine gm_lald 1510 dL_law_1509 rfl ly_145 (by unfold vp_in; decide) ?_
    rw [show rL T2 145 (0 : Int32).toNatClampNeg = b9.toInt64 from hW hk0]
    refine gl_iload 1512 dL_law_1510 rfl rfl ?_
    refine gl_i2l 1513 dL_law_1512 rfl ?_
    refine gl_lcmp 1514 dL_law_1513 rfl ?_
    refine gl_if_eq 1517 1519 dL_law_1514 rfl (by decide) (fun _ => ?_) (fun q => absurd (lg_self _) q)
    refine gl_goto 1660 dL_law_1519 (by decide) ?_
    refine gl_ls [(5, .int (nI (5 * k))), (4, .ref 146), (3, .ref 145), (2, .ref 115), (1, .ref 0)] (List.forall_mem_cons.mpr ⟨rfl, List.forall_mem_cons.mpr ⟨rfl, List.forall_mem_cons.mpr ⟨rfl, List.forall_mem_cons.mpr ⟨rfl, List.forall_mem_cons.mpr ⟨rfl, fun _ h => absurd h List.not_mem_nil⟩⟩⟩⟩⟩) ?_
    exact kn T2 hJ _ _ (show cl + 1 + 0 + 0 ≤ cl + 4 by omega) (show sl + 6 + 0 + 0 ≤ sl + 24 by omega)

theorem lc_24 {z : Nat × Nat × (Nat → Int32)} {Q : go_Q} {cl sl k : Nat} {S : gS} (hI : Inv S) (h1 : vp_in (nI (5 * k) + 1) z.2.1) (h2 : vp_in (nI (5 * k) + 2) z.2.1) (h3 : vp_in (nI (5 * k) + 3) z.2.1) (h4 : vp_in (nI (5 * k) + 4) z.2.1) (hc : cl + 4 ≤ 603072) (hs : sl + 24 ≤ 7194730) (kn : ∀ T, Inv T → ∀ c2 s2, c2 ≤ cl + 4 → s2 ≤ sl + 24 → Gl z mL_law false Q c2 s2 1660 [(5, .int (nI (5 * k))), (4, .ref 146), (3, .ref 145), (2, .ref 115), (1, .ref 0)] [] (hp T)) : Gl z mL_law false Q cl sl 1522 [(5, .int (nI (5 * k))), (4, .ref 146), (3, .ref 145), (2, .ref 115), (1, .ref 0)] [] (hp S) := by
  refine gl_aload_n 1523 dL_law_1522 rfl rfl ?_
  obtain ⟨b9, T1, T2, hL, hR, hJ⟩ := q_read hI
  refine gm_callV 1526 [] [] dL_law_1523 rfl hL rfl sV_L_law_186 rfl ly_0 rfl rfl (Nat.le_of_ble_eq_true rfl) (show cl + 0 ≤ 603072 by omega) (show sl + 0 ≤ 7194730 by omega) ?_
  refine gl_aload_n 1527 dL_law_1526 rfl rfl ?_
  refine gm_callV 1530 [] [.int b9] dL_law_1527 rfl hR rfl sV_L_law_189 rfl ly_115 rfl rfl (Nat.le_of_ble_eq_true rfl) (show cl + 0 + 0 ≤ 603072 by omega) (show sl + 0 + 0 ≤ 7194730 by omega) ?_
  refine gl_icmp_eq 1533 1660 dL_law_1530 rfl (by decide) (fun _ => ?_) (fun q => absurd rfl q)
  refine gl_ls [(5, .int (nI (5 * k))), (4, .ref 146), (3, .ref 145), (2, .ref 115), (1, .ref 0)] (List.forall_mem_cons.mpr ⟨rfl, List.forall_mem_cons.mpr ⟨rfl, List.forall_mem_cons.mpr ⟨rfl, List.forall_mem_cons.mpr ⟨rfl, List.forall_mem_cons.mpr ⟨rfl, fun _ h => absurd h List.not_mem_nil⟩⟩⟩⟩⟩) ?_
  exact kn T2 hJ _ _ (show cl + 0 + 0 ≤ cl + 4 by omega) (show sl + 0 + 0 ≤ sl + 24 by omega)

theorem lc_25 {z : Nat × Nat × (Nat → Int32)} {Q : go_Q} {cl sl k : Nat} {S : gS} (hI : Inv S) (h1 : vp_in (nI (5 * k) + 1) z.2.1) (h2 : vp_in (nI (5 * k) + 2) z.2.1) (h3 : vp_in (nI (5 * k) + 3) z.2.1) (h4 : vp_in (nI (5 * k) + 4) z.2.1) (hc : cl + 4 ≤ 603072) (hs : sl + 24 ≤ 7194730) (kn : ∀ T, Inv T → ∀ c2 s2, c2 ≤ cl + 4 → s2 ≤ sl + 24 → Gl z mL_law false Q c2 s2 1660 [(5, .int (nI (5 * k))), (4, .ref 146), (3, .ref 145), (2, .ref 115), (1, .ref 0)] [] (hp T)) : Gl z mL_law false Q cl sl 1535 [(5, .int (nI (5 * k))), (4, .ref 146), (3, .ref 145), (2, .ref 115), (1, .ref 0)] [] (hp S) := by
  refine gl_aload_n 1536 dL_law_1535 rfl rfl ?_
  refine gl_sk 1542 (nI (5 * k)) 1 dL_law_1536 dL_law_1537 dL_law_1539 dL_law_1540 dL_law_1541 rfl rfl (by decide) h1 ?_
  refine gl_sk 1548 (nI (5 * k)) 2 dL_law_1542 dL_law_1543 dL_law_1545 dL_law_1546 dL_law_1547 rfl rfl (by decide) h2 ?_
  refine gl_aload_n 1549 dL_law_1548 rfl rfl ?_
  obtain ⟨k9, T1, b9, T2, hL, hR, h0, hW, hJ⟩ := q_fault hI (z.2.2 (nI (5 * k) + 1).toNatClampNeg) (z.2.2 (nI (5 * k) + 2).toNatClampNeg)
  refine gm_callSH 1552 [.ref 0, .int (z.2.2 (nI (5 * k) + 1).toNatClampNeg), .int (z.2.2 (nI (5 * k) + 2).toNatClampNeg), .ref 145] [] dL_law_1549 rfl hL rfl sV_L_law_190 rfl (Nat.le_of_ble_eq_true rfl) (show cl + 2 ≤ 603072 by omega) (show sl + 12 ≤ 7194730 by omega) ?_
  refine gl_istore 1554 [(6, .int k9), (5, .int (nI (5 * k))), (4, .ref 146), (3, .ref 145), (2, .ref 115), (1, .ref 0)] dL_law_1552 rfl (Nat.le_of_ble_eq_true rfl) (by decide) rfl ?_
  refine gl_aload_n 1555 dL_law_1554 rfl rfl ?_
  refine gl_sk 1561 (nI (5 * k)) 1 dL_law_1555 dL_law_1556 dL_law_1558 dL_law_1559 dL_law_1560 rfl rfl (by decide) h1 ?_
  refine gl_sk 1567 (nI (5 * k)) 2 dL_law_1561 dL_law_1562 dL_law_1564 dL_law_1565 dL_law_1566 rfl rfl (by decide) h2 ?_
  refine gm_callV 1570 [.int (z.2.2 (nI (5 * k) + 1).toNatClampNeg), .int (z.2.2 (nI (5 * k) + 2).toNatClampNeg)] [] dL_law_1567 rfl hR rfl sV_L_law_192 rfl ly_115 rfl rfl (Nat.le_of_ble_eq_true rfl) (show cl + 2 + 0 ≤ 603072 by omega) (show sl + 12 + 0 ≤ 7194730 by omega) ?_
  refine gl_istore 1572 [(7, .int b9), (6, .int k9), (5, .int (nI (5 * k))), (4, .ref 146), (3, .ref 145), (2, .ref 115), (1, .ref 0)] dL_law_1570 rfl (Nat.le_of_ble_eq_true rfl) (by decide) rfl ?_
  refine gl_aload_n 1573 dL_law_1572 rfl rfl ?_
  refine gm_callV 1576 [] [] dL_law_1573 rfl (ct_X9_thrown _) rfl sV_L_law_103 rfl ly_115 rfl rfl (Nat.le_of_ble_eq_true rfl) (show cl + 2 + 0 + 0 ≤ 603072 by omega) (show sl + 12 + 0 + 0 ≤ 7194730 by omega) ?_
  refine gl_iload 1578 dL_law_1576 rfl rfl ?_
  refine gl_icmp_eq 1581 1583 dL_law_1578 rfl (by decide) (fun _ => ?_) (fun q => absurd h0 q)
  refine gl_iload 1585 dL_law_1583 rfl rfl ?_
  refine gl_if_ne 1588 1600 dL_law_1585 rfl (by decide) (fun _ => ?_) (fun hk0 => ?_)
  · refine gl_goto 1660 dL_law_1600 (by decide) ?_
    refine gl_ls [(5, .int (nI (5 * k))), (4, .ref 146), (3, .ref 145), (2, .ref 115), (1, .ref 0)] (List.forall_mem_cons.mpr ⟨rfl, List.forall_mem_cons.mpr ⟨rfl, List.forall_mem_cons.mpr ⟨rfl, List.forall_mem_cons.mpr ⟨rfl, List.forall_mem_cons.mpr ⟨rfl, fun _ h => absurd h List.not_mem_nil⟩⟩⟩⟩⟩) ?_
    exact kn T2 hJ _ _ (show cl + 2 + 0 + 0 ≤ cl + 4 by omega) (show sl + 12 + 0 + 0 ≤ sl + 24 by omega)
  · refine gl_aload_n 1589 dL_law_1588 rfl rfl ?_
    refine gl_iconst 1590 (0) dL_law_1589 rfl (by decide) ?_
    refine gm_lald 1591 dL_law_1590 rfl ly_145 (by unfold vp_in; decide) ?_
    rw [show rL T2 145 (0 : Int32).toNatClampNeg = b9.toInt64 from hW hk0]
    refine gl_iload 1593 dL_law_1591 rfl rfl ?_
    refine gl_i2l 1594 dL_law_1593 rfl ?_
    refine gl_lcmp 1595 dL_law_1594 rfl ?_
    refine gl_if_eq 1598 1600 dL_law_1595 rfl (by decide) (fun _ => ?_) (fun q => absurd (lg_self _) q)
    refine gl_goto 1660 dL_law_1600 (by decide) ?_
    refine gl_ls [(5, .int (nI (5 * k))), (4, .ref 146), (3, .ref 145), (2, .ref 115), (1, .ref 0)] (List.forall_mem_cons.mpr ⟨rfl, List.forall_mem_cons.mpr ⟨rfl, List.forall_mem_cons.mpr ⟨rfl, List.forall_mem_cons.mpr ⟨rfl, List.forall_mem_cons.mpr ⟨rfl, fun _ h => absurd h List.not_mem_nil⟩⟩⟩⟩⟩) ?_
    exact kn T2 hJ _ _ (show cl + 2 + 0 + 0 ≤ cl + 4 by omega) (show sl + 12 + 0 + 0 ≤ sl + 24 by omega)

theorem lc_26 {z : Nat × Nat × (Nat → Int32)} {Q : go_Q} {cl sl k : Nat} {S : gS} (hI : Inv S) (h1 : vp_in (nI (5 * k) + 1) z.2.1) (h2 : vp_in (nI (5 * k) + 2) z.2.1) (h3 : vp_in (nI (5 * k) + 3) z.2.1) (h4 : vp_in (nI (5 * k) + 4) z.2.1) (hc : cl + 4 ≤ 603072) (hs : sl + 24 ≤ 7194730) (kn : ∀ T, Inv T → ∀ c2 s2, c2 ≤ cl + 4 → s2 ≤ sl + 24 → Gl z mL_law false Q c2 s2 1660 [(5, .int (nI (5 * k))), (4, .ref 146), (3, .ref 145), (2, .ref 115), (1, .ref 0)] [] (hp T)) : Gl z mL_law false Q cl sl 1603 [(5, .int (nI (5 * k))), (4, .ref 146), (3, .ref 145), (2, .ref 115), (1, .ref 0)] [] (hp S) := by
  refine gl_aload_n 1604 dL_law_1603 rfl rfl ?_
  obtain ⟨b9, T1, T2, hL, hR, hJ⟩ := q_saveSnapshot hI
  refine gm_callV 1607 [] [] dL_law_1604 rfl hL rfl sV_L_law_193 rfl ly_0 rfl rfl (Nat.le_of_ble_eq_true rfl) (show cl + 0 ≤ 603072 by omega) (show sl + 0 ≤ 7194730 by omega) ?_
  refine gl_aload_n 1608 dL_law_1607 rfl rfl ?_
  refine gm_callV 1611 [] [.int b9] dL_law_1608 rfl hR rfl sV_L_law_196 rfl ly_115 rfl rfl (Nat.le_of_ble_eq_true rfl) (show cl + 0 + 0 ≤ 603072 by omega) (show sl + 0 + 0 ≤ 7194730 by omega) ?_
  refine gl_icmp_eq 1614 1660 dL_law_1611 rfl (by decide) (fun _ => ?_) (fun q => absurd rfl q)
  refine gl_ls [(5, .int (nI (5 * k))), (4, .ref 146), (3, .ref 145), (2, .ref 115), (1, .ref 0)] (List.forall_mem_cons.mpr ⟨rfl, List.forall_mem_cons.mpr ⟨rfl, List.forall_mem_cons.mpr ⟨rfl, List.forall_mem_cons.mpr ⟨rfl, List.forall_mem_cons.mpr ⟨rfl, fun _ h => absurd h List.not_mem_nil⟩⟩⟩⟩⟩) ?_
  exact kn T2 hJ _ _ (show cl + 0 + 0 ≤ cl + 4 by omega) (show sl + 0 + 0 ≤ sl + 24 by omega)

theorem lc_27 {z : Nat × Nat × (Nat → Int32)} {Q : go_Q} {cl sl k : Nat} {S : gS} (hI : Inv S) (h1 : vp_in (nI (5 * k) + 1) z.2.1) (h2 : vp_in (nI (5 * k) + 2) z.2.1) (h3 : vp_in (nI (5 * k) + 3) z.2.1) (h4 : vp_in (nI (5 * k) + 4) z.2.1) (hc : cl + 4 ≤ 603072) (hs : sl + 24 ≤ 7194730) (kn : ∀ T, Inv T → ∀ c2 s2, c2 ≤ cl + 4 → s2 ≤ sl + 24 → Gl z mL_law false Q c2 s2 1660 [(5, .int (nI (5 * k))), (4, .ref 146), (3, .ref 145), (2, .ref 115), (1, .ref 0)] [] (hp T)) : Gl z mL_law false Q cl sl 1616 [(5, .int (nI (5 * k))), (4, .ref 146), (3, .ref 145), (2, .ref 115), (1, .ref 0)] [] (hp S) := by
  refine gl_aload_n 1617 dL_law_1616 rfl rfl ?_
  refine gl_aload_n 1618 dL_law_1617 rfl rfl ?_
  obtain ⟨k9, T1, b9, T2, hL, hR, h0, hW, hJ⟩ := q_restoreSnapshot hI 
  refine gm_callSH 1621 [.ref 0, .ref 145] [] dL_law_1618 rfl hL rfl sV_L_law_197 rfl (Nat.le_of_ble_eq_true rfl) (show cl + 1 ≤ 603072 by omega) (show sl + 6 ≤ 7194730 by omega) ?_
  refine gl_istore 1623 [(6, .int k9), (5, .int (nI (5 * k))), (4, .ref 146), (3, .ref 145), (2, .ref 115), (1, .ref 0)] dL_law_1621 rfl (Nat.le_of_ble_eq_true rfl) (by decide) rfl ?_
  refine gl_aload_n 1624 dL_law_1623 rfl rfl ?_
  refine gm_callV 1627 [] [] dL_law_1624 rfl hR rfl sV_L_law_199 rfl ly_115 rfl rfl (Nat.le_of_ble_eq_true rfl) (show cl + 1 + 0 ≤ 603072 by omega) (show sl + 6 + 0 ≤ 7194730 by omega) ?_
  refine gl_istore 1629 [(7, .int b9), (6, .int k9), (5, .int (nI (5 * k))), (4, .ref 146), (3, .ref 145), (2, .ref 115), (1, .ref 0)] dL_law_1627 rfl (Nat.le_of_ble_eq_true rfl) (by decide) rfl ?_
  refine gl_aload_n 1630 dL_law_1629 rfl rfl ?_
  refine gm_callV 1633 [] [] dL_law_1630 rfl (ct_X9_thrown _) rfl sV_L_law_103 rfl ly_115 rfl rfl (Nat.le_of_ble_eq_true rfl) (show cl + 1 + 0 + 0 ≤ 603072 by omega) (show sl + 6 + 0 + 0 ≤ 7194730 by omega) ?_
  refine gl_iload 1635 dL_law_1633 rfl rfl ?_
  refine gl_icmp_eq 1638 1640 dL_law_1635 rfl (by decide) (fun _ => ?_) (fun q => absurd h0 q)
  refine gl_iload 1642 dL_law_1640 rfl rfl ?_
  refine gl_if_ne 1645 1657 dL_law_1642 rfl (by decide) (fun _ => ?_) (fun hk0 => ?_)
  · refine gl_goto 1660 dL_law_1657 (by decide) ?_
    refine gl_ls [(5, .int (nI (5 * k))), (4, .ref 146), (3, .ref 145), (2, .ref 115), (1, .ref 0)] (List.forall_mem_cons.mpr ⟨rfl, List.forall_mem_cons.mpr ⟨rfl, List.forall_mem_cons.mpr ⟨rfl, List.forall_mem_cons.mpr ⟨rfl, List.forall_mem_cons.mpr ⟨rfl, fun _ h => absurd h List.not_mem_nil⟩⟩⟩⟩⟩) ?_
    exact kn T2 hJ _ _ (show cl + 1 + 0 + 0 ≤ cl + 4 by omega) (show sl + 6 + 0 + 0 ≤ sl + 24 by omega)
  · refine gl_aload_n 1646 dL_law_1645 rfl rfl ?_
    refine gl_iconst 1647 (0) dL_law_1646 rfl (by decide) ?_
    refine gm_lald 1648 dL_law_1647 rfl ly_145 (by unfold vp_in; decide) ?_
    rw [show rL T2 145 (0 : Int32).toNatClampNeg = b9.toInt64 from hW hk0]
    refine gl_iload 1650 dL_law_1648 rfl rfl ?_
    refine gl_i2l 1651 dL_law_1650 rfl ?_
    refine gl_lcmp 1652 dL_law_1651 rfl ?_
    refine gl_if_eq 1655 1657 dL_law_1652 rfl (by decide) (fun _ => ?_) (fun q => absurd (lg_self _) q)
    refine gl_goto 1660 dL_law_1657 (by decide) ?_
    refine gl_ls [(5, .int (nI (5 * k))), (4, .ref 146), (3, .ref 145), (2, .ref 115), (1, .ref 0)] (List.forall_mem_cons.mpr ⟨rfl, List.forall_mem_cons.mpr ⟨rfl, List.forall_mem_cons.mpr ⟨rfl, List.forall_mem_cons.mpr ⟨rfl, List.forall_mem_cons.mpr ⟨rfl, fun _ h => absurd h List.not_mem_nil⟩⟩⟩⟩⟩) ?_
    exact kn T2 hJ _ _ (show cl + 1 + 0 + 0 ≤ cl + 4 by omega) (show sl + 6 + 0 + 0 ≤ sl + 24 by omega)

