def M_L_law : MM := (yL_law, cL_law, 4, some .boolean)
theorem law_in {L i : Nat} (hL : L ≤ 3072) (hi : i ≤ L) (h : ¬ nI L - 6 < nI i) : i + 6 ≤ L := by
  have hq := Int32.le_iff_toInt_le.mp (Int32.not_lt.mp h)
  rw [show (6 : Int32) = nI 6 from rfl, nI_toInt (by omega), sub_toInt (by omega) (by decide)] at hq
  omega
theorem law_nx {g : GT} {i : Nat} {σ : S_} (hL : gL g ≤ 3072) (hc : i + 6 ≤ gL g) (h : J g 69 M_L_law (fun r _ => r = .int 1) 18 [.ref (120 + 2), .ref 0, .ref 70, .int (nI (i + 6))] [] σ) : J g 69 M_L_law (fun r _ => r = .int 1) 1421 [.ref (120 + 2), .ref 0, .ref 70, .int (nI i)] [] σ := by
  refine j_iinc_4_3 dL_law_1421 (q := 1424) rfl rfl rfl ?_
  rw [show nI i + Int32.ofInt 6 = nI (i + 6) from by rw [show Int32.ofInt 6 = nI 6 from rfl, nI_add]]
  exact j_goto (q := 18) dL_law_1424 (by decide) h
theorem law_loop {g : GT} (hL : gL g ≤ 3072) : ∀ (k i : Nat) (σ : S_), gL g < i + 6 + 6 * k → i ≤ gL g → IN σ → J g 69 M_L_law (fun r _ => r = .int 1) 18 [.ref (120 + 2), .ref 0, .ref 70, .int (nI i)] [] σ := by
  intro k
  induction k with
  | zero =>
    intro i σ hk hi hI
    refine j_iload_n dL_law_18 (q := 19) rfl rfl ?_
    refine j_aload_n dL_law_19 (q := 20) rfl rfl ?_
    refine j_slen (a := 2) (by decide) dL_law_20 (q := 21) rfl ?_
    refine j_bipush (v := 6) dL_law_21 (q := 23) rfl (by decide) ?_
    refine j_isub dL_law_23 (q := 24) rfl ?_
    refine j_icmp_gt dL_law_24 (t := 1427) (by decide) (q := 27) rfl (fun c => ?_) (fun c => ?_)
    · refine j_iconst (v := 1) dL_law_1427 (q := 1428) rfl (by decide) ?_
      exact j_iretz dL_law_1428 rfl (by decide) rfl
    · have hc := law_in hL hi c
      omega
  | succ k ih =>
    intro i σ hk hi hI
    refine j_iload_n dL_law_18 (q := 19) rfl rfl ?_
    refine j_aload_n dL_law_19 (q := 20) rfl rfl ?_
    refine j_slen (a := 2) (by decide) dL_law_20 (q := 21) rfl ?_
    refine j_bipush (v := 6) dL_law_21 (q := 23) rfl (by decide) ?_
    refine j_isub dL_law_23 (q := 24) rfl ?_
    refine j_icmp_gt dL_law_24 (t := 1427) (by decide) (q := 27) rfl (fun c => ?_) (fun c => ?_)
    · refine j_iconst (v := 1) dL_law_1427 (q := 1428) rfl (by decide) ?_
      exact j_iretz dL_law_1428 rfl (by decide) rfl
    · have hc := law_in hL hi c
      refine j_aload_n dL_law_27 (q := 28) rfl rfl ?_
      refine j_iload_n dL_law_28 (q := 29) rfl rfl ?_
      refine j_saldN (a := 2) (by decide) (by show _ < gL g; omega) (by show gL g < 2 ^ 31; omega) dL_law_29 (q := 30) rfl ?_
      refine j_bipush (v := 63) dL_law_30 (q := 32) rfl (by decide) ?_
      refine j_iand dL_law_32 (q := 33) rfl ?_
      refine j_tsw_0_38 dL_law_33 (td := 1421) (t0 := 204) (t1 := 247) (t2 := 280) (t3 := 313) (t4 := 346) (t5 := 379) (t6 := 412) (t7 := 435) (t8 := 468) (t9 := 501) (t10 := 534) (t11 := 577) (t12 := 640) (t13 := 663) (t14 := 686) (t15 := 739) (t16 := 762) (t17 := 785) (t18 := 808) (t19 := 831) (t20 := 864) (t21 := 897) (t22 := 930) (t23 := 963) (t24 := 996) (t25 := 1029) (t26 := 1052) (t27 := 1095) (t28 := 1118) (t29 := 1161) (t30 := 1204) (t31 := 1267) (t32 := 1290) (t33 := 1313) (t34 := 1326) (t35 := 1339) (t36 := 1362) (t37 := 1375) (t38 := 1398) (by decide) (by decide) (by decide) (by decide) (by decide) (by decide) (by decide) (by decide) (by decide) (by decide) (by decide) (by decide) (by decide) (by decide) (by decide) (by decide) (by decide) (by decide) (by decide) (by decide) (by decide) (by decide) (by decide) (by decide) (by decide) (by decide) (by decide) (by decide) (by decide) (by decide) (by decide) (by decide) (by decide) (by decide) (by decide) (by decide) (by decide) (by decide) (by decide) (by decide) (fun e_33 => ?_) (fun e_33 => ?_) (fun e_33 => ?_) (fun e_33 => ?_) (fun e_33 => ?_) (fun e_33 => ?_) (fun e_33 => ?_) (fun e_33 => ?_) (fun e_33 => ?_) (fun e_33 => ?_) (fun e_33 => ?_) (fun e_33 => ?_) (fun e_33 => ?_) (fun e_33 => ?_) (fun e_33 => ?_) (fun e_33 => ?_) (fun e_33 => ?_) (fun e_33 => ?_) (fun e_33 => ?_) (fun e_33 => ?_) (fun e_33 => ?_) (fun e_33 => ?_) (fun e_33 => ?_) (fun e_33 => ?_) (fun e_33 => ?_) (fun e_33 => ?_) (fun e_33 => ?_) (fun e_33 => ?_) (fun e_33 => ?_) (fun e_33 => ?_) (fun e_33 => ?_) (fun e_33 => ?_) (fun e_33 => ?_) (fun e_33 => ?_) (fun e_33 => ?_) (fun e_33 => ?_) (fun e_33 => ?_) (fun e_33 => ?_) (fun e_33 => ?_) (fun e_0 e_1 e_2 e_3 e_4 e_5 e_6 e_7 e_8 e_9 e_10 e_11 e_12 e_13 e_14 e_15 e_16 e_17 e_18 e_19 e_20 e_21 e_22 e_23 e_24 e_25 e_26 e_27 e_28 e_29 e_30 e_31 e_32 e_33 e_34 e_35 e_36 e_37 e_38 => ?_)
      · skip
        refine j_aload_n dL_law_204 (q := 205) rfl rfl ?_
        refine j_aload_n dL_law_205 (q := 206) rfl rfl ?_
        refine j_iload_n dL_law_206 (q := 207) rfl rfl ?_
        refine j_iconst (v := 1) dL_law_207 (q := 208) rfl (by decide) ?_
        refine j_iaddN (b := 1) dL_law_208 (q := 209) rfl ?_
        refine j_saldN (a := 2) (by decide) (by show _ < gL g; omega) (by show gL g < 2 ^ 31; omega) dL_law_209 (q := 210) rfl ?_
        refine j_aload_n dL_law_210 (q := 211) rfl rfl ?_
        refine j_iload_n dL_law_211 (q := 212) rfl rfl ?_
        refine j_iconst (v := 2) dL_law_212 (q := 213) rfl (by decide) ?_
        refine j_iaddN (b := 2) dL_law_213 (q := 214) rfl ?_
        refine j_saldN (a := 2) (by decide) (by show _ < gL g; omega) (by show gL g < 2 ^ 31; omega) dL_law_214 (q := 215) rfl ?_
        refine j_aload_n dL_law_215 (q := 216) rfl rfl ?_
        refine j_iload_n dL_law_216 (q := 217) rfl rfl ?_
        refine j_iconst (v := 3) dL_law_217 (q := 218) rfl (by decide) ?_
        refine j_iaddN (b := 3) dL_law_218 (q := 219) rfl ?_
        refine j_saldN (a := 2) (by decide) (by show _ < gL g; omega) (by show gL g < 2 ^ 31; omega) dL_law_219 (q := 220) rfl ?_
        obtain ⟨d7, Z7, a7, h7, k7⟩ : OP g σ M_X7_farm M_X8_farm [.int (stF g 2 (i + 1)), .int (stF g 2 (i + 2)), .int (stF g 2 (i + 3))] := op_farm hI
        refine j_callVi3 (M' := M_X7_farm) lk_L_13 mv_X7_farm ob_0 (by omega) (Nat.le_of_ble_eq_true rfl) dL_law_220 (q := 223) rfl h7 ?_
        intro x1 τ1 hz1
        obtain ⟨x, d8, Z8, e1, a8, h8, k8⟩ := k7 _ _ hz1
        cases e1
        refine j_aload_n dL_law_223 (q := 224) rfl rfl ?_
        refine j_aload_n dL_law_224 (q := 225) rfl rfl ?_
        refine j_iload_n dL_law_225 (q := 226) rfl rfl ?_
        refine j_iconst (v := 1) dL_law_226 (q := 227) rfl (by decide) ?_
        refine j_iaddN (b := 1) dL_law_227 (q := 228) rfl ?_
        refine j_saldN (a := 2) (by decide) (by show _ < gL g; omega) (by show gL g < 2 ^ 31; omega) dL_law_228 (q := 229) rfl ?_
        refine j_aload_n dL_law_229 (q := 230) rfl rfl ?_
        refine j_iload_n dL_law_230 (q := 231) rfl rfl ?_
        refine j_iconst (v := 2) dL_law_231 (q := 232) rfl (by decide) ?_
        refine j_iaddN (b := 2) dL_law_232 (q := 233) rfl ?_
        refine j_saldN (a := 2) (by decide) (by show _ < gL g; omega) (by show gL g < 2 ^ 31; omega) dL_law_233 (q := 234) rfl ?_
        refine j_aload_n dL_law_234 (q := 235) rfl rfl ?_
        refine j_iload_n dL_law_235 (q := 236) rfl rfl ?_
        refine j_iconst (v := 3) dL_law_236 (q := 237) rfl (by decide) ?_
        refine j_iaddN (b := 3) dL_law_237 (q := 238) rfl ?_
        refine j_saldN (a := 2) (by decide) (by show _ < gL g; omega) (by show gL g < 2 ^ 31; omega) dL_law_238 (q := 239) rfl ?_
        refine j_callVi3 (M' := M_X8_farm) lk_L_17 mv_X8_farm ob_70 (by omega) (Nat.le_of_ble_eq_true rfl) dL_law_239 (q := 242) rfl h8 ?_
        intro x2 τ2 hz2
        obtain ⟨e2, hI2⟩ := k8 _ _ hz2
        cases e2
        refine j_icmp_eq dL_law_242 (t := 1421) (by decide) (q := 245) rfl (fun c => ?_) (fun c => absurd rfl c)
        exact law_nx hL hc (ih (i + 6) τ2 (by omega) hc hI2)
      · skip
        refine j_aload_n dL_law_247 (q := 248) rfl rfl ?_
        refine j_aload_n dL_law_248 (q := 249) rfl rfl ?_
        refine j_iload_n dL_law_249 (q := 250) rfl rfl ?_
        refine j_iconst (v := 1) dL_law_250 (q := 251) rfl (by decide) ?_
        refine j_iaddN (b := 1) dL_law_251 (q := 252) rfl ?_
        refine j_saldN (a := 2) (by decide) (by show _ < gL g; omega) (by show gL g < 2 ^ 31; omega) dL_law_252 (q := 253) rfl ?_
        refine j_aload_n dL_law_253 (q := 254) rfl rfl ?_
        refine j_iload_n dL_law_254 (q := 255) rfl rfl ?_
        refine j_iconst (v := 2) dL_law_255 (q := 256) rfl (by decide) ?_
        refine j_iaddN (b := 2) dL_law_256 (q := 257) rfl ?_
        refine j_saldN (a := 2) (by decide) (by show _ < gL g; omega) (by show gL g < 2 ^ 31; omega) dL_law_257 (q := 258) rfl ?_
        obtain ⟨d7, Z7, a7, h7, k7⟩ : OP g σ M_X7_farmIs M_X8_farmIs [.int (stF g 2 (i + 1)), .int (stF g 2 (i + 2))] := op_farmIs hI
        refine j_callVi2 (M' := M_X7_farmIs) lk_L_18 mv_X7_farmIs ob_0 (by omega) (Nat.le_of_ble_eq_true rfl) dL_law_258 (q := 261) rfl h7 ?_
        intro x1 τ1 hz1
        obtain ⟨x, d8, Z8, e1, a8, h8, k8⟩ := k7 _ _ hz1
        cases e1
        refine j_aload_n dL_law_261 (q := 262) rfl rfl ?_
        refine j_aload_n dL_law_262 (q := 263) rfl rfl ?_
        refine j_iload_n dL_law_263 (q := 264) rfl rfl ?_
        refine j_iconst (v := 1) dL_law_264 (q := 265) rfl (by decide) ?_
        refine j_iaddN (b := 1) dL_law_265 (q := 266) rfl ?_
        refine j_saldN (a := 2) (by decide) (by show _ < gL g; omega) (by show gL g < 2 ^ 31; omega) dL_law_266 (q := 267) rfl ?_
        refine j_aload_n dL_law_267 (q := 268) rfl rfl ?_
        refine j_iload_n dL_law_268 (q := 269) rfl rfl ?_
        refine j_iconst (v := 2) dL_law_269 (q := 270) rfl (by decide) ?_
        refine j_iaddN (b := 2) dL_law_270 (q := 271) rfl ?_
        refine j_saldN (a := 2) (by decide) (by show _ < gL g; omega) (by show gL g < 2 ^ 31; omega) dL_law_271 (q := 272) rfl ?_
        refine j_callVi2 (M' := M_X8_farmIs) lk_L_22 mv_X8_farmIs ob_70 (by omega) (Nat.le_of_ble_eq_true rfl) dL_law_272 (q := 275) rfl h8 ?_
        intro x2 τ2 hz2
        obtain ⟨e2, hI2⟩ := k8 _ _ hz2
        cases e2
        refine j_icmp_eq dL_law_275 (t := 1421) (by decide) (q := 278) rfl (fun c => ?_) (fun c => absurd rfl c)
        exact law_nx hL hc (ih (i + 6) τ2 (by omega) hc hI2)
      · skip
        refine j_aload_n dL_law_280 (q := 281) rfl rfl ?_
        refine j_aload_n dL_law_281 (q := 282) rfl rfl ?_
        refine j_iload_n dL_law_282 (q := 283) rfl rfl ?_
        refine j_iconst (v := 1) dL_law_283 (q := 284) rfl (by decide) ?_
        refine j_iaddN (b := 1) dL_law_284 (q := 285) rfl ?_
        refine j_saldN (a := 2) (by decide) (by show _ < gL g; omega) (by show gL g < 2 ^ 31; omega) dL_law_285 (q := 286) rfl ?_
        refine j_aload_n dL_law_286 (q := 287) rfl rfl ?_
        refine j_iload_n dL_law_287 (q := 288) rfl rfl ?_
        refine j_iconst (v := 2) dL_law_288 (q := 289) rfl (by decide) ?_
        refine j_iaddN (b := 2) dL_law_289 (q := 290) rfl ?_
        refine j_saldN (a := 2) (by decide) (by show _ < gL g; omega) (by show gL g < 2 ^ 31; omega) dL_law_290 (q := 291) rfl ?_
        obtain ⟨d7, Z7, a7, h7, k7⟩ : OP g σ M_X7_become M_X8_become [.int (stF g 2 (i + 1)), .int (stF g 2 (i + 2))] := op_become hI
        refine j_callVi2 (M' := M_X7_become) lk_L_23 mv_X7_become ob_0 (by omega) (Nat.le_of_ble_eq_true rfl) dL_law_291 (q := 294) rfl h7 ?_
        intro x1 τ1 hz1
        obtain ⟨x, d8, Z8, e1, a8, h8, k8⟩ := k7 _ _ hz1
        cases e1
        refine j_aload_n dL_law_294 (q := 295) rfl rfl ?_
        refine j_aload_n dL_law_295 (q := 296) rfl rfl ?_
        refine j_iload_n dL_law_296 (q := 297) rfl rfl ?_
        refine j_iconst (v := 1) dL_law_297 (q := 298) rfl (by decide) ?_
        refine j_iaddN (b := 1) dL_law_298 (q := 299) rfl ?_
        refine j_saldN (a := 2) (by decide) (by show _ < gL g; omega) (by show gL g < 2 ^ 31; omega) dL_law_299 (q := 300) rfl ?_
        refine j_aload_n dL_law_300 (q := 301) rfl rfl ?_
        refine j_iload_n dL_law_301 (q := 302) rfl rfl ?_
        refine j_iconst (v := 2) dL_law_302 (q := 303) rfl (by decide) ?_
        refine j_iaddN (b := 2) dL_law_303 (q := 304) rfl ?_
        refine j_saldN (a := 2) (by decide) (by show _ < gL g; omega) (by show gL g < 2 ^ 31; omega) dL_law_304 (q := 305) rfl ?_
        refine j_callVi2 (M' := M_X8_become) lk_L_26 mv_X8_become ob_70 (by omega) (Nat.le_of_ble_eq_true rfl) dL_law_305 (q := 308) rfl h8 ?_
        intro x2 τ2 hz2
        obtain ⟨e2, hI2⟩ := k8 _ _ hz2
        cases e2
        refine j_icmp_eq dL_law_308 (t := 1421) (by decide) (q := 311) rfl (fun c => ?_) (fun c => absurd rfl c)
        exact law_nx hL hc (ih (i + 6) τ2 (by omega) hc hI2)
      · skip
        refine j_aload_n dL_law_313 (q := 314) rfl rfl ?_
        refine j_aload_n dL_law_314 (q := 315) rfl rfl ?_
        refine j_iload_n dL_law_315 (q := 316) rfl rfl ?_
        refine j_iconst (v := 1) dL_law_316 (q := 317) rfl (by decide) ?_
        refine j_iaddN (b := 1) dL_law_317 (q := 318) rfl ?_
        refine j_saldN (a := 2) (by decide) (by show _ < gL g; omega) (by show gL g < 2 ^ 31; omega) dL_law_318 (q := 319) rfl ?_
        refine j_aload_n dL_law_319 (q := 320) rfl rfl ?_
        refine j_iload_n dL_law_320 (q := 321) rfl rfl ?_
        refine j_iconst (v := 2) dL_law_321 (q := 322) rfl (by decide) ?_
        refine j_iaddN (b := 2) dL_law_322 (q := 323) rfl ?_
        refine j_saldN (a := 2) (by decide) (by show _ < gL g; omega) (by show gL g < 2 ^ 31; omega) dL_law_323 (q := 324) rfl ?_
        obtain ⟨d7, Z7, a7, h7, k7⟩ : OP g σ M_X7_as M_X8_as [.int (stF g 2 (i + 1)), .int (stF g 2 (i + 2))] := op_as hI
        refine j_callVi2 (M' := M_X7_as) lk_L_27 mv_X7_as ob_0 (by omega) (Nat.le_of_ble_eq_true rfl) dL_law_324 (q := 327) rfl h7 ?_
        intro x1 τ1 hz1
        obtain ⟨x, d8, Z8, e1, a8, h8, k8⟩ := k7 _ _ hz1
        cases e1
        refine j_aload_n dL_law_327 (q := 328) rfl rfl ?_
        refine j_aload_n dL_law_328 (q := 329) rfl rfl ?_
        refine j_iload_n dL_law_329 (q := 330) rfl rfl ?_
        refine j_iconst (v := 1) dL_law_330 (q := 331) rfl (by decide) ?_
        refine j_iaddN (b := 1) dL_law_331 (q := 332) rfl ?_
        refine j_saldN (a := 2) (by decide) (by show _ < gL g; omega) (by show gL g < 2 ^ 31; omega) dL_law_332 (q := 333) rfl ?_
        refine j_aload_n dL_law_333 (q := 334) rfl rfl ?_
        refine j_iload_n dL_law_334 (q := 335) rfl rfl ?_
        refine j_iconst (v := 2) dL_law_335 (q := 336) rfl (by decide) ?_
        refine j_iaddN (b := 2) dL_law_336 (q := 337) rfl ?_
        refine j_saldN (a := 2) (by decide) (by show _ < gL g; omega) (by show gL g < 2 ^ 31; omega) dL_law_337 (q := 338) rfl ?_
        refine j_callVi2 (M' := M_X8_as) lk_L_30 mv_X8_as ob_70 (by omega) (Nat.le_of_ble_eq_true rfl) dL_law_338 (q := 341) rfl h8 ?_
        intro x2 τ2 hz2
        obtain ⟨e2, hI2⟩ := k8 _ _ hz2
        cases e2
        refine j_icmp_eq dL_law_341 (t := 1421) (by decide) (q := 344) rfl (fun c => ?_) (fun c => absurd rfl c)
        exact law_nx hL hc (ih (i + 6) τ2 (by omega) hc hI2)
      · skip
        refine j_aload_n dL_law_346 (q := 347) rfl rfl ?_
        refine j_aload_n dL_law_347 (q := 348) rfl rfl ?_
        refine j_iload_n dL_law_348 (q := 349) rfl rfl ?_
        refine j_iconst (v := 1) dL_law_349 (q := 350) rfl (by decide) ?_
        refine j_iaddN (b := 1) dL_law_350 (q := 351) rfl ?_
        refine j_saldN (a := 2) (by decide) (by show _ < gL g; omega) (by show gL g < 2 ^ 31; omega) dL_law_351 (q := 352) rfl ?_
        refine j_aload_n dL_law_352 (q := 353) rfl rfl ?_
        refine j_iload_n dL_law_353 (q := 354) rfl rfl ?_
        refine j_iconst (v := 2) dL_law_354 (q := 355) rfl (by decide) ?_
        refine j_iaddN (b := 2) dL_law_355 (q := 356) rfl ?_
        refine j_saldN (a := 2) (by decide) (by show _ < gL g; omega) (by show gL g < 2 ^ 31; omega) dL_law_356 (q := 357) rfl ?_
        obtain ⟨d7, Z7, a7, h7, k7⟩ : OP g σ M_X7_parch M_X8_parch [.int (stF g 2 (i + 1)), .int (stF g 2 (i + 2))] := op_parch hI
        refine j_callVi2 (M' := M_X7_parch) lk_L_31 mv_X7_parch ob_0 (by omega) (Nat.le_of_ble_eq_true rfl) dL_law_357 (q := 360) rfl h7 ?_
        intro x1 τ1 hz1
        obtain ⟨x, d8, Z8, e1, a8, h8, k8⟩ := k7 _ _ hz1
        cases e1
        refine j_aload_n dL_law_360 (q := 361) rfl rfl ?_
        refine j_aload_n dL_law_361 (q := 362) rfl rfl ?_
        refine j_iload_n dL_law_362 (q := 363) rfl rfl ?_
        refine j_iconst (v := 1) dL_law_363 (q := 364) rfl (by decide) ?_
        refine j_iaddN (b := 1) dL_law_364 (q := 365) rfl ?_
        refine j_saldN (a := 2) (by decide) (by show _ < gL g; omega) (by show gL g < 2 ^ 31; omega) dL_law_365 (q := 366) rfl ?_
        refine j_aload_n dL_law_366 (q := 367) rfl rfl ?_
        refine j_iload_n dL_law_367 (q := 368) rfl rfl ?_
        refine j_iconst (v := 2) dL_law_368 (q := 369) rfl (by decide) ?_
        refine j_iaddN (b := 2) dL_law_369 (q := 370) rfl ?_
        refine j_saldN (a := 2) (by decide) (by show _ < gL g; omega) (by show gL g < 2 ^ 31; omega) dL_law_370 (q := 371) rfl ?_
        refine j_callVi2 (M' := M_X8_parch) lk_L_34 mv_X8_parch ob_70 (by omega) (Nat.le_of_ble_eq_true rfl) dL_law_371 (q := 374) rfl h8 ?_
        intro x2 τ2 hz2
        obtain ⟨e2, hI2⟩ := k8 _ _ hz2
        cases e2
        refine j_icmp_eq dL_law_374 (t := 1421) (by decide) (q := 377) rfl (fun c => ?_) (fun c => absurd rfl c)
        exact law_nx hL hc (ih (i + 6) τ2 (by omega) hc hI2)
      · skip
        refine j_aload_n dL_law_379 (q := 380) rfl rfl ?_
        refine j_aload_n dL_law_380 (q := 381) rfl rfl ?_
        refine j_iload_n dL_law_381 (q := 382) rfl rfl ?_
        refine j_iconst (v := 1) dL_law_382 (q := 383) rfl (by decide) ?_
        refine j_iaddN (b := 1) dL_law_383 (q := 384) rfl ?_
        refine j_saldN (a := 2) (by decide) (by show _ < gL g; omega) (by show gL g < 2 ^ 31; omega) dL_law_384 (q := 385) rfl ?_
        refine j_aload_n dL_law_385 (q := 386) rfl rfl ?_
        refine j_iload_n dL_law_386 (q := 387) rfl rfl ?_
        refine j_iconst (v := 2) dL_law_387 (q := 388) rfl (by decide) ?_
        refine j_iaddN (b := 2) dL_law_388 (q := 389) rfl ?_
        refine j_saldN (a := 2) (by decide) (by show _ < gL g; omega) (by show gL g < 2 ^ 31; omega) dL_law_389 (q := 390) rfl ?_
        obtain ⟨d7, Z7, a7, h7, k7⟩ : OP g σ M_X7_graze M_X8_graze [.int (stF g 2 (i + 1)), .int (stF g 2 (i + 2))] := op_graze hI
        refine j_callVi2 (M' := M_X7_graze) lk_L_35 mv_X7_graze ob_0 (by omega) (Nat.le_of_ble_eq_true rfl) dL_law_390 (q := 393) rfl h7 ?_
        intro x1 τ1 hz1
        obtain ⟨x, d8, Z8, e1, a8, h8, k8⟩ := k7 _ _ hz1
        cases e1
        refine j_aload_n dL_law_393 (q := 394) rfl rfl ?_
        refine j_aload_n dL_law_394 (q := 395) rfl rfl ?_
        refine j_iload_n dL_law_395 (q := 396) rfl rfl ?_
        refine j_iconst (v := 1) dL_law_396 (q := 397) rfl (by decide) ?_
        refine j_iaddN (b := 1) dL_law_397 (q := 398) rfl ?_
        refine j_saldN (a := 2) (by decide) (by show _ < gL g; omega) (by show gL g < 2 ^ 31; omega) dL_law_398 (q := 399) rfl ?_
        refine j_aload_n dL_law_399 (q := 400) rfl rfl ?_
        refine j_iload_n dL_law_400 (q := 401) rfl rfl ?_
        refine j_iconst (v := 2) dL_law_401 (q := 402) rfl (by decide) ?_
        refine j_iaddN (b := 2) dL_law_402 (q := 403) rfl ?_
        refine j_saldN (a := 2) (by decide) (by show _ < gL g; omega) (by show gL g < 2 ^ 31; omega) dL_law_403 (q := 404) rfl ?_
        refine j_callVi2 (M' := M_X8_graze) lk_L_38 mv_X8_graze ob_70 (by omega) (Nat.le_of_ble_eq_true rfl) dL_law_404 (q := 407) rfl h8 ?_
        intro x2 τ2 hz2
        obtain ⟨e2, hI2⟩ := k8 _ _ hz2
        cases e2
        refine j_icmp_eq dL_law_407 (t := 1421) (by decide) (q := 410) rfl (fun c => ?_) (fun c => absurd rfl c)
        exact law_nx hL hc (ih (i + 6) τ2 (by omega) hc hI2)
      · skip
        refine j_aload_n dL_law_412 (q := 413) rfl rfl ?_
        refine j_aload_n dL_law_413 (q := 414) rfl rfl ?_
        refine j_iload_n dL_law_414 (q := 415) rfl rfl ?_
        refine j_iconst (v := 1) dL_law_415 (q := 416) rfl (by decide) ?_
        refine j_iaddN (b := 1) dL_law_416 (q := 417) rfl ?_
        refine j_saldN (a := 2) (by decide) (by show _ < gL g; omega) (by show gL g < 2 ^ 31; omega) dL_law_417 (q := 418) rfl ?_
        obtain ⟨d7, Z7, a7, h7, k7⟩ : OP g σ M_X7_carrier M_X8_carrier [.int (stF g 2 (i + 1))] := op_carrier hI
        refine j_callVi1 (M' := M_X7_carrier) lk_L_39 mv_X7_carrier ob_0 (by omega) (Nat.le_of_ble_eq_true rfl) dL_law_418 (q := 421) rfl h7 ?_
        intro x1 τ1 hz1
        obtain ⟨x, d8, Z8, e1, a8, h8, k8⟩ := k7 _ _ hz1
        cases e1
        refine j_aload_n dL_law_421 (q := 422) rfl rfl ?_
        refine j_aload_n dL_law_422 (q := 423) rfl rfl ?_
        refine j_iload_n dL_law_423 (q := 424) rfl rfl ?_
        refine j_iconst (v := 1) dL_law_424 (q := 425) rfl (by decide) ?_
        refine j_iaddN (b := 1) dL_law_425 (q := 426) rfl ?_
        refine j_saldN (a := 2) (by decide) (by show _ < gL g; omega) (by show gL g < 2 ^ 31; omega) dL_law_426 (q := 427) rfl ?_
        refine j_callVi1 (M' := M_X8_carrier) lk_L_43 mv_X8_carrier ob_70 (by omega) (Nat.le_of_ble_eq_true rfl) dL_law_427 (q := 430) rfl h8 ?_
        intro x2 τ2 hz2
        obtain ⟨e2, hI2⟩ := k8 _ _ hz2
        cases e2
        refine j_icmp_eq dL_law_430 (t := 1421) (by decide) (q := 433) rfl (fun c => ?_) (fun c => absurd rfl c)
        exact law_nx hL hc (ih (i + 6) τ2 (by omega) hc hI2)
      · skip
        refine j_aload_n dL_law_435 (q := 436) rfl rfl ?_
        refine j_aload_n dL_law_436 (q := 437) rfl rfl ?_
        refine j_iload_n dL_law_437 (q := 438) rfl rfl ?_
        refine j_iconst (v := 1) dL_law_438 (q := 439) rfl (by decide) ?_
        refine j_iaddN (b := 1) dL_law_439 (q := 440) rfl ?_
        refine j_saldN (a := 2) (by decide) (by show _ < gL g; omega) (by show gL g < 2 ^ 31; omega) dL_law_440 (q := 441) rfl ?_
        refine j_aload_n dL_law_441 (q := 442) rfl rfl ?_
        refine j_iload_n dL_law_442 (q := 443) rfl rfl ?_
        refine j_iconst (v := 2) dL_law_443 (q := 444) rfl (by decide) ?_
        refine j_iaddN (b := 2) dL_law_444 (q := 445) rfl ?_
        refine j_saldN (a := 2) (by decide) (by show _ < gL g; omega) (by show gL g < 2 ^ 31; omega) dL_law_445 (q := 446) rfl ?_
        obtain ⟨d7, Z7, a7, h7, k7⟩ : OP g σ M_X7_carrierIs M_X8_carrierIs [.int (stF g 2 (i + 1)), .int (stF g 2 (i + 2))] := op_carrierIs hI
        refine j_callVi2 (M' := M_X7_carrierIs) lk_L_44 mv_X7_carrierIs ob_0 (by omega) (Nat.le_of_ble_eq_true rfl) dL_law_446 (q := 449) rfl h7 ?_
        intro x1 τ1 hz1
        obtain ⟨x, d8, Z8, e1, a8, h8, k8⟩ := k7 _ _ hz1
        cases e1
        refine j_aload_n dL_law_449 (q := 450) rfl rfl ?_
        refine j_aload_n dL_law_450 (q := 451) rfl rfl ?_
        refine j_iload_n dL_law_451 (q := 452) rfl rfl ?_
        refine j_iconst (v := 1) dL_law_452 (q := 453) rfl (by decide) ?_
        refine j_iaddN (b := 1) dL_law_453 (q := 454) rfl ?_
        refine j_saldN (a := 2) (by decide) (by show _ < gL g; omega) (by show gL g < 2 ^ 31; omega) dL_law_454 (q := 455) rfl ?_
        refine j_aload_n dL_law_455 (q := 456) rfl rfl ?_
        refine j_iload_n dL_law_456 (q := 457) rfl rfl ?_
        refine j_iconst (v := 2) dL_law_457 (q := 458) rfl (by decide) ?_
        refine j_iaddN (b := 2) dL_law_458 (q := 459) rfl ?_
        refine j_saldN (a := 2) (by decide) (by show _ < gL g; omega) (by show gL g < 2 ^ 31; omega) dL_law_459 (q := 460) rfl ?_
        refine j_callVi2 (M' := M_X8_carrierIs) lk_L_47 mv_X8_carrierIs ob_70 (by omega) (Nat.le_of_ble_eq_true rfl) dL_law_460 (q := 463) rfl h8 ?_
        intro x2 τ2 hz2
        obtain ⟨e2, hI2⟩ := k8 _ _ hz2
        cases e2
        refine j_icmp_eq dL_law_463 (t := 1421) (by decide) (q := 466) rfl (fun c => ?_) (fun c => absurd rfl c)
        exact law_nx hL hc (ih (i + 6) τ2 (by omega) hc hI2)
      · skip
        refine j_aload_n dL_law_468 (q := 469) rfl rfl ?_
        refine j_aload_n dL_law_469 (q := 470) rfl rfl ?_
        refine j_iload_n dL_law_470 (q := 471) rfl rfl ?_
        refine j_iconst (v := 1) dL_law_471 (q := 472) rfl (by decide) ?_
        refine j_iaddN (b := 1) dL_law_472 (q := 473) rfl ?_
        refine j_saldN (a := 2) (by decide) (by show _ < gL g; omega) (by show gL g < 2 ^ 31; omega) dL_law_473 (q := 474) rfl ?_
        refine j_aload_n dL_law_474 (q := 475) rfl rfl ?_
        refine j_iload_n dL_law_475 (q := 476) rfl rfl ?_
        refine j_iconst (v := 2) dL_law_476 (q := 477) rfl (by decide) ?_
        refine j_iaddN (b := 2) dL_law_477 (q := 478) rfl ?_
        refine j_saldN (a := 2) (by decide) (by show _ < gL g; omega) (by show gL g < 2 ^ 31; omega) dL_law_478 (q := 479) rfl ?_
        obtain ⟨d7, Z7, a7, h7, k7⟩ : OP g σ M_X7_pool M_X8_pool [.int (stF g 2 (i + 1)), .int (stF g 2 (i + 2))] := op_pool hI
        refine j_callVi2 (M' := M_X7_pool) lk_L_48 mv_X7_pool ob_0 (by omega) (Nat.le_of_ble_eq_true rfl) dL_law_479 (q := 482) rfl h7 ?_
        intro x1 τ1 hz1
        obtain ⟨x, d8, Z8, e1, a8, h8, k8⟩ := k7 _ _ hz1
        cases e1
        refine j_aload_n dL_law_482 (q := 483) rfl rfl ?_
        refine j_aload_n dL_law_483 (q := 484) rfl rfl ?_
        refine j_iload_n dL_law_484 (q := 485) rfl rfl ?_
        refine j_iconst (v := 1) dL_law_485 (q := 486) rfl (by decide) ?_
        refine j_iaddN (b := 1) dL_law_486 (q := 487) rfl ?_
        refine j_saldN (a := 2) (by decide) (by show _ < gL g; omega) (by show gL g < 2 ^ 31; omega) dL_law_487 (q := 488) rfl ?_
        refine j_aload_n dL_law_488 (q := 489) rfl rfl ?_
        refine j_iload_n dL_law_489 (q := 490) rfl rfl ?_
        refine j_iconst (v := 2) dL_law_490 (q := 491) rfl (by decide) ?_
        refine j_iaddN (b := 2) dL_law_491 (q := 492) rfl ?_
        refine j_saldN (a := 2) (by decide) (by show _ < gL g; omega) (by show gL g < 2 ^ 31; omega) dL_law_492 (q := 493) rfl ?_
        refine j_callVi2 (M' := M_X8_pool) lk_L_51 mv_X8_pool ob_70 (by omega) (Nat.le_of_ble_eq_true rfl) dL_law_493 (q := 496) rfl h8 ?_
        intro x2 τ2 hz2
        obtain ⟨e2, hI2⟩ := k8 _ _ hz2
        cases e2
        refine j_icmp_eq dL_law_496 (t := 1421) (by decide) (q := 499) rfl (fun c => ?_) (fun c => absurd rfl c)
        exact law_nx hL hc (ih (i + 6) τ2 (by omega) hc hI2)
      · skip
        refine j_aload_n dL_law_501 (q := 502) rfl rfl ?_
        refine j_aload_n dL_law_502 (q := 503) rfl rfl ?_
        refine j_iload_n dL_law_503 (q := 504) rfl rfl ?_
        refine j_iconst (v := 1) dL_law_504 (q := 505) rfl (by decide) ?_
        refine j_iaddN (b := 1) dL_law_505 (q := 506) rfl ?_
        refine j_saldN (a := 2) (by decide) (by show _ < gL g; omega) (by show gL g < 2 ^ 31; omega) dL_law_506 (q := 507) rfl ?_
        refine j_aload_n dL_law_507 (q := 508) rfl rfl ?_
        refine j_iload_n dL_law_508 (q := 509) rfl rfl ?_
        refine j_iconst (v := 2) dL_law_509 (q := 510) rfl (by decide) ?_
        refine j_iaddN (b := 2) dL_law_510 (q := 511) rfl ?_
        refine j_saldN (a := 2) (by decide) (by show _ < gL g; omega) (by show gL g < 2 ^ 31; omega) dL_law_511 (q := 512) rfl ?_
        obtain ⟨d7, Z7, a7, h7, k7⟩ : OP g σ M_X7_swap M_X8_swap [.int (stF g 2 (i + 1)), .int (stF g 2 (i + 2))] := op_swap hI
        refine j_callVi2 (M' := M_X7_swap) lk_L_52 mv_X7_swap ob_0 (by omega) (Nat.le_of_ble_eq_true rfl) dL_law_512 (q := 515) rfl h7 ?_
        intro x1 τ1 hz1
        obtain ⟨x, d8, Z8, e1, a8, h8, k8⟩ := k7 _ _ hz1
        cases e1
        refine j_aload_n dL_law_515 (q := 516) rfl rfl ?_
        refine j_aload_n dL_law_516 (q := 517) rfl rfl ?_
        refine j_iload_n dL_law_517 (q := 518) rfl rfl ?_
        refine j_iconst (v := 1) dL_law_518 (q := 519) rfl (by decide) ?_
        refine j_iaddN (b := 1) dL_law_519 (q := 520) rfl ?_
        refine j_saldN (a := 2) (by decide) (by show _ < gL g; omega) (by show gL g < 2 ^ 31; omega) dL_law_520 (q := 521) rfl ?_
        refine j_aload_n dL_law_521 (q := 522) rfl rfl ?_
        refine j_iload_n dL_law_522 (q := 523) rfl rfl ?_
        refine j_iconst (v := 2) dL_law_523 (q := 524) rfl (by decide) ?_
        refine j_iaddN (b := 2) dL_law_524 (q := 525) rfl ?_
        refine j_saldN (a := 2) (by decide) (by show _ < gL g; omega) (by show gL g < 2 ^ 31; omega) dL_law_525 (q := 526) rfl ?_
        refine j_callVi2 (M' := M_X8_swap) lk_L_55 mv_X8_swap ob_70 (by omega) (Nat.le_of_ble_eq_true rfl) dL_law_526 (q := 529) rfl h8 ?_
        intro x2 τ2 hz2
        obtain ⟨e2, hI2⟩ := k8 _ _ hz2
        cases e2
        refine j_icmp_eq dL_law_529 (t := 1421) (by decide) (q := 532) rfl (fun c => ?_) (fun c => absurd rfl c)
        exact law_nx hL hc (ih (i + 6) τ2 (by omega) hc hI2)
      · skip
        refine j_aload_n dL_law_534 (q := 535) rfl rfl ?_
        refine j_aload_n dL_law_535 (q := 536) rfl rfl ?_
        refine j_iload_n dL_law_536 (q := 537) rfl rfl ?_
        refine j_iconst (v := 1) dL_law_537 (q := 538) rfl (by decide) ?_
        refine j_iaddN (b := 1) dL_law_538 (q := 539) rfl ?_
        refine j_saldN (a := 2) (by decide) (by show _ < gL g; omega) (by show gL g < 2 ^ 31; omega) dL_law_539 (q := 540) rfl ?_
        refine j_aload_n dL_law_540 (q := 541) rfl rfl ?_
        refine j_iload_n dL_law_541 (q := 542) rfl rfl ?_
        refine j_iconst (v := 2) dL_law_542 (q := 543) rfl (by decide) ?_
        refine j_iaddN (b := 2) dL_law_543 (q := 544) rfl ?_
        refine j_saldN (a := 2) (by decide) (by show _ < gL g; omega) (by show gL g < 2 ^ 31; omega) dL_law_544 (q := 545) rfl ?_
        refine j_aload_n dL_law_545 (q := 546) rfl rfl ?_
        refine j_iload_n dL_law_546 (q := 547) rfl rfl ?_
        refine j_iconst (v := 3) dL_law_547 (q := 548) rfl (by decide) ?_
        refine j_iaddN (b := 3) dL_law_548 (q := 549) rfl ?_
        refine j_saldN (a := 2) (by decide) (by show _ < gL g; omega) (by show gL g < 2 ^ 31; omega) dL_law_549 (q := 550) rfl ?_
        obtain ⟨d7, Z7, a7, h7, k7⟩ : OP g σ M_X7_carry M_X8_carry [.int (stF g 2 (i + 1)), .int (stF g 2 (i + 2)), .int (stF g 2 (i + 3))] := op_carry hI
        refine j_callVi3 (M' := M_X7_carry) lk_L_56 mv_X7_carry ob_0 (by omega) (Nat.le_of_ble_eq_true rfl) dL_law_550 (q := 553) rfl h7 ?_
        intro x1 τ1 hz1
        obtain ⟨x, d8, Z8, e1, a8, h8, k8⟩ := k7 _ _ hz1
        cases e1
        refine j_aload_n dL_law_553 (q := 554) rfl rfl ?_
        refine j_aload_n dL_law_554 (q := 555) rfl rfl ?_
        refine j_iload_n dL_law_555 (q := 556) rfl rfl ?_
        refine j_iconst (v := 1) dL_law_556 (q := 557) rfl (by decide) ?_
        refine j_iaddN (b := 1) dL_law_557 (q := 558) rfl ?_
        refine j_saldN (a := 2) (by decide) (by show _ < gL g; omega) (by show gL g < 2 ^ 31; omega) dL_law_558 (q := 559) rfl ?_
        refine j_aload_n dL_law_559 (q := 560) rfl rfl ?_
        refine j_iload_n dL_law_560 (q := 561) rfl rfl ?_
        refine j_iconst (v := 2) dL_law_561 (q := 562) rfl (by decide) ?_
        refine j_iaddN (b := 2) dL_law_562 (q := 563) rfl ?_
        refine j_saldN (a := 2) (by decide) (by show _ < gL g; omega) (by show gL g < 2 ^ 31; omega) dL_law_563 (q := 564) rfl ?_
        refine j_aload_n dL_law_564 (q := 565) rfl rfl ?_
        refine j_iload_n dL_law_565 (q := 566) rfl rfl ?_
        refine j_iconst (v := 3) dL_law_566 (q := 567) rfl (by decide) ?_
        refine j_iaddN (b := 3) dL_law_567 (q := 568) rfl ?_
        refine j_saldN (a := 2) (by decide) (by show _ < gL g; omega) (by show gL g < 2 ^ 31; omega) dL_law_568 (q := 569) rfl ?_
        refine j_callVi3 (M' := M_X8_carry) lk_L_59 mv_X8_carry ob_70 (by omega) (Nat.le_of_ble_eq_true rfl) dL_law_569 (q := 572) rfl h8 ?_
        intro x2 τ2 hz2
        obtain ⟨e2, hI2⟩ := k8 _ _ hz2
        cases e2
        refine j_icmp_eq dL_law_572 (t := 1421) (by decide) (q := 575) rfl (fun c => ?_) (fun c => absurd rfl c)
        exact law_nx hL hc (ih (i + 6) τ2 (by omega) hc hI2)
      · skip
        refine j_aload_n dL_law_577 (q := 578) rfl rfl ?_
        refine j_aload_n dL_law_578 (q := 579) rfl rfl ?_
        refine j_iload_n dL_law_579 (q := 580) rfl rfl ?_
        refine j_iconst (v := 1) dL_law_580 (q := 581) rfl (by decide) ?_
        refine j_iaddN (b := 1) dL_law_581 (q := 582) rfl ?_
        refine j_saldN (a := 2) (by decide) (by show _ < gL g; omega) (by show gL g < 2 ^ 31; omega) dL_law_582 (q := 583) rfl ?_
        refine j_i2l dL_law_583 (q := 584) rfl ?_
        refine j_bipush (v := 32) dL_law_584 (q := 586) rfl (by decide) ?_
        refine j_lshl dL_law_586 (q := 587) rfl ?_
        refine j_aload_n dL_law_587 (q := 588) rfl rfl ?_
        refine j_iload_n dL_law_588 (q := 589) rfl rfl ?_
        refine j_iconst (v := 2) dL_law_589 (q := 590) rfl (by decide) ?_
        refine j_iaddN (b := 2) dL_law_590 (q := 591) rfl ?_
        refine j_saldN (a := 2) (by decide) (by show _ < gL g; omega) (by show gL g < 2 ^ 31; omega) dL_law_591 (q := 592) rfl ?_
        refine j_i2l dL_law_592 (q := 593) rfl ?_
        refine j_ldc2 cn_L_60 dL_law_593 (q := 596) rfl ?_
        refine j_land dL_law_596 (q := 597) rfl ?_
        refine j_lor dL_law_597 (q := 598) rfl ?_
        refine j_aload_n dL_law_598 (q := 599) rfl rfl ?_
        refine j_iload_n dL_law_599 (q := 600) rfl rfl ?_
        refine j_iconst (v := 3) dL_law_600 (q := 601) rfl (by decide) ?_
        refine j_iaddN (b := 3) dL_law_601 (q := 602) rfl ?_
        refine j_saldN (a := 2) (by decide) (by show _ < gL g; omega) (by show gL g < 2 ^ 31; omega) dL_law_602 (q := 603) rfl ?_
        obtain ⟨d7, Z7, a7, h7, k7⟩ : OP g σ M_X7_feed M_X8_feed [.long (((stF g 2 (i + 1)).toInt64 <<< ((32 : Int32).toInt64 &&& 63)) ||| ((stF g 2 (i + 2)).toInt64 &&& 4294967295)), .int (stF g 2 (i + 3))] := op_feed hI
        refine j_callVi2 (M' := M_X7_feed) lk_L_62 mv_X7_feed ob_0 (by omega) (Nat.le_of_ble_eq_true rfl) dL_law_603 (q := 606) rfl h7 ?_
        intro x1 τ1 hz1
        obtain ⟨x, d8, Z8, e1, a8, h8, k8⟩ := k7 _ _ hz1
        cases e1
        refine j_aload_n dL_law_606 (q := 607) rfl rfl ?_
        refine j_aload_n dL_law_607 (q := 608) rfl rfl ?_
        refine j_iload_n dL_law_608 (q := 609) rfl rfl ?_
        refine j_iconst (v := 1) dL_law_609 (q := 610) rfl (by decide) ?_
        refine j_iaddN (b := 1) dL_law_610 (q := 611) rfl ?_
        refine j_saldN (a := 2) (by decide) (by show _ < gL g; omega) (by show gL g < 2 ^ 31; omega) dL_law_611 (q := 612) rfl ?_
        refine j_i2l dL_law_612 (q := 613) rfl ?_
        refine j_bipush (v := 32) dL_law_613 (q := 615) rfl (by decide) ?_
        refine j_lshl dL_law_615 (q := 616) rfl ?_
        refine j_aload_n dL_law_616 (q := 617) rfl rfl ?_
        refine j_iload_n dL_law_617 (q := 618) rfl rfl ?_
        refine j_iconst (v := 2) dL_law_618 (q := 619) rfl (by decide) ?_
        refine j_iaddN (b := 2) dL_law_619 (q := 620) rfl ?_
        refine j_saldN (a := 2) (by decide) (by show _ < gL g; omega) (by show gL g < 2 ^ 31; omega) dL_law_620 (q := 621) rfl ?_
        refine j_i2l dL_law_621 (q := 622) rfl ?_
        refine j_ldc2 cn_L_60 dL_law_622 (q := 625) rfl ?_
        refine j_land dL_law_625 (q := 626) rfl ?_
        refine j_lor dL_law_626 (q := 627) rfl ?_
        refine j_aload_n dL_law_627 (q := 628) rfl rfl ?_
        refine j_iload_n dL_law_628 (q := 629) rfl rfl ?_
        refine j_iconst (v := 3) dL_law_629 (q := 630) rfl (by decide) ?_
        refine j_iaddN (b := 3) dL_law_630 (q := 631) rfl ?_
        refine j_saldN (a := 2) (by decide) (by show _ < gL g; omega) (by show gL g < 2 ^ 31; omega) dL_law_631 (q := 632) rfl ?_
        refine j_callVi2 (M' := M_X8_feed) lk_L_66 mv_X8_feed ob_70 (by omega) (Nat.le_of_ble_eq_true rfl) dL_law_632 (q := 635) rfl h8 ?_
        intro x2 τ2 hz2
        obtain ⟨e2, hI2⟩ := k8 _ _ hz2
        cases e2
        refine j_icmp_eq dL_law_635 (t := 1421) (by decide) (q := 638) rfl (fun c => ?_) (fun c => absurd rfl c)
        exact law_nx hL hc (ih (i + 6) τ2 (by omega) hc hI2)
      · skip
        refine j_aload_n dL_law_640 (q := 641) rfl rfl ?_
        refine j_aload_n dL_law_641 (q := 642) rfl rfl ?_
        refine j_iload_n dL_law_642 (q := 643) rfl rfl ?_
        refine j_iconst (v := 1) dL_law_643 (q := 644) rfl (by decide) ?_
        refine j_iaddN (b := 1) dL_law_644 (q := 645) rfl ?_
        refine j_saldN (a := 2) (by decide) (by show _ < gL g; omega) (by show gL g < 2 ^ 31; omega) dL_law_645 (q := 646) rfl ?_
        obtain ⟨d7, Z7, a7, h7, k7⟩ : OP g σ M_X7_text M_X8_text [.int (stF g 2 (i + 1))] := op_text hI
        refine j_callVi1 (M' := M_X7_text) lk_L_67 mv_X7_text ob_0 (by omega) (Nat.le_of_ble_eq_true rfl) dL_law_646 (q := 649) rfl h7 ?_
        intro x1 τ1 hz1
        obtain ⟨x, d8, Z8, e1, a8, h8, k8⟩ := k7 _ _ hz1
        cases e1
        refine j_aload_n dL_law_649 (q := 650) rfl rfl ?_
        refine j_aload_n dL_law_650 (q := 651) rfl rfl ?_
        refine j_iload_n dL_law_651 (q := 652) rfl rfl ?_
        refine j_iconst (v := 1) dL_law_652 (q := 653) rfl (by decide) ?_
        refine j_iaddN (b := 1) dL_law_653 (q := 654) rfl ?_
        refine j_saldN (a := 2) (by decide) (by show _ < gL g; omega) (by show gL g < 2 ^ 31; omega) dL_law_654 (q := 655) rfl ?_
        refine j_callVi1 (M' := M_X8_text) lk_L_70 mv_X8_text ob_70 (by omega) (Nat.le_of_ble_eq_true rfl) dL_law_655 (q := 658) rfl h8 ?_
        intro x2 τ2 hz2
        obtain ⟨e2, hI2⟩ := k8 _ _ hz2
        cases e2
        refine j_icmp_eq dL_law_658 (t := 1421) (by decide) (q := 661) rfl (fun c => ?_) (fun c => absurd rfl c)
        exact law_nx hL hc (ih (i + 6) τ2 (by omega) hc hI2)
      · skip
        refine j_aload_n dL_law_663 (q := 664) rfl rfl ?_
        refine j_aload_n dL_law_664 (q := 665) rfl rfl ?_
        refine j_iload_n dL_law_665 (q := 666) rfl rfl ?_
        refine j_iconst (v := 1) dL_law_666 (q := 667) rfl (by decide) ?_
        refine j_iaddN (b := 1) dL_law_667 (q := 668) rfl ?_
        refine j_saldN (a := 2) (by decide) (by show _ < gL g; omega) (by show gL g < 2 ^ 31; omega) dL_law_668 (q := 669) rfl ?_
        obtain ⟨d7, Z7, a7, h7, k7⟩ : OP g σ M_X7_untell M_X8_untell [.int (stF g 2 (i + 1))] := op_untell hI
        refine j_callVi1 (M' := M_X7_untell) lk_L_71 mv_X7_untell ob_0 (by omega) (Nat.le_of_ble_eq_true rfl) dL_law_669 (q := 672) rfl h7 ?_
        intro x1 τ1 hz1
        obtain ⟨x, d8, Z8, e1, a8, h8, k8⟩ := k7 _ _ hz1
        cases e1
        refine j_aload_n dL_law_672 (q := 673) rfl rfl ?_
        refine j_aload_n dL_law_673 (q := 674) rfl rfl ?_
        refine j_iload_n dL_law_674 (q := 675) rfl rfl ?_
        refine j_iconst (v := 1) dL_law_675 (q := 676) rfl (by decide) ?_
        refine j_iaddN (b := 1) dL_law_676 (q := 677) rfl ?_
        refine j_saldN (a := 2) (by decide) (by show _ < gL g; omega) (by show gL g < 2 ^ 31; omega) dL_law_677 (q := 678) rfl ?_
        refine j_callVi1 (M' := M_X8_untell) lk_L_74 mv_X8_untell ob_70 (by omega) (Nat.le_of_ble_eq_true rfl) dL_law_678 (q := 681) rfl h8 ?_
        intro x2 τ2 hz2
        obtain ⟨e2, hI2⟩ := k8 _ _ hz2
        cases e2
        refine j_icmp_eq dL_law_681 (t := 1421) (by decide) (q := 684) rfl (fun c => ?_) (fun c => absurd rfl c)
        exact law_nx hL hc (ih (i + 6) τ2 (by omega) hc hI2)
      · skip
        refine j_aload_n dL_law_686 (q := 687) rfl rfl ?_
        refine j_aload_n dL_law_687 (q := 688) rfl rfl ?_
        refine j_iload_n dL_law_688 (q := 689) rfl rfl ?_
        refine j_iconst (v := 1) dL_law_689 (q := 690) rfl (by decide) ?_
        refine j_iaddN (b := 1) dL_law_690 (q := 691) rfl ?_
        refine j_saldN (a := 2) (by decide) (by show _ < gL g; omega) (by show gL g < 2 ^ 31; omega) dL_law_691 (q := 692) rfl ?_
        refine j_aload_n dL_law_692 (q := 693) rfl rfl ?_
        refine j_iload_n dL_law_693 (q := 694) rfl rfl ?_
        refine j_iconst (v := 2) dL_law_694 (q := 695) rfl (by decide) ?_
        refine j_iaddN (b := 2) dL_law_695 (q := 696) rfl ?_
        refine j_saldN (a := 2) (by decide) (by show _ < gL g; omega) (by show gL g < 2 ^ 31; omega) dL_law_696 (q := 697) rfl ?_
        refine j_aload_n dL_law_697 (q := 698) rfl rfl ?_
        refine j_iload_n dL_law_698 (q := 699) rfl rfl ?_
        refine j_iconst (v := 3) dL_law_699 (q := 700) rfl (by decide) ?_
        refine j_iaddN (b := 3) dL_law_700 (q := 701) rfl ?_
        refine j_saldN (a := 2) (by decide) (by show _ < gL g; omega) (by show gL g < 2 ^ 31; omega) dL_law_701 (q := 702) rfl ?_
        refine j_aload_n dL_law_702 (q := 703) rfl rfl ?_
        refine j_iload_n dL_law_703 (q := 704) rfl rfl ?_
        refine j_iconst (v := 4) dL_law_704 (q := 705) rfl (by decide) ?_
        refine j_iaddN (b := 4) dL_law_705 (q := 706) rfl ?_
        refine j_saldN (a := 2) (by decide) (by show _ < gL g; omega) (by show gL g < 2 ^ 31; omega) dL_law_706 (q := 707) rfl ?_
        obtain ⟨d7, Z7, a7, h7, k7⟩ : OP g σ M_X7_law M_X8_law [.int (stF g 2 (i + 1)), .int (stF g 2 (i + 2)), .int (stF g 2 (i + 3)), .int (stF g 2 (i + 4))] := op_law hI
        refine j_callVi4 (M' := M_X7_law) lk_L_75 mv_X7_law ob_0 (by omega) (Nat.le_of_ble_eq_true rfl) dL_law_707 (q := 710) rfl h7 ?_
        intro x1 τ1 hz1
        obtain ⟨x, d8, Z8, e1, a8, h8, k8⟩ := k7 _ _ hz1
        cases e1
        refine j_aload_n dL_law_710 (q := 711) rfl rfl ?_
        refine j_aload_n dL_law_711 (q := 712) rfl rfl ?_
        refine j_iload_n dL_law_712 (q := 713) rfl rfl ?_
        refine j_iconst (v := 1) dL_law_713 (q := 714) rfl (by decide) ?_
        refine j_iaddN (b := 1) dL_law_714 (q := 715) rfl ?_
        refine j_saldN (a := 2) (by decide) (by show _ < gL g; omega) (by show gL g < 2 ^ 31; omega) dL_law_715 (q := 716) rfl ?_
        refine j_aload_n dL_law_716 (q := 717) rfl rfl ?_
        refine j_iload_n dL_law_717 (q := 718) rfl rfl ?_
        refine j_iconst (v := 2) dL_law_718 (q := 719) rfl (by decide) ?_
        refine j_iaddN (b := 2) dL_law_719 (q := 720) rfl ?_
        refine j_saldN (a := 2) (by decide) (by show _ < gL g; omega) (by show gL g < 2 ^ 31; omega) dL_law_720 (q := 721) rfl ?_
        refine j_aload_n dL_law_721 (q := 722) rfl rfl ?_
        refine j_iload_n dL_law_722 (q := 723) rfl rfl ?_
        refine j_iconst (v := 3) dL_law_723 (q := 724) rfl (by decide) ?_
        refine j_iaddN (b := 3) dL_law_724 (q := 725) rfl ?_
        refine j_saldN (a := 2) (by decide) (by show _ < gL g; omega) (by show gL g < 2 ^ 31; omega) dL_law_725 (q := 726) rfl ?_
        refine j_aload_n dL_law_726 (q := 727) rfl rfl ?_
        refine j_iload_n dL_law_727 (q := 728) rfl rfl ?_
        refine j_iconst (v := 4) dL_law_728 (q := 729) rfl (by decide) ?_
        refine j_iaddN (b := 4) dL_law_729 (q := 730) rfl ?_
        refine j_saldN (a := 2) (by decide) (by show _ < gL g; omega) (by show gL g < 2 ^ 31; omega) dL_law_730 (q := 731) rfl ?_
        refine j_callVi4 (M' := M_X8_law) lk_L_79 mv_X8_law ob_70 (by omega) (Nat.le_of_ble_eq_true rfl) dL_law_731 (q := 734) rfl h8 ?_
        intro x2 τ2 hz2
        obtain ⟨e2, hI2⟩ := k8 _ _ hz2
        cases e2
        refine j_icmp_eq dL_law_734 (t := 1421) (by decide) (q := 737) rfl (fun c => ?_) (fun c => absurd rfl c)
        exact law_nx hL hc (ih (i + 6) τ2 (by omega) hc hI2)
      · skip
        refine j_aload_n dL_law_739 (q := 740) rfl rfl ?_
        refine j_aload_n dL_law_740 (q := 741) rfl rfl ?_
        refine j_iload_n dL_law_741 (q := 742) rfl rfl ?_
        refine j_iconst (v := 1) dL_law_742 (q := 743) rfl (by decide) ?_
        refine j_iaddN (b := 1) dL_law_743 (q := 744) rfl ?_
        refine j_saldN (a := 2) (by decide) (by show _ < gL g; omega) (by show gL g < 2 ^ 31; omega) dL_law_744 (q := 745) rfl ?_
        obtain ⟨d7, Z7, a7, h7, k7⟩ : OP g σ M_X7_hours M_X8_hours [.int (stF g 2 (i + 1))] := op_hours hI
        refine j_callVi1 (M' := M_X7_hours) lk_L_80 mv_X7_hours ob_0 (by omega) (Nat.le_of_ble_eq_true rfl) dL_law_745 (q := 748) rfl h7 ?_
        intro x1 τ1 hz1
        obtain ⟨x, d8, Z8, e1, a8, h8, k8⟩ := k7 _ _ hz1
        cases e1
        refine j_aload_n dL_law_748 (q := 749) rfl rfl ?_
        refine j_aload_n dL_law_749 (q := 750) rfl rfl ?_
        refine j_iload_n dL_law_750 (q := 751) rfl rfl ?_
        refine j_iconst (v := 1) dL_law_751 (q := 752) rfl (by decide) ?_
        refine j_iaddN (b := 1) dL_law_752 (q := 753) rfl ?_
        refine j_saldN (a := 2) (by decide) (by show _ < gL g; omega) (by show gL g < 2 ^ 31; omega) dL_law_753 (q := 754) rfl ?_
        refine j_callVi1 (M' := M_X8_hours) lk_L_83 mv_X8_hours ob_70 (by omega) (Nat.le_of_ble_eq_true rfl) dL_law_754 (q := 757) rfl h8 ?_
        intro x2 τ2 hz2
        obtain ⟨e2, hI2⟩ := k8 _ _ hz2
        cases e2
        refine j_icmp_eq dL_law_757 (t := 1421) (by decide) (q := 760) rfl (fun c => ?_) (fun c => absurd rfl c)
        exact law_nx hL hc (ih (i + 6) τ2 (by omega) hc hI2)
      · skip
        refine j_aload_n dL_law_762 (q := 763) rfl rfl ?_
        refine j_aload_n dL_law_763 (q := 764) rfl rfl ?_
        refine j_iload_n dL_law_764 (q := 765) rfl rfl ?_
        refine j_iconst (v := 1) dL_law_765 (q := 766) rfl (by decide) ?_
        refine j_iaddN (b := 1) dL_law_766 (q := 767) rfl ?_
        refine j_saldN (a := 2) (by decide) (by show _ < gL g; omega) (by show gL g < 2 ^ 31; omega) dL_law_767 (q := 768) rfl ?_
        obtain ⟨d7, Z7, a7, h7, k7⟩ : OP g σ M_X7_loose M_X8_loose [.int (stF g 2 (i + 1))] := op_loose hI
        refine j_callVi1 (M' := M_X7_loose) lk_L_84 mv_X7_loose ob_0 (by omega) (Nat.le_of_ble_eq_true rfl) dL_law_768 (q := 771) rfl h7 ?_
        intro x1 τ1 hz1
        obtain ⟨x, d8, Z8, e1, a8, h8, k8⟩ := k7 _ _ hz1
        cases e1
        refine j_aload_n dL_law_771 (q := 772) rfl rfl ?_
        refine j_aload_n dL_law_772 (q := 773) rfl rfl ?_
        refine j_iload_n dL_law_773 (q := 774) rfl rfl ?_
        refine j_iconst (v := 1) dL_law_774 (q := 775) rfl (by decide) ?_
        refine j_iaddN (b := 1) dL_law_775 (q := 776) rfl ?_
        refine j_saldN (a := 2) (by decide) (by show _ < gL g; omega) (by show gL g < 2 ^ 31; omega) dL_law_776 (q := 777) rfl ?_
        refine j_callVi1 (M' := M_X8_loose) lk_L_87 mv_X8_loose ob_70 (by omega) (Nat.le_of_ble_eq_true rfl) dL_law_777 (q := 780) rfl h8 ?_
        intro x2 τ2 hz2
        obtain ⟨e2, hI2⟩ := k8 _ _ hz2
        cases e2
        refine j_icmp_eq dL_law_780 (t := 1421) (by decide) (q := 783) rfl (fun c => ?_) (fun c => absurd rfl c)
        exact law_nx hL hc (ih (i + 6) τ2 (by omega) hc hI2)
      · skip
        refine j_aload_n dL_law_785 (q := 786) rfl rfl ?_
        refine j_aload_n dL_law_786 (q := 787) rfl rfl ?_
        refine j_iload_n dL_law_787 (q := 788) rfl rfl ?_
        refine j_iconst (v := 1) dL_law_788 (q := 789) rfl (by decide) ?_
        refine j_iaddN (b := 1) dL_law_789 (q := 790) rfl ?_
        refine j_saldN (a := 2) (by decide) (by show _ < gL g; omega) (by show gL g < 2 ^ 31; omega) dL_law_790 (q := 791) rfl ?_
        obtain ⟨d7, Z7, a7, h7, k7⟩ : OP g σ M_X7_hour M_X8_hour [.int (stF g 2 (i + 1))] := op_hour hI
        refine j_callVi1 (M' := M_X7_hour) lk_L_88 mv_X7_hour ob_0 (by omega) (Nat.le_of_ble_eq_true rfl) dL_law_791 (q := 794) rfl h7 ?_
        intro x1 τ1 hz1
        obtain ⟨x, d8, Z8, e1, a8, h8, k8⟩ := k7 _ _ hz1
        cases e1
        refine j_aload_n dL_law_794 (q := 795) rfl rfl ?_
        refine j_aload_n dL_law_795 (q := 796) rfl rfl ?_
        refine j_iload_n dL_law_796 (q := 797) rfl rfl ?_
        refine j_iconst (v := 1) dL_law_797 (q := 798) rfl (by decide) ?_
        refine j_iaddN (b := 1) dL_law_798 (q := 799) rfl ?_
        refine j_saldN (a := 2) (by decide) (by show _ < gL g; omega) (by show gL g < 2 ^ 31; omega) dL_law_799 (q := 800) rfl ?_
        refine j_callVi1 (M' := M_X8_hour) lk_L_91 mv_X8_hour ob_70 (by omega) (Nat.le_of_ble_eq_true rfl) dL_law_800 (q := 803) rfl h8 ?_
        intro x2 τ2 hz2
        obtain ⟨e2, hI2⟩ := k8 _ _ hz2
        cases e2
        refine j_icmp_eq dL_law_803 (t := 1421) (by decide) (q := 806) rfl (fun c => ?_) (fun c => absurd rfl c)
        exact law_nx hL hc (ih (i + 6) τ2 (by omega) hc hI2)
      · skip
        refine j_aload_n dL_law_808 (q := 809) rfl rfl ?_
        refine j_aload_n dL_law_809 (q := 810) rfl rfl ?_
        refine j_iload_n dL_law_810 (q := 811) rfl rfl ?_
        refine j_iconst (v := 1) dL_law_811 (q := 812) rfl (by decide) ?_
        refine j_iaddN (b := 1) dL_law_812 (q := 813) rfl ?_
        refine j_saldN (a := 2) (by decide) (by show _ < gL g; omega) (by show gL g < 2 ^ 31; omega) dL_law_813 (q := 814) rfl ?_
        obtain ⟨d7, Z7, a7, h7, k7⟩ : OP g σ M_X7_seed M_X8_seed [.int (stF g 2 (i + 1))] := op_seed hI
        refine j_callVi1 (M' := M_X7_seed) lk_L_92 mv_X7_seed ob_0 (by omega) (Nat.le_of_ble_eq_true rfl) dL_law_814 (q := 817) rfl h7 ?_
        intro x1 τ1 hz1
        obtain ⟨x, d8, Z8, e1, a8, h8, k8⟩ := k7 _ _ hz1
        cases e1
        refine j_aload_n dL_law_817 (q := 818) rfl rfl ?_
        refine j_aload_n dL_law_818 (q := 819) rfl rfl ?_
        refine j_iload_n dL_law_819 (q := 820) rfl rfl ?_
        refine j_iconst (v := 1) dL_law_820 (q := 821) rfl (by decide) ?_
        refine j_iaddN (b := 1) dL_law_821 (q := 822) rfl ?_
        refine j_saldN (a := 2) (by decide) (by show _ < gL g; omega) (by show gL g < 2 ^ 31; omega) dL_law_822 (q := 823) rfl ?_
        refine j_callVi1 (M' := M_X8_seed) lk_L_95 mv_X8_seed ob_70 (by omega) (Nat.le_of_ble_eq_true rfl) dL_law_823 (q := 826) rfl h8 ?_
        intro x2 τ2 hz2
        obtain ⟨e2, hI2⟩ := k8 _ _ hz2
        cases e2
        refine j_icmp_eq dL_law_826 (t := 1421) (by decide) (q := 829) rfl (fun c => ?_) (fun c => absurd rfl c)
        exact law_nx hL hc (ih (i + 6) τ2 (by omega) hc hI2)
      · skip
        refine j_aload_n dL_law_831 (q := 832) rfl rfl ?_
        refine j_aload_n dL_law_832 (q := 833) rfl rfl ?_
        refine j_iload_n dL_law_833 (q := 834) rfl rfl ?_
        refine j_iconst (v := 1) dL_law_834 (q := 835) rfl (by decide) ?_
        refine j_iaddN (b := 1) dL_law_835 (q := 836) rfl ?_
        refine j_saldN (a := 2) (by decide) (by show _ < gL g; omega) (by show gL g < 2 ^ 31; omega) dL_law_836 (q := 837) rfl ?_
        refine j_aload_n dL_law_837 (q := 838) rfl rfl ?_
        refine j_iload_n dL_law_838 (q := 839) rfl rfl ?_
        refine j_iconst (v := 2) dL_law_839 (q := 840) rfl (by decide) ?_
        refine j_iaddN (b := 2) dL_law_840 (q := 841) rfl ?_
        refine j_saldN (a := 2) (by decide) (by show _ < gL g; omega) (by show gL g < 2 ^ 31; omega) dL_law_841 (q := 842) rfl ?_
        obtain ⟨d7, Z7, a7, h7, k7⟩ : OP g σ M_X7_then M_X8_then [.int (stF g 2 (i + 1)), .int (stF g 2 (i + 2))] := op_then hI
        refine j_callVi2 (M' := M_X7_then) lk_L_96 mv_X7_then ob_0 (by omega) (Nat.le_of_ble_eq_true rfl) dL_law_842 (q := 845) rfl h7 ?_
        intro x1 τ1 hz1
        obtain ⟨x, d8, Z8, e1, a8, h8, k8⟩ := k7 _ _ hz1
        cases e1
        refine j_aload_n dL_law_845 (q := 846) rfl rfl ?_
        refine j_aload_n dL_law_846 (q := 847) rfl rfl ?_
        refine j_iload_n dL_law_847 (q := 848) rfl rfl ?_
        refine j_iconst (v := 1) dL_law_848 (q := 849) rfl (by decide) ?_
        refine j_iaddN (b := 1) dL_law_849 (q := 850) rfl ?_
        refine j_saldN (a := 2) (by decide) (by show _ < gL g; omega) (by show gL g < 2 ^ 31; omega) dL_law_850 (q := 851) rfl ?_
        refine j_aload_n dL_law_851 (q := 852) rfl rfl ?_
        refine j_iload_n dL_law_852 (q := 853) rfl rfl ?_
        refine j_iconst (v := 2) dL_law_853 (q := 854) rfl (by decide) ?_
        refine j_iaddN (b := 2) dL_law_854 (q := 855) rfl ?_
        refine j_saldN (a := 2) (by decide) (by show _ < gL g; omega) (by show gL g < 2 ^ 31; omega) dL_law_855 (q := 856) rfl ?_
        refine j_callVi2 (M' := M_X8_then) lk_L_99 mv_X8_then ob_70 (by omega) (Nat.le_of_ble_eq_true rfl) dL_law_856 (q := 859) rfl h8 ?_
        intro x2 τ2 hz2
        obtain ⟨e2, hI2⟩ := k8 _ _ hz2
        cases e2
        refine j_icmp_eq dL_law_859 (t := 1421) (by decide) (q := 862) rfl (fun c => ?_) (fun c => absurd rfl c)
        exact law_nx hL hc (ih (i + 6) τ2 (by omega) hc hI2)
      · skip
        refine j_aload_n dL_law_864 (q := 865) rfl rfl ?_
        refine j_aload_n dL_law_865 (q := 866) rfl rfl ?_
        refine j_iload_n dL_law_866 (q := 867) rfl rfl ?_
        refine j_iconst (v := 1) dL_law_867 (q := 868) rfl (by decide) ?_
        refine j_iaddN (b := 1) dL_law_868 (q := 869) rfl ?_
        refine j_saldN (a := 2) (by decide) (by show _ < gL g; omega) (by show gL g < 2 ^ 31; omega) dL_law_869 (q := 870) rfl ?_
        refine j_aload_n dL_law_870 (q := 871) rfl rfl ?_
        refine j_iload_n dL_law_871 (q := 872) rfl rfl ?_
        refine j_iconst (v := 2) dL_law_872 (q := 873) rfl (by decide) ?_
        refine j_iaddN (b := 2) dL_law_873 (q := 874) rfl ?_
        refine j_saldN (a := 2) (by decide) (by show _ < gL g; omega) (by show gL g < 2 ^ 31; omega) dL_law_874 (q := 875) rfl ?_
        obtain ⟨d7, Z7, a7, h7, k7⟩ : OP g σ M_X7_first M_X8_first [.int (stF g 2 (i + 1)), .int (stF g 2 (i + 2))] := op_first hI
        refine j_callVi2 (M' := M_X7_first) lk_L_100 mv_X7_first ob_0 (by omega) (Nat.le_of_ble_eq_true rfl) dL_law_875 (q := 878) rfl h7 ?_
        intro x1 τ1 hz1
        obtain ⟨x, d8, Z8, e1, a8, h8, k8⟩ := k7 _ _ hz1
        cases e1
        refine j_aload_n dL_law_878 (q := 879) rfl rfl ?_
        refine j_aload_n dL_law_879 (q := 880) rfl rfl ?_
        refine j_iload_n dL_law_880 (q := 881) rfl rfl ?_
        refine j_iconst (v := 1) dL_law_881 (q := 882) rfl (by decide) ?_
        refine j_iaddN (b := 1) dL_law_882 (q := 883) rfl ?_
        refine j_saldN (a := 2) (by decide) (by show _ < gL g; omega) (by show gL g < 2 ^ 31; omega) dL_law_883 (q := 884) rfl ?_
        refine j_aload_n dL_law_884 (q := 885) rfl rfl ?_
        refine j_iload_n dL_law_885 (q := 886) rfl rfl ?_
        refine j_iconst (v := 2) dL_law_886 (q := 887) rfl (by decide) ?_
        refine j_iaddN (b := 2) dL_law_887 (q := 888) rfl ?_
        refine j_saldN (a := 2) (by decide) (by show _ < gL g; omega) (by show gL g < 2 ^ 31; omega) dL_law_888 (q := 889) rfl ?_
        refine j_callVi2 (M' := M_X8_first) lk_L_103 mv_X8_first ob_70 (by omega) (Nat.le_of_ble_eq_true rfl) dL_law_889 (q := 892) rfl h8 ?_
        intro x2 τ2 hz2
        obtain ⟨e2, hI2⟩ := k8 _ _ hz2
        cases e2
        refine j_icmp_eq dL_law_892 (t := 1421) (by decide) (q := 895) rfl (fun c => ?_) (fun c => absurd rfl c)
        exact law_nx hL hc (ih (i + 6) τ2 (by omega) hc hI2)
      · skip
        refine j_aload_n dL_law_897 (q := 898) rfl rfl ?_
        refine j_aload_n dL_law_898 (q := 899) rfl rfl ?_
        refine j_iload_n dL_law_899 (q := 900) rfl rfl ?_
        refine j_iconst (v := 1) dL_law_900 (q := 901) rfl (by decide) ?_
        refine j_iaddN (b := 1) dL_law_901 (q := 902) rfl ?_
        refine j_saldN (a := 2) (by decide) (by show _ < gL g; omega) (by show gL g < 2 ^ 31; omega) dL_law_902 (q := 903) rfl ?_
        refine j_aload_n dL_law_903 (q := 904) rfl rfl ?_
        refine j_iload_n dL_law_904 (q := 905) rfl rfl ?_
        refine j_iconst (v := 2) dL_law_905 (q := 906) rfl (by decide) ?_
        refine j_iaddN (b := 2) dL_law_906 (q := 907) rfl ?_
        refine j_saldN (a := 2) (by decide) (by show _ < gL g; omega) (by show gL g < 2 ^ 31; omega) dL_law_907 (q := 908) rfl ?_
        obtain ⟨d7, Z7, a7, h7, k7⟩ : OP g σ M_X7_round M_X8_round [.int (stF g 2 (i + 1)), .int (stF g 2 (i + 2))] := op_round hI
        refine j_callVi2 (M' := M_X7_round) lk_L_104 mv_X7_round ob_0 (by omega) (Nat.le_of_ble_eq_true rfl) dL_law_908 (q := 911) rfl h7 ?_
        intro x1 τ1 hz1
        obtain ⟨x, d8, Z8, e1, a8, h8, k8⟩ := k7 _ _ hz1
        cases e1
        refine j_aload_n dL_law_911 (q := 912) rfl rfl ?_
        refine j_aload_n dL_law_912 (q := 913) rfl rfl ?_
        refine j_iload_n dL_law_913 (q := 914) rfl rfl ?_
        refine j_iconst (v := 1) dL_law_914 (q := 915) rfl (by decide) ?_
        refine j_iaddN (b := 1) dL_law_915 (q := 916) rfl ?_
        refine j_saldN (a := 2) (by decide) (by show _ < gL g; omega) (by show gL g < 2 ^ 31; omega) dL_law_916 (q := 917) rfl ?_
        refine j_aload_n dL_law_917 (q := 918) rfl rfl ?_
        refine j_iload_n dL_law_918 (q := 919) rfl rfl ?_
        refine j_iconst (v := 2) dL_law_919 (q := 920) rfl (by decide) ?_
        refine j_iaddN (b := 2) dL_law_920 (q := 921) rfl ?_
        refine j_saldN (a := 2) (by decide) (by show _ < gL g; omega) (by show gL g < 2 ^ 31; omega) dL_law_921 (q := 922) rfl ?_
        refine j_callVi2 (M' := M_X8_round) lk_L_107 mv_X8_round ob_70 (by omega) (Nat.le_of_ble_eq_true rfl) dL_law_922 (q := 925) rfl h8 ?_
        intro x2 τ2 hz2
        obtain ⟨e2, hI2⟩ := k8 _ _ hz2
        cases e2
        refine j_icmp_eq dL_law_925 (t := 1421) (by decide) (q := 928) rfl (fun c => ?_) (fun c => absurd rfl c)
        exact law_nx hL hc (ih (i + 6) τ2 (by omega) hc hI2)
      · skip
        refine j_aload_n dL_law_930 (q := 931) rfl rfl ?_
        refine j_aload_n dL_law_931 (q := 932) rfl rfl ?_
        refine j_iload_n dL_law_932 (q := 933) rfl rfl ?_
        refine j_iconst (v := 1) dL_law_933 (q := 934) rfl (by decide) ?_
        refine j_iaddN (b := 1) dL_law_934 (q := 935) rfl ?_
        refine j_saldN (a := 2) (by decide) (by show _ < gL g; omega) (by show gL g < 2 ^ 31; omega) dL_law_935 (q := 936) rfl ?_
        refine j_aload_n dL_law_936 (q := 937) rfl rfl ?_
        refine j_iload_n dL_law_937 (q := 938) rfl rfl ?_
        refine j_iconst (v := 2) dL_law_938 (q := 939) rfl (by decide) ?_
        refine j_iaddN (b := 2) dL_law_939 (q := 940) rfl ?_
        refine j_saldN (a := 2) (by decide) (by show _ < gL g; omega) (by show gL g < 2 ^ 31; omega) dL_law_940 (q := 941) rfl ?_
        obtain ⟨d7, Z7, a7, h7, k7⟩ : OP g σ M_X7_fewest M_X8_fewest [.int (stF g 2 (i + 1)), .int (stF g 2 (i + 2))] := op_fewest hI
        refine j_callVi2 (M' := M_X7_fewest) lk_L_108 mv_X7_fewest ob_0 (by omega) (Nat.le_of_ble_eq_true rfl) dL_law_941 (q := 944) rfl h7 ?_
        intro x1 τ1 hz1
        obtain ⟨x, d8, Z8, e1, a8, h8, k8⟩ := k7 _ _ hz1
        cases e1
        refine j_aload_n dL_law_944 (q := 945) rfl rfl ?_
        refine j_aload_n dL_law_945 (q := 946) rfl rfl ?_
        refine j_iload_n dL_law_946 (q := 947) rfl rfl ?_
        refine j_iconst (v := 1) dL_law_947 (q := 948) rfl (by decide) ?_
        refine j_iaddN (b := 1) dL_law_948 (q := 949) rfl ?_
        refine j_saldN (a := 2) (by decide) (by show _ < gL g; omega) (by show gL g < 2 ^ 31; omega) dL_law_949 (q := 950) rfl ?_
        refine j_aload_n dL_law_950 (q := 951) rfl rfl ?_
        refine j_iload_n dL_law_951 (q := 952) rfl rfl ?_
        refine j_iconst (v := 2) dL_law_952 (q := 953) rfl (by decide) ?_
        refine j_iaddN (b := 2) dL_law_953 (q := 954) rfl ?_
        refine j_saldN (a := 2) (by decide) (by show _ < gL g; omega) (by show gL g < 2 ^ 31; omega) dL_law_954 (q := 955) rfl ?_
        refine j_callVi2 (M' := M_X8_fewest) lk_L_111 mv_X8_fewest ob_70 (by omega) (Nat.le_of_ble_eq_true rfl) dL_law_955 (q := 958) rfl h8 ?_
        intro x2 τ2 hz2
        obtain ⟨e2, hI2⟩ := k8 _ _ hz2
        cases e2
        refine j_icmp_eq dL_law_958 (t := 1421) (by decide) (q := 961) rfl (fun c => ?_) (fun c => absurd rfl c)
        exact law_nx hL hc (ih (i + 6) τ2 (by omega) hc hI2)
      · skip
        refine j_aload_n dL_law_963 (q := 964) rfl rfl ?_
        refine j_aload_n dL_law_964 (q := 965) rfl rfl ?_
        refine j_iload_n dL_law_965 (q := 966) rfl rfl ?_
        refine j_iconst (v := 1) dL_law_966 (q := 967) rfl (by decide) ?_
        refine j_iaddN (b := 1) dL_law_967 (q := 968) rfl ?_
        refine j_saldN (a := 2) (by decide) (by show _ < gL g; omega) (by show gL g < 2 ^ 31; omega) dL_law_968 (q := 969) rfl ?_
        refine j_aload_n dL_law_969 (q := 970) rfl rfl ?_
        refine j_iload_n dL_law_970 (q := 971) rfl rfl ?_
        refine j_iconst (v := 2) dL_law_971 (q := 972) rfl (by decide) ?_
        refine j_iaddN (b := 2) dL_law_972 (q := 973) rfl ?_
        refine j_saldN (a := 2) (by decide) (by show _ < gL g; omega) (by show gL g < 2 ^ 31; omega) dL_law_973 (q := 974) rfl ?_
        obtain ⟨d7, Z7, a7, h7, k7⟩ : OP g σ M_X7_odds M_X8_odds [.int (stF g 2 (i + 1)), .int (stF g 2 (i + 2))] := op_odds hI
        refine j_callVi2 (M' := M_X7_odds) lk_L_112 mv_X7_odds ob_0 (by omega) (Nat.le_of_ble_eq_true rfl) dL_law_974 (q := 977) rfl h7 ?_
        intro x1 τ1 hz1
        obtain ⟨x, d8, Z8, e1, a8, h8, k8⟩ := k7 _ _ hz1
        cases e1
        refine j_aload_n dL_law_977 (q := 978) rfl rfl ?_
        refine j_aload_n dL_law_978 (q := 979) rfl rfl ?_
        refine j_iload_n dL_law_979 (q := 980) rfl rfl ?_
        refine j_iconst (v := 1) dL_law_980 (q := 981) rfl (by decide) ?_
        refine j_iaddN (b := 1) dL_law_981 (q := 982) rfl ?_
        refine j_saldN (a := 2) (by decide) (by show _ < gL g; omega) (by show gL g < 2 ^ 31; omega) dL_law_982 (q := 983) rfl ?_
        refine j_aload_n dL_law_983 (q := 984) rfl rfl ?_
        refine j_iload_n dL_law_984 (q := 985) rfl rfl ?_
        refine j_iconst (v := 2) dL_law_985 (q := 986) rfl (by decide) ?_
        refine j_iaddN (b := 2) dL_law_986 (q := 987) rfl ?_
        refine j_saldN (a := 2) (by decide) (by show _ < gL g; omega) (by show gL g < 2 ^ 31; omega) dL_law_987 (q := 988) rfl ?_
        refine j_callVi2 (M' := M_X8_odds) lk_L_115 mv_X8_odds ob_70 (by omega) (Nat.le_of_ble_eq_true rfl) dL_law_988 (q := 991) rfl h8 ?_
        intro x2 τ2 hz2
        obtain ⟨e2, hI2⟩ := k8 _ _ hz2
        cases e2
        refine j_icmp_eq dL_law_991 (t := 1421) (by decide) (q := 994) rfl (fun c => ?_) (fun c => absurd rfl c)
        exact law_nx hL hc (ih (i + 6) τ2 (by omega) hc hI2)
      · skip
        refine j_aload_n dL_law_996 (q := 997) rfl rfl ?_
        refine j_aload_n dL_law_997 (q := 998) rfl rfl ?_
        refine j_iload_n dL_law_998 (q := 999) rfl rfl ?_
        refine j_iconst (v := 1) dL_law_999 (q := 1000) rfl (by decide) ?_
        refine j_iaddN (b := 1) dL_law_1000 (q := 1001) rfl ?_
        refine j_saldN (a := 2) (by decide) (by show _ < gL g; omega) (by show gL g < 2 ^ 31; omega) dL_law_1001 (q := 1002) rfl ?_
        refine j_aload_n dL_law_1002 (q := 1003) rfl rfl ?_
        refine j_iload_n dL_law_1003 (q := 1004) rfl rfl ?_
        refine j_iconst (v := 2) dL_law_1004 (q := 1005) rfl (by decide) ?_
        refine j_iaddN (b := 2) dL_law_1005 (q := 1006) rfl ?_
        refine j_saldN (a := 2) (by decide) (by show _ < gL g; omega) (by show gL g < 2 ^ 31; omega) dL_law_1006 (q := 1007) rfl ?_
        obtain ⟨d7, Z7, a7, h7, k7⟩ : OP g σ M_X7_whose M_X8_whose [.int (stF g 2 (i + 1)), .int (stF g 2 (i + 2))] := op_whose hI
        refine j_callVi2 (M' := M_X7_whose) lk_L_116 mv_X7_whose ob_0 (by omega) (Nat.le_of_ble_eq_true rfl) dL_law_1007 (q := 1010) rfl h7 ?_
        intro x1 τ1 hz1
        obtain ⟨x, d8, Z8, e1, a8, h8, k8⟩ := k7 _ _ hz1
        cases e1
        refine j_aload_n dL_law_1010 (q := 1011) rfl rfl ?_
        refine j_aload_n dL_law_1011 (q := 1012) rfl rfl ?_
        refine j_iload_n dL_law_1012 (q := 1013) rfl rfl ?_
        refine j_iconst (v := 1) dL_law_1013 (q := 1014) rfl (by decide) ?_
        refine j_iaddN (b := 1) dL_law_1014 (q := 1015) rfl ?_
        refine j_saldN (a := 2) (by decide) (by show _ < gL g; omega) (by show gL g < 2 ^ 31; omega) dL_law_1015 (q := 1016) rfl ?_
        refine j_aload_n dL_law_1016 (q := 1017) rfl rfl ?_
        refine j_iload_n dL_law_1017 (q := 1018) rfl rfl ?_
        refine j_iconst (v := 2) dL_law_1018 (q := 1019) rfl (by decide) ?_
        refine j_iaddN (b := 2) dL_law_1019 (q := 1020) rfl ?_
        refine j_saldN (a := 2) (by decide) (by show _ < gL g; omega) (by show gL g < 2 ^ 31; omega) dL_law_1020 (q := 1021) rfl ?_
        refine j_callVi2 (M' := M_X8_whose) lk_L_119 mv_X8_whose ob_70 (by omega) (Nat.le_of_ble_eq_true rfl) dL_law_1021 (q := 1024) rfl h8 ?_
        intro x2 τ2 hz2
        obtain ⟨e2, hI2⟩ := k8 _ _ hz2
        cases e2
        refine j_icmp_eq dL_law_1024 (t := 1421) (by decide) (q := 1027) rfl (fun c => ?_) (fun c => absurd rfl c)
        exact law_nx hL hc (ih (i + 6) τ2 (by omega) hc hI2)
      · skip
        refine j_aload_n dL_law_1029 (q := 1030) rfl rfl ?_
        refine j_aload_n dL_law_1030 (q := 1031) rfl rfl ?_
        refine j_iload_n dL_law_1031 (q := 1032) rfl rfl ?_
        refine j_iconst (v := 1) dL_law_1032 (q := 1033) rfl (by decide) ?_
        refine j_iaddN (b := 1) dL_law_1033 (q := 1034) rfl ?_
        refine j_saldN (a := 2) (by decide) (by show _ < gL g; omega) (by show gL g < 2 ^ 31; omega) dL_law_1034 (q := 1035) rfl ?_
        obtain ⟨d7, Z7, a7, h7, k7⟩ : OP g σ M_X7_fits M_X8_fits [.int (stF g 2 (i + 1))] := op_fits hI
        refine j_callVi1 (M' := M_X7_fits) lk_L_120 mv_X7_fits ob_0 (by omega) (Nat.le_of_ble_eq_true rfl) dL_law_1035 (q := 1038) rfl h7 ?_
        intro x1 τ1 hz1
        obtain ⟨x, d8, Z8, e1, a8, h8, k8⟩ := k7 _ _ hz1
        cases e1
        refine j_aload_n dL_law_1038 (q := 1039) rfl rfl ?_
        refine j_aload_n dL_law_1039 (q := 1040) rfl rfl ?_
        refine j_iload_n dL_law_1040 (q := 1041) rfl rfl ?_
        refine j_iconst (v := 1) dL_law_1041 (q := 1042) rfl (by decide) ?_
        refine j_iaddN (b := 1) dL_law_1042 (q := 1043) rfl ?_
        refine j_saldN (a := 2) (by decide) (by show _ < gL g; omega) (by show gL g < 2 ^ 31; omega) dL_law_1043 (q := 1044) rfl ?_
        refine j_callVi1 (M' := M_X8_fits) lk_L_123 mv_X8_fits ob_70 (by omega) (Nat.le_of_ble_eq_true rfl) dL_law_1044 (q := 1047) rfl h8 ?_
        intro x2 τ2 hz2
        obtain ⟨e2, hI2⟩ := k8 _ _ hz2
        cases e2
        refine j_icmp_eq dL_law_1047 (t := 1421) (by decide) (q := 1050) rfl (fun c => ?_) (fun c => absurd rfl c)
        exact law_nx hL hc (ih (i + 6) τ2 (by omega) hc hI2)
      · skip
        refine j_aload_n dL_law_1052 (q := 1053) rfl rfl ?_
        refine j_aload_n dL_law_1053 (q := 1054) rfl rfl ?_
        refine j_iload_n dL_law_1054 (q := 1055) rfl rfl ?_
        refine j_iconst (v := 1) dL_law_1055 (q := 1056) rfl (by decide) ?_
        refine j_iaddN (b := 1) dL_law_1056 (q := 1057) rfl ?_
        refine j_saldN (a := 2) (by decide) (by show _ < gL g; omega) (by show gL g < 2 ^ 31; omega) dL_law_1057 (q := 1058) rfl ?_
        refine j_aload_n dL_law_1058 (q := 1059) rfl rfl ?_
        refine j_iload_n dL_law_1059 (q := 1060) rfl rfl ?_
        refine j_iconst (v := 2) dL_law_1060 (q := 1061) rfl (by decide) ?_
        refine j_iaddN (b := 2) dL_law_1061 (q := 1062) rfl ?_
        refine j_saldN (a := 2) (by decide) (by show _ < gL g; omega) (by show gL g < 2 ^ 31; omega) dL_law_1062 (q := 1063) rfl ?_
        refine j_aload_n dL_law_1063 (q := 1064) rfl rfl ?_
        refine j_iload_n dL_law_1064 (q := 1065) rfl rfl ?_
        refine j_iconst (v := 3) dL_law_1065 (q := 1066) rfl (by decide) ?_
        refine j_iaddN (b := 3) dL_law_1066 (q := 1067) rfl ?_
        refine j_saldN (a := 2) (by decide) (by show _ < gL g; omega) (by show gL g < 2 ^ 31; omega) dL_law_1067 (q := 1068) rfl ?_
        obtain ⟨d7, Z7, a7, h7, k7⟩ : OP g σ M_X7_voice M_X8_voice [.int (stF g 2 (i + 1)), .int (stF g 2 (i + 2)), .int (stF g 2 (i + 3))] := op_voice hI
        refine j_callVi3 (M' := M_X7_voice) lk_L_124 mv_X7_voice ob_0 (by omega) (Nat.le_of_ble_eq_true rfl) dL_law_1068 (q := 1071) rfl h7 ?_
        intro x1 τ1 hz1
        obtain ⟨x, d8, Z8, e1, a8, h8, k8⟩ := k7 _ _ hz1
        cases e1
        refine j_aload_n dL_law_1071 (q := 1072) rfl rfl ?_
        refine j_aload_n dL_law_1072 (q := 1073) rfl rfl ?_
        refine j_iload_n dL_law_1073 (q := 1074) rfl rfl ?_
        refine j_iconst (v := 1) dL_law_1074 (q := 1075) rfl (by decide) ?_
        refine j_iaddN (b := 1) dL_law_1075 (q := 1076) rfl ?_
        refine j_saldN (a := 2) (by decide) (by show _ < gL g; omega) (by show gL g < 2 ^ 31; omega) dL_law_1076 (q := 1077) rfl ?_
        refine j_aload_n dL_law_1077 (q := 1078) rfl rfl ?_
        refine j_iload_n dL_law_1078 (q := 1079) rfl rfl ?_
        refine j_iconst (v := 2) dL_law_1079 (q := 1080) rfl (by decide) ?_
        refine j_iaddN (b := 2) dL_law_1080 (q := 1081) rfl ?_
        refine j_saldN (a := 2) (by decide) (by show _ < gL g; omega) (by show gL g < 2 ^ 31; omega) dL_law_1081 (q := 1082) rfl ?_
        refine j_aload_n dL_law_1082 (q := 1083) rfl rfl ?_
        refine j_iload_n dL_law_1083 (q := 1084) rfl rfl ?_
        refine j_iconst (v := 3) dL_law_1084 (q := 1085) rfl (by decide) ?_
        refine j_iaddN (b := 3) dL_law_1085 (q := 1086) rfl ?_
        refine j_saldN (a := 2) (by decide) (by show _ < gL g; omega) (by show gL g < 2 ^ 31; omega) dL_law_1086 (q := 1087) rfl ?_
        refine j_callVi3 (M' := M_X8_voice) lk_L_127 mv_X8_voice ob_70 (by omega) (Nat.le_of_ble_eq_true rfl) dL_law_1087 (q := 1090) rfl h8 ?_
        intro x2 τ2 hz2
        obtain ⟨e2, hI2⟩ := k8 _ _ hz2
        cases e2
        refine j_icmp_eq dL_law_1090 (t := 1421) (by decide) (q := 1093) rfl (fun c => ?_) (fun c => absurd rfl c)
        exact law_nx hL hc (ih (i + 6) τ2 (by omega) hc hI2)
      · skip
        refine j_aload_n dL_law_1095 (q := 1096) rfl rfl ?_
        refine j_aload_n dL_law_1096 (q := 1097) rfl rfl ?_
        refine j_iload_n dL_law_1097 (q := 1098) rfl rfl ?_
        refine j_iconst (v := 1) dL_law_1098 (q := 1099) rfl (by decide) ?_
        refine j_iaddN (b := 1) dL_law_1099 (q := 1100) rfl ?_
        refine j_saldN (a := 2) (by decide) (by show _ < gL g; omega) (by show gL g < 2 ^ 31; omega) dL_law_1100 (q := 1101) rfl ?_
        obtain ⟨d7, Z7, a7, h7, k7⟩ : OP g σ M_X7_body M_X8_body [.int (stF g 2 (i + 1))] := op_body hI
        refine j_callVi1 (M' := M_X7_body) lk_L_128 mv_X7_body ob_0 (by omega) (Nat.le_of_ble_eq_true rfl) dL_law_1101 (q := 1104) rfl h7 ?_
        intro x1 τ1 hz1
        obtain ⟨x, d8, Z8, e1, a8, h8, k8⟩ := k7 _ _ hz1
        cases e1
        refine j_aload_n dL_law_1104 (q := 1105) rfl rfl ?_
        refine j_aload_n dL_law_1105 (q := 1106) rfl rfl ?_
        refine j_iload_n dL_law_1106 (q := 1107) rfl rfl ?_
        refine j_iconst (v := 1) dL_law_1107 (q := 1108) rfl (by decide) ?_
        refine j_iaddN (b := 1) dL_law_1108 (q := 1109) rfl ?_
        refine j_saldN (a := 2) (by decide) (by show _ < gL g; omega) (by show gL g < 2 ^ 31; omega) dL_law_1109 (q := 1110) rfl ?_
        refine j_callVi1 (M' := M_X8_body) lk_L_131 mv_X8_body ob_70 (by omega) (Nat.le_of_ble_eq_true rfl) dL_law_1110 (q := 1113) rfl h8 ?_
        intro x2 τ2 hz2
        obtain ⟨e2, hI2⟩ := k8 _ _ hz2
        cases e2
        refine j_icmp_eq dL_law_1113 (t := 1421) (by decide) (q := 1116) rfl (fun c => ?_) (fun c => absurd rfl c)
        exact law_nx hL hc (ih (i + 6) τ2 (by omega) hc hI2)
      · skip
        refine j_aload_n dL_law_1118 (q := 1119) rfl rfl ?_
        refine j_aload_n dL_law_1119 (q := 1120) rfl rfl ?_
        refine j_iload_n dL_law_1120 (q := 1121) rfl rfl ?_
        refine j_iconst (v := 1) dL_law_1121 (q := 1122) rfl (by decide) ?_
        refine j_iaddN (b := 1) dL_law_1122 (q := 1123) rfl ?_
        refine j_saldN (a := 2) (by decide) (by show _ < gL g; omega) (by show gL g < 2 ^ 31; omega) dL_law_1123 (q := 1124) rfl ?_
        refine j_aload_n dL_law_1124 (q := 1125) rfl rfl ?_
        refine j_iload_n dL_law_1125 (q := 1126) rfl rfl ?_
        refine j_iconst (v := 2) dL_law_1126 (q := 1127) rfl (by decide) ?_
        refine j_iaddN (b := 2) dL_law_1127 (q := 1128) rfl ?_
        refine j_saldN (a := 2) (by decide) (by show _ < gL g; omega) (by show gL g < 2 ^ 31; omega) dL_law_1128 (q := 1129) rfl ?_
        refine j_aload_n dL_law_1129 (q := 1130) rfl rfl ?_
        refine j_iload_n dL_law_1130 (q := 1131) rfl rfl ?_
        refine j_iconst (v := 3) dL_law_1131 (q := 1132) rfl (by decide) ?_
        refine j_iaddN (b := 3) dL_law_1132 (q := 1133) rfl ?_
        refine j_saldN (a := 2) (by decide) (by show _ < gL g; omega) (by show gL g < 2 ^ 31; omega) dL_law_1133 (q := 1134) rfl ?_
        obtain ⟨d7, Z7, a7, h7, k7⟩ : OP g σ M_X7_sheet M_X8_sheet [.int (stF g 2 (i + 1)), .int (stF g 2 (i + 2)), .int (stF g 2 (i + 3))] := op_sheet hI
        refine j_callVi3 (M' := M_X7_sheet) lk_L_132 mv_X7_sheet ob_0 (by omega) (Nat.le_of_ble_eq_true rfl) dL_law_1134 (q := 1137) rfl h7 ?_
        intro x1 τ1 hz1
        obtain ⟨x, d8, Z8, e1, a8, h8, k8⟩ := k7 _ _ hz1
        cases e1
        refine j_aload_n dL_law_1137 (q := 1138) rfl rfl ?_
        refine j_aload_n dL_law_1138 (q := 1139) rfl rfl ?_
        refine j_iload_n dL_law_1139 (q := 1140) rfl rfl ?_
        refine j_iconst (v := 1) dL_law_1140 (q := 1141) rfl (by decide) ?_
        refine j_iaddN (b := 1) dL_law_1141 (q := 1142) rfl ?_
        refine j_saldN (a := 2) (by decide) (by show _ < gL g; omega) (by show gL g < 2 ^ 31; omega) dL_law_1142 (q := 1143) rfl ?_
        refine j_aload_n dL_law_1143 (q := 1144) rfl rfl ?_
        refine j_iload_n dL_law_1144 (q := 1145) rfl rfl ?_
        refine j_iconst (v := 2) dL_law_1145 (q := 1146) rfl (by decide) ?_
        refine j_iaddN (b := 2) dL_law_1146 (q := 1147) rfl ?_
        refine j_saldN (a := 2) (by decide) (by show _ < gL g; omega) (by show gL g < 2 ^ 31; omega) dL_law_1147 (q := 1148) rfl ?_
        refine j_aload_n dL_law_1148 (q := 1149) rfl rfl ?_
        refine j_iload_n dL_law_1149 (q := 1150) rfl rfl ?_
        refine j_iconst (v := 3) dL_law_1150 (q := 1151) rfl (by decide) ?_
        refine j_iaddN (b := 3) dL_law_1151 (q := 1152) rfl ?_
        refine j_saldN (a := 2) (by decide) (by show _ < gL g; omega) (by show gL g < 2 ^ 31; omega) dL_law_1152 (q := 1153) rfl ?_
        refine j_callVi3 (M' := M_X8_sheet) lk_L_135 mv_X8_sheet ob_70 (by omega) (Nat.le_of_ble_eq_true rfl) dL_law_1153 (q := 1156) rfl h8 ?_
        intro x2 τ2 hz2
        obtain ⟨e2, hI2⟩ := k8 _ _ hz2
        cases e2
        refine j_icmp_eq dL_law_1156 (t := 1421) (by decide) (q := 1159) rfl (fun c => ?_) (fun c => absurd rfl c)
        exact law_nx hL hc (ih (i + 6) τ2 (by omega) hc hI2)
      · skip
        refine j_aload_n dL_law_1161 (q := 1162) rfl rfl ?_
        refine j_aload_n dL_law_1162 (q := 1163) rfl rfl ?_
        refine j_iload_n dL_law_1163 (q := 1164) rfl rfl ?_
        refine j_iconst (v := 1) dL_law_1164 (q := 1165) rfl (by decide) ?_
        refine j_iaddN (b := 1) dL_law_1165 (q := 1166) rfl ?_
        refine j_saldN (a := 2) (by decide) (by show _ < gL g; omega) (by show gL g < 2 ^ 31; omega) dL_law_1166 (q := 1167) rfl ?_
        refine j_aload_n dL_law_1167 (q := 1168) rfl rfl ?_
        refine j_iload_n dL_law_1168 (q := 1169) rfl rfl ?_
        refine j_iconst (v := 2) dL_law_1169 (q := 1170) rfl (by decide) ?_
        refine j_iaddN (b := 2) dL_law_1170 (q := 1171) rfl ?_
        refine j_saldN (a := 2) (by decide) (by show _ < gL g; omega) (by show gL g < 2 ^ 31; omega) dL_law_1171 (q := 1172) rfl ?_
        refine j_aload_n dL_law_1172 (q := 1173) rfl rfl ?_
        refine j_iload_n dL_law_1173 (q := 1174) rfl rfl ?_
        refine j_iconst (v := 3) dL_law_1174 (q := 1175) rfl (by decide) ?_
        refine j_iaddN (b := 3) dL_law_1175 (q := 1176) rfl ?_
        refine j_saldN (a := 2) (by decide) (by show _ < gL g; omega) (by show gL g < 2 ^ 31; omega) dL_law_1176 (q := 1177) rfl ?_
        obtain ⟨d7, Z7, a7, h7, k7⟩ : OP g σ M_X7_put M_X8_put [.int (stF g 2 (i + 1)), .int (stF g 2 (i + 2)), .int (stF g 2 (i + 3))] := op_put hI
        refine j_callVi3 (M' := M_X7_put) lk_L_136 mv_X7_put ob_0 (by omega) (Nat.le_of_ble_eq_true rfl) dL_law_1177 (q := 1180) rfl h7 ?_
        intro x1 τ1 hz1
        obtain ⟨x, d8, Z8, e1, a8, h8, k8⟩ := k7 _ _ hz1
        cases e1
        refine j_aload_n dL_law_1180 (q := 1181) rfl rfl ?_
        refine j_aload_n dL_law_1181 (q := 1182) rfl rfl ?_
        refine j_iload_n dL_law_1182 (q := 1183) rfl rfl ?_
        refine j_iconst (v := 1) dL_law_1183 (q := 1184) rfl (by decide) ?_
        refine j_iaddN (b := 1) dL_law_1184 (q := 1185) rfl ?_
        refine j_saldN (a := 2) (by decide) (by show _ < gL g; omega) (by show gL g < 2 ^ 31; omega) dL_law_1185 (q := 1186) rfl ?_
        refine j_aload_n dL_law_1186 (q := 1187) rfl rfl ?_
        refine j_iload_n dL_law_1187 (q := 1188) rfl rfl ?_
        refine j_iconst (v := 2) dL_law_1188 (q := 1189) rfl (by decide) ?_
        refine j_iaddN (b := 2) dL_law_1189 (q := 1190) rfl ?_
        refine j_saldN (a := 2) (by decide) (by show _ < gL g; omega) (by show gL g < 2 ^ 31; omega) dL_law_1190 (q := 1191) rfl ?_
        refine j_aload_n dL_law_1191 (q := 1192) rfl rfl ?_
        refine j_iload_n dL_law_1192 (q := 1193) rfl rfl ?_
        refine j_iconst (v := 3) dL_law_1193 (q := 1194) rfl (by decide) ?_
        refine j_iaddN (b := 3) dL_law_1194 (q := 1195) rfl ?_
        refine j_saldN (a := 2) (by decide) (by show _ < gL g; omega) (by show gL g < 2 ^ 31; omega) dL_law_1195 (q := 1196) rfl ?_
        refine j_callVi3 (M' := M_X8_put) lk_L_139 mv_X8_put ob_70 (by omega) (Nat.le_of_ble_eq_true rfl) dL_law_1196 (q := 1199) rfl h8 ?_
        intro x2 τ2 hz2
        obtain ⟨e2, hI2⟩ := k8 _ _ hz2
        cases e2
        refine j_icmp_eq dL_law_1199 (t := 1421) (by decide) (q := 1202) rfl (fun c => ?_) (fun c => absurd rfl c)
        exact law_nx hL hc (ih (i + 6) τ2 (by omega) hc hI2)
      · skip
        refine j_aload_n dL_law_1204 (q := 1205) rfl rfl ?_
        refine j_aload_n dL_law_1205 (q := 1206) rfl rfl ?_
        refine j_iload_n dL_law_1206 (q := 1207) rfl rfl ?_
        refine j_iconst (v := 1) dL_law_1207 (q := 1208) rfl (by decide) ?_
        refine j_iaddN (b := 1) dL_law_1208 (q := 1209) rfl ?_
        refine j_saldN (a := 2) (by decide) (by show _ < gL g; omega) (by show gL g < 2 ^ 31; omega) dL_law_1209 (q := 1210) rfl ?_
        refine j_aload_n dL_law_1210 (q := 1211) rfl rfl ?_
        refine j_iload_n dL_law_1211 (q := 1212) rfl rfl ?_
        refine j_iconst (v := 2) dL_law_1212 (q := 1213) rfl (by decide) ?_
        refine j_iaddN (b := 2) dL_law_1213 (q := 1214) rfl ?_
        refine j_saldN (a := 2) (by decide) (by show _ < gL g; omega) (by show gL g < 2 ^ 31; omega) dL_law_1214 (q := 1215) rfl ?_
        refine j_aload_n dL_law_1215 (q := 1216) rfl rfl ?_
        refine j_iload_n dL_law_1216 (q := 1217) rfl rfl ?_
        refine j_iconst (v := 3) dL_law_1217 (q := 1218) rfl (by decide) ?_
        refine j_iaddN (b := 3) dL_law_1218 (q := 1219) rfl ?_
        refine j_saldN (a := 2) (by decide) (by show _ < gL g; omega) (by show gL g < 2 ^ 31; omega) dL_law_1219 (q := 1220) rfl ?_
        refine j_aload_n dL_law_1220 (q := 1221) rfl rfl ?_
        refine j_iload_n dL_law_1221 (q := 1222) rfl rfl ?_
        refine j_iconst (v := 4) dL_law_1222 (q := 1223) rfl (by decide) ?_
        refine j_iaddN (b := 4) dL_law_1223 (q := 1224) rfl ?_
        refine j_saldN (a := 2) (by decide) (by show _ < gL g; omega) (by show gL g < 2 ^ 31; omega) dL_law_1224 (q := 1225) rfl ?_
        refine j_aload_n dL_law_1225 (q := 1226) rfl rfl ?_
        refine j_iload_n dL_law_1226 (q := 1227) rfl rfl ?_
        refine j_iconst (v := 5) dL_law_1227 (q := 1228) rfl (by decide) ?_
        refine j_iaddN (b := 5) dL_law_1228 (q := 1229) rfl ?_
        refine j_saldN (a := 2) (by decide) (by show _ < gL g; omega) (by show gL g < 2 ^ 31; omega) dL_law_1229 (q := 1230) rfl ?_
        obtain ⟨d7, Z7, a7, h7, k7⟩ : OP g σ M_X7_move M_X8_move [.int (stF g 2 (i + 1)), .int (stF g 2 (i + 2)), .int (stF g 2 (i + 3)), .int (stF g 2 (i + 4)), .int (stF g 2 (i + 5))] := op_move hI
        refine j_callVi5 (M' := M_X7_move) lk_L_140 mv_X7_move ob_0 (by omega) (Nat.le_of_ble_eq_true rfl) dL_law_1230 (q := 1233) rfl h7 ?_
        intro x1 τ1 hz1
        obtain ⟨x, d8, Z8, e1, a8, h8, k8⟩ := k7 _ _ hz1
        cases e1
        refine j_aload_n dL_law_1233 (q := 1234) rfl rfl ?_
        refine j_aload_n dL_law_1234 (q := 1235) rfl rfl ?_
        refine j_iload_n dL_law_1235 (q := 1236) rfl rfl ?_
        refine j_iconst (v := 1) dL_law_1236 (q := 1237) rfl (by decide) ?_
        refine j_iaddN (b := 1) dL_law_1237 (q := 1238) rfl ?_
        refine j_saldN (a := 2) (by decide) (by show _ < gL g; omega) (by show gL g < 2 ^ 31; omega) dL_law_1238 (q := 1239) rfl ?_
        refine j_aload_n dL_law_1239 (q := 1240) rfl rfl ?_
        refine j_iload_n dL_law_1240 (q := 1241) rfl rfl ?_
        refine j_iconst (v := 2) dL_law_1241 (q := 1242) rfl (by decide) ?_
        refine j_iaddN (b := 2) dL_law_1242 (q := 1243) rfl ?_
        refine j_saldN (a := 2) (by decide) (by show _ < gL g; omega) (by show gL g < 2 ^ 31; omega) dL_law_1243 (q := 1244) rfl ?_
        refine j_aload_n dL_law_1244 (q := 1245) rfl rfl ?_
        refine j_iload_n dL_law_1245 (q := 1246) rfl rfl ?_
        refine j_iconst (v := 3) dL_law_1246 (q := 1247) rfl (by decide) ?_
        refine j_iaddN (b := 3) dL_law_1247 (q := 1248) rfl ?_
        refine j_saldN (a := 2) (by decide) (by show _ < gL g; omega) (by show gL g < 2 ^ 31; omega) dL_law_1248 (q := 1249) rfl ?_
        refine j_aload_n dL_law_1249 (q := 1250) rfl rfl ?_
        refine j_iload_n dL_law_1250 (q := 1251) rfl rfl ?_
        refine j_iconst (v := 4) dL_law_1251 (q := 1252) rfl (by decide) ?_
        refine j_iaddN (b := 4) dL_law_1252 (q := 1253) rfl ?_
        refine j_saldN (a := 2) (by decide) (by show _ < gL g; omega) (by show gL g < 2 ^ 31; omega) dL_law_1253 (q := 1254) rfl ?_
        refine j_aload_n dL_law_1254 (q := 1255) rfl rfl ?_
        refine j_iload_n dL_law_1255 (q := 1256) rfl rfl ?_
        refine j_iconst (v := 5) dL_law_1256 (q := 1257) rfl (by decide) ?_
        refine j_iaddN (b := 5) dL_law_1257 (q := 1258) rfl ?_
        refine j_saldN (a := 2) (by decide) (by show _ < gL g; omega) (by show gL g < 2 ^ 31; omega) dL_law_1258 (q := 1259) rfl ?_
        refine j_callVi5 (M' := M_X8_move) lk_L_144 mv_X8_move ob_70 (by omega) (Nat.le_of_ble_eq_true rfl) dL_law_1259 (q := 1262) rfl h8 ?_
        intro x2 τ2 hz2
        obtain ⟨e2, hI2⟩ := k8 _ _ hz2
        cases e2
        refine j_icmp_eq dL_law_1262 (t := 1421) (by decide) (q := 1265) rfl (fun c => ?_) (fun c => absurd rfl c)
        exact law_nx hL hc (ih (i + 6) τ2 (by omega) hc hI2)
      · skip
        refine j_aload_n dL_law_1267 (q := 1268) rfl rfl ?_
        refine j_aload_n dL_law_1268 (q := 1269) rfl rfl ?_
        refine j_iload_n dL_law_1269 (q := 1270) rfl rfl ?_
        refine j_iconst (v := 1) dL_law_1270 (q := 1271) rfl (by decide) ?_
        refine j_iaddN (b := 1) dL_law_1271 (q := 1272) rfl ?_
        refine j_saldN (a := 2) (by decide) (by show _ < gL g; omega) (by show gL g < 2 ^ 31; omega) dL_law_1272 (q := 1273) rfl ?_
        obtain ⟨d7, Z7, a7, h7, k7⟩ : OP g σ M_X7_parches M_X8_parches [.int (stF g 2 (i + 1))] := op_parches hI
        refine j_callVi1 (M' := M_X7_parches) lk_L_145 mv_X7_parches ob_0 (by omega) (Nat.le_of_ble_eq_true rfl) dL_law_1273 (q := 1276) rfl h7 ?_
        intro x1 τ1 hz1
        obtain ⟨x, d8, Z8, e1, a8, h8, k8⟩ := k7 _ _ hz1
        cases e1
        refine j_aload_n dL_law_1276 (q := 1277) rfl rfl ?_
        refine j_aload_n dL_law_1277 (q := 1278) rfl rfl ?_
        refine j_iload_n dL_law_1278 (q := 1279) rfl rfl ?_
        refine j_iconst (v := 1) dL_law_1279 (q := 1280) rfl (by decide) ?_
        refine j_iaddN (b := 1) dL_law_1280 (q := 1281) rfl ?_
        refine j_saldN (a := 2) (by decide) (by show _ < gL g; omega) (by show gL g < 2 ^ 31; omega) dL_law_1281 (q := 1282) rfl ?_
        refine j_callVi1 (M' := M_X8_parches) lk_L_148 mv_X8_parches ob_70 (by omega) (Nat.le_of_ble_eq_true rfl) dL_law_1282 (q := 1285) rfl h8 ?_
        intro x2 τ2 hz2
        obtain ⟨e2, hI2⟩ := k8 _ _ hz2
        cases e2
        refine j_icmp_eq dL_law_1285 (t := 1421) (by decide) (q := 1288) rfl (fun c => ?_) (fun c => absurd rfl c)
        exact law_nx hL hc (ih (i + 6) τ2 (by omega) hc hI2)
      · skip
        refine j_aload_n dL_law_1290 (q := 1291) rfl rfl ?_
        refine j_aload_n dL_law_1291 (q := 1292) rfl rfl ?_
        refine j_iload_n dL_law_1292 (q := 1293) rfl rfl ?_
        refine j_iconst (v := 1) dL_law_1293 (q := 1294) rfl (by decide) ?_
        refine j_iaddN (b := 1) dL_law_1294 (q := 1295) rfl ?_
        refine j_saldN (a := 2) (by decide) (by show _ < gL g; omega) (by show gL g < 2 ^ 31; omega) dL_law_1295 (q := 1296) rfl ?_
        obtain ⟨d7, Z7, a7, h7, k7⟩ : OP g σ M_X7_judge M_X8_judge [.int (stF g 2 (i + 1))] := op_judge hI
        refine j_callVi1 (M' := M_X7_judge) lk_L_149 mv_X7_judge ob_0 (by omega) (Nat.le_of_ble_eq_true rfl) dL_law_1296 (q := 1299) rfl h7 ?_
        intro x1 τ1 hz1
        obtain ⟨x, d8, Z8, e1, a8, h8, k8⟩ := k7 _ _ hz1
        cases e1
        refine j_aload_n dL_law_1299 (q := 1300) rfl rfl ?_
        refine j_aload_n dL_law_1300 (q := 1301) rfl rfl ?_
        refine j_iload_n dL_law_1301 (q := 1302) rfl rfl ?_
        refine j_iconst (v := 1) dL_law_1302 (q := 1303) rfl (by decide) ?_
        refine j_iaddN (b := 1) dL_law_1303 (q := 1304) rfl ?_
        refine j_saldN (a := 2) (by decide) (by show _ < gL g; omega) (by show gL g < 2 ^ 31; omega) dL_law_1304 (q := 1305) rfl ?_
        refine j_callVi1 (M' := M_X8_judge) lk_L_152 mv_X8_judge ob_70 (by omega) (Nat.le_of_ble_eq_true rfl) dL_law_1305 (q := 1308) rfl h8 ?_
        intro x2 τ2 hz2
        obtain ⟨e2, hI2⟩ := k8 _ _ hz2
        cases e2
        refine j_icmp_eq dL_law_1308 (t := 1421) (by decide) (q := 1311) rfl (fun c => ?_) (fun c => absurd rfl c)
        exact law_nx hL hc (ih (i + 6) τ2 (by omega) hc hI2)
      · skip
        refine j_aload_n dL_law_1313 (q := 1314) rfl rfl ?_
        obtain ⟨d7, Z7, a7, h7, k7⟩ : OP g σ M_X7_image M_X8_image [] := op_image hI
        refine j_callVi0 (M' := M_X7_image) lk_L_153 mv_X7_image ob_0 (by omega) (Nat.le_of_ble_eq_true rfl) dL_law_1314 (q := 1317) rfl h7 ?_
        intro x1 τ1 hz1
        obtain ⟨x, d8, Z8, e1, a8, h8, k8⟩ := k7 _ _ hz1
        cases e1
        refine j_aload_n dL_law_1317 (q := 1318) rfl rfl ?_
        refine j_callVi0 (M' := M_X8_image) lk_L_157 mv_X8_image ob_70 (by omega) (Nat.le_of_ble_eq_true rfl) dL_law_1318 (q := 1321) rfl h8 ?_
        intro x2 τ2 hz2
        obtain ⟨e2, hI2⟩ := k8 _ _ hz2
        cases e2
        refine j_icmp_eq dL_law_1321 (t := 1421) (by decide) (q := 1324) rfl (fun c => ?_) (fun c => absurd rfl c)
        exact law_nx hL hc (ih (i + 6) τ2 (by omega) hc hI2)
      · skip
        refine j_aload_n dL_law_1326 (q := 1327) rfl rfl ?_
        obtain ⟨d7, Z7, a7, h7, k7⟩ : OP g σ M_X7_restore M_X8_restore [] := op_restore hI
        refine j_callVi0 (M' := M_X7_restore) lk_L_158 mv_X7_restore ob_0 (by omega) (Nat.le_of_ble_eq_true rfl) dL_law_1327 (q := 1330) rfl h7 ?_
        intro x1 τ1 hz1
        obtain ⟨x, d8, Z8, e1, a8, h8, k8⟩ := k7 _ _ hz1
        cases e1
        refine j_aload_n dL_law_1330 (q := 1331) rfl rfl ?_
        refine j_callVi0 (M' := M_X8_restore) lk_L_161 mv_X8_restore ob_70 (by omega) (Nat.le_of_ble_eq_true rfl) dL_law_1331 (q := 1334) rfl h8 ?_
        intro x2 τ2 hz2
        obtain ⟨e2, hI2⟩ := k8 _ _ hz2
        cases e2
        refine j_icmp_eq dL_law_1334 (t := 1421) (by decide) (q := 1337) rfl (fun c => ?_) (fun c => absurd rfl c)
        exact law_nx hL hc (ih (i + 6) τ2 (by omega) hc hI2)
      · skip
        refine j_aload_n dL_law_1339 (q := 1340) rfl rfl ?_
        refine j_aload_n dL_law_1340 (q := 1341) rfl rfl ?_
        refine j_iload_n dL_law_1341 (q := 1342) rfl rfl ?_
        refine j_iconst (v := 1) dL_law_1342 (q := 1343) rfl (by decide) ?_
        refine j_iaddN (b := 1) dL_law_1343 (q := 1344) rfl ?_
        refine j_saldN (a := 2) (by decide) (by show _ < gL g; omega) (by show gL g < 2 ^ 31; omega) dL_law_1344 (q := 1345) rfl ?_
        obtain ⟨d7, Z7, a7, h7, k7⟩ : OP g σ M_X7_tell M_X8_tell [.int (stF g 2 (i + 1))] := op_tell hI
        refine j_callVi1 (M' := M_X7_tell) lk_L_162 mv_X7_tell ob_0 (by omega) (Nat.le_of_ble_eq_true rfl) dL_law_1345 (q := 1348) rfl h7 ?_
        intro x1 τ1 hz1
        obtain ⟨x, d8, Z8, e1, a8, h8, k8⟩ := k7 _ _ hz1
        cases e1
        refine j_aload_n dL_law_1348 (q := 1349) rfl rfl ?_
        refine j_aload_n dL_law_1349 (q := 1350) rfl rfl ?_
        refine j_iload_n dL_law_1350 (q := 1351) rfl rfl ?_
        refine j_iconst (v := 1) dL_law_1351 (q := 1352) rfl (by decide) ?_
        refine j_iaddN (b := 1) dL_law_1352 (q := 1353) rfl ?_
        refine j_saldN (a := 2) (by decide) (by show _ < gL g; omega) (by show gL g < 2 ^ 31; omega) dL_law_1353 (q := 1354) rfl ?_
        refine j_callVi1 (M' := M_X8_tell) lk_L_165 mv_X8_tell ob_70 (by omega) (Nat.le_of_ble_eq_true rfl) dL_law_1354 (q := 1357) rfl h8 ?_
        intro x2 τ2 hz2
        obtain ⟨e2, hI2⟩ := k8 _ _ hz2
        cases e2
        refine j_icmp_eq dL_law_1357 (t := 1421) (by decide) (q := 1360) rfl (fun c => ?_) (fun c => absurd rfl c)
        exact law_nx hL hc (ih (i + 6) τ2 (by omega) hc hI2)
      · skip
        refine j_aload_n dL_law_1362 (q := 1363) rfl rfl ?_
        obtain ⟨d7, Z7, a7, h7, k7⟩ : OP g σ M_X7_check M_X8_check [] := op_check hI
        refine j_callVi0 (M' := M_X7_check) lk_L_166 mv_X7_check ob_0 (by omega) (Nat.le_of_ble_eq_true rfl) dL_law_1363 (q := 1366) rfl h7 ?_
        intro x1 τ1 hz1
        obtain ⟨x, d8, Z8, e1, a8, h8, k8⟩ := k7 _ _ hz1
        cases e1
        refine j_aload_n dL_law_1366 (q := 1367) rfl rfl ?_
        refine j_callVi0 (M' := M_X8_check) lk_L_169 mv_X8_check ob_70 (by omega) (Nat.le_of_ble_eq_true rfl) dL_law_1367 (q := 1370) rfl h8 ?_
        intro x2 τ2 hz2
        obtain ⟨e2, hI2⟩ := k8 _ _ hz2
        cases e2
        refine j_icmp_eq dL_law_1370 (t := 1421) (by decide) (q := 1373) rfl (fun c => ?_) (fun c => absurd rfl c)
        exact law_nx hL hc (ih (i + 6) τ2 (by omega) hc hI2)
      · skip
        refine j_aload_n dL_law_1375 (q := 1376) rfl rfl ?_
        refine j_aload_n dL_law_1376 (q := 1377) rfl rfl ?_
        refine j_iload_n dL_law_1377 (q := 1378) rfl rfl ?_
        refine j_iconst (v := 1) dL_law_1378 (q := 1379) rfl (by decide) ?_
        refine j_iaddN (b := 1) dL_law_1379 (q := 1380) rfl ?_
        refine j_saldN (a := 2) (by decide) (by show _ < gL g; omega) (by show gL g < 2 ^ 31; omega) dL_law_1380 (q := 1381) rfl ?_
        obtain ⟨d7, Z7, a7, h7, k7⟩ : OP g σ M_X7_count M_X8_count [.int (stF g 2 (i + 1))] := op_count hI
        refine j_callVi1 (M' := M_X7_count) lk_L_170 mv_X7_count ob_0 (by omega) (Nat.le_of_ble_eq_true rfl) dL_law_1381 (q := 1384) rfl h7 ?_
        intro x1 τ1 hz1
        obtain ⟨x, d8, Z8, e1, a8, h8, k8⟩ := k7 _ _ hz1
        cases e1
        refine j_aload_n dL_law_1384 (q := 1385) rfl rfl ?_
        refine j_aload_n dL_law_1385 (q := 1386) rfl rfl ?_
        refine j_iload_n dL_law_1386 (q := 1387) rfl rfl ?_
        refine j_iconst (v := 1) dL_law_1387 (q := 1388) rfl (by decide) ?_
        refine j_iaddN (b := 1) dL_law_1388 (q := 1389) rfl ?_
        refine j_saldN (a := 2) (by decide) (by show _ < gL g; omega) (by show gL g < 2 ^ 31; omega) dL_law_1389 (q := 1390) rfl ?_
        refine j_callVi1 (M' := M_X8_count) lk_L_173 mv_X8_count ob_70 (by omega) (Nat.le_of_ble_eq_true rfl) dL_law_1390 (q := 1393) rfl h8 ?_
        intro x2 τ2 hz2
        obtain ⟨e2, hI2⟩ := k8 _ _ hz2
        cases e2
        refine j_icmp_eq dL_law_1393 (t := 1421) (by decide) (q := 1396) rfl (fun c => ?_) (fun c => absurd rfl c)
        exact law_nx hL hc (ih (i + 6) τ2 (by omega) hc hI2)
      · skip
        refine j_aload_n dL_law_1398 (q := 1399) rfl rfl ?_
        refine j_aload_n dL_law_1399 (q := 1400) rfl rfl ?_
        refine j_iload_n dL_law_1400 (q := 1401) rfl rfl ?_
        refine j_iconst (v := 1) dL_law_1401 (q := 1402) rfl (by decide) ?_
        refine j_iaddN (b := 1) dL_law_1402 (q := 1403) rfl ?_
        refine j_saldN (a := 2) (by decide) (by show _ < gL g; omega) (by show gL g < 2 ^ 31; omega) dL_law_1403 (q := 1404) rfl ?_
        obtain ⟨d7, Z7, a7, h7, k7⟩ : OP g σ M_X7_told M_X8_told [.int (stF g 2 (i + 1))] := op_told hI
        refine j_callVi1 (M' := M_X7_told) lk_L_174 mv_X7_told ob_0 (by omega) (Nat.le_of_ble_eq_true rfl) dL_law_1404 (q := 1407) rfl h7 ?_
        intro x1 τ1 hz1
        obtain ⟨x, d8, Z8, e1, a8, h8, k8⟩ := k7 _ _ hz1
        cases e1
        refine j_aload_n dL_law_1407 (q := 1408) rfl rfl ?_
        refine j_aload_n dL_law_1408 (q := 1409) rfl rfl ?_
        refine j_iload_n dL_law_1409 (q := 1410) rfl rfl ?_
        refine j_iconst (v := 1) dL_law_1410 (q := 1411) rfl (by decide) ?_
        refine j_iaddN (b := 1) dL_law_1411 (q := 1412) rfl ?_
        refine j_saldN (a := 2) (by decide) (by show _ < gL g; omega) (by show gL g < 2 ^ 31; omega) dL_law_1412 (q := 1413) rfl ?_
        refine j_callVi1 (M' := M_X8_told) lk_L_177 mv_X8_told ob_70 (by omega) (Nat.le_of_ble_eq_true rfl) dL_law_1413 (q := 1416) rfl h8 ?_
        intro x2 τ2 hz2
        obtain ⟨e2, hI2⟩ := k8 _ _ hz2
        cases e2
        refine j_icmp_eq dL_law_1416 (t := 1421) (by decide) (q := 1419) rfl (fun c => ?_) (fun c => absurd rfl c)
        exact law_nx hL hc (ih (i + 6) τ2 (by omega) hc hI2)
      · skip
        exact law_nx hL hc (ih (i + 6) σ (by omega) hc hI)
