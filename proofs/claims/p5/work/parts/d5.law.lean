section ZLaw
variable {G : z_G} {l : Launch}
abbrev mL_law : z_M := (yL_law, cL_law, 7, some .boolean, [])
abbrev z_SL : z_S := (2048, 793551, 6715452, ([], z_no), (fun v _ => v = some (.int 1)), fun _ _ => False)
abbrev z_lol (x i : Nat) : List (Nat × Value) := [(0, .retAddr 8), (1, .ref 0), (2, .ref 1000), (3, .ref x), (4, .int (nI i))]
set_option maxRecDepth 100000 in
set_option maxHeartbeats 4000000 in
theorem lc_0 (hl : l.stackTraces = false) {w : z_W} {x i kc ks : Nat} {S : sp_S} {n : Int64} (LT : z_LX x S S n w) (hi6 : i + 6 ≤ z_sn G) (hsn : z_sn G ≤ 3072) (hkc : kc + 200 ≤ 793551) (hks : ks + 6000 ≤ 6715452) (KK : ∀ (S9 : sp_S) (n9 : Int64) (w9 : z_W), z_LX x S9 S9 n9 w9 → z_J G l mL_law z_SL 2257 (z_lol x i) [] w9 (kc + 200) (ks + 6000)) : z_J G l mL_law z_SL 248 (z_lol x i) [] w kc ks := by
  show z_J G l mL_law _ 248 [(0, _), (1, _), (2, _), (3, _), (4, _)] [] _ _ _
  refine j_aload_n dL_law_248 rfl rfl ?_
  refine j_aload_n dL_law_249 rfl rfl ?_
  refine j_iload dL_law_250 rfl ?_
  refine j_iconst (v := 1) dL_law_252 (by decide) ?_
  refine j_iadd dL_law_253 ?_
  refine j_top (congrArg Value.int (show nI i + (1 : Int32) = nI (i + 1) from nI_add i 1)) ?_
  refine j_sld dL_law_254 (by omega) (by omega) ?_
  refine j_aload_n dL_law_255 rfl rfl ?_
  refine j_iload dL_law_256 rfl ?_
  refine j_iconst (v := 2) dL_law_258 (by decide) ?_
  refine j_iadd dL_law_259 ?_
  refine j_top (congrArg Value.int (show nI i + (2 : Int32) = nI (i + 2) from nI_add i 2)) ?_
  refine j_sld dL_law_260 (by omega) (by omega) ?_
  refine j_aload_n dL_law_261 rfl rfl ?_
  refine j_callSW dL_law_262 kL_type lL_170 stL_type (lw_type hl w _ _ _ _ LT (z_sc G (i + 1)) (z_sc G (i + 2))) (Nat.le_of_ble_eq_true rfl) ⟨(by show _ ≤ 793551; omega), (by show _ ≤ 6715452; omega)⟩ rfl (Nat.le_of_ble_eq_true rfl) rfl rfl (fun _ _ h => h.elim) ?_
  rintro _ w1 ⟨n1, rfl, LT1, hn1⟩
  refine j_istore (lo' := [(5, _), (0, _), (1, _), (2, _), (3, _), (4, _)]) dL_law_265 (by decide) rfl ?_
  refine j_aload_n dL_law_267 rfl rfl ?_
  refine j_aload_n dL_law_268 rfl rfl ?_
  refine j_iload dL_law_269 rfl ?_
  refine j_iconst (v := 1) dL_law_271 (by decide) ?_
  refine j_iadd dL_law_272 ?_
  refine j_top (congrArg Value.int (show nI i + (1 : Int32) = nI (i + 1) from nI_add i 1)) ?_
  refine j_sld dL_law_273 (by omega) (by omega) ?_
  refine j_aload_n dL_law_274 rfl rfl ?_
  refine j_iload dL_law_275 rfl ?_
  refine j_iconst (v := 2) dL_law_277 (by decide) ?_
  refine j_iadd dL_law_278 ?_
  refine j_top (congrArg Value.int (show nI i + (2 : Int32) = nI (i + 2) from nI_add i 2)) ?_
  refine j_sld dL_law_279 (by omega) (by omega) ?_
  obtain ⟨-, ⟨s1, hs1, -⟩, -⟩ := id LT1
  refine j_callV (q := (RX11, TX11, 8)) dL_law_280 kX11_type lL_175 inX11_type seX11_type hs1.m rfl (kx_type hl w1 LT1 (z_sc G (i + 1)) (z_sc G (i + 2))) (Nat.le_of_ble_eq_true rfl) ⟨(by show _ ≤ 793551; omega), (by show _ ≤ 6715452; omega)⟩ rfl (Nat.le_of_ble_eq_true rfl) rfl rfl (fun _ _ h => h.elim) ?_
  rintro _ w2 ⟨r2, rfl, LT2, th2, hr2⟩
  refine j_istore (lo' := [(6, _), (5, _), (0, _), (1, _), (2, _), (3, _), (4, _)]) dL_law_283 (by decide) rfl ?_
  refine j_goto (tgt := 2257) dL_law_285 (by decide) ?_
  refine j_widen (kc' := kc + 200) (ks' := ks + 6000) (by omega) (by omega) ?_
  exact j_lo2 (KK _ _ _ LT2) (z_q1 rfl (z_q1 rfl (z_q1 rfl (z_q1 rfl (z_q1 rfl z_q0)))))
set_option maxRecDepth 100000 in
set_option maxHeartbeats 4000000 in
theorem lc_1 (hl : l.stackTraces = false) {w : z_W} {x i kc ks : Nat} {S : sp_S} {n : Int64} (LT : z_LX x S S n w) (hi6 : i + 6 ≤ z_sn G) (hsn : z_sn G ≤ 3072) (hkc : kc + 200 ≤ 793551) (hks : ks + 6000 ≤ 6715452) (KK : ∀ (S9 : sp_S) (n9 : Int64) (w9 : z_W), z_LX x S9 S9 n9 w9 → z_J G l mL_law z_SL 2257 (z_lol x i) [] w9 (kc + 200) (ks + 6000)) : z_J G l mL_law z_SL 288 (z_lol x i) [] w kc ks := by
  show z_J G l mL_law _ 288 [(0, _), (1, _), (2, _), (3, _), (4, _)] [] _ _ _
  refine j_aload_n dL_law_288 rfl rfl ?_
  refine j_aload_n dL_law_289 rfl rfl ?_
  refine j_iload dL_law_290 rfl ?_
  refine j_iconst (v := 1) dL_law_292 (by decide) ?_
  refine j_iadd dL_law_293 ?_
  refine j_top (congrArg Value.int (show nI i + (1 : Int32) = nI (i + 1) from nI_add i 1)) ?_
  refine j_sld dL_law_294 (by omega) (by omega) ?_
  refine j_aload_n dL_law_295 rfl rfl ?_
  refine j_iload dL_law_296 rfl ?_
  refine j_iconst (v := 2) dL_law_298 (by decide) ?_
  refine j_iadd dL_law_299 ?_
  refine j_top (congrArg Value.int (show nI i + (2 : Int32) = nI (i + 2) from nI_add i 2)) ?_
  refine j_sld dL_law_300 (by omega) (by omega) ?_
  refine j_aload_n dL_law_301 rfl rfl ?_
  refine j_callSW dL_law_302 kL_drop lL_176 stL_drop (lw_drop hl w _ _ _ _ LT (z_sc G (i + 1)) (z_sc G (i + 2))) (Nat.le_of_ble_eq_true rfl) ⟨(by show _ ≤ 793551; omega), (by show _ ≤ 6715452; omega)⟩ rfl (Nat.le_of_ble_eq_true rfl) rfl rfl (fun _ _ h => h.elim) ?_
  rintro _ w1 ⟨n1, rfl, LT1, hn1⟩
  refine j_istore (lo' := [(5, _), (0, _), (1, _), (2, _), (3, _), (4, _)]) dL_law_305 (by decide) rfl ?_
  refine j_aload_n dL_law_307 rfl rfl ?_
  refine j_aload_n dL_law_308 rfl rfl ?_
  refine j_iload dL_law_309 rfl ?_
  refine j_iconst (v := 1) dL_law_311 (by decide) ?_
  refine j_iadd dL_law_312 ?_
  refine j_top (congrArg Value.int (show nI i + (1 : Int32) = nI (i + 1) from nI_add i 1)) ?_
  refine j_sld dL_law_313 (by omega) (by omega) ?_
  refine j_aload_n dL_law_314 rfl rfl ?_
  refine j_iload dL_law_315 rfl ?_
  refine j_iconst (v := 2) dL_law_317 (by decide) ?_
  refine j_iadd dL_law_318 ?_
  refine j_top (congrArg Value.int (show nI i + (2 : Int32) = nI (i + 2) from nI_add i 2)) ?_
  refine j_sld dL_law_319 (by omega) (by omega) ?_
  obtain ⟨-, ⟨s2, hs2, -⟩, -⟩ := id LT1
  refine j_callV (q := (RX11, TX11, 8)) dL_law_320 kX11_drop lL_178 inX11_drop seX11_drop hs2.m rfl (kx_drop hl w1 LT1 (z_sc G (i + 1)) (z_sc G (i + 2))) (Nat.le_of_ble_eq_true rfl) ⟨(by show _ ≤ 793551; omega), (by show _ ≤ 6715452; omega)⟩ rfl (Nat.le_of_ble_eq_true rfl) rfl rfl (fun _ _ h => h.elim) ?_
  rintro _ w2 ⟨r2, rfl, LT2, th2, hr2⟩
  refine j_istore (lo' := [(6, _), (5, _), (0, _), (1, _), (2, _), (3, _), (4, _)]) dL_law_323 (by decide) rfl ?_
  refine j_goto (tgt := 2257) dL_law_325 (by decide) ?_
  refine j_widen (kc' := kc + 200) (ks' := ks + 6000) (by omega) (by omega) ?_
  exact j_lo2 (KK _ _ _ LT2) (z_q1 rfl (z_q1 rfl (z_q1 rfl (z_q1 rfl (z_q1 rfl z_q0)))))
set_option maxRecDepth 100000 in
set_option maxHeartbeats 4000000 in
theorem lc_2 (hl : l.stackTraces = false) {w : z_W} {x i kc ks : Nat} {S : sp_S} {n : Int64} (LT : z_LX x S S n w) (hi6 : i + 6 ≤ z_sn G) (hsn : z_sn G ≤ 3072) (hkc : kc + 200 ≤ 793551) (hks : ks + 6000 ≤ 6715452) (KK : ∀ (S9 : sp_S) (n9 : Int64) (w9 : z_W), z_LX x S9 S9 n9 w9 → z_J G l mL_law z_SL 2257 (z_lol x i) [] w9 (kc + 200) (ks + 6000)) : z_J G l mL_law z_SL 328 (z_lol x i) [] w kc ks := by
  show z_J G l mL_law _ 328 [(0, _), (1, _), (2, _), (3, _), (4, _)] [] _ _ _
  refine j_aload_n dL_law_328 rfl rfl ?_
  refine j_aload_n dL_law_329 rfl rfl ?_
  refine j_iload dL_law_330 rfl ?_
  refine j_iconst (v := 1) dL_law_332 (by decide) ?_
  refine j_iadd dL_law_333 ?_
  refine j_top (congrArg Value.int (show nI i + (1 : Int32) = nI (i + 1) from nI_add i 1)) ?_
  refine j_sld dL_law_334 (by omega) (by omega) ?_
  refine j_aload_n dL_law_335 rfl rfl ?_
  refine j_iload dL_law_336 rfl ?_
  refine j_iconst (v := 2) dL_law_338 (by decide) ?_
  refine j_iadd dL_law_339 ?_
  refine j_top (congrArg Value.int (show nI i + (2 : Int32) = nI (i + 2) from nI_add i 2)) ?_
  refine j_sld dL_law_340 (by omega) (by omega) ?_
  refine j_if_eq (tgt := 348) dL_law_341 (by decide) (fun c_341_14 => ?_) (fun c_341_14 => ?_)
  · refine j_iconst (v := 0) dL_law_348 (by decide) ?_
    refine j_aload_n dL_law_349 rfl rfl ?_
    refine j_callSW dL_law_350 kL_fix lL_179 stL_fix (lw_fix hl w _ _ _ _ LT (z_sc G (i + 1)) false) (Nat.le_of_ble_eq_true rfl) ⟨(by show _ ≤ 793551; omega), (by show _ ≤ 6715452; omega)⟩ rfl (Nat.le_of_ble_eq_true rfl) rfl rfl (fun _ _ h => h.elim) ?_
    rintro _ w1 ⟨n1, rfl, LT1, hn1⟩
    refine j_istore (lo' := [(5, _), (0, _), (1, _), (2, _), (3, _), (4, _)]) dL_law_353 (by decide) rfl ?_
    refine j_aload_n dL_law_355 rfl rfl ?_
    refine j_aload_n dL_law_356 rfl rfl ?_
    refine j_iload dL_law_357 rfl ?_
    refine j_iconst (v := 1) dL_law_359 (by decide) ?_
    refine j_iadd dL_law_360 ?_
    refine j_top (congrArg Value.int (show nI i + (1 : Int32) = nI (i + 1) from nI_add i 1)) ?_
    refine j_sld dL_law_361 (by omega) (by omega) ?_
    refine j_aload_n dL_law_362 rfl rfl ?_
    refine j_iload dL_law_363 rfl ?_
    refine j_iconst (v := 2) dL_law_365 (by decide) ?_
    refine j_iadd dL_law_366 ?_
    refine j_top (congrArg Value.int (show nI i + (2 : Int32) = nI (i + 2) from nI_add i 2)) ?_
    refine j_sld dL_law_367 (by omega) (by omega) ?_
    refine j_if_eq (tgt := 375) dL_law_368 (by decide) (fun c_368_33 => ?_) (fun c_368_33 => ?_)
    · refine j_iconst (v := 0) dL_law_375 (by decide) ?_
      obtain ⟨-, ⟨s3, hs3, -⟩, -⟩ := id LT1
      refine j_callV (q := (RX11, TX11, 8)) dL_law_376 kX11_fix lL_182 inX11_fix seX11_fix hs3.m rfl (kx_fix hl w1 LT1 (z_sc G (i + 1)) false) (Nat.le_of_ble_eq_true rfl) ⟨(by show _ ≤ 793551; omega), (by show _ ≤ 6715452; omega)⟩ rfl (Nat.le_of_ble_eq_true rfl) rfl rfl (fun _ _ h => h.elim) ?_
      rintro _ w2 ⟨r2, rfl, LT2, th2, hr2⟩
      refine j_istore (lo' := [(6, _), (5, _), (0, _), (1, _), (2, _), (3, _), (4, _)]) dL_law_379 (by decide) rfl ?_
      refine j_goto (tgt := 2257) dL_law_381 (by decide) ?_
      refine j_widen (kc' := kc + 200) (ks' := ks + 6000) (by omega) (by omega) ?_
      exact j_lo2 (KK _ _ _ LT2) (z_q1 rfl (z_q1 rfl (z_q1 rfl (z_q1 rfl (z_q1 rfl z_q0)))))
    · exact absurd c_341_14 c_368_33
  · refine j_iconst (v := 1) dL_law_344 (by decide) ?_
    refine j_goto (tgt := 349) dL_law_345 (by decide) ?_
    refine j_aload_n dL_law_349 rfl rfl ?_
    refine j_callSW dL_law_350 kL_fix lL_179 stL_fix (lw_fix hl w _ _ _ _ LT (z_sc G (i + 1)) true) (Nat.le_of_ble_eq_true rfl) ⟨(by show _ ≤ 793551; omega), (by show _ ≤ 6715452; omega)⟩ rfl (Nat.le_of_ble_eq_true rfl) rfl rfl (fun _ _ h => h.elim) ?_
    rintro _ w3 ⟨n3, rfl, LT3, hn3⟩
    refine j_istore (lo' := [(5, _), (0, _), (1, _), (2, _), (3, _), (4, _)]) dL_law_353 (by decide) rfl ?_
    refine j_aload_n dL_law_355 rfl rfl ?_
    refine j_aload_n dL_law_356 rfl rfl ?_
    refine j_iload dL_law_357 rfl ?_
    refine j_iconst (v := 1) dL_law_359 (by decide) ?_
    refine j_iadd dL_law_360 ?_
    refine j_top (congrArg Value.int (show nI i + (1 : Int32) = nI (i + 1) from nI_add i 1)) ?_
    refine j_sld dL_law_361 (by omega) (by omega) ?_
    refine j_aload_n dL_law_362 rfl rfl ?_
    refine j_iload dL_law_363 rfl ?_
    refine j_iconst (v := 2) dL_law_365 (by decide) ?_
    refine j_iadd dL_law_366 ?_
    refine j_top (congrArg Value.int (show nI i + (2 : Int32) = nI (i + 2) from nI_add i 2)) ?_
    refine j_sld dL_law_367 (by omega) (by omega) ?_
    refine j_if_eq (tgt := 375) dL_law_368 (by decide) (fun c_368_62 => ?_) (fun c_368_62 => ?_)
    · exact absurd c_368_62 c_341_14
    · refine j_iconst (v := 1) dL_law_371 (by decide) ?_
      refine j_goto (tgt := 376) dL_law_372 (by decide) ?_
      obtain ⟨-, ⟨s4, hs4, -⟩, -⟩ := id LT3
      refine j_callV (q := (RX11, TX11, 8)) dL_law_376 kX11_fix lL_182 inX11_fix seX11_fix hs4.m rfl (kx_fix hl w3 LT3 (z_sc G (i + 1)) true) (Nat.le_of_ble_eq_true rfl) ⟨(by show _ ≤ 793551; omega), (by show _ ≤ 6715452; omega)⟩ rfl (Nat.le_of_ble_eq_true rfl) rfl rfl (fun _ _ h => h.elim) ?_
      rintro _ w4 ⟨r4, rfl, LT4, th4, hr4⟩
      refine j_istore (lo' := [(6, _), (5, _), (0, _), (1, _), (2, _), (3, _), (4, _)]) dL_law_379 (by decide) rfl ?_
      refine j_goto (tgt := 2257) dL_law_381 (by decide) ?_
      refine j_widen (kc' := kc + 200) (ks' := ks + 6000) (by omega) (by omega) ?_
      exact j_lo2 (KK _ _ _ LT4) (z_q1 rfl (z_q1 rfl (z_q1 rfl (z_q1 rfl (z_q1 rfl z_q0)))))
set_option maxRecDepth 100000 in
set_option maxHeartbeats 4000000 in
theorem lc_3 (hl : l.stackTraces = false) {w : z_W} {x i kc ks : Nat} {S : sp_S} {n : Int64} (LT : z_LX x S S n w) (hi6 : i + 6 ≤ z_sn G) (hsn : z_sn G ≤ 3072) (hkc : kc + 200 ≤ 793551) (hks : ks + 6000 ≤ 6715452) (KK : ∀ (S9 : sp_S) (n9 : Int64) (w9 : z_W), z_LX x S9 S9 n9 w9 → z_J G l mL_law z_SL 2257 (z_lol x i) [] w9 (kc + 200) (ks + 6000)) : z_J G l mL_law z_SL 384 (z_lol x i) [] w kc ks := by
  show z_J G l mL_law _ 384 [(0, _), (1, _), (2, _), (3, _), (4, _)] [] _ _ _
  refine j_aload_n dL_law_384 rfl rfl ?_
  refine j_aload_n dL_law_385 rfl rfl ?_
  refine j_iload dL_law_386 rfl ?_
  refine j_iconst (v := 1) dL_law_388 (by decide) ?_
  refine j_iadd dL_law_389 ?_
  refine j_top (congrArg Value.int (show nI i + (1 : Int32) = nI (i + 1) from nI_add i 1)) ?_
  refine j_sld dL_law_390 (by omega) (by omega) ?_
  refine j_aload_n dL_law_391 rfl rfl ?_
  refine j_iload dL_law_392 rfl ?_
  refine j_iconst (v := 2) dL_law_394 (by decide) ?_
  refine j_iadd dL_law_395 ?_
  refine j_top (congrArg Value.int (show nI i + (2 : Int32) = nI (i + 2) from nI_add i 2)) ?_
  refine j_sld dL_law_396 (by omega) (by omega) ?_
  refine j_aload_n dL_law_397 rfl rfl ?_
  refine j_callSW dL_law_398 kL_hear lL_183 stL_hear (lw_hear hl w _ _ _ _ LT (z_sc G (i + 1)) (z_sc G (i + 2))) (Nat.le_of_ble_eq_true rfl) ⟨(by show _ ≤ 793551; omega), (by show _ ≤ 6715452; omega)⟩ rfl (Nat.le_of_ble_eq_true rfl) rfl rfl (fun _ _ h => h.elim) ?_
  rintro _ w1 ⟨n1, rfl, LT1, hn1⟩
  refine j_istore (lo' := [(5, _), (0, _), (1, _), (2, _), (3, _), (4, _)]) dL_law_401 (by decide) rfl ?_
  refine j_aload_n dL_law_403 rfl rfl ?_
  refine j_aload_n dL_law_404 rfl rfl ?_
  refine j_iload dL_law_405 rfl ?_
  refine j_iconst (v := 1) dL_law_407 (by decide) ?_
  refine j_iadd dL_law_408 ?_
  refine j_top (congrArg Value.int (show nI i + (1 : Int32) = nI (i + 1) from nI_add i 1)) ?_
  refine j_sld dL_law_409 (by omega) (by omega) ?_
  refine j_aload_n dL_law_410 rfl rfl ?_
  refine j_iload dL_law_411 rfl ?_
  refine j_iconst (v := 2) dL_law_413 (by decide) ?_
  refine j_iadd dL_law_414 ?_
  refine j_top (congrArg Value.int (show nI i + (2 : Int32) = nI (i + 2) from nI_add i 2)) ?_
  refine j_sld dL_law_415 (by omega) (by omega) ?_
  obtain ⟨-, ⟨s5, hs5, -⟩, -⟩ := id LT1
  refine j_callV (q := (RX11, TX11, 8)) dL_law_416 kX11_hear lL_185 inX11_hear seX11_hear hs5.m rfl (kx_hear hl w1 LT1 (z_sc G (i + 1)) (z_sc G (i + 2))) (Nat.le_of_ble_eq_true rfl) ⟨(by show _ ≤ 793551; omega), (by show _ ≤ 6715452; omega)⟩ rfl (Nat.le_of_ble_eq_true rfl) rfl rfl (fun _ _ h => h.elim) ?_
  rintro _ w2 ⟨r2, rfl, LT2, th2, hr2⟩
  refine j_istore (lo' := [(6, _), (5, _), (0, _), (1, _), (2, _), (3, _), (4, _)]) dL_law_419 (by decide) rfl ?_
  refine j_aload_n dL_law_421 rfl rfl ?_
  obtain ⟨st6, hst6, ht6⟩ := th2
  refine j_callV (q := (RX11, TX11, 8)) dL_law_422 kX11_thrown lL_186 inX11_thrown seX11_thrown hst6.m rfl (cm_thrown hl w2 _ hst6) (Nat.le_of_ble_eq_true rfl) ⟨(by show _ ≤ 793551; omega), (by show _ ≤ 6715452; omega)⟩ rfl (Nat.le_of_ble_eq_true rfl) rfl rfl (fun _ _ h => h.elim) ?_
  rintro _ _ ⟨rfl, hw6⟩
  refine j_w w2 hw6 ?_
  refine j_iload dL_law_425 rfl ?_
  refine j_icmp_eq (tgt := 432) dL_law_427 (by decide) (fun c_427_41 => ?_) (fun c_427_41 => ?_)
  · refine j_iload dL_law_432 rfl ?_
    refine j_if_ne (tgt := 450) dL_law_434 (by decide) (fun c_434_43 => ?_) (fun c_434_43 => ?_)
    · refine j_goto (tgt := 2257) dL_law_450 (by decide) ?_
      refine j_widen (kc' := kc + 200) (ks' := ks + 6000) (by omega) (by omega) ?_
      exact j_lo2 (KK _ _ _ LT2) (z_q1 rfl (z_q1 rfl (z_q1 rfl (z_q1 rfl (z_q1 rfl z_q0)))))
    · refine j_aload_n dL_law_437 rfl rfl ?_
      obtain ⟨-, -, ⟨ov7, og7⟩, -⟩ := id LT2
      refine j_getf dL_law_438 fL_13 og7 rfl ?_
      refine j_iload dL_law_441 rfl ?_
      refine j_i2l dL_law_443 ?_
      refine j_lcmp dL_law_444 ?_
      refine j_if_eq (tgt := 450) dL_law_445 (by decide) (fun c_445_53 => ?_) (fun c_445_53 => ?_)
      · refine j_goto (tgt := 2257) dL_law_450 (by decide) ?_
        refine j_widen (kc' := kc + 200) (ks' := ks + 6000) (by omega) (by omega) ?_
        exact j_lo2 (KK _ _ _ LT2) (z_q1 rfl (z_q1 rfl (z_q1 rfl (z_q1 rfl (z_q1 rfl z_q0)))))
      · exact absurd (q_cmp (by rw [hn1 c_434_43, hr2 c_434_43])) c_445_53
  · exact absurd ht6 c_427_41
set_option maxRecDepth 100000 in
set_option maxHeartbeats 4000000 in
theorem lc_4 (hl : l.stackTraces = false) {w : z_W} {x i kc ks : Nat} {S : sp_S} {n : Int64} (LT : z_LX x S S n w) (hi6 : i + 6 ≤ z_sn G) (hsn : z_sn G ≤ 3072) (hkc : kc + 200 ≤ 793551) (hks : ks + 6000 ≤ 6715452) (KK : ∀ (S9 : sp_S) (n9 : Int64) (w9 : z_W), z_LX x S9 S9 n9 w9 → z_J G l mL_law z_SL 2257 (z_lol x i) [] w9 (kc + 200) (ks + 6000)) : z_J G l mL_law z_SL 453 (z_lol x i) [] w kc ks := by
  show z_J G l mL_law _ 453 [(0, _), (1, _), (2, _), (3, _), (4, _)] [] _ _ _
  refine j_aload_n dL_law_453 rfl rfl ?_
  refine j_aload_n dL_law_454 rfl rfl ?_
  refine j_iload dL_law_455 rfl ?_
  refine j_iconst (v := 1) dL_law_457 (by decide) ?_
  refine j_iadd dL_law_458 ?_
  refine j_top (congrArg Value.int (show nI i + (1 : Int32) = nI (i + 1) from nI_add i 1)) ?_
  refine j_sld dL_law_459 (by omega) (by omega) ?_
  refine j_aload_n dL_law_460 rfl rfl ?_
  refine j_iload dL_law_461 rfl ?_
  refine j_iconst (v := 2) dL_law_463 (by decide) ?_
  refine j_iadd dL_law_464 ?_
  refine j_top (congrArg Value.int (show nI i + (2 : Int32) = nI (i + 2) from nI_add i 2)) ?_
  refine j_sld dL_law_465 (by omega) (by omega) ?_
  refine j_aload_n dL_law_466 rfl rfl ?_
  refine j_iload dL_law_467 rfl ?_
  refine j_iconst (v := 3) dL_law_469 (by decide) ?_
  refine j_iadd dL_law_470 ?_
  refine j_top (congrArg Value.int (show nI i + (3 : Int32) = nI (i + 3) from nI_add i 3)) ?_
  refine j_sld dL_law_471 (by omega) (by omega) ?_
  refine j_aload_n dL_law_472 rfl rfl ?_
  refine j_callSW dL_law_473 kL_rest lL_190 stL_rest (lw_rest hl w _ _ _ _ LT (z_sc G (i + 1)) (z_sc G (i + 2)) (z_sc G (i + 3))) (Nat.le_of_ble_eq_true rfl) ⟨(by show _ ≤ 793551; omega), (by show _ ≤ 6715452; omega)⟩ rfl (Nat.le_of_ble_eq_true rfl) rfl rfl (fun _ _ h => h.elim) ?_
  rintro _ w1 ⟨n1, rfl, LT1, hn1⟩
  refine j_istore (lo' := [(5, _), (0, _), (1, _), (2, _), (3, _), (4, _)]) dL_law_476 (by decide) rfl ?_
  refine j_aload_n dL_law_478 rfl rfl ?_
  refine j_aload_n dL_law_479 rfl rfl ?_
  refine j_iload dL_law_480 rfl ?_
  refine j_iconst (v := 1) dL_law_482 (by decide) ?_
  refine j_iadd dL_law_483 ?_
  refine j_top (congrArg Value.int (show nI i + (1 : Int32) = nI (i + 1) from nI_add i 1)) ?_
  refine j_sld dL_law_484 (by omega) (by omega) ?_
  refine j_aload_n dL_law_485 rfl rfl ?_
  refine j_iload dL_law_486 rfl ?_
  refine j_iconst (v := 2) dL_law_488 (by decide) ?_
  refine j_iadd dL_law_489 ?_
  refine j_top (congrArg Value.int (show nI i + (2 : Int32) = nI (i + 2) from nI_add i 2)) ?_
  refine j_sld dL_law_490 (by omega) (by omega) ?_
  refine j_aload_n dL_law_491 rfl rfl ?_
  refine j_iload dL_law_492 rfl ?_
  refine j_iconst (v := 3) dL_law_494 (by decide) ?_
  refine j_iadd dL_law_495 ?_
  refine j_top (congrArg Value.int (show nI i + (3 : Int32) = nI (i + 3) from nI_add i 3)) ?_
  refine j_sld dL_law_496 (by omega) (by omega) ?_
  obtain ⟨-, ⟨s8, hs8, -⟩, -⟩ := id LT1
  refine j_callV (q := (RX11, TX11, 8)) dL_law_497 kX11_rest lL_193 inX11_rest seX11_rest hs8.m rfl (kx_rest hl w1 LT1 (z_sc G (i + 1)) (z_sc G (i + 2)) (z_sc G (i + 3))) (Nat.le_of_ble_eq_true rfl) ⟨(by show _ ≤ 793551; omega), (by show _ ≤ 6715452; omega)⟩ rfl (Nat.le_of_ble_eq_true rfl) rfl rfl (fun _ _ h => h.elim) ?_
  rintro _ w2 ⟨r2, rfl, LT2, th2, hr2⟩
  refine j_istore (lo' := [(6, _), (5, _), (0, _), (1, _), (2, _), (3, _), (4, _)]) dL_law_500 (by decide) rfl ?_
  refine j_goto (tgt := 2257) dL_law_502 (by decide) ?_
  refine j_widen (kc' := kc + 200) (ks' := ks + 6000) (by omega) (by omega) ?_
  exact j_lo2 (KK _ _ _ LT2) (z_q1 rfl (z_q1 rfl (z_q1 rfl (z_q1 rfl (z_q1 rfl z_q0)))))
set_option maxRecDepth 100000 in
set_option maxHeartbeats 4000000 in
theorem lc_5 (hl : l.stackTraces = false) {w : z_W} {x i kc ks : Nat} {S : sp_S} {n : Int64} (LT : z_LX x S S n w) (hi6 : i + 6 ≤ z_sn G) (hsn : z_sn G ≤ 3072) (hkc : kc + 200 ≤ 793551) (hks : ks + 6000 ≤ 6715452) (KK : ∀ (S9 : sp_S) (n9 : Int64) (w9 : z_W), z_LX x S9 S9 n9 w9 → z_J G l mL_law z_SL 2257 (z_lol x i) [] w9 (kc + 200) (ks + 6000)) : z_J G l mL_law z_SL 505 (z_lol x i) [] w kc ks := by
  show z_J G l mL_law _ 505 [(0, _), (1, _), (2, _), (3, _), (4, _)] [] _ _ _
  refine j_aload_n dL_law_505 rfl rfl ?_
  refine j_aload_n dL_law_506 rfl rfl ?_
  refine j_iload dL_law_507 rfl ?_
  refine j_iconst (v := 1) dL_law_509 (by decide) ?_
  refine j_iadd dL_law_510 ?_
  refine j_top (congrArg Value.int (show nI i + (1 : Int32) = nI (i + 1) from nI_add i 1)) ?_
  refine j_sld dL_law_511 (by omega) (by omega) ?_
  refine j_aload_n dL_law_512 rfl rfl ?_
  refine j_iload dL_law_513 rfl ?_
  refine j_iconst (v := 2) dL_law_515 (by decide) ?_
  refine j_iadd dL_law_516 ?_
  refine j_top (congrArg Value.int (show nI i + (2 : Int32) = nI (i + 2) from nI_add i 2)) ?_
  refine j_sld dL_law_517 (by omega) (by omega) ?_
  refine j_aload_n dL_law_518 rfl rfl ?_
  refine j_iload dL_law_519 rfl ?_
  refine j_iconst (v := 3) dL_law_521 (by decide) ?_
  refine j_iadd dL_law_522 ?_
  refine j_top (congrArg Value.int (show nI i + (3 : Int32) = nI (i + 3) from nI_add i 3)) ?_
  refine j_sld dL_law_523 (by omega) (by omega) ?_
  refine j_aload_n dL_law_524 rfl rfl ?_
  refine j_callSW dL_law_525 kL_removeIf lL_194 stL_removeIf (lw_removeIf hl w _ _ _ _ LT (z_sc G (i + 1)) (z_sc G (i + 2)) (z_sc G (i + 3))) (Nat.le_of_ble_eq_true rfl) ⟨(by show _ ≤ 793551; omega), (by show _ ≤ 6715452; omega)⟩ rfl (Nat.le_of_ble_eq_true rfl) rfl rfl (fun _ _ h => h.elim) ?_
  rintro _ w1 ⟨n1, rfl, LT1, hn1⟩
  refine j_istore (lo' := [(5, _), (0, _), (1, _), (2, _), (3, _), (4, _)]) dL_law_528 (by decide) rfl ?_
  refine j_aload_n dL_law_530 rfl rfl ?_
  refine j_aload_n dL_law_531 rfl rfl ?_
  refine j_iload dL_law_532 rfl ?_
  refine j_iconst (v := 1) dL_law_534 (by decide) ?_
  refine j_iadd dL_law_535 ?_
  refine j_top (congrArg Value.int (show nI i + (1 : Int32) = nI (i + 1) from nI_add i 1)) ?_
  refine j_sld dL_law_536 (by omega) (by omega) ?_
  refine j_aload_n dL_law_537 rfl rfl ?_
  refine j_iload dL_law_538 rfl ?_
  refine j_iconst (v := 2) dL_law_540 (by decide) ?_
  refine j_iadd dL_law_541 ?_
  refine j_top (congrArg Value.int (show nI i + (2 : Int32) = nI (i + 2) from nI_add i 2)) ?_
  refine j_sld dL_law_542 (by omega) (by omega) ?_
  refine j_aload_n dL_law_543 rfl rfl ?_
  refine j_iload dL_law_544 rfl ?_
  refine j_iconst (v := 3) dL_law_546 (by decide) ?_
  refine j_iadd dL_law_547 ?_
  refine j_top (congrArg Value.int (show nI i + (3 : Int32) = nI (i + 3) from nI_add i 3)) ?_
  refine j_sld dL_law_548 (by omega) (by omega) ?_
  obtain ⟨-, ⟨s9, hs9, -⟩, -⟩ := id LT1
  refine j_callV (q := (RX11, TX11, 8)) dL_law_549 kX11_removeIf lL_196 inX11_removeIf seX11_removeIf hs9.m rfl (kx_removeIf hl w1 LT1 (z_sc G (i + 1)) (z_sc G (i + 2)) (z_sc G (i + 3))) (Nat.le_of_ble_eq_true rfl) ⟨(by show _ ≤ 793551; omega), (by show _ ≤ 6715452; omega)⟩ rfl (Nat.le_of_ble_eq_true rfl) rfl rfl (fun _ _ h => h.elim) ?_
  rintro _ w2 ⟨r2, rfl, LT2, th2, hr2⟩
  refine j_istore (lo' := [(6, _), (5, _), (0, _), (1, _), (2, _), (3, _), (4, _)]) dL_law_552 (by decide) rfl ?_
  refine j_goto (tgt := 2257) dL_law_554 (by decide) ?_
  refine j_widen (kc' := kc + 200) (ks' := ks + 6000) (by omega) (by omega) ?_
  exact j_lo2 (KK _ _ _ LT2) (z_q1 rfl (z_q1 rfl (z_q1 rfl (z_q1 rfl (z_q1 rfl z_q0)))))
set_option maxRecDepth 100000 in
set_option maxHeartbeats 4000000 in
theorem lc_6 (hl : l.stackTraces = false) {w : z_W} {x i kc ks : Nat} {S : sp_S} {n : Int64} (LT : z_LX x S S n w) (hi6 : i + 6 ≤ z_sn G) (hsn : z_sn G ≤ 3072) (hkc : kc + 200 ≤ 793551) (hks : ks + 6000 ≤ 6715452) (KK : ∀ (S9 : sp_S) (n9 : Int64) (w9 : z_W), z_LX x S9 S9 n9 w9 → z_J G l mL_law z_SL 2257 (z_lol x i) [] w9 (kc + 200) (ks + 6000)) : z_J G l mL_law z_SL 557 (z_lol x i) [] w kc ks := by
  show z_J G l mL_law _ 557 [(0, _), (1, _), (2, _), (3, _), (4, _)] [] _ _ _
  refine j_aload_n dL_law_557 rfl rfl ?_
  refine j_aload_n dL_law_558 rfl rfl ?_
  refine j_iload dL_law_559 rfl ?_
  refine j_iconst (v := 1) dL_law_561 (by decide) ?_
  refine j_iadd dL_law_562 ?_
  refine j_top (congrArg Value.int (show nI i + (1 : Int32) = nI (i + 1) from nI_add i 1)) ?_
  refine j_sld dL_law_563 (by omega) (by omega) ?_
  refine j_aload_n dL_law_564 rfl rfl ?_
  refine j_iload dL_law_565 rfl ?_
  refine j_iconst (v := 2) dL_law_567 (by decide) ?_
  refine j_iadd dL_law_568 ?_
  refine j_top (congrArg Value.int (show nI i + (2 : Int32) = nI (i + 2) from nI_add i 2)) ?_
  refine j_sld dL_law_569 (by omega) (by omega) ?_
  refine j_aload_n dL_law_570 rfl rfl ?_
  refine j_iload dL_law_571 rfl ?_
  refine j_iconst (v := 3) dL_law_573 (by decide) ?_
  refine j_iadd dL_law_574 ?_
  refine j_top (congrArg Value.int (show nI i + (3 : Int32) = nI (i + 3) from nI_add i 3)) ?_
  refine j_sld dL_law_575 (by omega) (by omega) ?_
  refine j_aload_n dL_law_576 rfl rfl ?_
  refine j_callSW dL_law_577 kL_replaceAll lL_197 stL_replaceAll (lw_replaceAll hl w _ _ _ _ LT (z_sc G (i + 1)) (z_sc G (i + 2)) (z_sc G (i + 3))) (Nat.le_of_ble_eq_true rfl) ⟨(by show _ ≤ 793551; omega), (by show _ ≤ 6715452; omega)⟩ rfl (Nat.le_of_ble_eq_true rfl) rfl rfl (fun _ _ h => h.elim) ?_
  rintro _ w1 ⟨n1, rfl, LT1, hn1⟩
  refine j_istore (lo' := [(5, _), (0, _), (1, _), (2, _), (3, _), (4, _)]) dL_law_580 (by decide) rfl ?_
  refine j_aload_n dL_law_582 rfl rfl ?_
  refine j_aload_n dL_law_583 rfl rfl ?_
  refine j_iload dL_law_584 rfl ?_
  refine j_iconst (v := 1) dL_law_586 (by decide) ?_
  refine j_iadd dL_law_587 ?_
  refine j_top (congrArg Value.int (show nI i + (1 : Int32) = nI (i + 1) from nI_add i 1)) ?_
  refine j_sld dL_law_588 (by omega) (by omega) ?_
  refine j_aload_n dL_law_589 rfl rfl ?_
  refine j_iload dL_law_590 rfl ?_
  refine j_iconst (v := 2) dL_law_592 (by decide) ?_
  refine j_iadd dL_law_593 ?_
  refine j_top (congrArg Value.int (show nI i + (2 : Int32) = nI (i + 2) from nI_add i 2)) ?_
  refine j_sld dL_law_594 (by omega) (by omega) ?_
  refine j_aload_n dL_law_595 rfl rfl ?_
  refine j_iload dL_law_596 rfl ?_
  refine j_iconst (v := 3) dL_law_598 (by decide) ?_
  refine j_iadd dL_law_599 ?_
  refine j_top (congrArg Value.int (show nI i + (3 : Int32) = nI (i + 3) from nI_add i 3)) ?_
  refine j_sld dL_law_600 (by omega) (by omega) ?_
  obtain ⟨-, ⟨s10, hs10, -⟩, -⟩ := id LT1
  refine j_callV (q := (RX11, TX11, 8)) dL_law_601 kX11_replaceAll lL_199 inX11_replaceAll seX11_replaceAll hs10.m rfl (kx_replaceAll hl w1 LT1 (z_sc G (i + 1)) (z_sc G (i + 2)) (z_sc G (i + 3))) (Nat.le_of_ble_eq_true rfl) ⟨(by show _ ≤ 793551; omega), (by show _ ≤ 6715452; omega)⟩ rfl (Nat.le_of_ble_eq_true rfl) rfl rfl (fun _ _ h => h.elim) ?_
  rintro _ w2 ⟨r2, rfl, LT2, th2, hr2⟩
  refine j_istore (lo' := [(6, _), (5, _), (0, _), (1, _), (2, _), (3, _), (4, _)]) dL_law_604 (by decide) rfl ?_
  refine j_goto (tgt := 2257) dL_law_606 (by decide) ?_
  refine j_widen (kc' := kc + 200) (ks' := ks + 6000) (by omega) (by omega) ?_
  exact j_lo2 (KK _ _ _ LT2) (z_q1 rfl (z_q1 rfl (z_q1 rfl (z_q1 rfl (z_q1 rfl z_q0)))))
set_option maxRecDepth 100000 in
set_option maxHeartbeats 4000000 in
theorem lc_7 (hl : l.stackTraces = false) {w : z_W} {x i kc ks : Nat} {S : sp_S} {n : Int64} (LT : z_LX x S S n w) (hi6 : i + 6 ≤ z_sn G) (hsn : z_sn G ≤ 3072) (hkc : kc + 200 ≤ 793551) (hks : ks + 6000 ≤ 6715452) (KK : ∀ (S9 : sp_S) (n9 : Int64) (w9 : z_W), z_LX x S9 S9 n9 w9 → z_J G l mL_law z_SL 2257 (z_lol x i) [] w9 (kc + 200) (ks + 6000)) : z_J G l mL_law z_SL 609 (z_lol x i) [] w kc ks := by
  show z_J G l mL_law _ 609 [(0, _), (1, _), (2, _), (3, _), (4, _)] [] _ _ _
  refine j_aload_n dL_law_609 rfl rfl ?_
  refine j_aload_n dL_law_610 rfl rfl ?_
  refine j_iload dL_law_611 rfl ?_
  refine j_iconst (v := 1) dL_law_613 (by decide) ?_
  refine j_iadd dL_law_614 ?_
  refine j_top (congrArg Value.int (show nI i + (1 : Int32) = nI (i + 1) from nI_add i 1)) ?_
  refine j_sld dL_law_615 (by omega) (by omega) ?_
  refine j_aload_n dL_law_616 rfl rfl ?_
  refine j_callSW dL_law_617 kL_copy lL_200 stL_copy (lw_copy hl w _ _ _ _ LT (z_sc G (i + 1))) (Nat.le_of_ble_eq_true rfl) ⟨(by show _ ≤ 793551; omega), (by show _ ≤ 6715452; omega)⟩ rfl (Nat.le_of_ble_eq_true rfl) rfl rfl (fun _ _ h => h.elim) ?_
  rintro _ w1 ⟨n1, rfl, LT1, hn1⟩
  refine j_istore (lo' := [(5, _), (0, _), (1, _), (2, _), (3, _), (4, _)]) dL_law_620 (by decide) rfl ?_
  refine j_aload_n dL_law_622 rfl rfl ?_
  refine j_aload_n dL_law_623 rfl rfl ?_
  refine j_iload dL_law_624 rfl ?_
  refine j_iconst (v := 1) dL_law_626 (by decide) ?_
  refine j_iadd dL_law_627 ?_
  refine j_top (congrArg Value.int (show nI i + (1 : Int32) = nI (i + 1) from nI_add i 1)) ?_
  refine j_sld dL_law_628 (by omega) (by omega) ?_
  obtain ⟨-, ⟨s11, hs11, -⟩, -⟩ := id LT1
  refine j_callV (q := (RX11, TX11, 8)) dL_law_629 kX11_copy lL_203 inX11_copy seX11_copy hs11.m rfl (kx_copy hl w1 LT1 (z_sc G (i + 1))) (Nat.le_of_ble_eq_true rfl) ⟨(by show _ ≤ 793551; omega), (by show _ ≤ 6715452; omega)⟩ rfl (Nat.le_of_ble_eq_true rfl) rfl rfl (fun _ _ h => h.elim) ?_
  rintro _ w2 ⟨r2, rfl, LT2, th2, hr2⟩
  refine j_istore (lo' := [(6, _), (5, _), (0, _), (1, _), (2, _), (3, _), (4, _)]) dL_law_632 (by decide) rfl ?_
  refine j_goto (tgt := 2257) dL_law_634 (by decide) ?_
  refine j_widen (kc' := kc + 200) (ks' := ks + 6000) (by omega) (by omega) ?_
  exact j_lo2 (KK _ _ _ LT2) (z_q1 rfl (z_q1 rfl (z_q1 rfl (z_q1 rfl (z_q1 rfl z_q0)))))
set_option maxRecDepth 100000 in
set_option maxHeartbeats 4000000 in
theorem lc_8 (hl : l.stackTraces = false) {w : z_W} {x i kc ks : Nat} {S : sp_S} {n : Int64} (LT : z_LX x S S n w) (hi6 : i + 6 ≤ z_sn G) (hsn : z_sn G ≤ 3072) (hkc : kc + 200 ≤ 793551) (hks : ks + 6000 ≤ 6715452) (KK : ∀ (S9 : sp_S) (n9 : Int64) (w9 : z_W), z_LX x S9 S9 n9 w9 → z_J G l mL_law z_SL 2257 (z_lol x i) [] w9 (kc + 200) (ks + 6000)) : z_J G l mL_law z_SL 637 (z_lol x i) [] w kc ks := by
  show z_J G l mL_law _ 637 [(0, _), (1, _), (2, _), (3, _), (4, _)] [] _ _ _
  refine j_aload_n dL_law_637 rfl rfl ?_
  refine j_aload_n dL_law_638 rfl rfl ?_
  refine j_iload dL_law_639 rfl ?_
  refine j_iconst (v := 1) dL_law_641 (by decide) ?_
  refine j_iadd dL_law_642 ?_
  refine j_top (congrArg Value.int (show nI i + (1 : Int32) = nI (i + 1) from nI_add i 1)) ?_
  refine j_sld dL_law_643 (by omega) (by omega) ?_
  refine j_aload_n dL_law_644 rfl rfl ?_
  refine j_iload dL_law_645 rfl ?_
  refine j_iconst (v := 2) dL_law_647 (by decide) ?_
  refine j_iadd dL_law_648 ?_
  refine j_top (congrArg Value.int (show nI i + (2 : Int32) = nI (i + 2) from nI_add i 2)) ?_
  refine j_sld dL_law_649 (by omega) (by omega) ?_
  refine j_aload_n dL_law_650 rfl rfl ?_
  refine j_iload dL_law_651 rfl ?_
  refine j_iconst (v := 3) dL_law_653 (by decide) ?_
  refine j_iadd dL_law_654 ?_
  refine j_top (congrArg Value.int (show nI i + (3 : Int32) = nI (i + 3) from nI_add i 3)) ?_
  refine j_sld dL_law_655 (by omega) (by omega) ?_
  refine j_aload_n dL_law_656 rfl rfl ?_
  refine j_callSW dL_law_657 kL_put lL_204 stL_put (lw_put hl w _ _ _ _ LT (z_sc G (i + 1)) (z_sc G (i + 2)) (z_sc G (i + 3))) (Nat.le_of_ble_eq_true rfl) ⟨(by show _ ≤ 793551; omega), (by show _ ≤ 6715452; omega)⟩ rfl (Nat.le_of_ble_eq_true rfl) rfl rfl (fun _ _ h => h.elim) ?_
  rintro _ w1 ⟨n1, rfl, LT1, hn1⟩
  refine j_istore (lo' := [(5, _), (0, _), (1, _), (2, _), (3, _), (4, _)]) dL_law_660 (by decide) rfl ?_
  refine j_aload_n dL_law_662 rfl rfl ?_
  refine j_aload_n dL_law_663 rfl rfl ?_
  refine j_iload dL_law_664 rfl ?_
  refine j_iconst (v := 1) dL_law_666 (by decide) ?_
  refine j_iadd dL_law_667 ?_
  refine j_top (congrArg Value.int (show nI i + (1 : Int32) = nI (i + 1) from nI_add i 1)) ?_
  refine j_sld dL_law_668 (by omega) (by omega) ?_
  refine j_aload_n dL_law_669 rfl rfl ?_
  refine j_iload dL_law_670 rfl ?_
  refine j_iconst (v := 2) dL_law_672 (by decide) ?_
  refine j_iadd dL_law_673 ?_
  refine j_top (congrArg Value.int (show nI i + (2 : Int32) = nI (i + 2) from nI_add i 2)) ?_
  refine j_sld dL_law_674 (by omega) (by omega) ?_
  refine j_aload_n dL_law_675 rfl rfl ?_
  refine j_iload dL_law_676 rfl ?_
  refine j_iconst (v := 3) dL_law_678 (by decide) ?_
  refine j_iadd dL_law_679 ?_
  refine j_top (congrArg Value.int (show nI i + (3 : Int32) = nI (i + 3) from nI_add i 3)) ?_
  refine j_sld dL_law_680 (by omega) (by omega) ?_
  obtain ⟨-, ⟨s12, hs12, -⟩, -⟩ := id LT1
  refine j_callV (q := (RX11, TX11, 8)) dL_law_681 kX11_put lL_206 inX11_put seX11_put hs12.m rfl (kx_put hl w1 LT1 (z_sc G (i + 1)) (z_sc G (i + 2)) (z_sc G (i + 3))) (Nat.le_of_ble_eq_true rfl) ⟨(by show _ ≤ 793551; omega), (by show _ ≤ 6715452; omega)⟩ rfl (Nat.le_of_ble_eq_true rfl) rfl rfl (fun _ _ h => h.elim) ?_
  rintro _ w2 ⟨r2, rfl, LT2, th2, hr2⟩
  refine j_istore (lo' := [(6, _), (5, _), (0, _), (1, _), (2, _), (3, _), (4, _)]) dL_law_684 (by decide) rfl ?_
  refine j_goto (tgt := 2257) dL_law_686 (by decide) ?_
  refine j_widen (kc' := kc + 200) (ks' := ks + 6000) (by omega) (by omega) ?_
  exact j_lo2 (KK _ _ _ LT2) (z_q1 rfl (z_q1 rfl (z_q1 rfl (z_q1 rfl (z_q1 rfl z_q0)))))
set_option maxRecDepth 100000 in
set_option maxHeartbeats 4000000 in
theorem lc_9 (hl : l.stackTraces = false) {w : z_W} {x i kc ks : Nat} {S : sp_S} {n : Int64} (LT : z_LX x S S n w) (hi6 : i + 6 ≤ z_sn G) (hsn : z_sn G ≤ 3072) (hkc : kc + 200 ≤ 793551) (hks : ks + 6000 ≤ 6715452) (KK : ∀ (S9 : sp_S) (n9 : Int64) (w9 : z_W), z_LX x S9 S9 n9 w9 → z_J G l mL_law z_SL 2257 (z_lol x i) [] w9 (kc + 200) (ks + 6000)) : z_J G l mL_law z_SL 689 (z_lol x i) [] w kc ks := by
  show z_J G l mL_law _ 689 [(0, _), (1, _), (2, _), (3, _), (4, _)] [] _ _ _
  refine j_aload_n dL_law_689 rfl rfl ?_
  refine j_aload_n dL_law_690 rfl rfl ?_
  refine j_iload dL_law_691 rfl ?_
  refine j_iconst (v := 1) dL_law_693 (by decide) ?_
  refine j_iadd dL_law_694 ?_
  refine j_top (congrArg Value.int (show nI i + (1 : Int32) = nI (i + 1) from nI_add i 1)) ?_
  refine j_sld dL_law_695 (by omega) (by omega) ?_
  refine j_aload_n dL_law_696 rfl rfl ?_
  refine j_iload dL_law_697 rfl ?_
  refine j_iconst (v := 2) dL_law_699 (by decide) ?_
  refine j_iadd dL_law_700 ?_
  refine j_top (congrArg Value.int (show nI i + (2 : Int32) = nI (i + 2) from nI_add i 2)) ?_
  refine j_sld dL_law_701 (by omega) (by omega) ?_
  refine j_aload_n dL_law_702 rfl rfl ?_
  refine j_callSW dL_law_703 kL_remove lL_207 stL_remove (lw_remove hl w _ _ _ _ LT (z_sc G (i + 1)) (z_sc G (i + 2))) (Nat.le_of_ble_eq_true rfl) ⟨(by show _ ≤ 793551; omega), (by show _ ≤ 6715452; omega)⟩ rfl (Nat.le_of_ble_eq_true rfl) rfl rfl (fun _ _ h => h.elim) ?_
  rintro _ w1 ⟨n1, rfl, LT1, hn1⟩
  refine j_istore (lo' := [(5, _), (0, _), (1, _), (2, _), (3, _), (4, _)]) dL_law_706 (by decide) rfl ?_
  refine j_aload_n dL_law_708 rfl rfl ?_
  refine j_aload_n dL_law_709 rfl rfl ?_
  refine j_iload dL_law_710 rfl ?_
  refine j_iconst (v := 1) dL_law_712 (by decide) ?_
  refine j_iadd dL_law_713 ?_
  refine j_top (congrArg Value.int (show nI i + (1 : Int32) = nI (i + 1) from nI_add i 1)) ?_
  refine j_sld dL_law_714 (by omega) (by omega) ?_
  refine j_aload_n dL_law_715 rfl rfl ?_
  refine j_iload dL_law_716 rfl ?_
  refine j_iconst (v := 2) dL_law_718 (by decide) ?_
  refine j_iadd dL_law_719 ?_
  refine j_top (congrArg Value.int (show nI i + (2 : Int32) = nI (i + 2) from nI_add i 2)) ?_
  refine j_sld dL_law_720 (by omega) (by omega) ?_
  obtain ⟨-, ⟨s13, hs13, -⟩, -⟩ := id LT1
  refine j_callV (q := (RX11, TX11, 8)) dL_law_721 kX11_remove lL_209 inX11_remove seX11_remove hs13.m rfl (kx_remove hl w1 LT1 (z_sc G (i + 1)) (z_sc G (i + 2))) (Nat.le_of_ble_eq_true rfl) ⟨(by show _ ≤ 793551; omega), (by show _ ≤ 6715452; omega)⟩ rfl (Nat.le_of_ble_eq_true rfl) rfl rfl (fun _ _ h => h.elim) ?_
  rintro _ w2 ⟨r2, rfl, LT2, th2, hr2⟩
  refine j_istore (lo' := [(6, _), (5, _), (0, _), (1, _), (2, _), (3, _), (4, _)]) dL_law_724 (by decide) rfl ?_
  refine j_goto (tgt := 2257) dL_law_726 (by decide) ?_
  refine j_widen (kc' := kc + 200) (ks' := ks + 6000) (by omega) (by omega) ?_
  exact j_lo2 (KK _ _ _ LT2) (z_q1 rfl (z_q1 rfl (z_q1 rfl (z_q1 rfl (z_q1 rfl z_q0)))))
set_option maxRecDepth 100000 in
set_option maxHeartbeats 4000000 in
theorem lc_10 (hl : l.stackTraces = false) {w : z_W} {x i kc ks : Nat} {S : sp_S} {n : Int64} (LT : z_LX x S S n w) (hi6 : i + 6 ≤ z_sn G) (hsn : z_sn G ≤ 3072) (hkc : kc + 200 ≤ 793551) (hks : ks + 6000 ≤ 6715452) (KK : ∀ (S9 : sp_S) (n9 : Int64) (w9 : z_W), z_LX x S9 S9 n9 w9 → z_J G l mL_law z_SL 2257 (z_lol x i) [] w9 (kc + 200) (ks + 6000)) : z_J G l mL_law z_SL 729 (z_lol x i) [] w kc ks := by
  show z_J G l mL_law _ 729 [(0, _), (1, _), (2, _), (3, _), (4, _)] [] _ _ _
  refine j_aload_n dL_law_729 rfl rfl ?_
  refine j_aload_n dL_law_730 rfl rfl ?_
  refine j_iload dL_law_731 rfl ?_
  refine j_iconst (v := 1) dL_law_733 (by decide) ?_
  refine j_iadd dL_law_734 ?_
  refine j_top (congrArg Value.int (show nI i + (1 : Int32) = nI (i + 1) from nI_add i 1)) ?_
  refine j_sld dL_law_735 (by omega) (by omega) ?_
  refine j_aload_n dL_law_736 rfl rfl ?_
  refine j_iload dL_law_737 rfl ?_
  refine j_iconst (v := 2) dL_law_739 (by decide) ?_
  refine j_iadd dL_law_740 ?_
  refine j_top (congrArg Value.int (show nI i + (2 : Int32) = nI (i + 2) from nI_add i 2)) ?_
  refine j_sld dL_law_741 (by omega) (by omega) ?_
  refine j_aload_n dL_law_742 rfl rfl ?_
  refine j_iload dL_law_743 rfl ?_
  refine j_iconst (v := 3) dL_law_745 (by decide) ?_
  refine j_iadd dL_law_746 ?_
  refine j_top (congrArg Value.int (show nI i + (3 : Int32) = nI (i + 3) from nI_add i 3)) ?_
  refine j_sld dL_law_747 (by omega) (by omega) ?_
  refine j_aload_n dL_law_748 rfl rfl ?_
  refine j_callSW dL_law_749 kL_putIfAbsent lL_210 stL_putIfAbsent (lw_putIfAbsent hl w _ _ _ _ LT (z_sc G (i + 1)) (z_sc G (i + 2)) (z_sc G (i + 3))) (Nat.le_of_ble_eq_true rfl) ⟨(by show _ ≤ 793551; omega), (by show _ ≤ 6715452; omega)⟩ rfl (Nat.le_of_ble_eq_true rfl) rfl rfl (fun _ _ h => h.elim) ?_
  rintro _ w1 ⟨n1, rfl, LT1, hn1⟩
  refine j_istore (lo' := [(5, _), (0, _), (1, _), (2, _), (3, _), (4, _)]) dL_law_752 (by decide) rfl ?_
  refine j_aload_n dL_law_754 rfl rfl ?_
  refine j_aload_n dL_law_755 rfl rfl ?_
  refine j_iload dL_law_756 rfl ?_
  refine j_iconst (v := 1) dL_law_758 (by decide) ?_
  refine j_iadd dL_law_759 ?_
  refine j_top (congrArg Value.int (show nI i + (1 : Int32) = nI (i + 1) from nI_add i 1)) ?_
  refine j_sld dL_law_760 (by omega) (by omega) ?_
  refine j_aload_n dL_law_761 rfl rfl ?_
  refine j_iload dL_law_762 rfl ?_
  refine j_iconst (v := 2) dL_law_764 (by decide) ?_
  refine j_iadd dL_law_765 ?_
  refine j_top (congrArg Value.int (show nI i + (2 : Int32) = nI (i + 2) from nI_add i 2)) ?_
  refine j_sld dL_law_766 (by omega) (by omega) ?_
  refine j_aload_n dL_law_767 rfl rfl ?_
  refine j_iload dL_law_768 rfl ?_
  refine j_iconst (v := 3) dL_law_770 (by decide) ?_
  refine j_iadd dL_law_771 ?_
  refine j_top (congrArg Value.int (show nI i + (3 : Int32) = nI (i + 3) from nI_add i 3)) ?_
  refine j_sld dL_law_772 (by omega) (by omega) ?_
  obtain ⟨-, ⟨s14, hs14, -⟩, -⟩ := id LT1
  refine j_callV (q := (RX11, TX11, 8)) dL_law_773 kX11_putIfAbsent lL_212 inX11_putIfAbsent seX11_putIfAbsent hs14.m rfl (kx_putIfAbsent hl w1 LT1 (z_sc G (i + 1)) (z_sc G (i + 2)) (z_sc G (i + 3))) (Nat.le_of_ble_eq_true rfl) ⟨(by show _ ≤ 793551; omega), (by show _ ≤ 6715452; omega)⟩ rfl (Nat.le_of_ble_eq_true rfl) rfl rfl (fun _ _ h => h.elim) ?_
  rintro _ w2 ⟨r2, rfl, LT2, th2, hr2⟩
  refine j_istore (lo' := [(6, _), (5, _), (0, _), (1, _), (2, _), (3, _), (4, _)]) dL_law_776 (by decide) rfl ?_
  refine j_goto (tgt := 2257) dL_law_778 (by decide) ?_
  refine j_widen (kc' := kc + 200) (ks' := ks + 6000) (by omega) (by omega) ?_
  exact j_lo2 (KK _ _ _ LT2) (z_q1 rfl (z_q1 rfl (z_q1 rfl (z_q1 rfl (z_q1 rfl z_q0)))))
set_option maxRecDepth 100000 in
set_option maxHeartbeats 4000000 in
theorem lc_11 (hl : l.stackTraces = false) {w : z_W} {x i kc ks : Nat} {S : sp_S} {n : Int64} (LT : z_LX x S S n w) (hi6 : i + 6 ≤ z_sn G) (hsn : z_sn G ≤ 3072) (hkc : kc + 200 ≤ 793551) (hks : ks + 6000 ≤ 6715452) (KK : ∀ (S9 : sp_S) (n9 : Int64) (w9 : z_W), z_LX x S9 S9 n9 w9 → z_J G l mL_law z_SL 2257 (z_lol x i) [] w9 (kc + 200) (ks + 6000)) : z_J G l mL_law z_SL 781 (z_lol x i) [] w kc ks := by
  show z_J G l mL_law _ 781 [(0, _), (1, _), (2, _), (3, _), (4, _)] [] _ _ _
  refine j_aload_n dL_law_781 rfl rfl ?_
  refine j_aload_n dL_law_782 rfl rfl ?_
  refine j_iload dL_law_783 rfl ?_
  refine j_iconst (v := 1) dL_law_785 (by decide) ?_
  refine j_iadd dL_law_786 ?_
  refine j_top (congrArg Value.int (show nI i + (1 : Int32) = nI (i + 1) from nI_add i 1)) ?_
  refine j_sld dL_law_787 (by omega) (by omega) ?_
  refine j_aload_n dL_law_788 rfl rfl ?_
  refine j_iload dL_law_789 rfl ?_
  refine j_iconst (v := 2) dL_law_791 (by decide) ?_
  refine j_iadd dL_law_792 ?_
  refine j_top (congrArg Value.int (show nI i + (2 : Int32) = nI (i + 2) from nI_add i 2)) ?_
  refine j_sld dL_law_793 (by omega) (by omega) ?_
  refine j_aload_n dL_law_794 rfl rfl ?_
  refine j_iload dL_law_795 rfl ?_
  refine j_iconst (v := 3) dL_law_797 (by decide) ?_
  refine j_iadd dL_law_798 ?_
  refine j_top (congrArg Value.int (show nI i + (3 : Int32) = nI (i + 3) from nI_add i 3)) ?_
  refine j_sld dL_law_799 (by omega) (by omega) ?_
  refine j_aload_n dL_law_800 rfl rfl ?_
  refine j_callSW dL_law_801 kL_replace lL_213 stL_replace (lw_replace hl w _ _ _ _ LT (z_sc G (i + 1)) (z_sc G (i + 2)) (z_sc G (i + 3))) (Nat.le_of_ble_eq_true rfl) ⟨(by show _ ≤ 793551; omega), (by show _ ≤ 6715452; omega)⟩ rfl (Nat.le_of_ble_eq_true rfl) rfl rfl (fun _ _ h => h.elim) ?_
  rintro _ w1 ⟨n1, rfl, LT1, hn1⟩
  refine j_istore (lo' := [(5, _), (0, _), (1, _), (2, _), (3, _), (4, _)]) dL_law_804 (by decide) rfl ?_
  refine j_aload_n dL_law_806 rfl rfl ?_
  refine j_aload_n dL_law_807 rfl rfl ?_
  refine j_iload dL_law_808 rfl ?_
  refine j_iconst (v := 1) dL_law_810 (by decide) ?_
  refine j_iadd dL_law_811 ?_
  refine j_top (congrArg Value.int (show nI i + (1 : Int32) = nI (i + 1) from nI_add i 1)) ?_
  refine j_sld dL_law_812 (by omega) (by omega) ?_
  refine j_aload_n dL_law_813 rfl rfl ?_
  refine j_iload dL_law_814 rfl ?_
  refine j_iconst (v := 2) dL_law_816 (by decide) ?_
  refine j_iadd dL_law_817 ?_
  refine j_top (congrArg Value.int (show nI i + (2 : Int32) = nI (i + 2) from nI_add i 2)) ?_
  refine j_sld dL_law_818 (by omega) (by omega) ?_
  refine j_aload_n dL_law_819 rfl rfl ?_
  refine j_iload dL_law_820 rfl ?_
  refine j_iconst (v := 3) dL_law_822 (by decide) ?_
  refine j_iadd dL_law_823 ?_
  refine j_top (congrArg Value.int (show nI i + (3 : Int32) = nI (i + 3) from nI_add i 3)) ?_
  refine j_sld dL_law_824 (by omega) (by omega) ?_
  obtain ⟨-, ⟨s15, hs15, -⟩, -⟩ := id LT1
  refine j_callV (q := (RX11, TX11, 8)) dL_law_825 kX11_replace lL_215 inX11_replace seX11_replace hs15.m rfl (kx_replace hl w1 LT1 (z_sc G (i + 1)) (z_sc G (i + 2)) (z_sc G (i + 3))) (Nat.le_of_ble_eq_true rfl) ⟨(by show _ ≤ 793551; omega), (by show _ ≤ 6715452; omega)⟩ rfl (Nat.le_of_ble_eq_true rfl) rfl rfl (fun _ _ h => h.elim) ?_
  rintro _ w2 ⟨r2, rfl, LT2, th2, hr2⟩
  refine j_istore (lo' := [(6, _), (5, _), (0, _), (1, _), (2, _), (3, _), (4, _)]) dL_law_828 (by decide) rfl ?_
  refine j_goto (tgt := 2257) dL_law_830 (by decide) ?_
  refine j_widen (kc' := kc + 200) (ks' := ks + 6000) (by omega) (by omega) ?_
  exact j_lo2 (KK _ _ _ LT2) (z_q1 rfl (z_q1 rfl (z_q1 rfl (z_q1 rfl (z_q1 rfl z_q0)))))
set_option maxRecDepth 100000 in
set_option maxHeartbeats 4000000 in
theorem lc_12 (hl : l.stackTraces = false) {w : z_W} {x i kc ks : Nat} {S : sp_S} {n : Int64} (LT : z_LX x S S n w) (hi6 : i + 6 ≤ z_sn G) (hsn : z_sn G ≤ 3072) (hkc : kc + 200 ≤ 793551) (hks : ks + 6000 ≤ 6715452) (KK : ∀ (S9 : sp_S) (n9 : Int64) (w9 : z_W), z_LX x S9 S9 n9 w9 → z_J G l mL_law z_SL 2257 (z_lol x i) [] w9 (kc + 200) (ks + 6000)) : z_J G l mL_law z_SL 833 (z_lol x i) [] w kc ks := by
  show z_J G l mL_law _ 833 [(0, _), (1, _), (2, _), (3, _), (4, _)] [] _ _ _
  refine j_aload_n dL_law_833 rfl rfl ?_
  refine j_aload_n dL_law_834 rfl rfl ?_
  refine j_iload dL_law_835 rfl ?_
  refine j_iconst (v := 1) dL_law_837 (by decide) ?_
  refine j_iadd dL_law_838 ?_
  refine j_top (congrArg Value.int (show nI i + (1 : Int32) = nI (i + 1) from nI_add i 1)) ?_
  refine j_sld dL_law_839 (by omega) (by omega) ?_
  refine j_aload_n dL_law_840 rfl rfl ?_
  refine j_iload dL_law_841 rfl ?_
  refine j_iconst (v := 2) dL_law_843 (by decide) ?_
  refine j_iadd dL_law_844 ?_
  refine j_top (congrArg Value.int (show nI i + (2 : Int32) = nI (i + 2) from nI_add i 2)) ?_
  refine j_sld dL_law_845 (by omega) (by omega) ?_
  refine j_aload_n dL_law_846 rfl rfl ?_
  refine j_iload dL_law_847 rfl ?_
  refine j_iconst (v := 3) dL_law_849 (by decide) ?_
  refine j_iadd dL_law_850 ?_
  refine j_top (congrArg Value.int (show nI i + (3 : Int32) = nI (i + 3) from nI_add i 3)) ?_
  refine j_sld dL_law_851 (by omega) (by omega) ?_
  refine j_aload_n dL_law_852 rfl rfl ?_
  refine j_iload dL_law_853 rfl ?_
  refine j_iconst (v := 4) dL_law_855 (by decide) ?_
  refine j_iadd dL_law_856 ?_
  refine j_top (congrArg Value.int (show nI i + (4 : Int32) = nI (i + 4) from nI_add i 4)) ?_
  refine j_sld dL_law_857 (by omega) (by omega) ?_
  refine j_aload_n dL_law_858 rfl rfl ?_
  refine j_callSW dL_law_859 kL_replaceIf lL_216 stL_replaceIf (lw_replaceIf hl w _ _ _ _ LT (z_sc G (i + 1)) (z_sc G (i + 2)) (z_sc G (i + 3)) (z_sc G (i + 4))) (Nat.le_of_ble_eq_true rfl) ⟨(by show _ ≤ 793551; omega), (by show _ ≤ 6715452; omega)⟩ rfl (Nat.le_of_ble_eq_true rfl) rfl rfl (fun _ _ h => h.elim) ?_
  rintro _ w1 ⟨n1, rfl, LT1, hn1⟩
  refine j_istore (lo' := [(5, _), (0, _), (1, _), (2, _), (3, _), (4, _)]) dL_law_862 (by decide) rfl ?_
  refine j_aload_n dL_law_864 rfl rfl ?_
  refine j_aload_n dL_law_865 rfl rfl ?_
  refine j_iload dL_law_866 rfl ?_
  refine j_iconst (v := 1) dL_law_868 (by decide) ?_
  refine j_iadd dL_law_869 ?_
  refine j_top (congrArg Value.int (show nI i + (1 : Int32) = nI (i + 1) from nI_add i 1)) ?_
  refine j_sld dL_law_870 (by omega) (by omega) ?_
  refine j_aload_n dL_law_871 rfl rfl ?_
  refine j_iload dL_law_872 rfl ?_
  refine j_iconst (v := 2) dL_law_874 (by decide) ?_
  refine j_iadd dL_law_875 ?_
  refine j_top (congrArg Value.int (show nI i + (2 : Int32) = nI (i + 2) from nI_add i 2)) ?_
  refine j_sld dL_law_876 (by omega) (by omega) ?_
  refine j_aload_n dL_law_877 rfl rfl ?_
  refine j_iload dL_law_878 rfl ?_
  refine j_iconst (v := 3) dL_law_880 (by decide) ?_
  refine j_iadd dL_law_881 ?_
  refine j_top (congrArg Value.int (show nI i + (3 : Int32) = nI (i + 3) from nI_add i 3)) ?_
  refine j_sld dL_law_882 (by omega) (by omega) ?_
  refine j_aload_n dL_law_883 rfl rfl ?_
  refine j_iload dL_law_884 rfl ?_
  refine j_iconst (v := 4) dL_law_886 (by decide) ?_
  refine j_iadd dL_law_887 ?_
  refine j_top (congrArg Value.int (show nI i + (4 : Int32) = nI (i + 4) from nI_add i 4)) ?_
  refine j_sld dL_law_888 (by omega) (by omega) ?_
  obtain ⟨-, ⟨s16, hs16, -⟩, -⟩ := id LT1
  refine j_callV (q := (RX11, TX11, 8)) dL_law_889 kX11_replaceIf lL_219 inX11_replaceIf seX11_replaceIf hs16.m rfl (kx_replaceIf hl w1 LT1 (z_sc G (i + 1)) (z_sc G (i + 2)) (z_sc G (i + 3)) (z_sc G (i + 4))) (Nat.le_of_ble_eq_true rfl) ⟨(by show _ ≤ 793551; omega), (by show _ ≤ 6715452; omega)⟩ rfl (Nat.le_of_ble_eq_true rfl) rfl rfl (fun _ _ h => h.elim) ?_
  rintro _ w2 ⟨r2, rfl, LT2, th2, hr2⟩
  refine j_istore (lo' := [(6, _), (5, _), (0, _), (1, _), (2, _), (3, _), (4, _)]) dL_law_892 (by decide) rfl ?_
  refine j_goto (tgt := 2257) dL_law_894 (by decide) ?_
  refine j_widen (kc' := kc + 200) (ks' := ks + 6000) (by omega) (by omega) ?_
  exact j_lo2 (KK _ _ _ LT2) (z_q1 rfl (z_q1 rfl (z_q1 rfl (z_q1 rfl (z_q1 rfl z_q0)))))
set_option maxRecDepth 100000 in
set_option maxHeartbeats 4000000 in
theorem lc_13 (hl : l.stackTraces = false) {w : z_W} {x i kc ks : Nat} {S : sp_S} {n : Int64} (LT : z_LX x S S n w) (hi6 : i + 6 ≤ z_sn G) (hsn : z_sn G ≤ 3072) (hkc : kc + 200 ≤ 793551) (hks : ks + 6000 ≤ 6715452) (KK : ∀ (S9 : sp_S) (n9 : Int64) (w9 : z_W), z_LX x S9 S9 n9 w9 → z_J G l mL_law z_SL 2257 (z_lol x i) [] w9 (kc + 200) (ks + 6000)) : z_J G l mL_law z_SL 897 (z_lol x i) [] w kc ks := by
  show z_J G l mL_law _ 897 [(0, _), (1, _), (2, _), (3, _), (4, _)] [] _ _ _
  refine j_aload_n dL_law_897 rfl rfl ?_
  refine j_aload_n dL_law_898 rfl rfl ?_
  refine j_iload dL_law_899 rfl ?_
  refine j_iconst (v := 1) dL_law_901 (by decide) ?_
  refine j_iadd dL_law_902 ?_
  refine j_top (congrArg Value.int (show nI i + (1 : Int32) = nI (i + 1) from nI_add i 1)) ?_
  refine j_sld dL_law_903 (by omega) (by omega) ?_
  refine j_aload_n dL_law_904 rfl rfl ?_
  refine j_iload dL_law_905 rfl ?_
  refine j_iconst (v := 2) dL_law_907 (by decide) ?_
  refine j_iadd dL_law_908 ?_
  refine j_top (congrArg Value.int (show nI i + (2 : Int32) = nI (i + 2) from nI_add i 2)) ?_
  refine j_sld dL_law_909 (by omega) (by omega) ?_
  refine j_aload_n dL_law_910 rfl rfl ?_
  refine j_iload dL_law_911 rfl ?_
  refine j_iconst (v := 3) dL_law_913 (by decide) ?_
  refine j_iadd dL_law_914 ?_
  refine j_top (congrArg Value.int (show nI i + (3 : Int32) = nI (i + 3) from nI_add i 3)) ?_
  refine j_sld dL_law_915 (by omega) (by omega) ?_
  refine j_aload_n dL_law_916 rfl rfl ?_
  refine j_callSW dL_law_917 kL_removePair lL_220 stL_removePair (lw_removePair hl w _ _ _ _ LT (z_sc G (i + 1)) (z_sc G (i + 2)) (z_sc G (i + 3))) (Nat.le_of_ble_eq_true rfl) ⟨(by show _ ≤ 793551; omega), (by show _ ≤ 6715452; omega)⟩ rfl (Nat.le_of_ble_eq_true rfl) rfl rfl (fun _ _ h => h.elim) ?_
  rintro _ w1 ⟨n1, rfl, LT1, hn1⟩
  refine j_istore (lo' := [(5, _), (0, _), (1, _), (2, _), (3, _), (4, _)]) dL_law_920 (by decide) rfl ?_
  refine j_aload_n dL_law_922 rfl rfl ?_
  refine j_aload_n dL_law_923 rfl rfl ?_
  refine j_iload dL_law_924 rfl ?_
  refine j_iconst (v := 1) dL_law_926 (by decide) ?_
  refine j_iadd dL_law_927 ?_
  refine j_top (congrArg Value.int (show nI i + (1 : Int32) = nI (i + 1) from nI_add i 1)) ?_
  refine j_sld dL_law_928 (by omega) (by omega) ?_
  refine j_aload_n dL_law_929 rfl rfl ?_
  refine j_iload dL_law_930 rfl ?_
  refine j_iconst (v := 2) dL_law_932 (by decide) ?_
  refine j_iadd dL_law_933 ?_
  refine j_top (congrArg Value.int (show nI i + (2 : Int32) = nI (i + 2) from nI_add i 2)) ?_
  refine j_sld dL_law_934 (by omega) (by omega) ?_
  refine j_aload_n dL_law_935 rfl rfl ?_
  refine j_iload dL_law_936 rfl ?_
  refine j_iconst (v := 3) dL_law_938 (by decide) ?_
  refine j_iadd dL_law_939 ?_
  refine j_top (congrArg Value.int (show nI i + (3 : Int32) = nI (i + 3) from nI_add i 3)) ?_
  refine j_sld dL_law_940 (by omega) (by omega) ?_
  obtain ⟨-, ⟨s17, hs17, -⟩, -⟩ := id LT1
  refine j_callV (q := (RX11, TX11, 8)) dL_law_941 kX11_removePair lL_222 inX11_removePair seX11_removePair hs17.m rfl (kx_removePair hl w1 LT1 (z_sc G (i + 1)) (z_sc G (i + 2)) (z_sc G (i + 3))) (Nat.le_of_ble_eq_true rfl) ⟨(by show _ ≤ 793551; omega), (by show _ ≤ 6715452; omega)⟩ rfl (Nat.le_of_ble_eq_true rfl) rfl rfl (fun _ _ h => h.elim) ?_
  rintro _ w2 ⟨r2, rfl, LT2, th2, hr2⟩
  refine j_istore (lo' := [(6, _), (5, _), (0, _), (1, _), (2, _), (3, _), (4, _)]) dL_law_944 (by decide) rfl ?_
  refine j_goto (tgt := 2257) dL_law_946 (by decide) ?_
  refine j_widen (kc' := kc + 200) (ks' := ks + 6000) (by omega) (by omega) ?_
  exact j_lo2 (KK _ _ _ LT2) (z_q1 rfl (z_q1 rfl (z_q1 rfl (z_q1 rfl (z_q1 rfl z_q0)))))
set_option maxRecDepth 100000 in
set_option maxHeartbeats 4000000 in
theorem lc_14 (hl : l.stackTraces = false) {w : z_W} {x i kc ks : Nat} {S : sp_S} {n : Int64} (LT : z_LX x S S n w) (hi6 : i + 6 ≤ z_sn G) (hsn : z_sn G ≤ 3072) (hkc : kc + 200 ≤ 793551) (hks : ks + 6000 ≤ 6715452) (KK : ∀ (S9 : sp_S) (n9 : Int64) (w9 : z_W), z_LX x S9 S9 n9 w9 → z_J G l mL_law z_SL 2257 (z_lol x i) [] w9 (kc + 200) (ks + 6000)) : z_J G l mL_law z_SL 949 (z_lol x i) [] w kc ks := by
  show z_J G l mL_law _ 949 [(0, _), (1, _), (2, _), (3, _), (4, _)] [] _ _ _
  refine j_aload_n dL_law_949 rfl rfl ?_
  refine j_aload_n dL_law_950 rfl rfl ?_
  refine j_iload dL_law_951 rfl ?_
  refine j_iconst (v := 1) dL_law_953 (by decide) ?_
  refine j_iadd dL_law_954 ?_
  refine j_top (congrArg Value.int (show nI i + (1 : Int32) = nI (i + 1) from nI_add i 1)) ?_
  refine j_sld dL_law_955 (by omega) (by omega) ?_
  refine j_aload_n dL_law_956 rfl rfl ?_
  refine j_iload dL_law_957 rfl ?_
  refine j_iconst (v := 2) dL_law_959 (by decide) ?_
  refine j_iadd dL_law_960 ?_
  refine j_top (congrArg Value.int (show nI i + (2 : Int32) = nI (i + 2) from nI_add i 2)) ?_
  refine j_sld dL_law_961 (by omega) (by omega) ?_
  refine j_aload_n dL_law_962 rfl rfl ?_
  refine j_iload dL_law_963 rfl ?_
  refine j_iconst (v := 3) dL_law_965 (by decide) ?_
  refine j_iadd dL_law_966 ?_
  refine j_top (congrArg Value.int (show nI i + (3 : Int32) = nI (i + 3) from nI_add i 3)) ?_
  refine j_sld dL_law_967 (by omega) (by omega) ?_
  refine j_aload_n dL_law_968 rfl rfl ?_
  refine j_iload dL_law_969 rfl ?_
  refine j_iconst (v := 4) dL_law_971 (by decide) ?_
  refine j_iadd dL_law_972 ?_
  refine j_top (congrArg Value.int (show nI i + (4 : Int32) = nI (i + 4) from nI_add i 4)) ?_
  refine j_sld dL_law_973 (by omega) (by omega) ?_
  refine j_aload_n dL_law_974 rfl rfl ?_
  refine j_callSW dL_law_975 kL_computeIfAbsent lL_223 stL_computeIfAbsent (lw_computeIfAbsent hl w _ _ _ _ LT (z_sc G (i + 1)) (z_sc G (i + 2)) (z_sc G (i + 3)) (z_sc G (i + 4))) (Nat.le_of_ble_eq_true rfl) ⟨(by show _ ≤ 793551; omega), (by show _ ≤ 6715452; omega)⟩ rfl (Nat.le_of_ble_eq_true rfl) rfl rfl (fun _ _ h => h.elim) ?_
  rintro _ w1 ⟨n1, rfl, LT1, hn1⟩
  refine j_istore (lo' := [(5, _), (0, _), (1, _), (2, _), (3, _), (4, _)]) dL_law_978 (by decide) rfl ?_
  refine j_aload_n dL_law_980 rfl rfl ?_
  refine j_aload_n dL_law_981 rfl rfl ?_
  refine j_iload dL_law_982 rfl ?_
  refine j_iconst (v := 1) dL_law_984 (by decide) ?_
  refine j_iadd dL_law_985 ?_
  refine j_top (congrArg Value.int (show nI i + (1 : Int32) = nI (i + 1) from nI_add i 1)) ?_
  refine j_sld dL_law_986 (by omega) (by omega) ?_
  refine j_aload_n dL_law_987 rfl rfl ?_
  refine j_iload dL_law_988 rfl ?_
  refine j_iconst (v := 2) dL_law_990 (by decide) ?_
  refine j_iadd dL_law_991 ?_
  refine j_top (congrArg Value.int (show nI i + (2 : Int32) = nI (i + 2) from nI_add i 2)) ?_
  refine j_sld dL_law_992 (by omega) (by omega) ?_
  refine j_aload_n dL_law_993 rfl rfl ?_
  refine j_iload dL_law_994 rfl ?_
  refine j_iconst (v := 3) dL_law_996 (by decide) ?_
  refine j_iadd dL_law_997 ?_
  refine j_top (congrArg Value.int (show nI i + (3 : Int32) = nI (i + 3) from nI_add i 3)) ?_
  refine j_sld dL_law_998 (by omega) (by omega) ?_
  refine j_aload_n dL_law_999 rfl rfl ?_
  refine j_iload dL_law_1000 rfl ?_
  refine j_iconst (v := 4) dL_law_1002 (by decide) ?_
  refine j_iadd dL_law_1003 ?_
  refine j_top (congrArg Value.int (show nI i + (4 : Int32) = nI (i + 4) from nI_add i 4)) ?_
  refine j_sld dL_law_1004 (by omega) (by omega) ?_
  obtain ⟨-, ⟨s18, hs18, -⟩, -⟩ := id LT1
  refine j_callV (q := (RX11, TX11, 8)) dL_law_1005 kX11_computeIfAbsent lL_225 inX11_computeIfAbsent seX11_computeIfAbsent hs18.m rfl (kx_computeIfAbsent hl w1 LT1 (z_sc G (i + 1)) (z_sc G (i + 2)) (z_sc G (i + 3)) (z_sc G (i + 4))) (Nat.le_of_ble_eq_true rfl) ⟨(by show _ ≤ 793551; omega), (by show _ ≤ 6715452; omega)⟩ rfl (Nat.le_of_ble_eq_true rfl) rfl rfl (fun _ _ h => h.elim) ?_
  rintro _ w2 ⟨r2, rfl, LT2, th2, hr2⟩
  refine j_istore (lo' := [(6, _), (5, _), (0, _), (1, _), (2, _), (3, _), (4, _)]) dL_law_1008 (by decide) rfl ?_
  refine j_goto (tgt := 2257) dL_law_1010 (by decide) ?_
  refine j_widen (kc' := kc + 200) (ks' := ks + 6000) (by omega) (by omega) ?_
  exact j_lo2 (KK _ _ _ LT2) (z_q1 rfl (z_q1 rfl (z_q1 rfl (z_q1 rfl (z_q1 rfl z_q0)))))
set_option maxRecDepth 100000 in
set_option maxHeartbeats 4000000 in
theorem lc_15 (hl : l.stackTraces = false) {w : z_W} {x i kc ks : Nat} {S : sp_S} {n : Int64} (LT : z_LX x S S n w) (hi6 : i + 6 ≤ z_sn G) (hsn : z_sn G ≤ 3072) (hkc : kc + 200 ≤ 793551) (hks : ks + 6000 ≤ 6715452) (KK : ∀ (S9 : sp_S) (n9 : Int64) (w9 : z_W), z_LX x S9 S9 n9 w9 → z_J G l mL_law z_SL 2257 (z_lol x i) [] w9 (kc + 200) (ks + 6000)) : z_J G l mL_law z_SL 1013 (z_lol x i) [] w kc ks := by
  show z_J G l mL_law _ 1013 [(0, _), (1, _), (2, _), (3, _), (4, _)] [] _ _ _
  refine j_aload_n dL_law_1013 rfl rfl ?_
  refine j_aload_n dL_law_1014 rfl rfl ?_
  refine j_iload dL_law_1015 rfl ?_
  refine j_iconst (v := 1) dL_law_1017 (by decide) ?_
  refine j_iadd dL_law_1018 ?_
  refine j_top (congrArg Value.int (show nI i + (1 : Int32) = nI (i + 1) from nI_add i 1)) ?_
  refine j_sld dL_law_1019 (by omega) (by omega) ?_
  refine j_aload_n dL_law_1020 rfl rfl ?_
  refine j_iload dL_law_1021 rfl ?_
  refine j_iconst (v := 2) dL_law_1023 (by decide) ?_
  refine j_iadd dL_law_1024 ?_
  refine j_top (congrArg Value.int (show nI i + (2 : Int32) = nI (i + 2) from nI_add i 2)) ?_
  refine j_sld dL_law_1025 (by omega) (by omega) ?_
  refine j_aload_n dL_law_1026 rfl rfl ?_
  refine j_iload dL_law_1027 rfl ?_
  refine j_iconst (v := 3) dL_law_1029 (by decide) ?_
  refine j_iadd dL_law_1030 ?_
  refine j_top (congrArg Value.int (show nI i + (3 : Int32) = nI (i + 3) from nI_add i 3)) ?_
  refine j_sld dL_law_1031 (by omega) (by omega) ?_
  refine j_aload_n dL_law_1032 rfl rfl ?_
  refine j_iload dL_law_1033 rfl ?_
  refine j_iconst (v := 4) dL_law_1035 (by decide) ?_
  refine j_iadd dL_law_1036 ?_
  refine j_top (congrArg Value.int (show nI i + (4 : Int32) = nI (i + 4) from nI_add i 4)) ?_
  refine j_sld dL_law_1037 (by omega) (by omega) ?_
  refine j_aload_n dL_law_1038 rfl rfl ?_
  refine j_callSW dL_law_1039 kL_computeIfPresent lL_226 stL_computeIfPresent (lw_computeIfPresent hl w _ _ _ _ LT (z_sc G (i + 1)) (z_sc G (i + 2)) (z_sc G (i + 3)) (z_sc G (i + 4))) (Nat.le_of_ble_eq_true rfl) ⟨(by show _ ≤ 793551; omega), (by show _ ≤ 6715452; omega)⟩ rfl (Nat.le_of_ble_eq_true rfl) rfl rfl (fun _ _ h => h.elim) ?_
  rintro _ w1 ⟨n1, rfl, LT1, hn1⟩
  refine j_istore (lo' := [(5, _), (0, _), (1, _), (2, _), (3, _), (4, _)]) dL_law_1042 (by decide) rfl ?_
  refine j_aload_n dL_law_1044 rfl rfl ?_
  refine j_aload_n dL_law_1045 rfl rfl ?_
  refine j_iload dL_law_1046 rfl ?_
  refine j_iconst (v := 1) dL_law_1048 (by decide) ?_
  refine j_iadd dL_law_1049 ?_
  refine j_top (congrArg Value.int (show nI i + (1 : Int32) = nI (i + 1) from nI_add i 1)) ?_
  refine j_sld dL_law_1050 (by omega) (by omega) ?_
  refine j_aload_n dL_law_1051 rfl rfl ?_
  refine j_iload dL_law_1052 rfl ?_
  refine j_iconst (v := 2) dL_law_1054 (by decide) ?_
  refine j_iadd dL_law_1055 ?_
  refine j_top (congrArg Value.int (show nI i + (2 : Int32) = nI (i + 2) from nI_add i 2)) ?_
  refine j_sld dL_law_1056 (by omega) (by omega) ?_
  refine j_aload_n dL_law_1057 rfl rfl ?_
  refine j_iload dL_law_1058 rfl ?_
  refine j_iconst (v := 3) dL_law_1060 (by decide) ?_
  refine j_iadd dL_law_1061 ?_
  refine j_top (congrArg Value.int (show nI i + (3 : Int32) = nI (i + 3) from nI_add i 3)) ?_
  refine j_sld dL_law_1062 (by omega) (by omega) ?_
  refine j_aload_n dL_law_1063 rfl rfl ?_
  refine j_iload dL_law_1064 rfl ?_
  refine j_iconst (v := 4) dL_law_1066 (by decide) ?_
  refine j_iadd dL_law_1067 ?_
  refine j_top (congrArg Value.int (show nI i + (4 : Int32) = nI (i + 4) from nI_add i 4)) ?_
  refine j_sld dL_law_1068 (by omega) (by omega) ?_
  obtain ⟨-, ⟨s19, hs19, -⟩, -⟩ := id LT1
  refine j_callV (q := (RX11, TX11, 8)) dL_law_1069 kX11_computeIfPresent lL_228 inX11_computeIfPresent seX11_computeIfPresent hs19.m rfl (kx_computeIfPresent hl w1 LT1 (z_sc G (i + 1)) (z_sc G (i + 2)) (z_sc G (i + 3)) (z_sc G (i + 4))) (Nat.le_of_ble_eq_true rfl) ⟨(by show _ ≤ 793551; omega), (by show _ ≤ 6715452; omega)⟩ rfl (Nat.le_of_ble_eq_true rfl) rfl rfl (fun _ _ h => h.elim) ?_
  rintro _ w2 ⟨r2, rfl, LT2, th2, hr2⟩
  refine j_istore (lo' := [(6, _), (5, _), (0, _), (1, _), (2, _), (3, _), (4, _)]) dL_law_1072 (by decide) rfl ?_
  refine j_goto (tgt := 2257) dL_law_1074 (by decide) ?_
  refine j_widen (kc' := kc + 200) (ks' := ks + 6000) (by omega) (by omega) ?_
  exact j_lo2 (KK _ _ _ LT2) (z_q1 rfl (z_q1 rfl (z_q1 rfl (z_q1 rfl (z_q1 rfl z_q0)))))
set_option maxRecDepth 100000 in
set_option maxHeartbeats 4000000 in
theorem lc_16 (hl : l.stackTraces = false) {w : z_W} {x i kc ks : Nat} {S : sp_S} {n : Int64} (LT : z_LX x S S n w) (hi6 : i + 6 ≤ z_sn G) (hsn : z_sn G ≤ 3072) (hkc : kc + 200 ≤ 793551) (hks : ks + 6000 ≤ 6715452) (KK : ∀ (S9 : sp_S) (n9 : Int64) (w9 : z_W), z_LX x S9 S9 n9 w9 → z_J G l mL_law z_SL 2257 (z_lol x i) [] w9 (kc + 200) (ks + 6000)) : z_J G l mL_law z_SL 1077 (z_lol x i) [] w kc ks := by
  show z_J G l mL_law _ 1077 [(0, _), (1, _), (2, _), (3, _), (4, _)] [] _ _ _
  refine j_aload_n dL_law_1077 rfl rfl ?_
  refine j_aload_n dL_law_1078 rfl rfl ?_
  refine j_iload dL_law_1079 rfl ?_
  refine j_iconst (v := 1) dL_law_1081 (by decide) ?_
  refine j_iadd dL_law_1082 ?_
  refine j_top (congrArg Value.int (show nI i + (1 : Int32) = nI (i + 1) from nI_add i 1)) ?_
  refine j_sld dL_law_1083 (by omega) (by omega) ?_
  refine j_aload_n dL_law_1084 rfl rfl ?_
  refine j_iload dL_law_1085 rfl ?_
  refine j_iconst (v := 2) dL_law_1087 (by decide) ?_
  refine j_iadd dL_law_1088 ?_
  refine j_top (congrArg Value.int (show nI i + (2 : Int32) = nI (i + 2) from nI_add i 2)) ?_
  refine j_sld dL_law_1089 (by omega) (by omega) ?_
  refine j_aload_n dL_law_1090 rfl rfl ?_
  refine j_iload dL_law_1091 rfl ?_
  refine j_iconst (v := 3) dL_law_1093 (by decide) ?_
  refine j_iadd dL_law_1094 ?_
  refine j_top (congrArg Value.int (show nI i + (3 : Int32) = nI (i + 3) from nI_add i 3)) ?_
  refine j_sld dL_law_1095 (by omega) (by omega) ?_
  refine j_aload_n dL_law_1096 rfl rfl ?_
  refine j_iload dL_law_1097 rfl ?_
  refine j_iconst (v := 4) dL_law_1099 (by decide) ?_
  refine j_iadd dL_law_1100 ?_
  refine j_top (congrArg Value.int (show nI i + (4 : Int32) = nI (i + 4) from nI_add i 4)) ?_
  refine j_sld dL_law_1101 (by omega) (by omega) ?_
  refine j_aload_n dL_law_1102 rfl rfl ?_
  refine j_callSW dL_law_1103 kL_compute lL_229 stL_compute (lw_compute hl w _ _ _ _ LT (z_sc G (i + 1)) (z_sc G (i + 2)) (z_sc G (i + 3)) (z_sc G (i + 4))) (Nat.le_of_ble_eq_true rfl) ⟨(by show _ ≤ 793551; omega), (by show _ ≤ 6715452; omega)⟩ rfl (Nat.le_of_ble_eq_true rfl) rfl rfl (fun _ _ h => h.elim) ?_
  rintro _ w1 ⟨n1, rfl, LT1, hn1⟩
  refine j_istore (lo' := [(5, _), (0, _), (1, _), (2, _), (3, _), (4, _)]) dL_law_1106 (by decide) rfl ?_
  refine j_aload_n dL_law_1108 rfl rfl ?_
  refine j_aload_n dL_law_1109 rfl rfl ?_
  refine j_iload dL_law_1110 rfl ?_
  refine j_iconst (v := 1) dL_law_1112 (by decide) ?_
  refine j_iadd dL_law_1113 ?_
  refine j_top (congrArg Value.int (show nI i + (1 : Int32) = nI (i + 1) from nI_add i 1)) ?_
  refine j_sld dL_law_1114 (by omega) (by omega) ?_
  refine j_aload_n dL_law_1115 rfl rfl ?_
  refine j_iload dL_law_1116 rfl ?_
  refine j_iconst (v := 2) dL_law_1118 (by decide) ?_
  refine j_iadd dL_law_1119 ?_
  refine j_top (congrArg Value.int (show nI i + (2 : Int32) = nI (i + 2) from nI_add i 2)) ?_
  refine j_sld dL_law_1120 (by omega) (by omega) ?_
  refine j_aload_n dL_law_1121 rfl rfl ?_
  refine j_iload dL_law_1122 rfl ?_
  refine j_iconst (v := 3) dL_law_1124 (by decide) ?_
  refine j_iadd dL_law_1125 ?_
  refine j_top (congrArg Value.int (show nI i + (3 : Int32) = nI (i + 3) from nI_add i 3)) ?_
  refine j_sld dL_law_1126 (by omega) (by omega) ?_
  refine j_aload_n dL_law_1127 rfl rfl ?_
  refine j_iload dL_law_1128 rfl ?_
  refine j_iconst (v := 4) dL_law_1130 (by decide) ?_
  refine j_iadd dL_law_1131 ?_
  refine j_top (congrArg Value.int (show nI i + (4 : Int32) = nI (i + 4) from nI_add i 4)) ?_
  refine j_sld dL_law_1132 (by omega) (by omega) ?_
  obtain ⟨-, ⟨s20, hs20, -⟩, -⟩ := id LT1
  refine j_callV (q := (RX11, TX11, 8)) dL_law_1133 kX11_compute lL_231 inX11_compute seX11_compute hs20.m rfl (kx_compute hl w1 LT1 (z_sc G (i + 1)) (z_sc G (i + 2)) (z_sc G (i + 3)) (z_sc G (i + 4))) (Nat.le_of_ble_eq_true rfl) ⟨(by show _ ≤ 793551; omega), (by show _ ≤ 6715452; omega)⟩ rfl (Nat.le_of_ble_eq_true rfl) rfl rfl (fun _ _ h => h.elim) ?_
  rintro _ w2 ⟨r2, rfl, LT2, th2, hr2⟩
  refine j_istore (lo' := [(6, _), (5, _), (0, _), (1, _), (2, _), (3, _), (4, _)]) dL_law_1136 (by decide) rfl ?_
  refine j_goto (tgt := 2257) dL_law_1138 (by decide) ?_
  refine j_widen (kc' := kc + 200) (ks' := ks + 6000) (by omega) (by omega) ?_
  exact j_lo2 (KK _ _ _ LT2) (z_q1 rfl (z_q1 rfl (z_q1 rfl (z_q1 rfl (z_q1 rfl z_q0)))))
set_option maxRecDepth 100000 in
set_option maxHeartbeats 4000000 in
theorem lc_17 (hl : l.stackTraces = false) {w : z_W} {x i kc ks : Nat} {S : sp_S} {n : Int64} (LT : z_LX x S S n w) (hi6 : i + 6 ≤ z_sn G) (hsn : z_sn G ≤ 3072) (hkc : kc + 200 ≤ 793551) (hks : ks + 6000 ≤ 6715452) (KK : ∀ (S9 : sp_S) (n9 : Int64) (w9 : z_W), z_LX x S9 S9 n9 w9 → z_J G l mL_law z_SL 2257 (z_lol x i) [] w9 (kc + 200) (ks + 6000)) : z_J G l mL_law z_SL 1141 (z_lol x i) [] w kc ks := by
  show z_J G l mL_law _ 1141 [(0, _), (1, _), (2, _), (3, _), (4, _)] [] _ _ _
  refine j_aload_n dL_law_1141 rfl rfl ?_
  refine j_aload_n dL_law_1142 rfl rfl ?_
  refine j_iload dL_law_1143 rfl ?_
  refine j_iconst (v := 1) dL_law_1145 (by decide) ?_
  refine j_iadd dL_law_1146 ?_
  refine j_top (congrArg Value.int (show nI i + (1 : Int32) = nI (i + 1) from nI_add i 1)) ?_
  refine j_sld dL_law_1147 (by omega) (by omega) ?_
  refine j_aload_n dL_law_1148 rfl rfl ?_
  refine j_iload dL_law_1149 rfl ?_
  refine j_iconst (v := 2) dL_law_1151 (by decide) ?_
  refine j_iadd dL_law_1152 ?_
  refine j_top (congrArg Value.int (show nI i + (2 : Int32) = nI (i + 2) from nI_add i 2)) ?_
  refine j_sld dL_law_1153 (by omega) (by omega) ?_
  refine j_aload_n dL_law_1154 rfl rfl ?_
  refine j_iload dL_law_1155 rfl ?_
  refine j_iconst (v := 3) dL_law_1157 (by decide) ?_
  refine j_iadd dL_law_1158 ?_
  refine j_top (congrArg Value.int (show nI i + (3 : Int32) = nI (i + 3) from nI_add i 3)) ?_
  refine j_sld dL_law_1159 (by omega) (by omega) ?_
  refine j_aload_n dL_law_1160 rfl rfl ?_
  refine j_iload dL_law_1161 rfl ?_
  refine j_iconst (v := 4) dL_law_1163 (by decide) ?_
  refine j_iadd dL_law_1164 ?_
  refine j_top (congrArg Value.int (show nI i + (4 : Int32) = nI (i + 4) from nI_add i 4)) ?_
  refine j_sld dL_law_1165 (by omega) (by omega) ?_
  refine j_aload_n dL_law_1166 rfl rfl ?_
  refine j_callSW dL_law_1167 kL_merge lL_232 stL_merge (lw_merge hl w _ _ _ _ LT (z_sc G (i + 1)) (z_sc G (i + 2)) (z_sc G (i + 3)) (z_sc G (i + 4))) (Nat.le_of_ble_eq_true rfl) ⟨(by show _ ≤ 793551; omega), (by show _ ≤ 6715452; omega)⟩ rfl (Nat.le_of_ble_eq_true rfl) rfl rfl (fun _ _ h => h.elim) ?_
  rintro _ w1 ⟨n1, rfl, LT1, hn1⟩
  refine j_istore (lo' := [(5, _), (0, _), (1, _), (2, _), (3, _), (4, _)]) dL_law_1170 (by decide) rfl ?_
  refine j_aload_n dL_law_1172 rfl rfl ?_
  refine j_aload_n dL_law_1173 rfl rfl ?_
  refine j_iload dL_law_1174 rfl ?_
  refine j_iconst (v := 1) dL_law_1176 (by decide) ?_
  refine j_iadd dL_law_1177 ?_
  refine j_top (congrArg Value.int (show nI i + (1 : Int32) = nI (i + 1) from nI_add i 1)) ?_
  refine j_sld dL_law_1178 (by omega) (by omega) ?_
  refine j_aload_n dL_law_1179 rfl rfl ?_
  refine j_iload dL_law_1180 rfl ?_
  refine j_iconst (v := 2) dL_law_1182 (by decide) ?_
  refine j_iadd dL_law_1183 ?_
  refine j_top (congrArg Value.int (show nI i + (2 : Int32) = nI (i + 2) from nI_add i 2)) ?_
  refine j_sld dL_law_1184 (by omega) (by omega) ?_
  refine j_aload_n dL_law_1185 rfl rfl ?_
  refine j_iload dL_law_1186 rfl ?_
  refine j_iconst (v := 3) dL_law_1188 (by decide) ?_
  refine j_iadd dL_law_1189 ?_
  refine j_top (congrArg Value.int (show nI i + (3 : Int32) = nI (i + 3) from nI_add i 3)) ?_
  refine j_sld dL_law_1190 (by omega) (by omega) ?_
  refine j_aload_n dL_law_1191 rfl rfl ?_
  refine j_iload dL_law_1192 rfl ?_
  refine j_iconst (v := 4) dL_law_1194 (by decide) ?_
  refine j_iadd dL_law_1195 ?_
  refine j_top (congrArg Value.int (show nI i + (4 : Int32) = nI (i + 4) from nI_add i 4)) ?_
  refine j_sld dL_law_1196 (by omega) (by omega) ?_
  obtain ⟨-, ⟨s21, hs21, -⟩, -⟩ := id LT1
  refine j_callV (q := (RX11, TX11, 8)) dL_law_1197 kX11_merge lL_234 inX11_merge seX11_merge hs21.m rfl (kx_merge hl w1 LT1 (z_sc G (i + 1)) (z_sc G (i + 2)) (z_sc G (i + 3)) (z_sc G (i + 4))) (Nat.le_of_ble_eq_true rfl) ⟨(by show _ ≤ 793551; omega), (by show _ ≤ 6715452; omega)⟩ rfl (Nat.le_of_ble_eq_true rfl) rfl rfl (fun _ _ h => h.elim) ?_
  rintro _ w2 ⟨r2, rfl, LT2, th2, hr2⟩
  refine j_istore (lo' := [(6, _), (5, _), (0, _), (1, _), (2, _), (3, _), (4, _)]) dL_law_1200 (by decide) rfl ?_
  refine j_goto (tgt := 2257) dL_law_1202 (by decide) ?_
  refine j_widen (kc' := kc + 200) (ks' := ks + 6000) (by omega) (by omega) ?_
  exact j_lo2 (KK _ _ _ LT2) (z_q1 rfl (z_q1 rfl (z_q1 rfl (z_q1 rfl (z_q1 rfl z_q0)))))
set_option maxRecDepth 100000 in
set_option maxHeartbeats 4000000 in
theorem lc_18 (hl : l.stackTraces = false) {w : z_W} {x i kc ks : Nat} {S : sp_S} {n : Int64} (LT : z_LX x S S n w) (hi6 : i + 6 ≤ z_sn G) (hsn : z_sn G ≤ 3072) (hkc : kc + 200 ≤ 793551) (hks : ks + 6000 ≤ 6715452) (KK : ∀ (S9 : sp_S) (n9 : Int64) (w9 : z_W), z_LX x S9 S9 n9 w9 → z_J G l mL_law z_SL 2257 (z_lol x i) [] w9 (kc + 200) (ks + 6000)) : z_J G l mL_law z_SL 1205 (z_lol x i) [] w kc ks := by
  show z_J G l mL_law _ 1205 [(0, _), (1, _), (2, _), (3, _), (4, _)] [] _ _ _
  refine j_aload_n dL_law_1205 rfl rfl ?_
  refine j_aload_n dL_law_1206 rfl rfl ?_
  refine j_iload dL_law_1207 rfl ?_
  refine j_iconst (v := 1) dL_law_1209 (by decide) ?_
  refine j_iadd dL_law_1210 ?_
  refine j_top (congrArg Value.int (show nI i + (1 : Int32) = nI (i + 1) from nI_add i 1)) ?_
  refine j_sld dL_law_1211 (by omega) (by omega) ?_
  refine j_aload_n dL_law_1212 rfl rfl ?_
  refine j_iload dL_law_1213 rfl ?_
  refine j_iconst (v := 2) dL_law_1215 (by decide) ?_
  refine j_iadd dL_law_1216 ?_
  refine j_top (congrArg Value.int (show nI i + (2 : Int32) = nI (i + 2) from nI_add i 2)) ?_
  refine j_sld dL_law_1217 (by omega) (by omega) ?_
  refine j_aload_n dL_law_1218 rfl rfl ?_
  refine j_callSW dL_law_1219 kL_hearTable lL_235 stL_hearTable (lw_hearTable hl w _ _ _ _ LT (z_sc G (i + 1)) (z_sc G (i + 2))) (Nat.le_of_ble_eq_true rfl) ⟨(by show _ ≤ 793551; omega), (by show _ ≤ 6715452; omega)⟩ rfl (Nat.le_of_ble_eq_true rfl) rfl rfl (fun _ _ h => h.elim) ?_
  rintro _ w1 ⟨n1, rfl, LT1, hn1⟩
  refine j_istore (lo' := [(5, _), (0, _), (1, _), (2, _), (3, _), (4, _)]) dL_law_1222 (by decide) rfl ?_
  refine j_aload_n dL_law_1224 rfl rfl ?_
  refine j_aload_n dL_law_1225 rfl rfl ?_
  refine j_iload dL_law_1226 rfl ?_
  refine j_iconst (v := 1) dL_law_1228 (by decide) ?_
  refine j_iadd dL_law_1229 ?_
  refine j_top (congrArg Value.int (show nI i + (1 : Int32) = nI (i + 1) from nI_add i 1)) ?_
  refine j_sld dL_law_1230 (by omega) (by omega) ?_
  refine j_aload_n dL_law_1231 rfl rfl ?_
  refine j_iload dL_law_1232 rfl ?_
  refine j_iconst (v := 2) dL_law_1234 (by decide) ?_
  refine j_iadd dL_law_1235 ?_
  refine j_top (congrArg Value.int (show nI i + (2 : Int32) = nI (i + 2) from nI_add i 2)) ?_
  refine j_sld dL_law_1236 (by omega) (by omega) ?_
  obtain ⟨-, ⟨s22, hs22, -⟩, -⟩ := id LT1
  refine j_callV (q := (RX11, TX11, 8)) dL_law_1237 kX11_hearTable lL_237 inX11_hearTable seX11_hearTable hs22.m rfl (kx_hearTable hl w1 LT1 (z_sc G (i + 1)) (z_sc G (i + 2))) (Nat.le_of_ble_eq_true rfl) ⟨(by show _ ≤ 793551; omega), (by show _ ≤ 6715452; omega)⟩ rfl (Nat.le_of_ble_eq_true rfl) rfl rfl (fun _ _ h => h.elim) ?_
  rintro _ w2 ⟨r2, rfl, LT2, th2, hr2⟩
  refine j_istore (lo' := [(6, _), (5, _), (0, _), (1, _), (2, _), (3, _), (4, _)]) dL_law_1240 (by decide) rfl ?_
  refine j_goto (tgt := 2257) dL_law_1242 (by decide) ?_
  refine j_widen (kc' := kc + 200) (ks' := ks + 6000) (by omega) (by omega) ?_
  exact j_lo2 (KK _ _ _ LT2) (z_q1 rfl (z_q1 rfl (z_q1 rfl (z_q1 rfl (z_q1 rfl z_q0)))))
set_option maxRecDepth 100000 in
set_option maxHeartbeats 4000000 in
theorem lc_19 (hl : l.stackTraces = false) {w : z_W} {x i kc ks : Nat} {S : sp_S} {n : Int64} (LT : z_LX x S S n w) (hi6 : i + 6 ≤ z_sn G) (hsn : z_sn G ≤ 3072) (hkc : kc + 200 ≤ 793551) (hks : ks + 6000 ≤ 6715452) (KK : ∀ (S9 : sp_S) (n9 : Int64) (w9 : z_W), z_LX x S9 S9 n9 w9 → z_J G l mL_law z_SL 2257 (z_lol x i) [] w9 (kc + 200) (ks + 6000)) : z_J G l mL_law z_SL 1245 (z_lol x i) [] w kc ks := by
  show z_J G l mL_law _ 1245 [(0, _), (1, _), (2, _), (3, _), (4, _)] [] _ _ _
  refine j_aload_n dL_law_1245 rfl rfl ?_
  refine j_aload_n dL_law_1246 rfl rfl ?_
  refine j_iload dL_law_1247 rfl ?_
  refine j_iconst (v := 1) dL_law_1249 (by decide) ?_
  refine j_iadd dL_law_1250 ?_
  refine j_top (congrArg Value.int (show nI i + (1 : Int32) = nI (i + 1) from nI_add i 1)) ?_
  refine j_sld dL_law_1251 (by omega) (by omega) ?_
  refine j_aload_n dL_law_1252 rfl rfl ?_
  refine j_iload dL_law_1253 rfl ?_
  refine j_iconst (v := 2) dL_law_1255 (by decide) ?_
  refine j_iadd dL_law_1256 ?_
  refine j_top (congrArg Value.int (show nI i + (2 : Int32) = nI (i + 2) from nI_add i 2)) ?_
  refine j_sld dL_law_1257 (by omega) (by omega) ?_
  refine j_aload_n dL_law_1258 rfl rfl ?_
  refine j_iload dL_law_1259 rfl ?_
  refine j_iconst (v := 3) dL_law_1261 (by decide) ?_
  refine j_iadd dL_law_1262 ?_
  refine j_top (congrArg Value.int (show nI i + (3 : Int32) = nI (i + 3) from nI_add i 3)) ?_
  refine j_sld dL_law_1263 (by omega) (by omega) ?_
  refine j_aload_n dL_law_1264 rfl rfl ?_
  refine j_callSW dL_law_1265 kL_replaceTable lL_238 stL_replaceTable (lw_replaceTable hl w _ _ _ _ LT (z_sc G (i + 1)) (z_sc G (i + 2)) (z_sc G (i + 3))) (Nat.le_of_ble_eq_true rfl) ⟨(by show _ ≤ 793551; omega), (by show _ ≤ 6715452; omega)⟩ rfl (Nat.le_of_ble_eq_true rfl) rfl rfl (fun _ _ h => h.elim) ?_
  rintro _ w1 ⟨n1, rfl, LT1, hn1⟩
  refine j_istore (lo' := [(5, _), (0, _), (1, _), (2, _), (3, _), (4, _)]) dL_law_1268 (by decide) rfl ?_
  refine j_aload_n dL_law_1270 rfl rfl ?_
  refine j_aload_n dL_law_1271 rfl rfl ?_
  refine j_iload dL_law_1272 rfl ?_
  refine j_iconst (v := 1) dL_law_1274 (by decide) ?_
  refine j_iadd dL_law_1275 ?_
  refine j_top (congrArg Value.int (show nI i + (1 : Int32) = nI (i + 1) from nI_add i 1)) ?_
  refine j_sld dL_law_1276 (by omega) (by omega) ?_
  refine j_aload_n dL_law_1277 rfl rfl ?_
  refine j_iload dL_law_1278 rfl ?_
  refine j_iconst (v := 2) dL_law_1280 (by decide) ?_
  refine j_iadd dL_law_1281 ?_
  refine j_top (congrArg Value.int (show nI i + (2 : Int32) = nI (i + 2) from nI_add i 2)) ?_
  refine j_sld dL_law_1282 (by omega) (by omega) ?_
  refine j_aload_n dL_law_1283 rfl rfl ?_
  refine j_iload dL_law_1284 rfl ?_
  refine j_iconst (v := 3) dL_law_1286 (by decide) ?_
  refine j_iadd dL_law_1287 ?_
  refine j_top (congrArg Value.int (show nI i + (3 : Int32) = nI (i + 3) from nI_add i 3)) ?_
  refine j_sld dL_law_1288 (by omega) (by omega) ?_
  obtain ⟨-, ⟨s23, hs23, -⟩, -⟩ := id LT1
  refine j_callV (q := (RX11, TX11, 8)) dL_law_1289 kX11_replaceTable lL_240 inX11_replaceTable seX11_replaceTable hs23.m rfl (kx_replaceTable hl w1 LT1 (z_sc G (i + 1)) (z_sc G (i + 2)) (z_sc G (i + 3))) (Nat.le_of_ble_eq_true rfl) ⟨(by show _ ≤ 793551; omega), (by show _ ≤ 6715452; omega)⟩ rfl (Nat.le_of_ble_eq_true rfl) rfl rfl (fun _ _ h => h.elim) ?_
  rintro _ w2 ⟨r2, rfl, LT2, th2, hr2⟩
  refine j_istore (lo' := [(6, _), (5, _), (0, _), (1, _), (2, _), (3, _), (4, _)]) dL_law_1292 (by decide) rfl ?_
  refine j_goto (tgt := 2257) dL_law_1294 (by decide) ?_
  refine j_widen (kc' := kc + 200) (ks' := ks + 6000) (by omega) (by omega) ?_
  exact j_lo2 (KK _ _ _ LT2) (z_q1 rfl (z_q1 rfl (z_q1 rfl (z_q1 rfl (z_q1 rfl z_q0)))))
set_option maxRecDepth 100000 in
set_option maxHeartbeats 4000000 in
theorem lc_20 (hl : l.stackTraces = false) {w : z_W} {x i kc ks : Nat} {S : sp_S} {n : Int64} (LT : z_LX x S S n w) (hi6 : i + 6 ≤ z_sn G) (hsn : z_sn G ≤ 3072) (hkc : kc + 200 ≤ 793551) (hks : ks + 6000 ≤ 6715452) (KK : ∀ (S9 : sp_S) (n9 : Int64) (w9 : z_W), z_LX x S9 S9 n9 w9 → z_J G l mL_law z_SL 2257 (z_lol x i) [] w9 (kc + 200) (ks + 6000)) : z_J G l mL_law z_SL 1297 (z_lol x i) [] w kc ks := by
  show z_J G l mL_law _ 1297 [(0, _), (1, _), (2, _), (3, _), (4, _)] [] _ _ _
  refine j_aload_n dL_law_1297 rfl rfl ?_
  refine j_aload_n dL_law_1298 rfl rfl ?_
  refine j_iload dL_law_1299 rfl ?_
  refine j_iconst (v := 1) dL_law_1301 (by decide) ?_
  refine j_iadd dL_law_1302 ?_
  refine j_top (congrArg Value.int (show nI i + (1 : Int32) = nI (i + 1) from nI_add i 1)) ?_
  refine j_sld dL_law_1303 (by omega) (by omega) ?_
  refine j_aload_n dL_law_1304 rfl rfl ?_
  refine j_callSW dL_law_1305 kL_clear lL_241 stL_clear (lw_clear hl w _ _ _ _ LT (z_sc G (i + 1))) (Nat.le_of_ble_eq_true rfl) ⟨(by show _ ≤ 793551; omega), (by show _ ≤ 6715452; omega)⟩ rfl (Nat.le_of_ble_eq_true rfl) rfl rfl (fun _ _ h => h.elim) ?_
  rintro _ w1 ⟨n1, rfl, LT1, hn1⟩
  refine j_istore (lo' := [(5, _), (0, _), (1, _), (2, _), (3, _), (4, _)]) dL_law_1308 (by decide) rfl ?_
  refine j_aload_n dL_law_1310 rfl rfl ?_
  refine j_aload_n dL_law_1311 rfl rfl ?_
  refine j_iload dL_law_1312 rfl ?_
  refine j_iconst (v := 1) dL_law_1314 (by decide) ?_
  refine j_iadd dL_law_1315 ?_
  refine j_top (congrArg Value.int (show nI i + (1 : Int32) = nI (i + 1) from nI_add i 1)) ?_
  refine j_sld dL_law_1316 (by omega) (by omega) ?_
  obtain ⟨-, ⟨s24, hs24, -⟩, -⟩ := id LT1
  refine j_callV (q := (RX11, TX11, 8)) dL_law_1317 kX11_clear lL_243 inX11_clear seX11_clear hs24.m rfl (kx_clear hl w1 LT1 (z_sc G (i + 1))) (Nat.le_of_ble_eq_true rfl) ⟨(by show _ ≤ 793551; omega), (by show _ ≤ 6715452; omega)⟩ rfl (Nat.le_of_ble_eq_true rfl) rfl rfl (fun _ _ h => h.elim) ?_
  rintro _ w2 ⟨r2, rfl, LT2, th2, hr2⟩
  refine j_istore (lo' := [(6, _), (5, _), (0, _), (1, _), (2, _), (3, _), (4, _)]) dL_law_1320 (by decide) rfl ?_
  refine j_goto (tgt := 2257) dL_law_1322 (by decide) ?_
  refine j_widen (kc' := kc + 200) (ks' := ks + 6000) (by omega) (by omega) ?_
  exact j_lo2 (KK _ _ _ LT2) (z_q1 rfl (z_q1 rfl (z_q1 rfl (z_q1 rfl (z_q1 rfl z_q0)))))
set_option maxRecDepth 100000 in
set_option maxHeartbeats 4000000 in
theorem lc_21 (hl : l.stackTraces = false) {w : z_W} {x i kc ks : Nat} {S : sp_S} {n : Int64} (LT : z_LX x S S n w) (hi6 : i + 6 ≤ z_sn G) (hsn : z_sn G ≤ 3072) (hkc : kc + 200 ≤ 793551) (hks : ks + 6000 ≤ 6715452) (KK : ∀ (S9 : sp_S) (n9 : Int64) (w9 : z_W), z_LX x S9 S9 n9 w9 → z_J G l mL_law z_SL 2257 (z_lol x i) [] w9 (kc + 200) (ks + 6000)) : z_J G l mL_law z_SL 1325 (z_lol x i) [] w kc ks := by
  show z_J G l mL_law _ 1325 [(0, _), (1, _), (2, _), (3, _), (4, _)] [] _ _ _
  refine j_aload_n dL_law_1325 rfl rfl ?_
  refine j_aload_n dL_law_1326 rfl rfl ?_
  refine j_iload dL_law_1327 rfl ?_
  refine j_iconst (v := 1) dL_law_1329 (by decide) ?_
  refine j_iadd dL_law_1330 ?_
  refine j_top (congrArg Value.int (show nI i + (1 : Int32) = nI (i + 1) from nI_add i 1)) ?_
  refine j_sld dL_law_1331 (by omega) (by omega) ?_
  refine j_aload_n dL_law_1332 rfl rfl ?_
  refine j_iload dL_law_1333 rfl ?_
  refine j_iconst (v := 2) dL_law_1335 (by decide) ?_
  refine j_iadd dL_law_1336 ?_
  refine j_top (congrArg Value.int (show nI i + (2 : Int32) = nI (i + 2) from nI_add i 2)) ?_
  refine j_sld dL_law_1337 (by omega) (by omega) ?_
  refine j_aload_n dL_law_1338 rfl rfl ?_
  refine j_iload dL_law_1339 rfl ?_
  refine j_iconst (v := 3) dL_law_1341 (by decide) ?_
  refine j_iadd dL_law_1342 ?_
  refine j_top (congrArg Value.int (show nI i + (3 : Int32) = nI (i + 3) from nI_add i 3)) ?_
  refine j_sld dL_law_1343 (by omega) (by omega) ?_
  refine j_aload_n dL_law_1344 rfl rfl ?_
  refine j_iload dL_law_1345 rfl ?_
  refine j_iconst (v := 4) dL_law_1347 (by decide) ?_
  refine j_iadd dL_law_1348 ?_
  refine j_top (congrArg Value.int (show nI i + (4 : Int32) = nI (i + 4) from nI_add i 4)) ?_
  refine j_sld dL_law_1349 (by omega) (by omega) ?_
  refine j_aload_n dL_law_1350 rfl rfl ?_
  refine j_callSW dL_law_1351 kL_hearSpan lL_244 stL_hearSpan (lw_hearSpan hl w _ _ _ _ LT (z_sc G (i + 1)) (z_sc G (i + 2)) (z_sc G (i + 3)) (z_sc G (i + 4))) (Nat.le_of_ble_eq_true rfl) ⟨(by show _ ≤ 793551; omega), (by show _ ≤ 6715452; omega)⟩ rfl (Nat.le_of_ble_eq_true rfl) rfl rfl (fun _ _ h => h.elim) ?_
  rintro _ w1 ⟨n1, rfl, LT1, hn1⟩
  refine j_istore (lo' := [(5, _), (0, _), (1, _), (2, _), (3, _), (4, _)]) dL_law_1354 (by decide) rfl ?_
  refine j_aload_n dL_law_1356 rfl rfl ?_
  refine j_aload_n dL_law_1357 rfl rfl ?_
  refine j_iload dL_law_1358 rfl ?_
  refine j_iconst (v := 1) dL_law_1360 (by decide) ?_
  refine j_iadd dL_law_1361 ?_
  refine j_top (congrArg Value.int (show nI i + (1 : Int32) = nI (i + 1) from nI_add i 1)) ?_
  refine j_sld dL_law_1362 (by omega) (by omega) ?_
  refine j_aload_n dL_law_1363 rfl rfl ?_
  refine j_iload dL_law_1364 rfl ?_
  refine j_iconst (v := 2) dL_law_1366 (by decide) ?_
  refine j_iadd dL_law_1367 ?_
  refine j_top (congrArg Value.int (show nI i + (2 : Int32) = nI (i + 2) from nI_add i 2)) ?_
  refine j_sld dL_law_1368 (by omega) (by omega) ?_
  refine j_aload_n dL_law_1369 rfl rfl ?_
  refine j_iload dL_law_1370 rfl ?_
  refine j_iconst (v := 3) dL_law_1372 (by decide) ?_
  refine j_iadd dL_law_1373 ?_
  refine j_top (congrArg Value.int (show nI i + (3 : Int32) = nI (i + 3) from nI_add i 3)) ?_
  refine j_sld dL_law_1374 (by omega) (by omega) ?_
  refine j_aload_n dL_law_1375 rfl rfl ?_
  refine j_iload dL_law_1376 rfl ?_
  refine j_iconst (v := 4) dL_law_1378 (by decide) ?_
  refine j_iadd dL_law_1379 ?_
  refine j_top (congrArg Value.int (show nI i + (4 : Int32) = nI (i + 4) from nI_add i 4)) ?_
  refine j_sld dL_law_1380 (by omega) (by omega) ?_
  obtain ⟨-, ⟨s25, hs25, -⟩, -⟩ := id LT1
  refine j_callV (q := (RX11, TX11, 8)) dL_law_1381 kX11_hearSpan lL_246 inX11_hearSpan seX11_hearSpan hs25.m rfl (kx_hearSpan hl w1 LT1 (z_sc G (i + 1)) (z_sc G (i + 2)) (z_sc G (i + 3)) (z_sc G (i + 4))) (Nat.le_of_ble_eq_true rfl) ⟨(by show _ ≤ 793551; omega), (by show _ ≤ 6715452; omega)⟩ rfl (Nat.le_of_ble_eq_true rfl) rfl rfl (fun _ _ h => h.elim) ?_
  rintro _ w2 ⟨r2, rfl, LT2, th2, hr2⟩
  refine j_istore (lo' := [(6, _), (5, _), (0, _), (1, _), (2, _), (3, _), (4, _)]) dL_law_1384 (by decide) rfl ?_
  refine j_goto (tgt := 2257) dL_law_1386 (by decide) ?_
  refine j_widen (kc' := kc + 200) (ks' := ks + 6000) (by omega) (by omega) ?_
  exact j_lo2 (KK _ _ _ LT2) (z_q1 rfl (z_q1 rfl (z_q1 rfl (z_q1 rfl (z_q1 rfl z_q0)))))
set_option maxRecDepth 100000 in
set_option maxHeartbeats 4000000 in
theorem lc_22 (hl : l.stackTraces = false) {w : z_W} {x i kc ks : Nat} {S : sp_S} {n : Int64} (LT : z_LX x S S n w) (hi6 : i + 6 ≤ z_sn G) (hsn : z_sn G ≤ 3072) (hkc : kc + 200 ≤ 793551) (hks : ks + 6000 ≤ 6715452) (KK : ∀ (S9 : sp_S) (n9 : Int64) (w9 : z_W), z_LX x S9 S9 n9 w9 → z_J G l mL_law z_SL 2257 (z_lol x i) [] w9 (kc + 200) (ks + 6000)) : z_J G l mL_law z_SL 1389 (z_lol x i) [] w kc ks := by
  show z_J G l mL_law _ 1389 [(0, _), (1, _), (2, _), (3, _), (4, _)] [] _ _ _
  refine j_aload_n dL_law_1389 rfl rfl ?_
  refine j_aload_n dL_law_1390 rfl rfl ?_
  refine j_iload dL_law_1391 rfl ?_
  refine j_iconst (v := 1) dL_law_1393 (by decide) ?_
  refine j_iadd dL_law_1394 ?_
  refine j_top (congrArg Value.int (show nI i + (1 : Int32) = nI (i + 1) from nI_add i 1)) ?_
  refine j_sld dL_law_1395 (by omega) (by omega) ?_
  refine j_aload_n dL_law_1396 rfl rfl ?_
  refine j_iload dL_law_1397 rfl ?_
  refine j_iconst (v := 2) dL_law_1399 (by decide) ?_
  refine j_iadd dL_law_1400 ?_
  refine j_top (congrArg Value.int (show nI i + (2 : Int32) = nI (i + 2) from nI_add i 2)) ?_
  refine j_sld dL_law_1401 (by omega) (by omega) ?_
  refine j_aload_n dL_law_1402 rfl rfl ?_
  refine j_iload dL_law_1403 rfl ?_
  refine j_iconst (v := 3) dL_law_1405 (by decide) ?_
  refine j_iadd dL_law_1406 ?_
  refine j_top (congrArg Value.int (show nI i + (3 : Int32) = nI (i + 3) from nI_add i 3)) ?_
  refine j_sld dL_law_1407 (by omega) (by omega) ?_
  refine j_aload_n dL_law_1408 rfl rfl ?_
  refine j_iload dL_law_1409 rfl ?_
  refine j_iconst (v := 4) dL_law_1411 (by decide) ?_
  refine j_iadd dL_law_1412 ?_
  refine j_top (congrArg Value.int (show nI i + (4 : Int32) = nI (i + 4) from nI_add i 4)) ?_
  refine j_sld dL_law_1413 (by omega) (by omega) ?_
  refine j_aload_n dL_law_1414 rfl rfl ?_
  refine j_iload dL_law_1415 rfl ?_
  refine j_iconst (v := 5) dL_law_1417 (by decide) ?_
  refine j_iadd dL_law_1418 ?_
  refine j_top (congrArg Value.int (show nI i + (5 : Int32) = nI (i + 5) from nI_add i 5)) ?_
  refine j_sld dL_law_1419 (by omega) (by omega) ?_
  refine j_aload_n dL_law_1420 rfl rfl ?_
  refine j_callSW dL_law_1421 kL_hearSteps lL_247 stL_hearSteps (lw_hearSteps hl w _ _ _ _ LT (z_sc G (i + 1)) (z_sc G (i + 2)) (z_sc G (i + 3)) (z_sc G (i + 4)) (z_sc G (i + 5))) (Nat.le_of_ble_eq_true rfl) ⟨(by show _ ≤ 793551; omega), (by show _ ≤ 6715452; omega)⟩ rfl (Nat.le_of_ble_eq_true rfl) rfl rfl (fun _ _ h => h.elim) ?_
  rintro _ w1 ⟨n1, rfl, LT1, hn1⟩
  refine j_istore (lo' := [(5, _), (0, _), (1, _), (2, _), (3, _), (4, _)]) dL_law_1424 (by decide) rfl ?_
  refine j_aload_n dL_law_1426 rfl rfl ?_
  refine j_aload_n dL_law_1427 rfl rfl ?_
  refine j_iload dL_law_1428 rfl ?_
  refine j_iconst (v := 1) dL_law_1430 (by decide) ?_
  refine j_iadd dL_law_1431 ?_
  refine j_top (congrArg Value.int (show nI i + (1 : Int32) = nI (i + 1) from nI_add i 1)) ?_
  refine j_sld dL_law_1432 (by omega) (by omega) ?_
  refine j_aload_n dL_law_1433 rfl rfl ?_
  refine j_iload dL_law_1434 rfl ?_
  refine j_iconst (v := 2) dL_law_1436 (by decide) ?_
  refine j_iadd dL_law_1437 ?_
  refine j_top (congrArg Value.int (show nI i + (2 : Int32) = nI (i + 2) from nI_add i 2)) ?_
  refine j_sld dL_law_1438 (by omega) (by omega) ?_
  refine j_aload_n dL_law_1439 rfl rfl ?_
  refine j_iload dL_law_1440 rfl ?_
  refine j_iconst (v := 3) dL_law_1442 (by decide) ?_
  refine j_iadd dL_law_1443 ?_
  refine j_top (congrArg Value.int (show nI i + (3 : Int32) = nI (i + 3) from nI_add i 3)) ?_
  refine j_sld dL_law_1444 (by omega) (by omega) ?_
  refine j_aload_n dL_law_1445 rfl rfl ?_
  refine j_iload dL_law_1446 rfl ?_
  refine j_iconst (v := 4) dL_law_1448 (by decide) ?_
  refine j_iadd dL_law_1449 ?_
  refine j_top (congrArg Value.int (show nI i + (4 : Int32) = nI (i + 4) from nI_add i 4)) ?_
  refine j_sld dL_law_1450 (by omega) (by omega) ?_
  refine j_aload_n dL_law_1451 rfl rfl ?_
  refine j_iload dL_law_1452 rfl ?_
  refine j_iconst (v := 5) dL_law_1454 (by decide) ?_
  refine j_iadd dL_law_1455 ?_
  refine j_top (congrArg Value.int (show nI i + (5 : Int32) = nI (i + 5) from nI_add i 5)) ?_
  refine j_sld dL_law_1456 (by omega) (by omega) ?_
  obtain ⟨-, ⟨s26, hs26, -⟩, -⟩ := id LT1
  refine j_callV (q := (RX11, TX11, 8)) dL_law_1457 kX11_hearSteps lL_250 inX11_hearSteps seX11_hearSteps hs26.m rfl (kx_hearSteps hl w1 LT1 (z_sc G (i + 1)) (z_sc G (i + 2)) (z_sc G (i + 3)) (z_sc G (i + 4)) (z_sc G (i + 5))) (Nat.le_of_ble_eq_true rfl) ⟨(by show _ ≤ 793551; omega), (by show _ ≤ 6715452; omega)⟩ rfl (Nat.le_of_ble_eq_true rfl) rfl rfl (fun _ _ h => h.elim) ?_
  rintro _ w2 ⟨r2, rfl, LT2, th2, hr2⟩
  refine j_istore (lo' := [(6, _), (5, _), (0, _), (1, _), (2, _), (3, _), (4, _)]) dL_law_1460 (by decide) rfl ?_
  refine j_goto (tgt := 2257) dL_law_1462 (by decide) ?_
  refine j_widen (kc' := kc + 200) (ks' := ks + 6000) (by omega) (by omega) ?_
  exact j_lo2 (KK _ _ _ LT2) (z_q1 rfl (z_q1 rfl (z_q1 rfl (z_q1 rfl (z_q1 rfl z_q0)))))
set_option maxRecDepth 100000 in
set_option maxHeartbeats 4000000 in
theorem lc_23 (hl : l.stackTraces = false) {w : z_W} {x i kc ks : Nat} {S : sp_S} {n : Int64} (LT : z_LX x S S n w) (hi6 : i + 6 ≤ z_sn G) (hsn : z_sn G ≤ 3072) (hkc : kc + 200 ≤ 793551) (hks : ks + 6000 ≤ 6715452) (KK : ∀ (S9 : sp_S) (n9 : Int64) (w9 : z_W), z_LX x S9 S9 n9 w9 → z_J G l mL_law z_SL 2257 (z_lol x i) [] w9 (kc + 200) (ks + 6000)) : z_J G l mL_law z_SL 1465 (z_lol x i) [] w kc ks := by
  show z_J G l mL_law _ 1465 [(0, _), (1, _), (2, _), (3, _), (4, _)] [] _ _ _
  refine j_aload_n dL_law_1465 rfl rfl ?_
  refine j_aload_n dL_law_1466 rfl rfl ?_
  refine j_iload dL_law_1467 rfl ?_
  refine j_iconst (v := 1) dL_law_1469 (by decide) ?_
  refine j_iadd dL_law_1470 ?_
  refine j_top (congrArg Value.int (show nI i + (1 : Int32) = nI (i + 1) from nI_add i 1)) ?_
  refine j_sld dL_law_1471 (by omega) (by omega) ?_
  refine j_aload_n dL_law_1472 rfl rfl ?_
  refine j_iload dL_law_1473 rfl ?_
  refine j_iconst (v := 2) dL_law_1475 (by decide) ?_
  refine j_iadd dL_law_1476 ?_
  refine j_top (congrArg Value.int (show nI i + (2 : Int32) = nI (i + 2) from nI_add i 2)) ?_
  refine j_sld dL_law_1477 (by omega) (by omega) ?_
  refine j_aload_n dL_law_1478 rfl rfl ?_
  refine j_callSW dL_law_1479 kL_takeStep lL_251 stL_takeStep (lw_takeStep hl w _ _ _ _ LT (z_sc G (i + 1)) (z_sc G (i + 2))) (Nat.le_of_ble_eq_true rfl) ⟨(by show _ ≤ 793551; omega), (by show _ ≤ 6715452; omega)⟩ rfl (Nat.le_of_ble_eq_true rfl) rfl rfl (fun _ _ h => h.elim) ?_
  rintro _ w1 ⟨n1, rfl, LT1, hn1⟩
  refine j_istore (lo' := [(5, _), (0, _), (1, _), (2, _), (3, _), (4, _)]) dL_law_1482 (by decide) rfl ?_
  refine j_aload_n dL_law_1484 rfl rfl ?_
  refine j_aload_n dL_law_1485 rfl rfl ?_
  refine j_iload dL_law_1486 rfl ?_
  refine j_iconst (v := 1) dL_law_1488 (by decide) ?_
  refine j_iadd dL_law_1489 ?_
  refine j_top (congrArg Value.int (show nI i + (1 : Int32) = nI (i + 1) from nI_add i 1)) ?_
  refine j_sld dL_law_1490 (by omega) (by omega) ?_
  refine j_aload_n dL_law_1491 rfl rfl ?_
  refine j_iload dL_law_1492 rfl ?_
  refine j_iconst (v := 2) dL_law_1494 (by decide) ?_
  refine j_iadd dL_law_1495 ?_
  refine j_top (congrArg Value.int (show nI i + (2 : Int32) = nI (i + 2) from nI_add i 2)) ?_
  refine j_sld dL_law_1496 (by omega) (by omega) ?_
  obtain ⟨-, ⟨s27, hs27, -⟩, -⟩ := id LT1
  refine j_callV (q := (RX11, TX11, 8)) dL_law_1497 kX11_takeStep lL_253 inX11_takeStep seX11_takeStep hs27.m rfl (kx_takeStep hl w1 LT1 (z_sc G (i + 1)) (z_sc G (i + 2))) (Nat.le_of_ble_eq_true rfl) ⟨(by show _ ≤ 793551; omega), (by show _ ≤ 6715452; omega)⟩ rfl (Nat.le_of_ble_eq_true rfl) rfl rfl (fun _ _ h => h.elim) ?_
  rintro _ w2 ⟨r2, rfl, LT2, th2, hr2⟩
  refine j_istore (lo' := [(6, _), (5, _), (0, _), (1, _), (2, _), (3, _), (4, _)]) dL_law_1500 (by decide) rfl ?_
  refine j_goto (tgt := 2257) dL_law_1502 (by decide) ?_
  refine j_widen (kc' := kc + 200) (ks' := ks + 6000) (by omega) (by omega) ?_
  exact j_lo2 (KK _ _ _ LT2) (z_q1 rfl (z_q1 rfl (z_q1 rfl (z_q1 rfl (z_q1 rfl z_q0)))))
set_option maxRecDepth 100000 in
set_option maxHeartbeats 4000000 in
theorem lc_24 (hl : l.stackTraces = false) {w : z_W} {x i kc ks : Nat} {S : sp_S} {n : Int64} (LT : z_LX x S S n w) (hi6 : i + 6 ≤ z_sn G) (hsn : z_sn G ≤ 3072) (hkc : kc + 200 ≤ 793551) (hks : ks + 6000 ≤ 6715452) (KK : ∀ (S9 : sp_S) (n9 : Int64) (w9 : z_W), z_LX x S9 S9 n9 w9 → z_J G l mL_law z_SL 2257 (z_lol x i) [] w9 (kc + 200) (ks + 6000)) : z_J G l mL_law z_SL 1505 (z_lol x i) [] w kc ks := by
  show z_J G l mL_law _ 1505 [(0, _), (1, _), (2, _), (3, _), (4, _)] [] _ _ _
  refine j_aload_n dL_law_1505 rfl rfl ?_
  refine j_aload_n dL_law_1506 rfl rfl ?_
  refine j_iload dL_law_1507 rfl ?_
  refine j_iconst (v := 1) dL_law_1509 (by decide) ?_
  refine j_iadd dL_law_1510 ?_
  refine j_top (congrArg Value.int (show nI i + (1 : Int32) = nI (i + 1) from nI_add i 1)) ?_
  refine j_sld dL_law_1511 (by omega) (by omega) ?_
  refine j_aload_n dL_law_1512 rfl rfl ?_
  refine j_iload dL_law_1513 rfl ?_
  refine j_iconst (v := 2) dL_law_1515 (by decide) ?_
  refine j_iadd dL_law_1516 ?_
  refine j_top (congrArg Value.int (show nI i + (2 : Int32) = nI (i + 2) from nI_add i 2)) ?_
  refine j_sld dL_law_1517 (by omega) (by omega) ?_
  refine j_aload_n dL_law_1518 rfl rfl ?_
  refine j_callSW dL_law_1519 kL_stop lL_254 stL_stop (lw_stop hl w _ _ _ _ LT (z_sc G (i + 1)) (z_sc G (i + 2))) (Nat.le_of_ble_eq_true rfl) ⟨(by show _ ≤ 793551; omega), (by show _ ≤ 6715452; omega)⟩ rfl (Nat.le_of_ble_eq_true rfl) rfl rfl (fun _ _ h => h.elim) ?_
  rintro _ w1 ⟨n1, rfl, LT1, hn1⟩
  refine j_istore (lo' := [(5, _), (0, _), (1, _), (2, _), (3, _), (4, _)]) dL_law_1522 (by decide) rfl ?_
  refine j_aload_n dL_law_1524 rfl rfl ?_
  refine j_aload_n dL_law_1525 rfl rfl ?_
  refine j_iload dL_law_1526 rfl ?_
  refine j_iconst (v := 1) dL_law_1528 (by decide) ?_
  refine j_iadd dL_law_1529 ?_
  refine j_top (congrArg Value.int (show nI i + (1 : Int32) = nI (i + 1) from nI_add i 1)) ?_
  refine j_sld dL_law_1530 (by omega) (by omega) ?_
  refine j_aload_n dL_law_1531 rfl rfl ?_
  refine j_iload dL_law_1532 rfl ?_
  refine j_iconst (v := 2) dL_law_1534 (by decide) ?_
  refine j_iadd dL_law_1535 ?_
  refine j_top (congrArg Value.int (show nI i + (2 : Int32) = nI (i + 2) from nI_add i 2)) ?_
  refine j_sld dL_law_1536 (by omega) (by omega) ?_
  obtain ⟨-, ⟨s28, hs28, -⟩, -⟩ := id LT1
  refine j_callV (q := (RX11, TX11, 8)) dL_law_1537 kX11_stop lL_256 inX11_stop seX11_stop hs28.m rfl (kx_stop hl w1 LT1 (z_sc G (i + 1)) (z_sc G (i + 2))) (Nat.le_of_ble_eq_true rfl) ⟨(by show _ ≤ 793551; omega), (by show _ ≤ 6715452; omega)⟩ rfl (Nat.le_of_ble_eq_true rfl) rfl rfl (fun _ _ h => h.elim) ?_
  rintro _ w2 ⟨r2, rfl, LT2, th2, hr2⟩
  refine j_istore (lo' := [(6, _), (5, _), (0, _), (1, _), (2, _), (3, _), (4, _)]) dL_law_1540 (by decide) rfl ?_
  refine j_goto (tgt := 2257) dL_law_1542 (by decide) ?_
  refine j_widen (kc' := kc + 200) (ks' := ks + 6000) (by omega) (by omega) ?_
  exact j_lo2 (KK _ _ _ LT2) (z_q1 rfl (z_q1 rfl (z_q1 rfl (z_q1 rfl (z_q1 rfl z_q0)))))
set_option maxRecDepth 100000 in
set_option maxHeartbeats 4000000 in
theorem lc_25 (hl : l.stackTraces = false) {w : z_W} {x i kc ks : Nat} {S : sp_S} {n : Int64} (LT : z_LX x S S n w) (hi6 : i + 6 ≤ z_sn G) (hsn : z_sn G ≤ 3072) (hkc : kc + 200 ≤ 793551) (hks : ks + 6000 ≤ 6715452) (KK : ∀ (S9 : sp_S) (n9 : Int64) (w9 : z_W), z_LX x S9 S9 n9 w9 → z_J G l mL_law z_SL 2257 (z_lol x i) [] w9 (kc + 200) (ks + 6000)) : z_J G l mL_law z_SL 1545 (z_lol x i) [] w kc ks := by
  show z_J G l mL_law _ 1545 [(0, _), (1, _), (2, _), (3, _), (4, _)] [] _ _ _
  refine j_aload_n dL_law_1545 rfl rfl ?_
  refine j_aload_n dL_law_1546 rfl rfl ?_
  refine j_iload dL_law_1547 rfl ?_
  refine j_iconst (v := 1) dL_law_1549 (by decide) ?_
  refine j_iadd dL_law_1550 ?_
  refine j_top (congrArg Value.int (show nI i + (1 : Int32) = nI (i + 1) from nI_add i 1)) ?_
  refine j_sld dL_law_1551 (by omega) (by omega) ?_
  refine j_aload_n dL_law_1552 rfl rfl ?_
  refine j_callSW dL_law_1553 kL_forget lL_257 stL_forget (lw_forget hl w _ _ _ _ LT (z_sc G (i + 1))) (Nat.le_of_ble_eq_true rfl) ⟨(by show _ ≤ 793551; omega), (by show _ ≤ 6715452; omega)⟩ rfl (Nat.le_of_ble_eq_true rfl) rfl rfl (fun _ _ h => h.elim) ?_
  rintro _ w1 ⟨n1, rfl, LT1, hn1⟩
  refine j_istore (lo' := [(5, _), (0, _), (1, _), (2, _), (3, _), (4, _)]) dL_law_1556 (by decide) rfl ?_
  refine j_aload_n dL_law_1558 rfl rfl ?_
  refine j_aload_n dL_law_1559 rfl rfl ?_
  refine j_iload dL_law_1560 rfl ?_
  refine j_iconst (v := 1) dL_law_1562 (by decide) ?_
  refine j_iadd dL_law_1563 ?_
  refine j_top (congrArg Value.int (show nI i + (1 : Int32) = nI (i + 1) from nI_add i 1)) ?_
  refine j_sld dL_law_1564 (by omega) (by omega) ?_
  obtain ⟨-, ⟨s29, hs29, -⟩, -⟩ := id LT1
  refine j_callV (q := (RX11, TX11, 8)) dL_law_1565 kX11_forget lL_259 inX11_forget seX11_forget hs29.m rfl (kx_forget hl w1 LT1 (z_sc G (i + 1))) (Nat.le_of_ble_eq_true rfl) ⟨(by show _ ≤ 793551; omega), (by show _ ≤ 6715452; omega)⟩ rfl (Nat.le_of_ble_eq_true rfl) rfl rfl (fun _ _ h => h.elim) ?_
  rintro _ w2 ⟨r2, rfl, LT2, th2, hr2⟩
  refine j_istore (lo' := [(6, _), (5, _), (0, _), (1, _), (2, _), (3, _), (4, _)]) dL_law_1568 (by decide) rfl ?_
  refine j_goto (tgt := 2257) dL_law_1570 (by decide) ?_
  refine j_widen (kc' := kc + 200) (ks' := ks + 6000) (by omega) (by omega) ?_
  exact j_lo2 (KK _ _ _ LT2) (z_q1 rfl (z_q1 rfl (z_q1 rfl (z_q1 rfl (z_q1 rfl z_q0)))))
set_option maxRecDepth 100000 in
set_option maxHeartbeats 4000000 in
theorem lc_26 (hl : l.stackTraces = false) {w : z_W} {x i kc ks : Nat} {S : sp_S} {n : Int64} (LT : z_LX x S S n w) (hi6 : i + 6 ≤ z_sn G) (hsn : z_sn G ≤ 3072) (hkc : kc + 200 ≤ 793551) (hks : ks + 6000 ≤ 6715452) (KK : ∀ (S9 : sp_S) (n9 : Int64) (w9 : z_W), z_LX x S9 S9 n9 w9 → z_J G l mL_law z_SL 2257 (z_lol x i) [] w9 (kc + 200) (ks + 6000)) : z_J G l mL_law z_SL 1573 (z_lol x i) [] w kc ks := by
  show z_J G l mL_law _ 1573 [(0, _), (1, _), (2, _), (3, _), (4, _)] [] _ _ _
  refine j_aload_n dL_law_1573 rfl rfl ?_
  refine j_aload_n dL_law_1574 rfl rfl ?_
  refine j_iload dL_law_1575 rfl ?_
  refine j_iconst (v := 1) dL_law_1577 (by decide) ?_
  refine j_iadd dL_law_1578 ?_
  refine j_top (congrArg Value.int (show nI i + (1 : Int32) = nI (i + 1) from nI_add i 1)) ?_
  refine j_sld dL_law_1579 (by omega) (by omega) ?_
  refine j_aload_n dL_law_1580 rfl rfl ?_
  refine j_iload dL_law_1581 rfl ?_
  refine j_iconst (v := 2) dL_law_1583 (by decide) ?_
  refine j_iadd dL_law_1584 ?_
  refine j_top (congrArg Value.int (show nI i + (2 : Int32) = nI (i + 2) from nI_add i 2)) ?_
  refine j_sld dL_law_1585 (by omega) (by omega) ?_
  refine j_aload_n dL_law_1586 rfl rfl ?_
  refine j_callSW dL_law_1587 kL_heard lL_260 stL_heard (lw_heard hl w _ _ _ _ LT (z_sc G (i + 1)) (z_sc G (i + 2))) (Nat.le_of_ble_eq_true rfl) ⟨(by show _ ≤ 793551; omega), (by show _ ≤ 6715452; omega)⟩ rfl (Nat.le_of_ble_eq_true rfl) rfl rfl (fun _ _ h => h.elim) ?_
  rintro _ w1 ⟨n1, rfl, LT1, hn1⟩
  refine j_istore (lo' := [(5, _), (0, _), (1, _), (2, _), (3, _), (4, _)]) dL_law_1590 (by decide) rfl ?_
  refine j_aload_n dL_law_1592 rfl rfl ?_
  refine j_aload_n dL_law_1593 rfl rfl ?_
  refine j_iload dL_law_1594 rfl ?_
  refine j_iconst (v := 1) dL_law_1596 (by decide) ?_
  refine j_iadd dL_law_1597 ?_
  refine j_top (congrArg Value.int (show nI i + (1 : Int32) = nI (i + 1) from nI_add i 1)) ?_
  refine j_sld dL_law_1598 (by omega) (by omega) ?_
  refine j_aload_n dL_law_1599 rfl rfl ?_
  refine j_iload dL_law_1600 rfl ?_
  refine j_iconst (v := 2) dL_law_1602 (by decide) ?_
  refine j_iadd dL_law_1603 ?_
  refine j_top (congrArg Value.int (show nI i + (2 : Int32) = nI (i + 2) from nI_add i 2)) ?_
  refine j_sld dL_law_1604 (by omega) (by omega) ?_
  obtain ⟨-, ⟨s30, hs30, -⟩, -⟩ := id LT1
  refine j_callV (q := (RX11, TX11, 8)) dL_law_1605 kX11_heard lL_262 inX11_heard seX11_heard hs30.m rfl (kx_heard hl w1 LT1 (z_sc G (i + 1)) (z_sc G (i + 2))) (Nat.le_of_ble_eq_true rfl) ⟨(by show _ ≤ 793551; omega), (by show _ ≤ 6715452; omega)⟩ rfl (Nat.le_of_ble_eq_true rfl) rfl rfl (fun _ _ h => h.elim) ?_
  rintro _ w2 ⟨r2, rfl, LT2, th2, hr2⟩
  refine j_istore (lo' := [(6, _), (5, _), (0, _), (1, _), (2, _), (3, _), (4, _)]) dL_law_1608 (by decide) rfl ?_
  refine j_goto (tgt := 2257) dL_law_1610 (by decide) ?_
  refine j_widen (kc' := kc + 200) (ks' := ks + 6000) (by omega) (by omega) ?_
  exact j_lo2 (KK _ _ _ LT2) (z_q1 rfl (z_q1 rfl (z_q1 rfl (z_q1 rfl (z_q1 rfl z_q0)))))
set_option maxRecDepth 100000 in
set_option maxHeartbeats 4000000 in
theorem lc_27 (hl : l.stackTraces = false) {w : z_W} {x i kc ks : Nat} {S : sp_S} {n : Int64} (LT : z_LX x S S n w) (hi6 : i + 6 ≤ z_sn G) (hsn : z_sn G ≤ 3072) (hkc : kc + 200 ≤ 793551) (hks : ks + 6000 ≤ 6715452) (KK : ∀ (S9 : sp_S) (n9 : Int64) (w9 : z_W), z_LX x S9 S9 n9 w9 → z_J G l mL_law z_SL 2257 (z_lol x i) [] w9 (kc + 200) (ks + 6000)) : z_J G l mL_law z_SL 1613 (z_lol x i) [] w kc ks := by
  show z_J G l mL_law _ 1613 [(0, _), (1, _), (2, _), (3, _), (4, _)] [] _ _ _
  refine j_aload_n dL_law_1613 rfl rfl ?_
  refine j_aload_n dL_law_1614 rfl rfl ?_
  refine j_iload dL_law_1615 rfl ?_
  refine j_iconst (v := 1) dL_law_1617 (by decide) ?_
  refine j_iadd dL_law_1618 ?_
  refine j_top (congrArg Value.int (show nI i + (1 : Int32) = nI (i + 1) from nI_add i 1)) ?_
  refine j_sld dL_law_1619 (by omega) (by omega) ?_
  refine j_aload_n dL_law_1620 rfl rfl ?_
  refine j_callSW dL_law_1621 kL_heardText lL_263 stL_heardText (lw_heardText hl w _ _ _ _ LT (z_sc G (i + 1))) (Nat.le_of_ble_eq_true rfl) ⟨(by show _ ≤ 793551; omega), (by show _ ≤ 6715452; omega)⟩ rfl (Nat.le_of_ble_eq_true rfl) rfl rfl (fun _ _ h => h.elim) ?_
  rintro _ w1 ⟨r1, n1, rfl, LT1⟩
  refine j_istore (lo' := [(5, _), (0, _), (1, _), (2, _), (3, _), (4, _)]) dL_law_1624 (by decide) rfl ?_
  refine j_aload_n dL_law_1626 rfl rfl ?_
  refine j_aload_n dL_law_1627 rfl rfl ?_
  refine j_iload dL_law_1628 rfl ?_
  refine j_iconst (v := 1) dL_law_1630 (by decide) ?_
  refine j_iadd dL_law_1631 ?_
  refine j_top (congrArg Value.int (show nI i + (1 : Int32) = nI (i + 1) from nI_add i 1)) ?_
  refine j_sld dL_law_1632 (by omega) (by omega) ?_
  obtain ⟨-, ⟨s31, hs31, -⟩, -⟩ := id LT1
  refine j_callV (q := (RX11, TX11, 8)) dL_law_1633 kX11_heardText lL_265 inX11_heardText seX11_heardText hs31.m rfl (kx_heardText hl w1 LT1 (z_sc G (i + 1))) (Nat.le_of_ble_eq_true rfl) ⟨(by show _ ≤ 793551; omega), (by show _ ≤ 6715452; omega)⟩ rfl (Nat.le_of_ble_eq_true rfl) rfl rfl (fun _ _ h => h.elim) ?_
  rintro _ w2 ⟨r2, rfl, hir2, LT2⟩
  refine j_astore (lo' := [(6, _), (5, _), (0, _), (1, _), (2, _), (3, _), (4, _)]) dL_law_1636 hir2 (by decide) rfl ?_
  refine j_goto (tgt := 2257) dL_law_1638 (by decide) ?_
  refine j_widen (kc' := kc + 200) (ks' := ks + 6000) (by omega) (by omega) ?_
  exact j_lo2 (KK _ _ _ LT2) (z_q1 rfl (z_q1 rfl (z_q1 rfl (z_q1 rfl (z_q1 rfl z_q0)))))
set_option maxRecDepth 100000 in
set_option maxHeartbeats 4000000 in
theorem lc_28 (hl : l.stackTraces = false) {w : z_W} {x i kc ks : Nat} {S : sp_S} {n : Int64} (LT : z_LX x S S n w) (hi6 : i + 6 ≤ z_sn G) (hsn : z_sn G ≤ 3072) (hkc : kc + 200 ≤ 793551) (hks : ks + 6000 ≤ 6715452) (KK : ∀ (S9 : sp_S) (n9 : Int64) (w9 : z_W), z_LX x S9 S9 n9 w9 → z_J G l mL_law z_SL 2257 (z_lol x i) [] w9 (kc + 200) (ks + 6000)) : z_J G l mL_law z_SL 1641 (z_lol x i) [] w kc ks := by
  show z_J G l mL_law _ 1641 [(0, _), (1, _), (2, _), (3, _), (4, _)] [] _ _ _
  refine j_aload_n dL_law_1641 rfl rfl ?_
  refine j_aload_n dL_law_1642 rfl rfl ?_
  refine j_iload dL_law_1643 rfl ?_
  refine j_iconst (v := 1) dL_law_1645 (by decide) ?_
  refine j_iadd dL_law_1646 ?_
  refine j_top (congrArg Value.int (show nI i + (1 : Int32) = nI (i + 1) from nI_add i 1)) ?_
  refine j_sld dL_law_1647 (by omega) (by omega) ?_
  refine j_aload_n dL_law_1648 rfl rfl ?_
  refine j_callSW dL_law_1649 kL_length lL_266 stL_length (lw_length hl w _ _ _ _ LT (z_sc G (i + 1))) (Nat.le_of_ble_eq_true rfl) ⟨(by show _ ≤ 793551; omega), (by show _ ≤ 6715452; omega)⟩ rfl (Nat.le_of_ble_eq_true rfl) rfl rfl (fun _ _ h => h.elim) ?_
  rintro _ w1 ⟨n1, rfl, LT1, hn1⟩
  refine j_istore (lo' := [(5, _), (0, _), (1, _), (2, _), (3, _), (4, _)]) dL_law_1652 (by decide) rfl ?_
  refine j_aload_n dL_law_1654 rfl rfl ?_
  refine j_aload_n dL_law_1655 rfl rfl ?_
  refine j_iload dL_law_1656 rfl ?_
  refine j_iconst (v := 1) dL_law_1658 (by decide) ?_
  refine j_iadd dL_law_1659 ?_
  refine j_top (congrArg Value.int (show nI i + (1 : Int32) = nI (i + 1) from nI_add i 1)) ?_
  refine j_sld dL_law_1660 (by omega) (by omega) ?_
  obtain ⟨-, ⟨s32, hs32, -⟩, -⟩ := id LT1
  refine j_callV (q := (RX11, TX11, 8)) dL_law_1661 kX11_length lL_268 inX11_length seX11_length hs32.m rfl (kx_length hl w1 LT1 (z_sc G (i + 1))) (Nat.le_of_ble_eq_true rfl) ⟨(by show _ ≤ 793551; omega), (by show _ ≤ 6715452; omega)⟩ rfl (Nat.le_of_ble_eq_true rfl) rfl rfl (fun _ _ h => h.elim) ?_
  rintro _ w2 ⟨r2, rfl, LT2, th2, hr2⟩
  refine j_istore (lo' := [(6, _), (5, _), (0, _), (1, _), (2, _), (3, _), (4, _)]) dL_law_1664 (by decide) rfl ?_
  refine j_goto (tgt := 2257) dL_law_1666 (by decide) ?_
  refine j_widen (kc' := kc + 200) (ks' := ks + 6000) (by omega) (by omega) ?_
  exact j_lo2 (KK _ _ _ LT2) (z_q1 rfl (z_q1 rfl (z_q1 rfl (z_q1 rfl (z_q1 rfl z_q0)))))
set_option maxRecDepth 100000 in
set_option maxHeartbeats 4000000 in
theorem lc_29 (hl : l.stackTraces = false) {w : z_W} {x i kc ks : Nat} {S : sp_S} {n : Int64} (LT : z_LX x S S n w) (hi6 : i + 6 ≤ z_sn G) (hsn : z_sn G ≤ 3072) (hkc : kc + 200 ≤ 793551) (hks : ks + 6000 ≤ 6715452) (KK : ∀ (S9 : sp_S) (n9 : Int64) (w9 : z_W), z_LX x S9 S9 n9 w9 → z_J G l mL_law z_SL 2257 (z_lol x i) [] w9 (kc + 200) (ks + 6000)) : z_J G l mL_law z_SL 1669 (z_lol x i) [] w kc ks := by
  show z_J G l mL_law _ 1669 [(0, _), (1, _), (2, _), (3, _), (4, _)] [] _ _ _
  refine j_aload_n dL_law_1669 rfl rfl ?_
  refine j_aload_n dL_law_1670 rfl rfl ?_
  refine j_iload dL_law_1671 rfl ?_
  refine j_iconst (v := 1) dL_law_1673 (by decide) ?_
  refine j_iadd dL_law_1674 ?_
  refine j_top (congrArg Value.int (show nI i + (1 : Int32) = nI (i + 1) from nI_add i 1)) ?_
  refine j_sld dL_law_1675 (by omega) (by omega) ?_
  refine j_aload_n dL_law_1676 rfl rfl ?_
  refine j_iload dL_law_1677 rfl ?_
  refine j_iconst (v := 2) dL_law_1679 (by decide) ?_
  refine j_iadd dL_law_1680 ?_
  refine j_top (congrArg Value.int (show nI i + (2 : Int32) = nI (i + 2) from nI_add i 2)) ?_
  refine j_sld dL_law_1681 (by omega) (by omega) ?_
  refine j_aload_n dL_law_1682 rfl rfl ?_
  refine j_callSW dL_law_1683 kL_at lL_269 stL_at (lw_at hl w _ _ _ _ LT (z_sc G (i + 1)) (z_sc G (i + 2))) (Nat.le_of_ble_eq_true rfl) ⟨(by show _ ≤ 793551; omega), (by show _ ≤ 6715452; omega)⟩ rfl (Nat.le_of_ble_eq_true rfl) rfl rfl (fun _ _ h => h.elim) ?_
  rintro _ w1 ⟨n1, rfl, LT1, hn1⟩
  refine j_istore (lo' := [(5, _), (0, _), (1, _), (2, _), (3, _), (4, _)]) dL_law_1686 (by decide) rfl ?_
  refine j_aload_n dL_law_1688 rfl rfl ?_
  refine j_aload_n dL_law_1689 rfl rfl ?_
  refine j_iload dL_law_1690 rfl ?_
  refine j_iconst (v := 1) dL_law_1692 (by decide) ?_
  refine j_iadd dL_law_1693 ?_
  refine j_top (congrArg Value.int (show nI i + (1 : Int32) = nI (i + 1) from nI_add i 1)) ?_
  refine j_sld dL_law_1694 (by omega) (by omega) ?_
  refine j_aload_n dL_law_1695 rfl rfl ?_
  refine j_iload dL_law_1696 rfl ?_
  refine j_iconst (v := 2) dL_law_1698 (by decide) ?_
  refine j_iadd dL_law_1699 ?_
  refine j_top (congrArg Value.int (show nI i + (2 : Int32) = nI (i + 2) from nI_add i 2)) ?_
  refine j_sld dL_law_1700 (by omega) (by omega) ?_
  obtain ⟨-, ⟨s33, hs33, -⟩, -⟩ := id LT1
  refine j_callV (q := (RX11, TX11, 8)) dL_law_1701 kX11_at lL_271 inX11_at seX11_at hs33.m rfl (kx_at hl w1 LT1 (z_sc G (i + 1)) (z_sc G (i + 2))) (Nat.le_of_ble_eq_true rfl) ⟨(by show _ ≤ 793551; omega), (by show _ ≤ 6715452; omega)⟩ rfl (Nat.le_of_ble_eq_true rfl) rfl rfl (fun _ _ h => h.elim) ?_
  rintro _ w2 ⟨r2, rfl, LT2, th2, hr2⟩
  refine j_istore (lo' := [(6, _), (5, _), (0, _), (1, _), (2, _), (3, _), (4, _)]) dL_law_1704 (by decide) rfl ?_
  refine j_goto (tgt := 2257) dL_law_1706 (by decide) ?_
  refine j_widen (kc' := kc + 200) (ks' := ks + 6000) (by omega) (by omega) ?_
  exact j_lo2 (KK _ _ _ LT2) (z_q1 rfl (z_q1 rfl (z_q1 rfl (z_q1 rfl (z_q1 rfl z_q0)))))
set_option maxRecDepth 100000 in
set_option maxHeartbeats 4000000 in
theorem lc_30 (hl : l.stackTraces = false) {w : z_W} {x i kc ks : Nat} {S : sp_S} {n : Int64} (LT : z_LX x S S n w) (hi6 : i + 6 ≤ z_sn G) (hsn : z_sn G ≤ 3072) (hkc : kc + 200 ≤ 793551) (hks : ks + 6000 ≤ 6715452) (KK : ∀ (S9 : sp_S) (n9 : Int64) (w9 : z_W), z_LX x S9 S9 n9 w9 → z_J G l mL_law z_SL 2257 (z_lol x i) [] w9 (kc + 200) (ks + 6000)) : z_J G l mL_law z_SL 1709 (z_lol x i) [] w kc ks := by
  show z_J G l mL_law _ 1709 [(0, _), (1, _), (2, _), (3, _), (4, _)] [] _ _ _
  refine j_aload_n dL_law_1709 rfl rfl ?_
  refine j_aload_n dL_law_1710 rfl rfl ?_
  refine j_iload dL_law_1711 rfl ?_
  refine j_iconst (v := 1) dL_law_1713 (by decide) ?_
  refine j_iadd dL_law_1714 ?_
  refine j_top (congrArg Value.int (show nI i + (1 : Int32) = nI (i + 1) from nI_add i 1)) ?_
  refine j_sld dL_law_1715 (by omega) (by omega) ?_
  refine j_aload_n dL_law_1716 rfl rfl ?_
  refine j_callSW dL_law_1717 kL_rowText lL_272 stL_rowText (lw_rowText hl w _ _ _ _ LT (z_sc G (i + 1))) (Nat.le_of_ble_eq_true rfl) ⟨(by show _ ≤ 793551; omega), (by show _ ≤ 6715452; omega)⟩ rfl (Nat.le_of_ble_eq_true rfl) rfl rfl (fun _ _ h => h.elim) ?_
  rintro _ w1 ⟨r1, n1, rfl, LT1⟩
  refine j_istore (lo' := [(5, _), (0, _), (1, _), (2, _), (3, _), (4, _)]) dL_law_1720 (by decide) rfl ?_
  refine j_aload_n dL_law_1722 rfl rfl ?_
  refine j_aload_n dL_law_1723 rfl rfl ?_
  refine j_iload dL_law_1724 rfl ?_
  refine j_iconst (v := 1) dL_law_1726 (by decide) ?_
  refine j_iadd dL_law_1727 ?_
  refine j_top (congrArg Value.int (show nI i + (1 : Int32) = nI (i + 1) from nI_add i 1)) ?_
  refine j_sld dL_law_1728 (by omega) (by omega) ?_
  obtain ⟨-, ⟨s34, hs34, -⟩, -⟩ := id LT1
  refine j_callV (q := (RX11, TX11, 8)) dL_law_1729 kX11_rowText lL_274 inX11_rowText seX11_rowText hs34.m rfl (kx_rowText hl w1 LT1 (z_sc G (i + 1))) (Nat.le_of_ble_eq_true rfl) ⟨(by show _ ≤ 793551; omega), (by show _ ≤ 6715452; omega)⟩ rfl (Nat.le_of_ble_eq_true rfl) rfl rfl (fun _ _ h => h.elim) ?_
  rintro _ w2 ⟨r2, rfl, hir2, LT2⟩
  refine j_astore (lo' := [(6, _), (5, _), (0, _), (1, _), (2, _), (3, _), (4, _)]) dL_law_1732 hir2 (by decide) rfl ?_
  refine j_goto (tgt := 2257) dL_law_1734 (by decide) ?_
  refine j_widen (kc' := kc + 200) (ks' := ks + 6000) (by omega) (by omega) ?_
  exact j_lo2 (KK _ _ _ LT2) (z_q1 rfl (z_q1 rfl (z_q1 rfl (z_q1 rfl (z_q1 rfl z_q0)))))
set_option maxRecDepth 100000 in
set_option maxHeartbeats 4000000 in
theorem lc_31 (hl : l.stackTraces = false) {w : z_W} {x i kc ks : Nat} {S : sp_S} {n : Int64} (LT : z_LX x S S n w) (hi6 : i + 6 ≤ z_sn G) (hsn : z_sn G ≤ 3072) (hkc : kc + 200 ≤ 793551) (hks : ks + 6000 ≤ 6715452) (KK : ∀ (S9 : sp_S) (n9 : Int64) (w9 : z_W), z_LX x S9 S9 n9 w9 → z_J G l mL_law z_SL 2257 (z_lol x i) [] w9 (kc + 200) (ks + 6000)) : z_J G l mL_law z_SL 1737 (z_lol x i) [] w kc ks := by
  show z_J G l mL_law _ 1737 [(0, _), (1, _), (2, _), (3, _), (4, _)] [] _ _ _
  refine j_aload_n dL_law_1737 rfl rfl ?_
  refine j_aload_n dL_law_1738 rfl rfl ?_
  refine j_iload dL_law_1739 rfl ?_
  refine j_iconst (v := 1) dL_law_1741 (by decide) ?_
  refine j_iadd dL_law_1742 ?_
  refine j_top (congrArg Value.int (show nI i + (1 : Int32) = nI (i + 1) from nI_add i 1)) ?_
  refine j_sld dL_law_1743 (by omega) (by omega) ?_
  refine j_aload_n dL_law_1744 rfl rfl ?_
  refine j_callSW dL_law_1745 kL_isFixed lL_275 stL_isFixed (lw_isFixed hl w _ _ _ _ LT (z_sc G (i + 1))) (Nat.le_of_ble_eq_true rfl) ⟨(by show _ ≤ 793551; omega), (by show _ ≤ 6715452; omega)⟩ rfl (Nat.le_of_ble_eq_true rfl) rfl rfl (fun _ _ h => h.elim) ?_
  rintro _ w1 ⟨n1, rfl, LT1, hn1⟩
  refine j_istore (lo' := [(5, _), (0, _), (1, _), (2, _), (3, _), (4, _)]) dL_law_1748 (by decide) rfl ?_
  refine j_aload_n dL_law_1750 rfl rfl ?_
  refine j_aload_n dL_law_1751 rfl rfl ?_
  refine j_iload dL_law_1752 rfl ?_
  refine j_iconst (v := 1) dL_law_1754 (by decide) ?_
  refine j_iadd dL_law_1755 ?_
  refine j_top (congrArg Value.int (show nI i + (1 : Int32) = nI (i + 1) from nI_add i 1)) ?_
  refine j_sld dL_law_1756 (by omega) (by omega) ?_
  obtain ⟨-, ⟨s35, hs35, -⟩, -⟩ := id LT1
  refine j_callV (q := (RX11, TX11, 8)) dL_law_1757 kX11_isFixed lL_277 inX11_isFixed seX11_isFixed hs35.m rfl (kx_isFixed hl w1 LT1 (z_sc G (i + 1))) (Nat.le_of_ble_eq_true rfl) ⟨(by show _ ≤ 793551; omega), (by show _ ≤ 6715452; omega)⟩ rfl (Nat.le_of_ble_eq_true rfl) rfl rfl (fun _ _ h => h.elim) ?_
  rintro _ w2 ⟨r2, rfl, LT2, th2, hr2⟩
  refine j_istore (lo' := [(6, _), (5, _), (0, _), (1, _), (2, _), (3, _), (4, _)]) dL_law_1760 (by decide) rfl ?_
  refine j_goto (tgt := 2257) dL_law_1762 (by decide) ?_
  refine j_widen (kc' := kc + 200) (ks' := ks + 6000) (by omega) (by omega) ?_
  exact j_lo2 (KK _ _ _ LT2) (z_q1 rfl (z_q1 rfl (z_q1 rfl (z_q1 rfl (z_q1 rfl z_q0)))))
set_option maxRecDepth 100000 in
set_option maxHeartbeats 4000000 in
theorem lc_32 (hl : l.stackTraces = false) {w : z_W} {x i kc ks : Nat} {S : sp_S} {n : Int64} (LT : z_LX x S S n w) (hi6 : i + 6 ≤ z_sn G) (hsn : z_sn G ≤ 3072) (hkc : kc + 200 ≤ 793551) (hks : ks + 6000 ≤ 6715452) (KK : ∀ (S9 : sp_S) (n9 : Int64) (w9 : z_W), z_LX x S9 S9 n9 w9 → z_J G l mL_law z_SL 2257 (z_lol x i) [] w9 (kc + 200) (ks + 6000)) : z_J G l mL_law z_SL 1765 (z_lol x i) [] w kc ks := by
  show z_J G l mL_law _ 1765 [(0, _), (1, _), (2, _), (3, _), (4, _)] [] _ _ _
  refine j_aload_n dL_law_1765 rfl rfl ?_
  refine j_aload_n dL_law_1766 rfl rfl ?_
  refine j_iload dL_law_1767 rfl ?_
  refine j_iconst (v := 1) dL_law_1769 (by decide) ?_
  refine j_iadd dL_law_1770 ?_
  refine j_top (congrArg Value.int (show nI i + (1 : Int32) = nI (i + 1) from nI_add i 1)) ?_
  refine j_sld dL_law_1771 (by omega) (by omega) ?_
  refine j_aload_n dL_law_1772 rfl rfl ?_
  refine j_iload dL_law_1773 rfl ?_
  refine j_iconst (v := 2) dL_law_1775 (by decide) ?_
  refine j_iadd dL_law_1776 ?_
  refine j_top (congrArg Value.int (show nI i + (2 : Int32) = nI (i + 2) from nI_add i 2)) ?_
  refine j_sld dL_law_1777 (by omega) (by omega) ?_
  refine j_aload_n dL_law_1778 rfl rfl ?_
  refine j_callSW dL_law_1779 kL_counts lL_278 stL_counts (lw_counts hl w _ _ _ _ LT (z_sc G (i + 1)) (z_sc G (i + 2))) (Nat.le_of_ble_eq_true rfl) ⟨(by show _ ≤ 793551; omega), (by show _ ≤ 6715452; omega)⟩ rfl (Nat.le_of_ble_eq_true rfl) rfl rfl (fun _ _ h => h.elim) ?_
  rintro _ w1 ⟨n1, rfl, LT1, hn1⟩
  refine j_istore (lo' := [(5, _), (0, _), (1, _), (2, _), (3, _), (4, _)]) dL_law_1782 (by decide) rfl ?_
  refine j_aload_n dL_law_1784 rfl rfl ?_
  refine j_aload_n dL_law_1785 rfl rfl ?_
  refine j_iload dL_law_1786 rfl ?_
  refine j_iconst (v := 1) dL_law_1788 (by decide) ?_
  refine j_iadd dL_law_1789 ?_
  refine j_top (congrArg Value.int (show nI i + (1 : Int32) = nI (i + 1) from nI_add i 1)) ?_
  refine j_sld dL_law_1790 (by omega) (by omega) ?_
  refine j_aload_n dL_law_1791 rfl rfl ?_
  refine j_iload dL_law_1792 rfl ?_
  refine j_iconst (v := 2) dL_law_1794 (by decide) ?_
  refine j_iadd dL_law_1795 ?_
  refine j_top (congrArg Value.int (show nI i + (2 : Int32) = nI (i + 2) from nI_add i 2)) ?_
  refine j_sld dL_law_1796 (by omega) (by omega) ?_
  obtain ⟨-, ⟨s36, hs36, -⟩, -⟩ := id LT1
  refine j_callV (q := (RX11, TX11, 8)) dL_law_1797 kX11_counts lL_280 inX11_counts seX11_counts hs36.m rfl (kx_counts hl w1 LT1 (z_sc G (i + 1)) (z_sc G (i + 2))) (Nat.le_of_ble_eq_true rfl) ⟨(by show _ ≤ 793551; omega), (by show _ ≤ 6715452; omega)⟩ rfl (Nat.le_of_ble_eq_true rfl) rfl rfl (fun _ _ h => h.elim) ?_
  rintro _ w2 ⟨r2, rfl, LT2, th2, hr2⟩
  refine j_istore (lo' := [(6, _), (5, _), (0, _), (1, _), (2, _), (3, _), (4, _)]) dL_law_1800 (by decide) rfl ?_
  refine j_goto (tgt := 2257) dL_law_1802 (by decide) ?_
  refine j_widen (kc' := kc + 200) (ks' := ks + 6000) (by omega) (by omega) ?_
  exact j_lo2 (KK _ _ _ LT2) (z_q1 rfl (z_q1 rfl (z_q1 rfl (z_q1 rfl (z_q1 rfl z_q0)))))
set_option maxRecDepth 100000 in
set_option maxHeartbeats 4000000 in
theorem lc_33 (hl : l.stackTraces = false) {w : z_W} {x i kc ks : Nat} {S : sp_S} {n : Int64} (LT : z_LX x S S n w) (hi6 : i + 6 ≤ z_sn G) (hsn : z_sn G ≤ 3072) (hkc : kc + 200 ≤ 793551) (hks : ks + 6000 ≤ 6715452) (KK : ∀ (S9 : sp_S) (n9 : Int64) (w9 : z_W), z_LX x S9 S9 n9 w9 → z_J G l mL_law z_SL 2257 (z_lol x i) [] w9 (kc + 200) (ks + 6000)) : z_J G l mL_law z_SL 1805 (z_lol x i) [] w kc ks := by
  show z_J G l mL_law _ 1805 [(0, _), (1, _), (2, _), (3, _), (4, _)] [] _ _ _
  refine j_aload_n dL_law_1805 rfl rfl ?_
  refine j_aload_n dL_law_1806 rfl rfl ?_
  refine j_iload dL_law_1807 rfl ?_
  refine j_iconst (v := 1) dL_law_1809 (by decide) ?_
  refine j_iadd dL_law_1810 ?_
  refine j_top (congrArg Value.int (show nI i + (1 : Int32) = nI (i + 1) from nI_add i 1)) ?_
  refine j_sld dL_law_1811 (by omega) (by omega) ?_
  refine j_aload_n dL_law_1812 rfl rfl ?_
  refine j_callSW dL_law_1813 kL_shelfCounts lL_281 stL_shelfCounts (lw_shelfCounts hl w _ _ _ _ LT (z_sc G (i + 1))) (Nat.le_of_ble_eq_true rfl) ⟨(by show _ ≤ 793551; omega), (by show _ ≤ 6715452; omega)⟩ rfl (Nat.le_of_ble_eq_true rfl) rfl rfl (fun _ _ h => h.elim) ?_
  rintro _ w1 ⟨n1, rfl, LT1, hn1⟩
  refine j_istore (lo' := [(5, _), (0, _), (1, _), (2, _), (3, _), (4, _)]) dL_law_1816 (by decide) rfl ?_
  refine j_aload_n dL_law_1818 rfl rfl ?_
  refine j_aload_n dL_law_1819 rfl rfl ?_
  refine j_iload dL_law_1820 rfl ?_
  refine j_iconst (v := 1) dL_law_1822 (by decide) ?_
  refine j_iadd dL_law_1823 ?_
  refine j_top (congrArg Value.int (show nI i + (1 : Int32) = nI (i + 1) from nI_add i 1)) ?_
  refine j_sld dL_law_1824 (by omega) (by omega) ?_
  obtain ⟨-, ⟨s37, hs37, -⟩, -⟩ := id LT1
  refine j_callV (q := (RX11, TX11, 8)) dL_law_1825 kX11_shelfCounts lL_283 inX11_shelfCounts seX11_shelfCounts hs37.m rfl (kx_shelfCounts hl w1 LT1 (z_sc G (i + 1))) (Nat.le_of_ble_eq_true rfl) ⟨(by show _ ≤ 793551; omega), (by show _ ≤ 6715452; omega)⟩ rfl (Nat.le_of_ble_eq_true rfl) rfl rfl (fun _ _ h => h.elim) ?_
  rintro _ w2 ⟨r2, rfl, LT2, th2, hr2⟩
  refine j_istore (lo' := [(6, _), (5, _), (0, _), (1, _), (2, _), (3, _), (4, _)]) dL_law_1828 (by decide) rfl ?_
  refine j_goto (tgt := 2257) dL_law_1830 (by decide) ?_
  refine j_widen (kc' := kc + 200) (ks' := ks + 6000) (by omega) (by omega) ?_
  exact j_lo2 (KK _ _ _ LT2) (z_q1 rfl (z_q1 rfl (z_q1 rfl (z_q1 rfl (z_q1 rfl z_q0)))))
set_option maxRecDepth 100000 in
set_option maxHeartbeats 4000000 in
theorem lc_34 (hl : l.stackTraces = false) {w : z_W} {x i kc ks : Nat} {S : sp_S} {n : Int64} (LT : z_LX x S S n w) (hi6 : i + 6 ≤ z_sn G) (hsn : z_sn G ≤ 3072) (hkc : kc + 200 ≤ 793551) (hks : ks + 6000 ≤ 6715452) (KK : ∀ (S9 : sp_S) (n9 : Int64) (w9 : z_W), z_LX x S9 S9 n9 w9 → z_J G l mL_law z_SL 2257 (z_lol x i) [] w9 (kc + 200) (ks + 6000)) : z_J G l mL_law z_SL 1833 (z_lol x i) [] w kc ks := by
  show z_J G l mL_law _ 1833 [(0, _), (1, _), (2, _), (3, _), (4, _)] [] _ _ _
  refine j_aload_n dL_law_1833 rfl rfl ?_
  obtain ⟨fs38, gs38⟩ := LT.rc
  refine j_callV (q := (RX8, TX8, 9)) dL_law_1834 kX8_forgetCounts lL_284 inX8_forgetCounts seX8_forgetCounts gs38 rfl (px_forgetCounts hl w _ LT.1.1 LT.1.2) (Nat.le_of_ble_eq_true rfl) ⟨(by show _ ≤ 793551; omega), (by show _ ≤ 6715452; omega)⟩ rfl (Nat.le_of_ble_eq_true rfl) rfl rfl (fun _ _ h => h.elim) ?_
  rintro _ w1 ⟨rfl, hW1, hh1⟩
  have LT1 := LT.cls hW1 (okk_forgetCounts LT.1.2) hh1
  refine j_pop dL_law_1837 rfl ?_
  refine j_aload_n dL_law_1838 rfl rfl ?_
  obtain ⟨-, ⟨s39, hs39, -⟩, -⟩ := id LT1
  refine j_callV (q := (RX11, TX11, 8)) dL_law_1839 kX11_forgetCounts lL_287 inX11_forgetCounts seX11_forgetCounts hs39.m rfl (kx_forgetCounts hl w1 LT1) (Nat.le_of_ble_eq_true rfl) ⟨(by show _ ≤ 793551; omega), (by show _ ≤ 6715452; omega)⟩ rfl (Nat.le_of_ble_eq_true rfl) rfl rfl (fun _ _ h => h.elim) ?_
  rintro _ w2 ⟨r2, rfl, LT2, th2, hr2⟩
  refine j_pop dL_law_1842 rfl ?_
  refine j_goto (tgt := 2257) dL_law_1843 (by decide) ?_
  refine j_widen (kc' := kc + 200) (ks' := ks + 6000) (by omega) (by omega) ?_
  exact j_lo2 (KK _ _ _ LT2) (z_q1 rfl (z_q1 rfl (z_q1 rfl (z_q1 rfl (z_q1 rfl z_q0)))))
set_option maxRecDepth 100000 in
set_option maxHeartbeats 4000000 in
theorem lc_35 (hl : l.stackTraces = false) {w : z_W} {x i kc ks : Nat} {S : sp_S} {n : Int64} (LT : z_LX x S S n w) (hi6 : i + 6 ≤ z_sn G) (hsn : z_sn G ≤ 3072) (hkc : kc + 200 ≤ 793551) (hks : ks + 6000 ≤ 6715452) (KK : ∀ (S9 : sp_S) (n9 : Int64) (w9 : z_W), z_LX x S9 S9 n9 w9 → z_J G l mL_law z_SL 2257 (z_lol x i) [] w9 (kc + 200) (ks + 6000)) : z_J G l mL_law z_SL 1846 (z_lol x i) [] w kc ks := by
  show z_J G l mL_law _ 1846 [(0, _), (1, _), (2, _), (3, _), (4, _)] [] _ _ _
  refine j_aload_n dL_law_1846 rfl rfl ?_
  refine j_aload_n dL_law_1847 rfl rfl ?_
  refine j_iload dL_law_1848 rfl ?_
  refine j_iconst (v := 1) dL_law_1850 (by decide) ?_
  refine j_iadd dL_law_1851 ?_
  refine j_top (congrArg Value.int (show nI i + (1 : Int32) = nI (i + 1) from nI_add i 1)) ?_
  refine j_sld dL_law_1852 (by omega) (by omega) ?_
  refine j_aload_n dL_law_1853 rfl rfl ?_
  refine j_iload dL_law_1854 rfl ?_
  refine j_iconst (v := 2) dL_law_1856 (by decide) ?_
  refine j_iadd dL_law_1857 ?_
  refine j_top (congrArg Value.int (show nI i + (2 : Int32) = nI (i + 2) from nI_add i 2)) ?_
  refine j_sld dL_law_1858 (by omega) (by omega) ?_
  refine j_aload_n dL_law_1859 rfl rfl ?_
  refine j_callSW dL_law_1860 kL_get lL_288 stL_get (lw_get hl w _ _ _ _ LT (z_sc G (i + 1)) (z_sc G (i + 2))) (Nat.le_of_ble_eq_true rfl) ⟨(by show _ ≤ 793551; omega), (by show _ ≤ 6715452; omega)⟩ rfl (Nat.le_of_ble_eq_true rfl) rfl rfl (fun _ _ h => h.elim) ?_
  rintro _ w1 ⟨n1, rfl, LT1, hn1⟩
  refine j_istore (lo' := [(5, _), (0, _), (1, _), (2, _), (3, _), (4, _)]) dL_law_1863 (by decide) rfl ?_
  refine j_aload_n dL_law_1865 rfl rfl ?_
  refine j_aload_n dL_law_1866 rfl rfl ?_
  refine j_iload dL_law_1867 rfl ?_
  refine j_iconst (v := 1) dL_law_1869 (by decide) ?_
  refine j_iadd dL_law_1870 ?_
  refine j_top (congrArg Value.int (show nI i + (1 : Int32) = nI (i + 1) from nI_add i 1)) ?_
  refine j_sld dL_law_1871 (by omega) (by omega) ?_
  refine j_aload_n dL_law_1872 rfl rfl ?_
  refine j_iload dL_law_1873 rfl ?_
  refine j_iconst (v := 2) dL_law_1875 (by decide) ?_
  refine j_iadd dL_law_1876 ?_
  refine j_top (congrArg Value.int (show nI i + (2 : Int32) = nI (i + 2) from nI_add i 2)) ?_
  refine j_sld dL_law_1877 (by omega) (by omega) ?_
  obtain ⟨-, ⟨s40, hs40, -⟩, -⟩ := id LT1
  refine j_callV (q := (RX11, TX11, 8)) dL_law_1878 kX11_get lL_290 inX11_get seX11_get hs40.m rfl (kx_get hl w1 LT1 (z_sc G (i + 1)) (z_sc G (i + 2))) (Nat.le_of_ble_eq_true rfl) ⟨(by show _ ≤ 793551; omega), (by show _ ≤ 6715452; omega)⟩ rfl (Nat.le_of_ble_eq_true rfl) rfl rfl (fun _ _ h => h.elim) ?_
  rintro _ w2 ⟨r2, rfl, LT2, th2, hr2⟩
  refine j_istore (lo' := [(6, _), (5, _), (0, _), (1, _), (2, _), (3, _), (4, _)]) dL_law_1881 (by decide) rfl ?_
  refine j_goto (tgt := 2257) dL_law_1883 (by decide) ?_
  refine j_widen (kc' := kc + 200) (ks' := ks + 6000) (by omega) (by omega) ?_
  exact j_lo2 (KK _ _ _ LT2) (z_q1 rfl (z_q1 rfl (z_q1 rfl (z_q1 rfl (z_q1 rfl z_q0)))))
set_option maxRecDepth 100000 in
set_option maxHeartbeats 4000000 in
theorem lc_36 (hl : l.stackTraces = false) {w : z_W} {x i kc ks : Nat} {S : sp_S} {n : Int64} (LT : z_LX x S S n w) (hi6 : i + 6 ≤ z_sn G) (hsn : z_sn G ≤ 3072) (hkc : kc + 200 ≤ 793551) (hks : ks + 6000 ≤ 6715452) (KK : ∀ (S9 : sp_S) (n9 : Int64) (w9 : z_W), z_LX x S9 S9 n9 w9 → z_J G l mL_law z_SL 2257 (z_lol x i) [] w9 (kc + 200) (ks + 6000)) : z_J G l mL_law z_SL 1886 (z_lol x i) [] w kc ks := by
  show z_J G l mL_law _ 1886 [(0, _), (1, _), (2, _), (3, _), (4, _)] [] _ _ _
  refine j_aload_n dL_law_1886 rfl rfl ?_
  refine j_aload_n dL_law_1887 rfl rfl ?_
  refine j_iload dL_law_1888 rfl ?_
  refine j_iconst (v := 1) dL_law_1890 (by decide) ?_
  refine j_iadd dL_law_1891 ?_
  refine j_top (congrArg Value.int (show nI i + (1 : Int32) = nI (i + 1) from nI_add i 1)) ?_
  refine j_sld dL_law_1892 (by omega) (by omega) ?_
  refine j_aload_n dL_law_1893 rfl rfl ?_
  refine j_iload dL_law_1894 rfl ?_
  refine j_iconst (v := 2) dL_law_1896 (by decide) ?_
  refine j_iadd dL_law_1897 ?_
  refine j_top (congrArg Value.int (show nI i + (2 : Int32) = nI (i + 2) from nI_add i 2)) ?_
  refine j_sld dL_law_1898 (by omega) (by omega) ?_
  refine j_aload_n dL_law_1899 rfl rfl ?_
  refine j_iload dL_law_1900 rfl ?_
  refine j_iconst (v := 3) dL_law_1902 (by decide) ?_
  refine j_iadd dL_law_1903 ?_
  refine j_top (congrArg Value.int (show nI i + (3 : Int32) = nI (i + 3) from nI_add i 3)) ?_
  refine j_sld dL_law_1904 (by omega) (by omega) ?_
  refine j_aload_n dL_law_1905 rfl rfl ?_
  refine j_callSW dL_law_1906 kL_getOr lL_291 stL_getOr (lw_getOr hl w _ _ _ _ LT (z_sc G (i + 1)) (z_sc G (i + 2)) (z_sc G (i + 3))) (Nat.le_of_ble_eq_true rfl) ⟨(by show _ ≤ 793551; omega), (by show _ ≤ 6715452; omega)⟩ rfl (Nat.le_of_ble_eq_true rfl) rfl rfl (fun _ _ h => h.elim) ?_
  rintro _ w1 ⟨n1, rfl, LT1, hn1⟩
  refine j_istore (lo' := [(5, _), (0, _), (1, _), (2, _), (3, _), (4, _)]) dL_law_1909 (by decide) rfl ?_
  refine j_aload_n dL_law_1911 rfl rfl ?_
  refine j_aload_n dL_law_1912 rfl rfl ?_
  refine j_iload dL_law_1913 rfl ?_
  refine j_iconst (v := 1) dL_law_1915 (by decide) ?_
  refine j_iadd dL_law_1916 ?_
  refine j_top (congrArg Value.int (show nI i + (1 : Int32) = nI (i + 1) from nI_add i 1)) ?_
  refine j_sld dL_law_1917 (by omega) (by omega) ?_
  refine j_aload_n dL_law_1918 rfl rfl ?_
  refine j_iload dL_law_1919 rfl ?_
  refine j_iconst (v := 2) dL_law_1921 (by decide) ?_
  refine j_iadd dL_law_1922 ?_
  refine j_top (congrArg Value.int (show nI i + (2 : Int32) = nI (i + 2) from nI_add i 2)) ?_
  refine j_sld dL_law_1923 (by omega) (by omega) ?_
  refine j_aload_n dL_law_1924 rfl rfl ?_
  refine j_iload dL_law_1925 rfl ?_
  refine j_iconst (v := 3) dL_law_1927 (by decide) ?_
  refine j_iadd dL_law_1928 ?_
  refine j_top (congrArg Value.int (show nI i + (3 : Int32) = nI (i + 3) from nI_add i 3)) ?_
  refine j_sld dL_law_1929 (by omega) (by omega) ?_
  obtain ⟨-, ⟨s41, hs41, -⟩, -⟩ := id LT1
  refine j_callV (q := (RX11, TX11, 8)) dL_law_1930 kX11_getOr lL_293 inX11_getOr seX11_getOr hs41.m rfl (kx_getOr hl w1 LT1 (z_sc G (i + 1)) (z_sc G (i + 2)) (z_sc G (i + 3))) (Nat.le_of_ble_eq_true rfl) ⟨(by show _ ≤ 793551; omega), (by show _ ≤ 6715452; omega)⟩ rfl (Nat.le_of_ble_eq_true rfl) rfl rfl (fun _ _ h => h.elim) ?_
  rintro _ w2 ⟨r2, rfl, LT2, th2, hr2⟩
  refine j_istore (lo' := [(6, _), (5, _), (0, _), (1, _), (2, _), (3, _), (4, _)]) dL_law_1933 (by decide) rfl ?_
  refine j_goto (tgt := 2257) dL_law_1935 (by decide) ?_
  refine j_widen (kc' := kc + 200) (ks' := ks + 6000) (by omega) (by omega) ?_
  exact j_lo2 (KK _ _ _ LT2) (z_q1 rfl (z_q1 rfl (z_q1 rfl (z_q1 rfl (z_q1 rfl z_q0)))))
set_option maxRecDepth 100000 in
set_option maxHeartbeats 4000000 in
theorem lc_37 (hl : l.stackTraces = false) {w : z_W} {x i kc ks : Nat} {S : sp_S} {n : Int64} (LT : z_LX x S S n w) (hi6 : i + 6 ≤ z_sn G) (hsn : z_sn G ≤ 3072) (hkc : kc + 200 ≤ 793551) (hks : ks + 6000 ≤ 6715452) (KK : ∀ (S9 : sp_S) (n9 : Int64) (w9 : z_W), z_LX x S9 S9 n9 w9 → z_J G l mL_law z_SL 2257 (z_lol x i) [] w9 (kc + 200) (ks + 6000)) : z_J G l mL_law z_SL 1938 (z_lol x i) [] w kc ks := by
  show z_J G l mL_law _ 1938 [(0, _), (1, _), (2, _), (3, _), (4, _)] [] _ _ _
  refine j_aload_n dL_law_1938 rfl rfl ?_
  refine j_aload_n dL_law_1939 rfl rfl ?_
  refine j_iload dL_law_1940 rfl ?_
  refine j_iconst (v := 1) dL_law_1942 (by decide) ?_
  refine j_iadd dL_law_1943 ?_
  refine j_top (congrArg Value.int (show nI i + (1 : Int32) = nI (i + 1) from nI_add i 1)) ?_
  refine j_sld dL_law_1944 (by omega) (by omega) ?_
  refine j_aload_n dL_law_1945 rfl rfl ?_
  refine j_iload dL_law_1946 rfl ?_
  refine j_iconst (v := 2) dL_law_1948 (by decide) ?_
  refine j_iadd dL_law_1949 ?_
  refine j_top (congrArg Value.int (show nI i + (2 : Int32) = nI (i + 2) from nI_add i 2)) ?_
  refine j_sld dL_law_1950 (by omega) (by omega) ?_
  refine j_aload_n dL_law_1951 rfl rfl ?_
  refine j_callSW dL_law_1952 kL_has lL_294 stL_has (lw_has hl w _ _ _ _ LT (z_sc G (i + 1)) (z_sc G (i + 2))) (Nat.le_of_ble_eq_true rfl) ⟨(by show _ ≤ 793551; omega), (by show _ ≤ 6715452; omega)⟩ rfl (Nat.le_of_ble_eq_true rfl) rfl rfl (fun _ _ h => h.elim) ?_
  rintro _ w1 ⟨n1, rfl, LT1, hn1⟩
  refine j_istore (lo' := [(5, _), (0, _), (1, _), (2, _), (3, _), (4, _)]) dL_law_1955 (by decide) rfl ?_
  refine j_aload_n dL_law_1957 rfl rfl ?_
  refine j_aload_n dL_law_1958 rfl rfl ?_
  refine j_iload dL_law_1959 rfl ?_
  refine j_iconst (v := 1) dL_law_1961 (by decide) ?_
  refine j_iadd dL_law_1962 ?_
  refine j_top (congrArg Value.int (show nI i + (1 : Int32) = nI (i + 1) from nI_add i 1)) ?_
  refine j_sld dL_law_1963 (by omega) (by omega) ?_
  refine j_aload_n dL_law_1964 rfl rfl ?_
  refine j_iload dL_law_1965 rfl ?_
  refine j_iconst (v := 2) dL_law_1967 (by decide) ?_
  refine j_iadd dL_law_1968 ?_
  refine j_top (congrArg Value.int (show nI i + (2 : Int32) = nI (i + 2) from nI_add i 2)) ?_
  refine j_sld dL_law_1969 (by omega) (by omega) ?_
  obtain ⟨-, ⟨s42, hs42, -⟩, -⟩ := id LT1
  refine j_callV (q := (RX11, TX11, 8)) dL_law_1970 kX11_has lL_296 inX11_has seX11_has hs42.m rfl (kx_has hl w1 LT1 (z_sc G (i + 1)) (z_sc G (i + 2))) (Nat.le_of_ble_eq_true rfl) ⟨(by show _ ≤ 793551; omega), (by show _ ≤ 6715452; omega)⟩ rfl (Nat.le_of_ble_eq_true rfl) rfl rfl (fun _ _ h => h.elim) ?_
  rintro _ w2 ⟨r2, rfl, LT2, th2, hr2⟩
  refine j_istore (lo' := [(6, _), (5, _), (0, _), (1, _), (2, _), (3, _), (4, _)]) dL_law_1973 (by decide) rfl ?_
  refine j_goto (tgt := 2257) dL_law_1975 (by decide) ?_
  refine j_widen (kc' := kc + 200) (ks' := ks + 6000) (by omega) (by omega) ?_
  exact j_lo2 (KK _ _ _ LT2) (z_q1 rfl (z_q1 rfl (z_q1 rfl (z_q1 rfl (z_q1 rfl z_q0)))))
set_option maxRecDepth 100000 in
set_option maxHeartbeats 4000000 in
theorem lc_38 (hl : l.stackTraces = false) {w : z_W} {x i kc ks : Nat} {S : sp_S} {n : Int64} (LT : z_LX x S S n w) (hi6 : i + 6 ≤ z_sn G) (hsn : z_sn G ≤ 3072) (hkc : kc + 200 ≤ 793551) (hks : ks + 6000 ≤ 6715452) (KK : ∀ (S9 : sp_S) (n9 : Int64) (w9 : z_W), z_LX x S9 S9 n9 w9 → z_J G l mL_law z_SL 2257 (z_lol x i) [] w9 (kc + 200) (ks + 6000)) : z_J G l mL_law z_SL 1978 (z_lol x i) [] w kc ks := by
  show z_J G l mL_law _ 1978 [(0, _), (1, _), (2, _), (3, _), (4, _)] [] _ _ _
  refine j_aload_n dL_law_1978 rfl rfl ?_
  refine j_aload_n dL_law_1979 rfl rfl ?_
  refine j_iload dL_law_1980 rfl ?_
  refine j_iconst (v := 1) dL_law_1982 (by decide) ?_
  refine j_iadd dL_law_1983 ?_
  refine j_top (congrArg Value.int (show nI i + (1 : Int32) = nI (i + 1) from nI_add i 1)) ?_
  refine j_sld dL_law_1984 (by omega) (by omega) ?_
  refine j_aload_n dL_law_1985 rfl rfl ?_
  refine j_callSW dL_law_1986 kL_size lL_297 stL_size (lw_size hl w _ _ _ _ LT (z_sc G (i + 1))) (Nat.le_of_ble_eq_true rfl) ⟨(by show _ ≤ 793551; omega), (by show _ ≤ 6715452; omega)⟩ rfl (Nat.le_of_ble_eq_true rfl) rfl rfl (fun _ _ h => h.elim) ?_
  rintro _ w1 ⟨n1, rfl, LT1, hn1⟩
  refine j_istore (lo' := [(5, _), (0, _), (1, _), (2, _), (3, _), (4, _)]) dL_law_1989 (by decide) rfl ?_
  refine j_aload_n dL_law_1991 rfl rfl ?_
  refine j_aload_n dL_law_1992 rfl rfl ?_
  refine j_iload dL_law_1993 rfl ?_
  refine j_iconst (v := 1) dL_law_1995 (by decide) ?_
  refine j_iadd dL_law_1996 ?_
  refine j_top (congrArg Value.int (show nI i + (1 : Int32) = nI (i + 1) from nI_add i 1)) ?_
  refine j_sld dL_law_1997 (by omega) (by omega) ?_
  obtain ⟨-, ⟨s43, hs43, -⟩, -⟩ := id LT1
  refine j_callV (q := (RX11, TX11, 8)) dL_law_1998 kX11_size lL_299 inX11_size seX11_size hs43.m rfl (kx_size hl w1 LT1 (z_sc G (i + 1))) (Nat.le_of_ble_eq_true rfl) ⟨(by show _ ≤ 793551; omega), (by show _ ≤ 6715452; omega)⟩ rfl (Nat.le_of_ble_eq_true rfl) rfl rfl (fun _ _ h => h.elim) ?_
  rintro _ w2 ⟨r2, rfl, LT2, th2, hr2⟩
  refine j_istore (lo' := [(6, _), (5, _), (0, _), (1, _), (2, _), (3, _), (4, _)]) dL_law_2001 (by decide) rfl ?_
  refine j_goto (tgt := 2257) dL_law_2003 (by decide) ?_
  refine j_widen (kc' := kc + 200) (ks' := ks + 6000) (by omega) (by omega) ?_
  exact j_lo2 (KK _ _ _ LT2) (z_q1 rfl (z_q1 rfl (z_q1 rfl (z_q1 rfl (z_q1 rfl z_q0)))))
set_option maxRecDepth 100000 in
set_option maxHeartbeats 4000000 in
theorem lc_39 (hl : l.stackTraces = false) {w : z_W} {x i kc ks : Nat} {S : sp_S} {n : Int64} (LT : z_LX x S S n w) (hi6 : i + 6 ≤ z_sn G) (hsn : z_sn G ≤ 3072) (hkc : kc + 200 ≤ 793551) (hks : ks + 6000 ≤ 6715452) (KK : ∀ (S9 : sp_S) (n9 : Int64) (w9 : z_W), z_LX x S9 S9 n9 w9 → z_J G l mL_law z_SL 2257 (z_lol x i) [] w9 (kc + 200) (ks + 6000)) : z_J G l mL_law z_SL 2006 (z_lol x i) [] w kc ks := by
  show z_J G l mL_law _ 2006 [(0, _), (1, _), (2, _), (3, _), (4, _)] [] _ _ _
  refine j_aload_n dL_law_2006 rfl rfl ?_
  refine j_aload_n dL_law_2007 rfl rfl ?_
  refine j_iload dL_law_2008 rfl ?_
  refine j_iconst (v := 1) dL_law_2010 (by decide) ?_
  refine j_iadd dL_law_2011 ?_
  refine j_top (congrArg Value.int (show nI i + (1 : Int32) = nI (i + 1) from nI_add i 1)) ?_
  refine j_sld dL_law_2012 (by omega) (by omega) ?_
  refine j_aload_n dL_law_2013 rfl rfl ?_
  refine j_callSW dL_law_2014 kL_text lL_300 stL_text (lw_text hl w _ _ _ _ LT (z_sc G (i + 1))) (Nat.le_of_ble_eq_true rfl) ⟨(by show _ ≤ 793551; omega), (by show _ ≤ 6715452; omega)⟩ rfl (Nat.le_of_ble_eq_true rfl) rfl rfl (fun _ _ h => h.elim) ?_
  rintro _ w1 ⟨r1, n1, rfl, LT1⟩
  refine j_istore (lo' := [(5, _), (0, _), (1, _), (2, _), (3, _), (4, _)]) dL_law_2017 (by decide) rfl ?_
  refine j_aload_n dL_law_2019 rfl rfl ?_
  refine j_aload_n dL_law_2020 rfl rfl ?_
  refine j_iload dL_law_2021 rfl ?_
  refine j_iconst (v := 1) dL_law_2023 (by decide) ?_
  refine j_iadd dL_law_2024 ?_
  refine j_top (congrArg Value.int (show nI i + (1 : Int32) = nI (i + 1) from nI_add i 1)) ?_
  refine j_sld dL_law_2025 (by omega) (by omega) ?_
  obtain ⟨-, ⟨s44, hs44, -⟩, -⟩ := id LT1
  refine j_callV (q := (RX11, TX11, 8)) dL_law_2026 kX11_text lL_302 inX11_text seX11_text hs44.m rfl (kx_text hl w1 LT1 (z_sc G (i + 1))) (Nat.le_of_ble_eq_true rfl) ⟨(by show _ ≤ 793551; omega), (by show _ ≤ 6715452; omega)⟩ rfl (Nat.le_of_ble_eq_true rfl) rfl rfl (fun _ _ h => h.elim) ?_
  rintro _ w2 ⟨r2, rfl, hir2, LT2⟩
  refine j_astore (lo' := [(6, _), (5, _), (0, _), (1, _), (2, _), (3, _), (4, _)]) dL_law_2029 hir2 (by decide) rfl ?_
  refine j_goto (tgt := 2257) dL_law_2031 (by decide) ?_
  refine j_widen (kc' := kc + 200) (ks' := ks + 6000) (by omega) (by omega) ?_
  exact j_lo2 (KK _ _ _ LT2) (z_q1 rfl (z_q1 rfl (z_q1 rfl (z_q1 rfl (z_q1 rfl z_q0)))))
set_option maxRecDepth 100000 in
set_option maxHeartbeats 4000000 in
theorem lc_40 (hl : l.stackTraces = false) {w : z_W} {x i kc ks : Nat} {S : sp_S} {n : Int64} (LT : z_LX x S S n w) (hi6 : i + 6 ≤ z_sn G) (hsn : z_sn G ≤ 3072) (hkc : kc + 200 ≤ 793551) (hks : ks + 6000 ≤ 6715452) (KK : ∀ (S9 : sp_S) (n9 : Int64) (w9 : z_W), z_LX x S9 S9 n9 w9 → z_J G l mL_law z_SL 2257 (z_lol x i) [] w9 (kc + 200) (ks + 6000)) : z_J G l mL_law z_SL 2034 (z_lol x i) [] w kc ks := by
  show z_J G l mL_law _ 2034 [(0, _), (1, _), (2, _), (3, _), (4, _)] [] _ _ _
  refine j_aload_n dL_law_2034 rfl rfl ?_
  refine j_aload_n dL_law_2035 rfl rfl ?_
  refine j_iload dL_law_2036 rfl ?_
  refine j_iconst (v := 1) dL_law_2038 (by decide) ?_
  refine j_iadd dL_law_2039 ?_
  refine j_top (congrArg Value.int (show nI i + (1 : Int32) = nI (i + 1) from nI_add i 1)) ?_
  refine j_sld dL_law_2040 (by omega) (by omega) ?_
  refine j_aload_n dL_law_2041 rfl rfl ?_
  refine j_iload dL_law_2042 rfl ?_
  refine j_iconst (v := 2) dL_law_2044 (by decide) ?_
  refine j_iadd dL_law_2045 ?_
  refine j_top (congrArg Value.int (show nI i + (2 : Int32) = nI (i + 2) from nI_add i 2)) ?_
  refine j_sld dL_law_2046 (by omega) (by omega) ?_
  refine j_aload_n dL_law_2047 rfl rfl ?_
  refine j_callSW dL_law_2048 kL_areLike lL_303 stL_areLike (lw_areLike hl w _ _ _ _ LT (z_sc G (i + 1)) (z_sc G (i + 2))) (Nat.le_of_ble_eq_true rfl) ⟨(by show _ ≤ 793551; omega), (by show _ ≤ 6715452; omega)⟩ rfl (Nat.le_of_ble_eq_true rfl) rfl rfl (fun _ _ h => h.elim) ?_
  rintro _ w1 ⟨n1, rfl, LT1, hn1⟩
  refine j_istore (lo' := [(5, _), (0, _), (1, _), (2, _), (3, _), (4, _)]) dL_law_2051 (by decide) rfl ?_
  refine j_aload_n dL_law_2053 rfl rfl ?_
  refine j_aload_n dL_law_2054 rfl rfl ?_
  refine j_iload dL_law_2055 rfl ?_
  refine j_iconst (v := 1) dL_law_2057 (by decide) ?_
  refine j_iadd dL_law_2058 ?_
  refine j_top (congrArg Value.int (show nI i + (1 : Int32) = nI (i + 1) from nI_add i 1)) ?_
  refine j_sld dL_law_2059 (by omega) (by omega) ?_
  refine j_aload_n dL_law_2060 rfl rfl ?_
  refine j_iload dL_law_2061 rfl ?_
  refine j_iconst (v := 2) dL_law_2063 (by decide) ?_
  refine j_iadd dL_law_2064 ?_
  refine j_top (congrArg Value.int (show nI i + (2 : Int32) = nI (i + 2) from nI_add i 2)) ?_
  refine j_sld dL_law_2065 (by omega) (by omega) ?_
  obtain ⟨-, ⟨s45, hs45, -⟩, -⟩ := id LT1
  refine j_callV (q := (RX11, TX11, 8)) dL_law_2066 kX11_areLike lL_305 inX11_areLike seX11_areLike hs45.m rfl (kx_areLike hl w1 LT1 (z_sc G (i + 1)) (z_sc G (i + 2))) (Nat.le_of_ble_eq_true rfl) ⟨(by show _ ≤ 793551; omega), (by show _ ≤ 6715452; omega)⟩ rfl (Nat.le_of_ble_eq_true rfl) rfl rfl (fun _ _ h => h.elim) ?_
  rintro _ w2 ⟨r2, rfl, LT2, th2, hr2⟩
  refine j_istore (lo' := [(6, _), (5, _), (0, _), (1, _), (2, _), (3, _), (4, _)]) dL_law_2069 (by decide) rfl ?_
  refine j_goto (tgt := 2257) dL_law_2071 (by decide) ?_
  refine j_widen (kc' := kc + 200) (ks' := ks + 6000) (by omega) (by omega) ?_
  exact j_lo2 (KK _ _ _ LT2) (z_q1 rfl (z_q1 rfl (z_q1 rfl (z_q1 rfl (z_q1 rfl z_q0)))))
set_option maxRecDepth 100000 in
set_option maxHeartbeats 4000000 in
theorem lc_41 (hl : l.stackTraces = false) {w : z_W} {x i kc ks : Nat} {S : sp_S} {n : Int64} (LT : z_LX x S S n w) (hi6 : i + 6 ≤ z_sn G) (hsn : z_sn G ≤ 3072) (hkc : kc + 200 ≤ 793551) (hks : ks + 6000 ≤ 6715452) (KK : ∀ (S9 : sp_S) (n9 : Int64) (w9 : z_W), z_LX x S9 S9 n9 w9 → z_J G l mL_law z_SL 2257 (z_lol x i) [] w9 (kc + 200) (ks + 6000)) : z_J G l mL_law z_SL 2074 (z_lol x i) [] w kc ks := by
  show z_J G l mL_law _ 2074 [(0, _), (1, _), (2, _), (3, _), (4, _)] [] _ _ _
  refine j_aload_n dL_law_2074 rfl rfl ?_
  refine j_aload_n dL_law_2075 rfl rfl ?_
  refine j_iload dL_law_2076 rfl ?_
  refine j_iconst (v := 1) dL_law_2078 (by decide) ?_
  refine j_iadd dL_law_2079 ?_
  refine j_top (congrArg Value.int (show nI i + (1 : Int32) = nI (i + 1) from nI_add i 1)) ?_
  refine j_sld dL_law_2080 (by omega) (by omega) ?_
  refine j_aload_n dL_law_2081 rfl rfl ?_
  refine j_iload dL_law_2082 rfl ?_
  refine j_iconst (v := 2) dL_law_2084 (by decide) ?_
  refine j_iadd dL_law_2085 ?_
  refine j_top (congrArg Value.int (show nI i + (2 : Int32) = nI (i + 2) from nI_add i 2)) ?_
  refine j_sld dL_law_2086 (by omega) (by omega) ?_
  refine j_aload_n dL_law_2087 rfl rfl ?_
  refine j_iload dL_law_2088 rfl ?_
  refine j_iconst (v := 3) dL_law_2090 (by decide) ?_
  refine j_iadd dL_law_2091 ?_
  refine j_top (congrArg Value.int (show nI i + (3 : Int32) = nI (i + 3) from nI_add i 3)) ?_
  refine j_sld dL_law_2092 (by omega) (by omega) ?_
  refine j_aload_n dL_law_2093 rfl rfl ?_
  refine j_iload dL_law_2094 rfl ?_
  refine j_iconst (v := 4) dL_law_2096 (by decide) ?_
  refine j_iadd dL_law_2097 ?_
  refine j_top (congrArg Value.int (show nI i + (4 : Int32) = nI (i + 4) from nI_add i 4)) ?_
  refine j_sld dL_law_2098 (by omega) (by omega) ?_
  refine j_aload_n dL_law_2099 rfl rfl ?_
  refine j_callSW dL_law_2100 kL_given lL_306 stL_given (lw_given hl w _ _ _ _ LT (z_sc G (i + 1)) (z_sc G (i + 2)) (z_sc G (i + 3)) (z_sc G (i + 4))) (Nat.le_of_ble_eq_true rfl) ⟨(by show _ ≤ 793551; omega), (by show _ ≤ 6715452; omega)⟩ rfl (Nat.le_of_ble_eq_true rfl) rfl rfl (fun _ _ h => h.elim) ?_
  rintro _ w1 ⟨n1, rfl, LT1, hn1⟩
  refine j_istore (lo' := [(5, _), (0, _), (1, _), (2, _), (3, _), (4, _)]) dL_law_2103 (by decide) rfl ?_
  refine j_aload_n dL_law_2105 rfl rfl ?_
  refine j_aload_n dL_law_2106 rfl rfl ?_
  refine j_iload dL_law_2107 rfl ?_
  refine j_iconst (v := 1) dL_law_2109 (by decide) ?_
  refine j_iadd dL_law_2110 ?_
  refine j_top (congrArg Value.int (show nI i + (1 : Int32) = nI (i + 1) from nI_add i 1)) ?_
  refine j_sld dL_law_2111 (by omega) (by omega) ?_
  refine j_aload_n dL_law_2112 rfl rfl ?_
  refine j_iload dL_law_2113 rfl ?_
  refine j_iconst (v := 2) dL_law_2115 (by decide) ?_
  refine j_iadd dL_law_2116 ?_
  refine j_top (congrArg Value.int (show nI i + (2 : Int32) = nI (i + 2) from nI_add i 2)) ?_
  refine j_sld dL_law_2117 (by omega) (by omega) ?_
  refine j_aload_n dL_law_2118 rfl rfl ?_
  refine j_iload dL_law_2119 rfl ?_
  refine j_iconst (v := 3) dL_law_2121 (by decide) ?_
  refine j_iadd dL_law_2122 ?_
  refine j_top (congrArg Value.int (show nI i + (3 : Int32) = nI (i + 3) from nI_add i 3)) ?_
  refine j_sld dL_law_2123 (by omega) (by omega) ?_
  refine j_aload_n dL_law_2124 rfl rfl ?_
  refine j_iload dL_law_2125 rfl ?_
  refine j_iconst (v := 4) dL_law_2127 (by decide) ?_
  refine j_iadd dL_law_2128 ?_
  refine j_top (congrArg Value.int (show nI i + (4 : Int32) = nI (i + 4) from nI_add i 4)) ?_
  refine j_sld dL_law_2129 (by omega) (by omega) ?_
  obtain ⟨-, ⟨s46, hs46, -⟩, -⟩ := id LT1
  refine j_callV (q := (RX11, TX11, 8)) dL_law_2130 kX11_given lL_308 inX11_given seX11_given hs46.m rfl (kx_given hl w1 LT1 (z_sc G (i + 1)) (z_sc G (i + 2)) (z_sc G (i + 3)) (z_sc G (i + 4))) (Nat.le_of_ble_eq_true rfl) ⟨(by show _ ≤ 793551; omega), (by show _ ≤ 6715452; omega)⟩ rfl (Nat.le_of_ble_eq_true rfl) rfl rfl (fun _ _ h => h.elim) ?_
  rintro _ w2 ⟨r2, rfl, LT2, th2, hr2⟩
  refine j_istore (lo' := [(6, _), (5, _), (0, _), (1, _), (2, _), (3, _), (4, _)]) dL_law_2133 (by decide) rfl ?_
  refine j_goto (tgt := 2257) dL_law_2135 (by decide) ?_
  refine j_widen (kc' := kc + 200) (ks' := ks + 6000) (by omega) (by omega) ?_
  exact j_lo2 (KK _ _ _ LT2) (z_q1 rfl (z_q1 rfl (z_q1 rfl (z_q1 rfl (z_q1 rfl z_q0)))))
set_option maxRecDepth 100000 in
set_option maxHeartbeats 4000000 in
theorem lc_42 (hl : l.stackTraces = false) {w : z_W} {x i kc ks : Nat} {S : sp_S} {n : Int64} (LT : z_LX x S S n w) (hi6 : i + 6 ≤ z_sn G) (hsn : z_sn G ≤ 3072) (hkc : kc + 200 ≤ 793551) (hks : ks + 6000 ≤ 6715452) (KK : ∀ (S9 : sp_S) (n9 : Int64) (w9 : z_W), z_LX x S9 S9 n9 w9 → z_J G l mL_law z_SL 2257 (z_lol x i) [] w9 (kc + 200) (ks + 6000)) : z_J G l mL_law z_SL 2138 (z_lol x i) [] w kc ks := by
  show z_J G l mL_law _ 2138 [(0, _), (1, _), (2, _), (3, _), (4, _)] [] _ _ _
  refine j_aload_n dL_law_2138 rfl rfl ?_
  refine j_aload_n dL_law_2139 rfl rfl ?_
  refine j_iload dL_law_2140 rfl ?_
  refine j_iconst (v := 1) dL_law_2142 (by decide) ?_
  refine j_iadd dL_law_2143 ?_
  refine j_top (congrArg Value.int (show nI i + (1 : Int32) = nI (i + 1) from nI_add i 1)) ?_
  refine j_sld dL_law_2144 (by omega) (by omega) ?_
  refine j_aload_n dL_law_2145 rfl rfl ?_
  refine j_iload dL_law_2146 rfl ?_
  refine j_iconst (v := 2) dL_law_2148 (by decide) ?_
  refine j_iadd dL_law_2149 ?_
  refine j_top (congrArg Value.int (show nI i + (2 : Int32) = nI (i + 2) from nI_add i 2)) ?_
  refine j_sld dL_law_2150 (by omega) (by omega) ?_
  refine j_aload_n dL_law_2151 rfl rfl ?_
  refine j_iload dL_law_2152 rfl ?_
  refine j_iconst (v := 3) dL_law_2154 (by decide) ?_
  refine j_iadd dL_law_2155 ?_
  refine j_top (congrArg Value.int (show nI i + (3 : Int32) = nI (i + 3) from nI_add i 3)) ?_
  refine j_sld dL_law_2156 (by omega) (by omega) ?_
  refine j_aload_n dL_law_2157 rfl rfl ?_
  refine j_callSW dL_law_2158 kL_tested lL_309 stL_tested (lw_tested hl w _ _ _ _ LT (z_sc G (i + 1)) (z_sc G (i + 2)) (z_sc G (i + 3))) (Nat.le_of_ble_eq_true rfl) ⟨(by show _ ≤ 793551; omega), (by show _ ≤ 6715452; omega)⟩ rfl (Nat.le_of_ble_eq_true rfl) rfl rfl (fun _ _ h => h.elim) ?_
  rintro _ w1 ⟨n1, rfl, LT1, hn1⟩
  refine j_istore (lo' := [(5, _), (0, _), (1, _), (2, _), (3, _), (4, _)]) dL_law_2161 (by decide) rfl ?_
  refine j_aload_n dL_law_2163 rfl rfl ?_
  refine j_aload_n dL_law_2164 rfl rfl ?_
  refine j_iload dL_law_2165 rfl ?_
  refine j_iconst (v := 1) dL_law_2167 (by decide) ?_
  refine j_iadd dL_law_2168 ?_
  refine j_top (congrArg Value.int (show nI i + (1 : Int32) = nI (i + 1) from nI_add i 1)) ?_
  refine j_sld dL_law_2169 (by omega) (by omega) ?_
  refine j_aload_n dL_law_2170 rfl rfl ?_
  refine j_iload dL_law_2171 rfl ?_
  refine j_iconst (v := 2) dL_law_2173 (by decide) ?_
  refine j_iadd dL_law_2174 ?_
  refine j_top (congrArg Value.int (show nI i + (2 : Int32) = nI (i + 2) from nI_add i 2)) ?_
  refine j_sld dL_law_2175 (by omega) (by omega) ?_
  refine j_aload_n dL_law_2176 rfl rfl ?_
  refine j_iload dL_law_2177 rfl ?_
  refine j_iconst (v := 3) dL_law_2179 (by decide) ?_
  refine j_iadd dL_law_2180 ?_
  refine j_top (congrArg Value.int (show nI i + (3 : Int32) = nI (i + 3) from nI_add i 3)) ?_
  refine j_sld dL_law_2181 (by omega) (by omega) ?_
  obtain ⟨-, ⟨s47, hs47, -⟩, -⟩ := id LT1
  refine j_callV (q := (RX11, TX11, 8)) dL_law_2182 kX11_tested lL_311 inX11_tested seX11_tested hs47.m rfl (kx_tested hl w1 LT1 (z_sc G (i + 1)) (z_sc G (i + 2)) (z_sc G (i + 3))) (Nat.le_of_ble_eq_true rfl) ⟨(by show _ ≤ 793551; omega), (by show _ ≤ 6715452; omega)⟩ rfl (Nat.le_of_ble_eq_true rfl) rfl rfl (fun _ _ h => h.elim) ?_
  rintro _ w2 ⟨r2, rfl, LT2, th2, hr2⟩
  refine j_istore (lo' := [(6, _), (5, _), (0, _), (1, _), (2, _), (3, _), (4, _)]) dL_law_2185 (by decide) rfl ?_
  refine j_goto (tgt := 2257) dL_law_2187 (by decide) ?_
  refine j_widen (kc' := kc + 200) (ks' := ks + 6000) (by omega) (by omega) ?_
  exact j_lo2 (KK _ _ _ LT2) (z_q1 rfl (z_q1 rfl (z_q1 rfl (z_q1 rfl (z_q1 rfl z_q0)))))
set_option maxRecDepth 100000 in
set_option maxHeartbeats 4000000 in
theorem lc_43 (hl : l.stackTraces = false) {w : z_W} {x i kc ks : Nat} {S : sp_S} {n : Int64} (LT : z_LX x S S n w) (hi6 : i + 6 ≤ z_sn G) (hsn : z_sn G ≤ 3072) (hkc : kc + 200 ≤ 793551) (hks : ks + 6000 ≤ 6715452) (KK : ∀ (S9 : sp_S) (n9 : Int64) (w9 : z_W), z_LX x S9 S9 n9 w9 → z_J G l mL_law z_SL 2257 (z_lol x i) [] w9 (kc + 200) (ks + 6000)) : z_J G l mL_law z_SL 2190 (z_lol x i) [] w kc ks := by
  show z_J G l mL_law _ 2190 [(0, _), (1, _), (2, _), (3, _), (4, _)] [] _ _ _
  refine j_aload_n dL_law_2190 rfl rfl ?_
  obtain ⟨fs48, gs48⟩ := LT.rc
  refine j_callV (q := (RX8, TX8, 9)) dL_law_2191 kX8_knock lL_312 inX8_knock seX8_knock gs48 rfl (px_knock hl w _ LT.1.1 LT.1.2) (Nat.le_of_ble_eq_true rfl) ⟨(by show _ ≤ 793551; omega), (by show _ ≤ 6715452; omega)⟩ rfl (Nat.le_of_ble_eq_true rfl) rfl rfl (fun _ _ h => h.elim) ?_
  rintro _ w1 ⟨rfl, hW1, hh1⟩
  have LT1 := LT.cls hW1 (okk_knock LT.1.2) hh1
  refine j_pop dL_law_2194 rfl ?_
  refine j_aload_n dL_law_2195 rfl rfl ?_
  obtain ⟨-, ⟨s49, hs49, -⟩, -⟩ := id LT1
  refine j_callV (q := (RX11, TX11, 8)) dL_law_2196 kX11_knock lL_315 inX11_knock seX11_knock hs49.m rfl (kx_knock hl w1 LT1) (Nat.le_of_ble_eq_true rfl) ⟨(by show _ ≤ 793551; omega), (by show _ ≤ 6715452; omega)⟩ rfl (Nat.le_of_ble_eq_true rfl) rfl rfl (fun _ _ h => h.elim) ?_
  rintro _ w2 ⟨r2, rfl, LT2, th2, hr2⟩
  refine j_pop dL_law_2199 rfl ?_
  refine j_goto (tgt := 2257) dL_law_2200 (by decide) ?_
  refine j_widen (kc' := kc + 200) (ks' := ks + 6000) (by omega) (by omega) ?_
  exact j_lo2 (KK _ _ _ LT2) (z_q1 rfl (z_q1 rfl (z_q1 rfl (z_q1 rfl (z_q1 rfl z_q0)))))
set_option maxRecDepth 100000 in
set_option maxHeartbeats 4000000 in
theorem lc_44 (hl : l.stackTraces = false) {w : z_W} {x i kc ks : Nat} {S : sp_S} {n : Int64} (LT : z_LX x S S n w) (hi6 : i + 6 ≤ z_sn G) (hsn : z_sn G ≤ 3072) (hkc : kc + 200 ≤ 793551) (hks : ks + 6000 ≤ 6715452) (KK : ∀ (S9 : sp_S) (n9 : Int64) (w9 : z_W), z_LX x S9 S9 n9 w9 → z_J G l mL_law z_SL 2257 (z_lol x i) [] w9 (kc + 200) (ks + 6000)) : z_J G l mL_law z_SL 2203 (z_lol x i) [] w kc ks := by
  show z_J G l mL_law _ 2203 [(0, _), (1, _), (2, _), (3, _), (4, _)] [] _ _ _
  refine j_aload_n dL_law_2203 rfl rfl ?_
  refine j_aload_n dL_law_2204 rfl rfl ?_
  refine j_iload dL_law_2205 rfl ?_
  refine j_iconst (v := 1) dL_law_2207 (by decide) ?_
  refine j_iadd dL_law_2208 ?_
  refine j_top (congrArg Value.int (show nI i + (1 : Int32) = nI (i + 1) from nI_add i 1)) ?_
  refine j_sld dL_law_2209 (by omega) (by omega) ?_
  refine j_aload_n dL_law_2210 rfl rfl ?_
  refine j_callSW dL_law_2211 kL_house lL_316 stL_house (lw_house hl w _ _ _ _ LT (z_sc G (i + 1))) (Nat.le_of_ble_eq_true rfl) ⟨(by show _ ≤ 793551; omega), (by show _ ≤ 6715452; omega)⟩ rfl (Nat.le_of_ble_eq_true rfl) rfl rfl (fun _ _ h => h.elim) ?_
  rintro _ w1 ⟨n1, rfl, LT1, hn1⟩
  refine j_istore (lo' := [(5, _), (0, _), (1, _), (2, _), (3, _), (4, _)]) dL_law_2214 (by decide) rfl ?_
  refine j_aload_n dL_law_2216 rfl rfl ?_
  refine j_aload_n dL_law_2217 rfl rfl ?_
  refine j_iload dL_law_2218 rfl ?_
  refine j_iconst (v := 1) dL_law_2220 (by decide) ?_
  refine j_iadd dL_law_2221 ?_
  refine j_top (congrArg Value.int (show nI i + (1 : Int32) = nI (i + 1) from nI_add i 1)) ?_
  refine j_sld dL_law_2222 (by omega) (by omega) ?_
  obtain ⟨-, ⟨s50, hs50, -⟩, -⟩ := id LT1
  refine j_callV (q := (RX11, TX11, 8)) dL_law_2223 kX11_house lL_318 inX11_house seX11_house hs50.m rfl (kx_house hl w1 LT1 (z_sc G (i + 1))) (Nat.le_of_ble_eq_true rfl) ⟨(by show _ ≤ 793551; omega), (by show _ ≤ 6715452; omega)⟩ rfl (Nat.le_of_ble_eq_true rfl) rfl rfl (fun _ _ h => h.elim) ?_
  rintro _ w2 ⟨r2, rfl, LT2, th2, hr2⟩
  refine j_istore (lo' := [(6, _), (5, _), (0, _), (1, _), (2, _), (3, _), (4, _)]) dL_law_2226 (by decide) rfl ?_
  refine j_goto (tgt := 2257) dL_law_2228 (by decide) ?_
  refine j_widen (kc' := kc + 200) (ks' := ks + 6000) (by omega) (by omega) ?_
  exact j_lo2 (KK _ _ _ LT2) (z_q1 rfl (z_q1 rfl (z_q1 rfl (z_q1 rfl (z_q1 rfl z_q0)))))
set_option maxRecDepth 100000 in
set_option maxHeartbeats 4000000 in
theorem lc_45 (hl : l.stackTraces = false) {w : z_W} {x i kc ks : Nat} {S : sp_S} {n : Int64} (LT : z_LX x S S n w) (hi6 : i + 6 ≤ z_sn G) (hsn : z_sn G ≤ 3072) (hkc : kc + 200 ≤ 793551) (hks : ks + 6000 ≤ 6715452) (KK : ∀ (S9 : sp_S) (n9 : Int64) (w9 : z_W), z_LX x S9 S9 n9 w9 → z_J G l mL_law z_SL 2257 (z_lol x i) [] w9 (kc + 200) (ks + 6000)) : z_J G l mL_law z_SL 2231 (z_lol x i) [] w kc ks := by
  show z_J G l mL_law _ 2231 [(0, _), (1, _), (2, _), (3, _), (4, _)] [] _ _ _
  refine j_aload_n dL_law_2231 rfl rfl ?_
  obtain ⟨fs51, gs51⟩ := LT.rc
  refine j_callV (q := (RX8, TX8, 9)) dL_law_2232 kX8_isSound lL_319 inX8_isSound seX8_isSound gs51 rfl (px_isSound hl w _ LT.1.1) (Nat.le_of_ble_eq_true rfl) ⟨(by show _ ≤ 793551; omega), (by show _ ≤ 6715452; omega)⟩ rfl (Nat.le_of_ble_eq_true rfl) rfl rfl (fun _ _ h => h.elim) ?_
  rintro _ w1 ⟨rfl, hW1, hh1⟩
  have LT1 := LT.cls hW1 LT.1.2 hh1
  refine j_pop dL_law_2235 rfl ?_
  refine j_aload_n dL_law_2236 rfl rfl ?_
  obtain ⟨-, ⟨s52, hs52, -⟩, -⟩ := id LT1
  refine j_callV (q := (RX11, TX11, 8)) dL_law_2237 kX11_isSound lL_323 inX11_isSound seX11_isSound hs52.m rfl (kx_isSound hl w1 LT1) (Nat.le_of_ble_eq_true rfl) ⟨(by show _ ≤ 793551; omega), (by show _ ≤ 6715452; omega)⟩ rfl (Nat.le_of_ble_eq_true rfl) rfl rfl (fun _ _ h => h.elim) ?_
  rintro _ w2 ⟨r2, rfl, LT2, th2, hr2⟩
  refine j_pop dL_law_2240 rfl ?_
  refine j_goto (tgt := 2257) dL_law_2241 (by decide) ?_
  refine j_widen (kc' := kc + 200) (ks' := ks + 6000) (by omega) (by omega) ?_
  exact j_lo2 (KK _ _ _ LT2) (z_q1 rfl (z_q1 rfl (z_q1 rfl (z_q1 rfl (z_q1 rfl z_q0)))))
set_option maxRecDepth 100000 in
set_option maxHeartbeats 4000000 in
theorem lc_46 (hl : l.stackTraces = false) {w : z_W} {x i kc ks : Nat} {S : sp_S} {n : Int64} (LT : z_LX x S S n w) (hi6 : i + 6 ≤ z_sn G) (hsn : z_sn G ≤ 3072) (hkc : kc + 200 ≤ 793551) (hks : ks + 6000 ≤ 6715452) (KK : ∀ (S9 : sp_S) (n9 : Int64) (w9 : z_W), z_LX x S9 S9 n9 w9 → z_J G l mL_law z_SL 2257 (z_lol x i) [] w9 (kc + 200) (ks + 6000)) : z_J G l mL_law z_SL 2244 (z_lol x i) [] w kc ks := by
  show z_J G l mL_law _ 2244 [(0, _), (1, _), (2, _), (3, _), (4, _)] [] _ _ _
  refine j_aload_n dL_law_2244 rfl rfl ?_
  obtain ⟨fs53, gs53⟩ := LT.rc
  obtain ⟨kn, xa, xb, b0, b1, hWk⟩ := LT.1.1.Wk
  refine j_callV (q := (RX8, TX8, 9)) dL_law_2245 kX8_digest lL_324 inX8_digest seX8_digest gs53 rfl (pt_digest hl w _ LT.1.1 kn xa xb b0 b1 hWk LT.fn) (Nat.le_of_ble_eq_true rfl) ⟨(by show _ ≤ 793551; omega), (by show _ ≤ 6715452; omega)⟩ rfl (Nat.le_of_ble_eq_true rfl) rfl rfl (fun _ _ h => h.elim) ?_
  rintro _ w1 ⟨⟨x1, rfl⟩, hW1, hh1⟩
  have LT1 := LT.cls hW1 LT.1.2 hh1
  refine j_pop2 dL_law_2248 rfl ?_
  refine j_aload_n dL_law_2249 rfl rfl ?_
  obtain ⟨-, ⟨s54, hs54, -⟩, -⟩ := id LT1
  refine j_callV (q := (RX11, TX11, 8)) dL_law_2250 kX11_digest lL_328 inX11_digest seX11_digest hs54.m rfl (kx_digest hl w1 LT1) (Nat.le_of_ble_eq_true rfl) ⟨(by show _ ≤ 793551; omega), (by show _ ≤ 6715452; omega)⟩ rfl (Nat.le_of_ble_eq_true rfl) rfl rfl (fun _ _ h => h.elim) ?_
  rintro _ w2 ⟨r2, rfl, LT2⟩
  refine j_pop2 dL_law_2253 rfl ?_
  refine j_goto (tgt := 2257) dL_law_2254 (by decide) ?_
  refine j_widen (kc' := kc + 200) (ks' := ks + 6000) (by omega) (by omega) ?_
  exact j_lo2 (KK _ _ _ LT2) (z_q1 rfl (z_q1 rfl (z_q1 rfl (z_q1 rfl (z_q1 rfl z_q0)))))
end ZLaw
