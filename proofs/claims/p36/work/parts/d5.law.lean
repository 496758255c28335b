section ZLaw
variable {G : z_G} {l : Launch}
abbrev mL_law : z_M := (yL_law, cL_law, 7, some .boolean, [])
abbrev z_SL : z_S := (2048, 793551, 6715452, ([], z_no), (fun v _ => v = some (.int 1)), fun _ _ => False)
abbrev z_lol (x i : Nat) : List (Nat × Value) := [(0, .retAddr 8), (1, .ref 0), (2, .ref 1000), (3, .ref x), (4, .int (nI i))]
set_option maxRecDepth 100000 in
set_option maxHeartbeats 4000000 in
theorem lc_0 (hl : l.stackTraces = false) {w : z_W} {x i kc ks : Nat} {S : sp_S} {n : Int64} (LT : z_LX x S S n w) (hi6 : i + 6 ≤ z_sn G) (hsn : z_sn G ≤ 3072) (hkc : kc + 200 ≤ 793551) (hks : ks + 6000 ≤ 6715452) (KK : ∀ (S9 : sp_S) (n9 : Int64) (w9 : z_W), z_LX x S9 S9 n9 w9 → z_J G l mL_law z_SL 2228 (z_lol x i) [] w9 (kc + 200) (ks + 6000)) : z_J G l mL_law z_SL 248 (z_lol x i) [] w kc ks := by
  show z_J G l mL_law _ 248 [(0, _), (1, _), (2, _), (3, _), (4, _)] [] _ _ _
  refine j_aload_n dL_law_248 rfl rfl ?_
  refine j_aload_n dL_law_249 rfl rfl ?_
  refine j_iload dL_law_250 rfl ?_
  refine j_iconst (v := 1) dL_law_252 (by decide) ?_
  refine j_iadd dL_law_253 ?_
  refine j_top (congrArg Value.int (show nI i + (1 : Int32) = nI (i + 1) from nI_add i 1)) ?_
  refine j_sld dL_law_254 (by omega) (by omega) ?_
  refine j_aload_n dL_law_255 rfl rfl ?_
  refine j_iload dL_law_256 rfl ?_
  refine j_iconst (v := 2) dL_law_258 (by decide) ?_
  refine j_iadd dL_law_259 ?_
  refine j_top (congrArg Value.int (show nI i + (2 : Int32) = nI (i + 2) from nI_add i 2)) ?_
  refine j_sld dL_law_260 (by omega) (by omega) ?_
  refine j_aload_n dL_law_261 rfl rfl ?_
  refine j_callSW dL_law_262 kL_type lL_170 stL_type (lw_type hl w _ _ _ _ LT (z_sc G (i + 1)) (z_sc G (i + 2))) (Nat.le_of_ble_eq_true rfl) ⟨(by show _ ≤ 793551; omega), (by show _ ≤ 6715452; omega)⟩ rfl (Nat.le_of_ble_eq_true rfl) rfl rfl (fun _ _ h => h.elim) ?_
  rintro _ w1 ⟨n1, rfl, LT1, hn1⟩
  refine j_istore (lo' := [(5, _), (0, _), (1, _), (2, _), (3, _), (4, _)]) dL_law_265 (by decide) rfl ?_
  refine j_aload_n dL_law_267 rfl rfl ?_
  refine j_aload_n dL_law_268 rfl rfl ?_
  refine j_iload dL_law_269 rfl ?_
  refine j_iconst (v := 1) dL_law_271 (by decide) ?_
  refine j_iadd dL_law_272 ?_
  refine j_top (congrArg Value.int (show nI i + (1 : Int32) = nI (i + 1) from nI_add i 1)) ?_
  refine j_sld dL_law_273 (by omega) (by omega) ?_
  refine j_aload_n dL_law_274 rfl rfl ?_
  refine j_iload dL_law_275 rfl ?_
  refine j_iconst (v := 2) dL_law_277 (by decide) ?_
  refine j_iadd dL_law_278 ?_
  refine j_top (congrArg Value.int (show nI i + (2 : Int32) = nI (i + 2) from nI_add i 2)) ?_
  refine j_sld dL_law_279 (by omega) (by omega) ?_
  obtain ⟨-, ⟨s1, hs1, -⟩, -⟩ := id LT1
  refine j_callV (q := (RX11, TX11, 8)) dL_law_280 kX11_type lL_175 inX11_type seX11_type hs1.m rfl (kx_type hl w1 LT1 (z_sc G (i + 1)) (z_sc G (i + 2))) (Nat.le_of_ble_eq_true rfl) ⟨(by show _ ≤ 793551; omega), (by show _ ≤ 6715452; omega)⟩ rfl (Nat.le_of_ble_eq_true rfl) rfl rfl (fun _ _ h => h.elim) ?_
  rintro _ w2 ⟨r2, rfl, LT2, th2, hr2⟩
  refine j_istore (lo' := [(6, _), (5, _), (0, _), (1, _), (2, _), (3, _), (4, _)]) dL_law_283 (by decide) rfl ?_
  refine j_goto (tgt := 2228) dL_law_285 (by decide) ?_
  refine j_widen (kc' := kc + 200) (ks' := ks + 6000) (by omega) (by omega) ?_
  exact j_lo2 (KK _ _ _ LT2) (z_q1 rfl (z_q1 rfl (z_q1 rfl (z_q1 rfl (z_q1 rfl z_q0)))))
set_option maxRecDepth 100000 in
set_option maxHeartbeats 4000000 in
theorem lc_1 (hl : l.stackTraces = false) {w : z_W} {x i kc ks : Nat} {S : sp_S} {n : Int64} (LT : z_LX x S S n w) (hi6 : i + 6 ≤ z_sn G) (hsn : z_sn G ≤ 3072) (hkc : kc + 200 ≤ 793551) (hks : ks + 6000 ≤ 6715452) (KK : ∀ (S9 : sp_S) (n9 : Int64) (w9 : z_W), z_LX x S9 S9 n9 w9 → z_J G l mL_law z_SL 2228 (z_lol x i) [] w9 (kc + 200) (ks + 6000)) : z_J G l mL_law z_SL 288 (z_lol x i) [] w kc ks := by
  show z_J G l mL_law _ 288 [(0, _), (1, _), (2, _), (3, _), (4, _)] [] _ _ _
  refine j_aload_n dL_law_288 rfl rfl ?_
  refine j_aload_n dL_law_289 rfl rfl ?_
  refine j_iload dL_law_290 rfl ?_
  refine j_iconst (v := 1) dL_law_292 (by decide) ?_
  refine j_iadd dL_law_293 ?_
  refine j_top (congrArg Value.int (show nI i + (1 : Int32) = nI (i + 1) from nI_add i 1)) ?_
  refine j_sld dL_law_294 (by omega) (by omega) ?_
  refine j_aload_n dL_law_295 rfl rfl ?_
  refine j_iload dL_law_296 rfl ?_
  refine j_iconst (v := 2) dL_law_298 (by decide) ?_
  refine j_iadd dL_law_299 ?_
  refine j_top (congrArg Value.int (show nI i + (2 : Int32) = nI (i + 2) from nI_add i 2)) ?_
  refine j_sld dL_law_300 (by omega) (by omega) ?_
  refine j_aload_n dL_law_301 rfl rfl ?_
  refine j_callSW dL_law_302 kL_drop lL_176 stL_drop (lw_drop hl w _ _ _ _ LT (z_sc G (i + 1)) (z_sc G (i + 2))) (Nat.le_of_ble_eq_true rfl) ⟨(by show _ ≤ 793551; omega), (by show _ ≤ 6715452; omega)⟩ rfl (Nat.le_of_ble_eq_true rfl) rfl rfl (fun _ _ h => h.elim) ?_
  rintro _ w1 ⟨n1, rfl, LT1, hn1⟩
  refine j_istore (lo' := [(5, _), (0, _), (1, _), (2, _), (3, _), (4, _)]) dL_law_305 (by decide) rfl ?_
  refine j_aload_n dL_law_307 rfl rfl ?_
  refine j_aload_n dL_law_308 rfl rfl ?_
  refine j_iload dL_law_309 rfl ?_
  refine j_iconst (v := 1) dL_law_311 (by decide) ?_
  refine j_iadd dL_law_312 ?_
  refine j_top (congrArg Value.int (show nI i + (1 : Int32) = nI (i + 1) from nI_add i 1)) ?_
  refine j_sld dL_law_313 (by omega) (by omega) ?_
  refine j_aload_n dL_law_314 rfl rfl ?_
  refine j_iload dL_law_315 rfl ?_
  refine j_iconst (v := 2) dL_law_317 (by decide) ?_
  refine j_iadd dL_law_318 ?_
  refine j_top (congrArg Value.int (show nI i + (2 : Int32) = nI (i + 2) from nI_add i 2)) ?_
  refine j_sld dL_law_319 (by omega) (by omega) ?_
  obtain ⟨-, ⟨s2, hs2, -⟩, -⟩ := id LT1
  refine j_callV (q := (RX11, TX11, 8)) dL_law_320 kX11_drop lL_178 inX11_drop seX11_drop hs2.m rfl (kx_drop hl w1 LT1 (z_sc G (i + 1)) (z_sc G (i + 2))) (Nat.le_of_ble_eq_true rfl) ⟨(by show _ ≤ 793551; omega), (by show _ ≤ 6715452; omega)⟩ rfl (Nat.le_of_ble_eq_true rfl) rfl rfl (fun _ _ h => h.elim) ?_
  rintro _ w2 ⟨r2, rfl, LT2, th2, hr2⟩
  refine j_istore (lo' := [(6, _), (5, _), (0, _), (1, _), (2, _), (3, _), (4, _)]) dL_law_323 (by decide) rfl ?_
  refine j_goto (tgt := 2228) dL_law_325 (by decide) ?_
  refine j_widen (kc' := kc + 200) (ks' := ks + 6000) (by omega) (by omega) ?_
  exact j_lo2 (KK _ _ _ LT2) (z_q1 rfl (z_q1 rfl (z_q1 rfl (z_q1 rfl (z_q1 rfl z_q0)))))
set_option maxRecDepth 100000 in
set_option maxHeartbeats 4000000 in
theorem lc_2 (hl : l.stackTraces = false) {w : z_W} {x i kc ks : Nat} {S : sp_S} {n : Int64} (LT : z_LX x S S n w) (hi6 : i + 6 ≤ z_sn G) (hsn : z_sn G ≤ 3072) (hkc : kc + 200 ≤ 793551) (hks : ks + 6000 ≤ 6715452) (KK : ∀ (S9 : sp_S) (n9 : Int64) (w9 : z_W), z_LX x S9 S9 n9 w9 → z_J G l mL_law z_SL 2228 (z_lol x i) [] w9 (kc + 200) (ks + 6000)) : z_J G l mL_law z_SL 328 (z_lol x i) [] w kc ks := by
  show z_J G l mL_law _ 328 [(0, _), (1, _), (2, _), (3, _), (4, _)] [] _ _ _
  refine j_aload_n dL_law_328 rfl rfl ?_
  refine j_aload_n dL_law_329 rfl rfl ?_
  refine j_iload dL_law_330 rfl ?_
  refine j_iconst (v := 1) dL_law_332 (by decide) ?_
  refine j_iadd dL_law_333 ?_
  refine j_top (congrArg Value.int (show nI i + (1 : Int32) = nI (i + 1) from nI_add i 1)) ?_
  refine j_sld dL_law_334 (by omega) (by omega) ?_
  refine j_aload_n dL_law_335 rfl rfl ?_
  refine j_iload dL_law_336 rfl ?_
  refine j_iconst (v := 2) dL_law_338 (by decide) ?_
  refine j_iadd dL_law_339 ?_
  refine j_top (congrArg Value.int (show nI i + (2 : Int32) = nI (i + 2) from nI_add i 2)) ?_
  refine j_sld dL_law_340 (by omega) (by omega) ?_
  refine j_if_eq (tgt := 348) dL_law_341 (by decide) (fun c_341_14 => ?_) (fun c_341_14 => ?_)
  · refine j_iconst (v := 0) dL_law_348 (by decide) ?_
    refine j_aload_n dL_law_349 rfl rfl ?_
    refine j_callSW dL_law_350 kL_fix lL_179 stL_fix (lw_fix hl w _ _ _ _ LT (z_sc G (i + 1)) false) (Nat.le_of_ble_eq_true rfl) ⟨(by show _ ≤ 793551; omega), (by show _ ≤ 6715452; omega)⟩ rfl (Nat.le_of_ble_eq_true rfl) rfl rfl (fun _ _ h => h.elim) ?_
    rintro _ w1 ⟨n1, rfl, LT1, hn1⟩
    refine j_istore (lo' := [(5, _), (0, _), (1, _), (2, _), (3, _), (4, _)]) dL_law_353 (by decide) rfl ?_
    refine j_aload_n dL_law_355 rfl rfl ?_
    refine j_aload_n dL_law_356 rfl rfl ?_
    refine j_iload dL_law_357 rfl ?_
    refine j_iconst (v := 1) dL_law_359 (by decide) ?_
    refine j_iadd dL_law_360 ?_
    refine j_top (congrArg Value.int (show nI i + (1 : Int32) = nI (i + 1) from nI_add i 1)) ?_
    refine j_sld dL_law_361 (by omega) (by omega) ?_
    refine j_aload_n dL_law_362 rfl rfl ?_
    refine j_iload dL_law_363 rfl ?_
    refine j_iconst (v := 2) dL_law_365 (by decide) ?_
    refine j_iadd dL_law_366 ?_
    refine j_top (congrArg Value.int (show nI i + (2 : Int32) = nI (i + 2) from nI_add i 2)) ?_
    refine j_sld dL_law_367 (by omega) (by omega) ?_
    refine j_if_eq (tgt := 375) dL_law_368 (by decide) (fun c_368_33 => ?_) (fun c_368_33 => ?_)
    · refine j_iconst (v := 0) dL_law_375 (by decide) ?_
      obtain ⟨-, ⟨s3, hs3, -⟩, -⟩ := id LT1
      refine j_callV (q := (RX11, TX11, 8)) dL_law_376 kX11_fix lL_182 inX11_fix seX11_fix hs3.m rfl (kx_fix hl w1 LT1 (z_sc G (i + 1)) false) (Nat.le_of_ble_eq_true rfl) ⟨(by show _ ≤ 793551; omega), (by show _ ≤ 6715452; omega)⟩ rfl (Nat.le_of_ble_eq_true rfl) rfl rfl (fun _ _ h => h.elim) ?_
      rintro _ w2 ⟨r2, rfl, LT2, th2, hr2⟩
      refine j_istore (lo' := [(6, _), (5, _), (0, _), (1, _), (2, _), (3, _), (4, _)]) dL_law_379 (by decide) rfl ?_
      refine j_goto (tgt := 2228) dL_law_381 (by decide) ?_
      refine j_widen (kc' := kc + 200) (ks' := ks + 6000) (by omega) (by omega) ?_
      exact j_lo2 (KK _ _ _ LT2) (z_q1 rfl (z_q1 rfl (z_q1 rfl (z_q1 rfl (z_q1 rfl z_q0)))))
    · exact absurd c_341_14 c_368_33
  · refine j_iconst (v := 1) dL_law_344 (by decide) ?_
    refine j_goto (tgt := 349) dL_law_345 (by decide) ?_
    refine j_aload_n dL_law_349 rfl rfl ?_
    refine j_callSW dL_law_350 kL_fix lL_179 stL_fix (lw_fix hl w _ _ _ _ LT (z_sc G (i + 1)) true) (Nat.le_of_ble_eq_true rfl) ⟨(by show _ ≤ 793551; omega), (by show _ ≤ 6715452; omega)⟩ rfl (Nat.le_of_ble_eq_true rfl) rfl rfl (fun _ _ h => h.elim) ?_
    rintro _ w3 ⟨n3, rfl, LT3, hn3⟩
    refine j_istore (lo' := [(5, _), (0, _), (1, _), (2, _), (3, _), (4, _)]) dL_law_353 (by decide) rfl ?_
    refine j_aload_n dL_law_355 rfl rfl ?_
    refine j_aload_n dL_law_356 rfl rfl ?_
    refine j_iload dL_law_357 rfl ?_
    refine j_iconst (v := 1) dL_law_359 (by decide) ?_
    refine j_iadd dL_law_360 ?_
    refine j_top (congrArg Value.int (show nI i + (1 : Int32) = nI (i + 1) from nI_add i 1)) ?_
    refine j_sld dL_law_361 (by omega) (by omega) ?_
    refine j_aload_n dL_law_362 rfl rfl ?_
    refine j_iload dL_law_363 rfl ?_
    refine j_iconst (v := 2) dL_law_365 (by decide) ?_
    refine j_iadd dL_law_366 ?_
    refine j_top (congrArg Value.int (show nI i + (2 : Int32) = nI (i + 2) from nI_add i 2)) ?_
    refine j_sld dL_law_367 (by omega) (by omega) ?_
    refine j_if_eq (tgt := 375) dL_law_368 (by decide) (fun c_368_62 => ?_) (fun c_368_62 => ?_)
    · exact absurd c_368_62 c_341_14
    · refine j_iconst (v := 1) dL_law_371 (by decide) ?_
      refine j_goto (tgt := 376) dL_law_372 (by decide) ?_
      obtain ⟨-, ⟨s4, hs4, -⟩, -⟩ := id LT3
      refine j_callV (q := (RX11, TX11, 8)) dL_law_376 kX11_fix lL_182 inX11_fix seX11_fix hs4.m rfl (kx_fix hl w3 LT3 (z_sc G (i + 1)) true) (Nat.le_of_ble_eq_true rfl) ⟨(by show _ ≤ 793551; omega), (by show _ ≤ 6715452; omega)⟩ rfl (Nat.le_of_ble_eq_true rfl) rfl rfl (fun _ _ h => h.elim) ?_
      rintro _ w4 ⟨r4, rfl, LT4, th4, hr4⟩
      refine j_istore (lo' := [(6, _), (5, _), (0, _), (1, _), (2, _), (3, _), (4, _)]) dL_law_379 (by decide) rfl ?_
      refine j_goto (tgt := 2228) dL_law_381 (by decide) ?_
      refine j_widen (kc' := kc + 200) (ks' := ks + 6000) (by omega) (by omega) ?_
      exact j_lo2 (KK _ _ _ LT4) (z_q1 rfl (z_q1 rfl (z_q1 rfl (z_q1 rfl (z_q1 rfl z_q0)))))
set_option maxRecDepth 100000 in
set_option maxHeartbeats 4000000 in
theorem lc_3 (hl : l.stackTraces = false) {w : z_W} {x i kc ks : Nat} {S : sp_S} {n : Int64} (LT : z_LX x S S n w) (hi6 : i + 6 ≤ z_sn G) (hsn : z_sn G ≤ 3072) (hkc : kc + 200 ≤ 793551) (hks : ks + 6000 ≤ 6715452) (KK : ∀ (S9 : sp_S) (n9 : Int64) (w9 : z_W), z_LX x S9 S9 n9 w9 → z_J G l mL_law z_SL 2228 (z_lol x i) [] w9 (kc + 200) (ks + 6000)) : z_J G l mL_law z_SL 384 (z_lol x i) [] w kc ks := by
  show z_J G l mL_law _ 384 [(0, _), (1, _), (2, _), (3, _), (4, _)] [] _ _ _
  refine j_aload_n dL_law_384 rfl rfl ?_
  refine j_aload_n dL_law_385 rfl rfl ?_
  refine j_iload dL_law_386 rfl ?_
  refine j_iconst (v := 1) dL_law_388 (by decide) ?_
  refine j_iadd dL_law_389 ?_
  refine j_top (congrArg Value.int (show nI i + (1 : Int32) = nI (i + 1) from nI_add i 1)) ?_
  refine j_sld dL_law_390 (by omega) (by omega) ?_
  refine j_aload_n dL_law_391 rfl rfl ?_
  refine j_iload dL_law_392 rfl ?_
  refine j_iconst (v := 2) dL_law_394 (by decide) ?_
  refine j_iadd dL_law_395 ?_
  refine j_top (congrArg Value.int (show nI i + (2 : Int32) = nI (i + 2) from nI_add i 2)) ?_
  refine j_sld dL_law_396 (by omega) (by omega) ?_
  refine j_aload_n dL_law_397 rfl rfl ?_
  refine j_callSW dL_law_398 kL_hear lL_183 stL_hear (lw_hear hl w _ _ _ _ LT (z_sc G (i + 1)) (z_sc G (i + 2))) (Nat.le_of_ble_eq_true rfl) ⟨(by show _ ≤ 793551; omega), (by show _ ≤ 6715452; omega)⟩ rfl (Nat.le_of_ble_eq_true rfl) rfl rfl (fun _ _ h => h.elim) ?_
  rintro _ w1 ⟨n1, rfl, LT1, hn1⟩
  refine j_istore (lo' := [(5, _), (0, _), (1, _), (2, _), (3, _), (4, _)]) dL_law_401 (by decide) rfl ?_
  refine j_aload_n dL_law_403 rfl rfl ?_
  refine j_aload_n dL_law_404 rfl rfl ?_
  refine j_iload dL_law_405 rfl ?_
  refine j_iconst (v := 1) dL_law_407 (by decide) ?_
  refine j_iadd dL_law_408 ?_
  refine j_top (congrArg Value.int (show nI i + (1 : Int32) = nI (i + 1) from nI_add i 1)) ?_
  refine j_sld dL_law_409 (by omega) (by omega) ?_
  refine j_aload_n dL_law_410 rfl rfl ?_
  refine j_iload dL_law_411 rfl ?_
  refine j_iconst (v := 2) dL_law_413 (by decide) ?_
  refine j_iadd dL_law_414 ?_
  refine j_top (congrArg Value.int (show nI i + (2 : Int32) = nI (i + 2) from nI_add i 2)) ?_
  refine j_sld dL_law_415 (by omega) (by omega) ?_
  obtain ⟨-, ⟨s5, hs5, -⟩, -⟩ := id LT1
  refine j_callV (q := (RX11, TX11, 8)) dL_law_416 kX11_hear lL_185 inX11_hear seX11_hear hs5.m rfl (kx_hear hl w1 LT1 (z_sc G (i + 1)) (z_sc G (i + 2))) (Nat.le_of_ble_eq_true rfl) ⟨(by show _ ≤ 793551; omega), (by show _ ≤ 6715452; omega)⟩ rfl (Nat.le_of_ble_eq_true rfl) rfl rfl (fun _ _ h => h.elim) ?_
  rintro _ w2 ⟨r2, rfl, LT2, th2, hr2⟩
  refine j_istore (lo' := [(6, _), (5, _), (0, _), (1, _), (2, _), (3, _), (4, _)]) dL_law_419 (by decide) rfl ?_
  refine j_goto (tgt := 2228) dL_law_421 (by decide) ?_
  refine j_widen (kc' := kc + 200) (ks' := ks + 6000) (by omega) (by omega) ?_
  exact j_lo2 (KK _ _ _ LT2) (z_q1 rfl (z_q1 rfl (z_q1 rfl (z_q1 rfl (z_q1 rfl z_q0)))))
set_option maxRecDepth 100000 in
set_option maxHeartbeats 4000000 in
theorem lc_4 (hl : l.stackTraces = false) {w : z_W} {x i kc ks : Nat} {S : sp_S} {n : Int64} (LT : z_LX x S S n w) (hi6 : i + 6 ≤ z_sn G) (hsn : z_sn G ≤ 3072) (hkc : kc + 200 ≤ 793551) (hks : ks + 6000 ≤ 6715452) (KK : ∀ (S9 : sp_S) (n9 : Int64) (w9 : z_W), z_LX x S9 S9 n9 w9 → z_J G l mL_law z_SL 2228 (z_lol x i) [] w9 (kc + 200) (ks + 6000)) : z_J G l mL_law z_SL 424 (z_lol x i) [] w kc ks := by
  show z_J G l mL_law _ 424 [(0, _), (1, _), (2, _), (3, _), (4, _)] [] _ _ _
  refine j_aload_n dL_law_424 rfl rfl ?_
  refine j_aload_n dL_law_425 rfl rfl ?_
  refine j_iload dL_law_426 rfl ?_
  refine j_iconst (v := 1) dL_law_428 (by decide) ?_
  refine j_iadd dL_law_429 ?_
  refine j_top (congrArg Value.int (show nI i + (1 : Int32) = nI (i + 1) from nI_add i 1)) ?_
  refine j_sld dL_law_430 (by omega) (by omega) ?_
  refine j_aload_n dL_law_431 rfl rfl ?_
  refine j_iload dL_law_432 rfl ?_
  refine j_iconst (v := 2) dL_law_434 (by decide) ?_
  refine j_iadd dL_law_435 ?_
  refine j_top (congrArg Value.int (show nI i + (2 : Int32) = nI (i + 2) from nI_add i 2)) ?_
  refine j_sld dL_law_436 (by omega) (by omega) ?_
  refine j_aload_n dL_law_437 rfl rfl ?_
  refine j_iload dL_law_438 rfl ?_
  refine j_iconst (v := 3) dL_law_440 (by decide) ?_
  refine j_iadd dL_law_441 ?_
  refine j_top (congrArg Value.int (show nI i + (3 : Int32) = nI (i + 3) from nI_add i 3)) ?_
  refine j_sld dL_law_442 (by omega) (by omega) ?_
  refine j_aload_n dL_law_443 rfl rfl ?_
  refine j_callSW dL_law_444 kL_rest lL_186 stL_rest (lw_rest hl w _ _ _ _ LT (z_sc G (i + 1)) (z_sc G (i + 2)) (z_sc G (i + 3))) (Nat.le_of_ble_eq_true rfl) ⟨(by show _ ≤ 793551; omega), (by show _ ≤ 6715452; omega)⟩ rfl (Nat.le_of_ble_eq_true rfl) rfl rfl (fun _ _ h => h.elim) ?_
  rintro _ w1 ⟨n1, rfl, LT1, hn1⟩
  refine j_istore (lo' := [(5, _), (0, _), (1, _), (2, _), (3, _), (4, _)]) dL_law_447 (by decide) rfl ?_
  refine j_aload_n dL_law_449 rfl rfl ?_
  refine j_aload_n dL_law_450 rfl rfl ?_
  refine j_iload dL_law_451 rfl ?_
  refine j_iconst (v := 1) dL_law_453 (by decide) ?_
  refine j_iadd dL_law_454 ?_
  refine j_top (congrArg Value.int (show nI i + (1 : Int32) = nI (i + 1) from nI_add i 1)) ?_
  refine j_sld dL_law_455 (by omega) (by omega) ?_
  refine j_aload_n dL_law_456 rfl rfl ?_
  refine j_iload dL_law_457 rfl ?_
  refine j_iconst (v := 2) dL_law_459 (by decide) ?_
  refine j_iadd dL_law_460 ?_
  refine j_top (congrArg Value.int (show nI i + (2 : Int32) = nI (i + 2) from nI_add i 2)) ?_
  refine j_sld dL_law_461 (by omega) (by omega) ?_
  refine j_aload_n dL_law_462 rfl rfl ?_
  refine j_iload dL_law_463 rfl ?_
  refine j_iconst (v := 3) dL_law_465 (by decide) ?_
  refine j_iadd dL_law_466 ?_
  refine j_top (congrArg Value.int (show nI i + (3 : Int32) = nI (i + 3) from nI_add i 3)) ?_
  refine j_sld dL_law_467 (by omega) (by omega) ?_
  obtain ⟨-, ⟨s6, hs6, -⟩, -⟩ := id LT1
  refine j_callV (q := (RX11, TX11, 8)) dL_law_468 kX11_rest lL_189 inX11_rest seX11_rest hs6.m rfl (kx_rest hl w1 LT1 (z_sc G (i + 1)) (z_sc G (i + 2)) (z_sc G (i + 3))) (Nat.le_of_ble_eq_true rfl) ⟨(by show _ ≤ 793551; omega), (by show _ ≤ 6715452; omega)⟩ rfl (Nat.le_of_ble_eq_true rfl) rfl rfl (fun _ _ h => h.elim) ?_
  rintro _ w2 ⟨r2, rfl, LT2, th2, hr2⟩
  refine j_istore (lo' := [(6, _), (5, _), (0, _), (1, _), (2, _), (3, _), (4, _)]) dL_law_471 (by decide) rfl ?_
  refine j_goto (tgt := 2228) dL_law_473 (by decide) ?_
  refine j_widen (kc' := kc + 200) (ks' := ks + 6000) (by omega) (by omega) ?_
  exact j_lo2 (KK _ _ _ LT2) (z_q1 rfl (z_q1 rfl (z_q1 rfl (z_q1 rfl (z_q1 rfl z_q0)))))
set_option maxRecDepth 100000 in
set_option maxHeartbeats 4000000 in
theorem lc_5 (hl : l.stackTraces = false) {w : z_W} {x i kc ks : Nat} {S : sp_S} {n : Int64} (LT : z_LX x S S n w) (hi6 : i + 6 ≤ z_sn G) (hsn : z_sn G ≤ 3072) (hkc : kc + 200 ≤ 793551) (hks : ks + 6000 ≤ 6715452) (KK : ∀ (S9 : sp_S) (n9 : Int64) (w9 : z_W), z_LX x S9 S9 n9 w9 → z_J G l mL_law z_SL 2228 (z_lol x i) [] w9 (kc + 200) (ks + 6000)) : z_J G l mL_law z_SL 476 (z_lol x i) [] w kc ks := by
  show z_J G l mL_law _ 476 [(0, _), (1, _), (2, _), (3, _), (4, _)] [] _ _ _
  refine j_aload_n dL_law_476 rfl rfl ?_
  refine j_aload_n dL_law_477 rfl rfl ?_
  refine j_iload dL_law_478 rfl ?_
  refine j_iconst (v := 1) dL_law_480 (by decide) ?_
  refine j_iadd dL_law_481 ?_
  refine j_top (congrArg Value.int (show nI i + (1 : Int32) = nI (i + 1) from nI_add i 1)) ?_
  refine j_sld dL_law_482 (by omega) (by omega) ?_
  refine j_aload_n dL_law_483 rfl rfl ?_
  refine j_iload dL_law_484 rfl ?_
  refine j_iconst (v := 2) dL_law_486 (by decide) ?_
  refine j_iadd dL_law_487 ?_
  refine j_top (congrArg Value.int (show nI i + (2 : Int32) = nI (i + 2) from nI_add i 2)) ?_
  refine j_sld dL_law_488 (by omega) (by omega) ?_
  refine j_aload_n dL_law_489 rfl rfl ?_
  refine j_iload dL_law_490 rfl ?_
  refine j_iconst (v := 3) dL_law_492 (by decide) ?_
  refine j_iadd dL_law_493 ?_
  refine j_top (congrArg Value.int (show nI i + (3 : Int32) = nI (i + 3) from nI_add i 3)) ?_
  refine j_sld dL_law_494 (by omega) (by omega) ?_
  refine j_aload_n dL_law_495 rfl rfl ?_
  refine j_callSW dL_law_496 kL_removeIf lL_190 stL_removeIf (lw_removeIf hl w _ _ _ _ LT (z_sc G (i + 1)) (z_sc G (i + 2)) (z_sc G (i + 3))) (Nat.le_of_ble_eq_true rfl) ⟨(by show _ ≤ 793551; omega), (by show _ ≤ 6715452; omega)⟩ rfl (Nat.le_of_ble_eq_true rfl) rfl rfl (fun _ _ h => h.elim) ?_
  rintro _ w1 ⟨n1, rfl, LT1, hn1⟩
  refine j_istore (lo' := [(5, _), (0, _), (1, _), (2, _), (3, _), (4, _)]) dL_law_499 (by decide) rfl ?_
  refine j_aload_n dL_law_501 rfl rfl ?_
  refine j_aload_n dL_law_502 rfl rfl ?_
  refine j_iload dL_law_503 rfl ?_
  refine j_iconst (v := 1) dL_law_505 (by decide) ?_
  refine j_iadd dL_law_506 ?_
  refine j_top (congrArg Value.int (show nI i + (1 : Int32) = nI (i + 1) from nI_add i 1)) ?_
  refine j_sld dL_law_507 (by omega) (by omega) ?_
  refine j_aload_n dL_law_508 rfl rfl ?_
  refine j_iload dL_law_509 rfl ?_
  refine j_iconst (v := 2) dL_law_511 (by decide) ?_
  refine j_iadd dL_law_512 ?_
  refine j_top (congrArg Value.int (show nI i + (2 : Int32) = nI (i + 2) from nI_add i 2)) ?_
  refine j_sld dL_law_513 (by omega) (by omega) ?_
  refine j_aload_n dL_law_514 rfl rfl ?_
  refine j_iload dL_law_515 rfl ?_
  refine j_iconst (v := 3) dL_law_517 (by decide) ?_
  refine j_iadd dL_law_518 ?_
  refine j_top (congrArg Value.int (show nI i + (3 : Int32) = nI (i + 3) from nI_add i 3)) ?_
  refine j_sld dL_law_519 (by omega) (by omega) ?_
  obtain ⟨-, ⟨s7, hs7, -⟩, -⟩ := id LT1
  refine j_callV (q := (RX11, TX11, 8)) dL_law_520 kX11_removeIf lL_192 inX11_removeIf seX11_removeIf hs7.m rfl (kx_removeIf hl w1 LT1 (z_sc G (i + 1)) (z_sc G (i + 2)) (z_sc G (i + 3))) (Nat.le_of_ble_eq_true rfl) ⟨(by show _ ≤ 793551; omega), (by show _ ≤ 6715452; omega)⟩ rfl (Nat.le_of_ble_eq_true rfl) rfl rfl (fun _ _ h => h.elim) ?_
  rintro _ w2 ⟨r2, rfl, LT2, th2, hr2⟩
  refine j_istore (lo' := [(6, _), (5, _), (0, _), (1, _), (2, _), (3, _), (4, _)]) dL_law_523 (by decide) rfl ?_
  refine j_goto (tgt := 2228) dL_law_525 (by decide) ?_
  refine j_widen (kc' := kc + 200) (ks' := ks + 6000) (by omega) (by omega) ?_
  exact j_lo2 (KK _ _ _ LT2) (z_q1 rfl (z_q1 rfl (z_q1 rfl (z_q1 rfl (z_q1 rfl z_q0)))))
set_option maxRecDepth 100000 in
set_option maxHeartbeats 4000000 in
theorem lc_6 (hl : l.stackTraces = false) {w : z_W} {x i kc ks : Nat} {S : sp_S} {n : Int64} (LT : z_LX x S S n w) (hi6 : i + 6 ≤ z_sn G) (hsn : z_sn G ≤ 3072) (hkc : kc + 200 ≤ 793551) (hks : ks + 6000 ≤ 6715452) (KK : ∀ (S9 : sp_S) (n9 : Int64) (w9 : z_W), z_LX x S9 S9 n9 w9 → z_J G l mL_law z_SL 2228 (z_lol x i) [] w9 (kc + 200) (ks + 6000)) : z_J G l mL_law z_SL 528 (z_lol x i) [] w kc ks := by
  show z_J G l mL_law _ 528 [(0, _), (1, _), (2, _), (3, _), (4, _)] [] _ _ _
  refine j_aload_n dL_law_528 rfl rfl ?_
  refine j_aload_n dL_law_529 rfl rfl ?_
  refine j_iload dL_law_530 rfl ?_
  refine j_iconst (v := 1) dL_law_532 (by decide) ?_
  refine j_iadd dL_law_533 ?_
  refine j_top (congrArg Value.int (show nI i + (1 : Int32) = nI (i + 1) from nI_add i 1)) ?_
  refine j_sld dL_law_534 (by omega) (by omega) ?_
  refine j_aload_n dL_law_535 rfl rfl ?_
  refine j_iload dL_law_536 rfl ?_
  refine j_iconst (v := 2) dL_law_538 (by decide) ?_
  refine j_iadd dL_law_539 ?_
  refine j_top (congrArg Value.int (show nI i + (2 : Int32) = nI (i + 2) from nI_add i 2)) ?_
  refine j_sld dL_law_540 (by omega) (by omega) ?_
  refine j_aload_n dL_law_541 rfl rfl ?_
  refine j_iload dL_law_542 rfl ?_
  refine j_iconst (v := 3) dL_law_544 (by decide) ?_
  refine j_iadd dL_law_545 ?_
  refine j_top (congrArg Value.int (show nI i + (3 : Int32) = nI (i + 3) from nI_add i 3)) ?_
  refine j_sld dL_law_546 (by omega) (by omega) ?_
  refine j_aload_n dL_law_547 rfl rfl ?_
  refine j_callSW dL_law_548 kL_replaceAll lL_193 stL_replaceAll (lw_replaceAll hl w _ _ _ _ LT (z_sc G (i + 1)) (z_sc G (i + 2)) (z_sc G (i + 3))) (Nat.le_of_ble_eq_true rfl) ⟨(by show _ ≤ 793551; omega), (by show _ ≤ 6715452; omega)⟩ rfl (Nat.le_of_ble_eq_true rfl) rfl rfl (fun _ _ h => h.elim) ?_
  rintro _ w1 ⟨n1, rfl, LT1, hn1⟩
  refine j_istore (lo' := [(5, _), (0, _), (1, _), (2, _), (3, _), (4, _)]) dL_law_551 (by decide) rfl ?_
  refine j_aload_n dL_law_553 rfl rfl ?_
  refine j_aload_n dL_law_554 rfl rfl ?_
  refine j_iload dL_law_555 rfl ?_
  refine j_iconst (v := 1) dL_law_557 (by decide) ?_
  refine j_iadd dL_law_558 ?_
  refine j_top (congrArg Value.int (show nI i + (1 : Int32) = nI (i + 1) from nI_add i 1)) ?_
  refine j_sld dL_law_559 (by omega) (by omega) ?_
  refine j_aload_n dL_law_560 rfl rfl ?_
  refine j_iload dL_law_561 rfl ?_
  refine j_iconst (v := 2) dL_law_563 (by decide) ?_
  refine j_iadd dL_law_564 ?_
  refine j_top (congrArg Value.int (show nI i + (2 : Int32) = nI (i + 2) from nI_add i 2)) ?_
  refine j_sld dL_law_565 (by omega) (by omega) ?_
  refine j_aload_n dL_law_566 rfl rfl ?_
  refine j_iload dL_law_567 rfl ?_
  refine j_iconst (v := 3) dL_law_569 (by decide) ?_
  refine j_iadd dL_law_570 ?_
  refine j_top (congrArg Value.int (show nI i + (3 : Int32) = nI (i + 3) from nI_add i 3)) ?_
  refine j_sld dL_law_571 (by omega) (by omega) ?_
  obtain ⟨-, ⟨s8, hs8, -⟩, -⟩ := id LT1
  refine j_callV (q := (RX11, TX11, 8)) dL_law_572 kX11_replaceAll lL_195 inX11_replaceAll seX11_replaceAll hs8.m rfl (kx_replaceAll hl w1 LT1 (z_sc G (i + 1)) (z_sc G (i + 2)) (z_sc G (i + 3))) (Nat.le_of_ble_eq_true rfl) ⟨(by show _ ≤ 793551; omega), (by show _ ≤ 6715452; omega)⟩ rfl (Nat.le_of_ble_eq_true rfl) rfl rfl (fun _ _ h => h.elim) ?_
  rintro _ w2 ⟨r2, rfl, LT2, th2, hr2⟩
  refine j_istore (lo' := [(6, _), (5, _), (0, _), (1, _), (2, _), (3, _), (4, _)]) dL_law_575 (by decide) rfl ?_
  refine j_goto (tgt := 2228) dL_law_577 (by decide) ?_
  refine j_widen (kc' := kc + 200) (ks' := ks + 6000) (by omega) (by omega) ?_
  exact j_lo2 (KK _ _ _ LT2) (z_q1 rfl (z_q1 rfl (z_q1 rfl (z_q1 rfl (z_q1 rfl z_q0)))))
set_option maxRecDepth 100000 in
set_option maxHeartbeats 4000000 in
theorem lc_7 (hl : l.stackTraces = false) {w : z_W} {x i kc ks : Nat} {S : sp_S} {n : Int64} (LT : z_LX x S S n w) (hi6 : i + 6 ≤ z_sn G) (hsn : z_sn G ≤ 3072) (hkc : kc + 200 ≤ 793551) (hks : ks + 6000 ≤ 6715452) (KK : ∀ (S9 : sp_S) (n9 : Int64) (w9 : z_W), z_LX x S9 S9 n9 w9 → z_J G l mL_law z_SL 2228 (z_lol x i) [] w9 (kc + 200) (ks + 6000)) : z_J G l mL_law z_SL 580 (z_lol x i) [] w kc ks := by
  show z_J G l mL_law _ 580 [(0, _), (1, _), (2, _), (3, _), (4, _)] [] _ _ _
  refine j_aload_n dL_law_580 rfl rfl ?_
  refine j_aload_n dL_law_581 rfl rfl ?_
  refine j_iload dL_law_582 rfl ?_
  refine j_iconst (v := 1) dL_law_584 (by decide) ?_
  refine j_iadd dL_law_585 ?_
  refine j_top (congrArg Value.int (show nI i + (1 : Int32) = nI (i + 1) from nI_add i 1)) ?_
  refine j_sld dL_law_586 (by omega) (by omega) ?_
  refine j_aload_n dL_law_587 rfl rfl ?_
  refine j_callSW dL_law_588 kL_copy lL_196 stL_copy (lw_copy hl w _ _ _ _ LT (z_sc G (i + 1))) (Nat.le_of_ble_eq_true rfl) ⟨(by show _ ≤ 793551; omega), (by show _ ≤ 6715452; omega)⟩ rfl (Nat.le_of_ble_eq_true rfl) rfl rfl (fun _ _ h => h.elim) ?_
  rintro _ w1 ⟨n1, rfl, LT1, hn1⟩
  refine j_istore (lo' := [(5, _), (0, _), (1, _), (2, _), (3, _), (4, _)]) dL_law_591 (by decide) rfl ?_
  refine j_aload_n dL_law_593 rfl rfl ?_
  refine j_aload_n dL_law_594 rfl rfl ?_
  refine j_iload dL_law_595 rfl ?_
  refine j_iconst (v := 1) dL_law_597 (by decide) ?_
  refine j_iadd dL_law_598 ?_
  refine j_top (congrArg Value.int (show nI i + (1 : Int32) = nI (i + 1) from nI_add i 1)) ?_
  refine j_sld dL_law_599 (by omega) (by omega) ?_
  obtain ⟨-, ⟨s9, hs9, -⟩, -⟩ := id LT1
  refine j_callV (q := (RX11, TX11, 8)) dL_law_600 kX11_copy lL_199 inX11_copy seX11_copy hs9.m rfl (kx_copy hl w1 LT1 (z_sc G (i + 1))) (Nat.le_of_ble_eq_true rfl) ⟨(by show _ ≤ 793551; omega), (by show _ ≤ 6715452; omega)⟩ rfl (Nat.le_of_ble_eq_true rfl) rfl rfl (fun _ _ h => h.elim) ?_
  rintro _ w2 ⟨r2, rfl, LT2, th2, hr2⟩
  refine j_istore (lo' := [(6, _), (5, _), (0, _), (1, _), (2, _), (3, _), (4, _)]) dL_law_603 (by decide) rfl ?_
  refine j_goto (tgt := 2228) dL_law_605 (by decide) ?_
  refine j_widen (kc' := kc + 200) (ks' := ks + 6000) (by omega) (by omega) ?_
  exact j_lo2 (KK _ _ _ LT2) (z_q1 rfl (z_q1 rfl (z_q1 rfl (z_q1 rfl (z_q1 rfl z_q0)))))
set_option maxRecDepth 100000 in
set_option maxHeartbeats 4000000 in
theorem lc_8 (hl : l.stackTraces = false) {w : z_W} {x i kc ks : Nat} {S : sp_S} {n : Int64} (LT : z_LX x S S n w) (hi6 : i + 6 ≤ z_sn G) (hsn : z_sn G ≤ 3072) (hkc : kc + 200 ≤ 793551) (hks : ks + 6000 ≤ 6715452) (KK : ∀ (S9 : sp_S) (n9 : Int64) (w9 : z_W), z_LX x S9 S9 n9 w9 → z_J G l mL_law z_SL 2228 (z_lol x i) [] w9 (kc + 200) (ks + 6000)) : z_J G l mL_law z_SL 608 (z_lol x i) [] w kc ks := by
  show z_J G l mL_law _ 608 [(0, _), (1, _), (2, _), (3, _), (4, _)] [] _ _ _
  refine j_aload_n dL_law_608 rfl rfl ?_
  refine j_aload_n dL_law_609 rfl rfl ?_
  refine j_iload dL_law_610 rfl ?_
  refine j_iconst (v := 1) dL_law_612 (by decide) ?_
  refine j_iadd dL_law_613 ?_
  refine j_top (congrArg Value.int (show nI i + (1 : Int32) = nI (i + 1) from nI_add i 1)) ?_
  refine j_sld dL_law_614 (by omega) (by omega) ?_
  refine j_aload_n dL_law_615 rfl rfl ?_
  refine j_iload dL_law_616 rfl ?_
  refine j_iconst (v := 2) dL_law_618 (by decide) ?_
  refine j_iadd dL_law_619 ?_
  refine j_top (congrArg Value.int (show nI i + (2 : Int32) = nI (i + 2) from nI_add i 2)) ?_
  refine j_sld dL_law_620 (by omega) (by omega) ?_
  refine j_aload_n dL_law_621 rfl rfl ?_
  refine j_iload dL_law_622 rfl ?_
  refine j_iconst (v := 3) dL_law_624 (by decide) ?_
  refine j_iadd dL_law_625 ?_
  refine j_top (congrArg Value.int (show nI i + (3 : Int32) = nI (i + 3) from nI_add i 3)) ?_
  refine j_sld dL_law_626 (by omega) (by omega) ?_
  refine j_aload_n dL_law_627 rfl rfl ?_
  refine j_callSW dL_law_628 kL_put lL_200 stL_put (lw_put hl w _ _ _ _ LT (z_sc G (i + 1)) (z_sc G (i + 2)) (z_sc G (i + 3))) (Nat.le_of_ble_eq_true rfl) ⟨(by show _ ≤ 793551; omega), (by show _ ≤ 6715452; omega)⟩ rfl (Nat.le_of_ble_eq_true rfl) rfl rfl (fun _ _ h => h.elim) ?_
  rintro _ w1 ⟨n1, rfl, LT1, hn1⟩
  refine j_istore (lo' := [(5, _), (0, _), (1, _), (2, _), (3, _), (4, _)]) dL_law_631 (by decide) rfl ?_
  refine j_aload_n dL_law_633 rfl rfl ?_
  refine j_aload_n dL_law_634 rfl rfl ?_
  refine j_iload dL_law_635 rfl ?_
  refine j_iconst (v := 1) dL_law_637 (by decide) ?_
  refine j_iadd dL_law_638 ?_
  refine j_top (congrArg Value.int (show nI i + (1 : Int32) = nI (i + 1) from nI_add i 1)) ?_
  refine j_sld dL_law_639 (by omega) (by omega) ?_
  refine j_aload_n dL_law_640 rfl rfl ?_
  refine j_iload dL_law_641 rfl ?_
  refine j_iconst (v := 2) dL_law_643 (by decide) ?_
  refine j_iadd dL_law_644 ?_
  refine j_top (congrArg Value.int (show nI i + (2 : Int32) = nI (i + 2) from nI_add i 2)) ?_
  refine j_sld dL_law_645 (by omega) (by omega) ?_
  refine j_aload_n dL_law_646 rfl rfl ?_
  refine j_iload dL_law_647 rfl ?_
  refine j_iconst (v := 3) dL_law_649 (by decide) ?_
  refine j_iadd dL_law_650 ?_
  refine j_top (congrArg Value.int (show nI i + (3 : Int32) = nI (i + 3) from nI_add i 3)) ?_
  refine j_sld dL_law_651 (by omega) (by omega) ?_
  obtain ⟨-, ⟨s10, hs10, -⟩, -⟩ := id LT1
  refine j_callV (q := (RX11, TX11, 8)) dL_law_652 kX11_put lL_202 inX11_put seX11_put hs10.m rfl (kx_put hl w1 LT1 (z_sc G (i + 1)) (z_sc G (i + 2)) (z_sc G (i + 3))) (Nat.le_of_ble_eq_true rfl) ⟨(by show _ ≤ 793551; omega), (by show _ ≤ 6715452; omega)⟩ rfl (Nat.le_of_ble_eq_true rfl) rfl rfl (fun _ _ h => h.elim) ?_
  rintro _ w2 ⟨r2, rfl, LT2, th2, hr2⟩
  refine j_istore (lo' := [(6, _), (5, _), (0, _), (1, _), (2, _), (3, _), (4, _)]) dL_law_655 (by decide) rfl ?_
  refine j_goto (tgt := 2228) dL_law_657 (by decide) ?_
  refine j_widen (kc' := kc + 200) (ks' := ks + 6000) (by omega) (by omega) ?_
  exact j_lo2 (KK _ _ _ LT2) (z_q1 rfl (z_q1 rfl (z_q1 rfl (z_q1 rfl (z_q1 rfl z_q0)))))
set_option maxRecDepth 100000 in
set_option maxHeartbeats 4000000 in
theorem lc_9 (hl : l.stackTraces = false) {w : z_W} {x i kc ks : Nat} {S : sp_S} {n : Int64} (LT : z_LX x S S n w) (hi6 : i + 6 ≤ z_sn G) (hsn : z_sn G ≤ 3072) (hkc : kc + 200 ≤ 793551) (hks : ks + 6000 ≤ 6715452) (KK : ∀ (S9 : sp_S) (n9 : Int64) (w9 : z_W), z_LX x S9 S9 n9 w9 → z_J G l mL_law z_SL 2228 (z_lol x i) [] w9 (kc + 200) (ks + 6000)) : z_J G l mL_law z_SL 660 (z_lol x i) [] w kc ks := by
  show z_J G l mL_law _ 660 [(0, _), (1, _), (2, _), (3, _), (4, _)] [] _ _ _
  refine j_aload_n dL_law_660 rfl rfl ?_
  refine j_aload_n dL_law_661 rfl rfl ?_
  refine j_iload dL_law_662 rfl ?_
  refine j_iconst (v := 1) dL_law_664 (by decide) ?_
  refine j_iadd dL_law_665 ?_
  refine j_top (congrArg Value.int (show nI i + (1 : Int32) = nI (i + 1) from nI_add i 1)) ?_
  refine j_sld dL_law_666 (by omega) (by omega) ?_
  refine j_aload_n dL_law_667 rfl rfl ?_
  refine j_iload dL_law_668 rfl ?_
  refine j_iconst (v := 2) dL_law_670 (by decide) ?_
  refine j_iadd dL_law_671 ?_
  refine j_top (congrArg Value.int (show nI i + (2 : Int32) = nI (i + 2) from nI_add i 2)) ?_
  refine j_sld dL_law_672 (by omega) (by omega) ?_
  refine j_aload_n dL_law_673 rfl rfl ?_
  refine j_callSW dL_law_674 kL_remove lL_203 stL_remove (lw_remove hl w _ _ _ _ LT (z_sc G (i + 1)) (z_sc G (i + 2))) (Nat.le_of_ble_eq_true rfl) ⟨(by show _ ≤ 793551; omega), (by show _ ≤ 6715452; omega)⟩ rfl (Nat.le_of_ble_eq_true rfl) rfl rfl (fun _ _ h => h.elim) ?_
  rintro _ w1 ⟨n1, rfl, LT1, hn1⟩
  refine j_istore (lo' := [(5, _), (0, _), (1, _), (2, _), (3, _), (4, _)]) dL_law_677 (by decide) rfl ?_
  refine j_aload_n dL_law_679 rfl rfl ?_
  refine j_aload_n dL_law_680 rfl rfl ?_
  refine j_iload dL_law_681 rfl ?_
  refine j_iconst (v := 1) dL_law_683 (by decide) ?_
  refine j_iadd dL_law_684 ?_
  refine j_top (congrArg Value.int (show nI i + (1 : Int32) = nI (i + 1) from nI_add i 1)) ?_
  refine j_sld dL_law_685 (by omega) (by omega) ?_
  refine j_aload_n dL_law_686 rfl rfl ?_
  refine j_iload dL_law_687 rfl ?_
  refine j_iconst (v := 2) dL_law_689 (by decide) ?_
  refine j_iadd dL_law_690 ?_
  refine j_top (congrArg Value.int (show nI i + (2 : Int32) = nI (i + 2) from nI_add i 2)) ?_
  refine j_sld dL_law_691 (by omega) (by omega) ?_
  obtain ⟨-, ⟨s11, hs11, -⟩, -⟩ := id LT1
  refine j_callV (q := (RX11, TX11, 8)) dL_law_692 kX11_remove lL_205 inX11_remove seX11_remove hs11.m rfl (kx_remove hl w1 LT1 (z_sc G (i + 1)) (z_sc G (i + 2))) (Nat.le_of_ble_eq_true rfl) ⟨(by show _ ≤ 793551; omega), (by show _ ≤ 6715452; omega)⟩ rfl (Nat.le_of_ble_eq_true rfl) rfl rfl (fun _ _ h => h.elim) ?_
  rintro _ w2 ⟨r2, rfl, LT2, th2, hr2⟩
  refine j_istore (lo' := [(6, _), (5, _), (0, _), (1, _), (2, _), (3, _), (4, _)]) dL_law_695 (by decide) rfl ?_
  refine j_goto (tgt := 2228) dL_law_697 (by decide) ?_
  refine j_widen (kc' := kc + 200) (ks' := ks + 6000) (by omega) (by omega) ?_
  exact j_lo2 (KK _ _ _ LT2) (z_q1 rfl (z_q1 rfl (z_q1 rfl (z_q1 rfl (z_q1 rfl z_q0)))))
set_option maxRecDepth 100000 in
set_option maxHeartbeats 4000000 in
theorem lc_10 (hl : l.stackTraces = false) {w : z_W} {x i kc ks : Nat} {S : sp_S} {n : Int64} (LT : z_LX x S S n w) (hi6 : i + 6 ≤ z_sn G) (hsn : z_sn G ≤ 3072) (hkc : kc + 200 ≤ 793551) (hks : ks + 6000 ≤ 6715452) (KK : ∀ (S9 : sp_S) (n9 : Int64) (w9 : z_W), z_LX x S9 S9 n9 w9 → z_J G l mL_law z_SL 2228 (z_lol x i) [] w9 (kc + 200) (ks + 6000)) : z_J G l mL_law z_SL 700 (z_lol x i) [] w kc ks := by
  show z_J G l mL_law _ 700 [(0, _), (1, _), (2, _), (3, _), (4, _)] [] _ _ _
  refine j_aload_n dL_law_700 rfl rfl ?_
  refine j_aload_n dL_law_701 rfl rfl ?_
  refine j_iload dL_law_702 rfl ?_
  refine j_iconst (v := 1) dL_law_704 (by decide) ?_
  refine j_iadd dL_law_705 ?_
  refine j_top (congrArg Value.int (show nI i + (1 : Int32) = nI (i + 1) from nI_add i 1)) ?_
  refine j_sld dL_law_706 (by omega) (by omega) ?_
  refine j_aload_n dL_law_707 rfl rfl ?_
  refine j_iload dL_law_708 rfl ?_
  refine j_iconst (v := 2) dL_law_710 (by decide) ?_
  refine j_iadd dL_law_711 ?_
  refine j_top (congrArg Value.int (show nI i + (2 : Int32) = nI (i + 2) from nI_add i 2)) ?_
  refine j_sld dL_law_712 (by omega) (by omega) ?_
  refine j_aload_n dL_law_713 rfl rfl ?_
  refine j_iload dL_law_714 rfl ?_
  refine j_iconst (v := 3) dL_law_716 (by decide) ?_
  refine j_iadd dL_law_717 ?_
  refine j_top (congrArg Value.int (show nI i + (3 : Int32) = nI (i + 3) from nI_add i 3)) ?_
  refine j_sld dL_law_718 (by omega) (by omega) ?_
  refine j_aload_n dL_law_719 rfl rfl ?_
  refine j_callSW dL_law_720 kL_putIfAbsent lL_206 stL_putIfAbsent (lw_putIfAbsent hl w _ _ _ _ LT (z_sc G (i + 1)) (z_sc G (i + 2)) (z_sc G (i + 3))) (Nat.le_of_ble_eq_true rfl) ⟨(by show _ ≤ 793551; omega), (by show _ ≤ 6715452; omega)⟩ rfl (Nat.le_of_ble_eq_true rfl) rfl rfl (fun _ _ h => h.elim) ?_
  rintro _ w1 ⟨n1, rfl, LT1, hn1⟩
  refine j_istore (lo' := [(5, _), (0, _), (1, _), (2, _), (3, _), (4, _)]) dL_law_723 (by decide) rfl ?_
  refine j_aload_n dL_law_725 rfl rfl ?_
  refine j_aload_n dL_law_726 rfl rfl ?_
  refine j_iload dL_law_727 rfl ?_
  refine j_iconst (v := 1) dL_law_729 (by decide) ?_
  refine j_iadd dL_law_730 ?_
  refine j_top (congrArg Value.int (show nI i + (1 : Int32) = nI (i + 1) from nI_add i 1)) ?_
  refine j_sld dL_law_731 (by omega) (by omega) ?_
  refine j_aload_n dL_law_732 rfl rfl ?_
  refine j_iload dL_law_733 rfl ?_
  refine j_iconst (v := 2) dL_law_735 (by decide) ?_
  refine j_iadd dL_law_736 ?_
  refine j_top (congrArg Value.int (show nI i + (2 : Int32) = nI (i + 2) from nI_add i 2)) ?_
  refine j_sld dL_law_737 (by omega) (by omega) ?_
  refine j_aload_n dL_law_738 rfl rfl ?_
  refine j_iload dL_law_739 rfl ?_
  refine j_iconst (v := 3) dL_law_741 (by decide) ?_
  refine j_iadd dL_law_742 ?_
  refine j_top (congrArg Value.int (show nI i + (3 : Int32) = nI (i + 3) from nI_add i 3)) ?_
  refine j_sld dL_law_743 (by omega) (by omega) ?_
  obtain ⟨-, ⟨s12, hs12, -⟩, -⟩ := id LT1
  refine j_callV (q := (RX11, TX11, 8)) dL_law_744 kX11_putIfAbsent lL_208 inX11_putIfAbsent seX11_putIfAbsent hs12.m rfl (kx_putIfAbsent hl w1 LT1 (z_sc G (i + 1)) (z_sc G (i + 2)) (z_sc G (i + 3))) (Nat.le_of_ble_eq_true rfl) ⟨(by show _ ≤ 793551; omega), (by show _ ≤ 6715452; omega)⟩ rfl (Nat.le_of_ble_eq_true rfl) rfl rfl (fun _ _ h => h.elim) ?_
  rintro _ w2 ⟨r2, rfl, LT2, th2, hr2⟩
  refine j_istore (lo' := [(6, _), (5, _), (0, _), (1, _), (2, _), (3, _), (4, _)]) dL_law_747 (by decide) rfl ?_
  refine j_goto (tgt := 2228) dL_law_749 (by decide) ?_
  refine j_widen (kc' := kc + 200) (ks' := ks + 6000) (by omega) (by omega) ?_
  exact j_lo2 (KK _ _ _ LT2) (z_q1 rfl (z_q1 rfl (z_q1 rfl (z_q1 rfl (z_q1 rfl z_q0)))))
set_option maxRecDepth 100000 in
set_option maxHeartbeats 4000000 in
theorem lc_11 (hl : l.stackTraces = false) {w : z_W} {x i kc ks : Nat} {S : sp_S} {n : Int64} (LT : z_LX x S S n w) (hi6 : i + 6 ≤ z_sn G) (hsn : z_sn G ≤ 3072) (hkc : kc + 200 ≤ 793551) (hks : ks + 6000 ≤ 6715452) (KK : ∀ (S9 : sp_S) (n9 : Int64) (w9 : z_W), z_LX x S9 S9 n9 w9 → z_J G l mL_law z_SL 2228 (z_lol x i) [] w9 (kc + 200) (ks + 6000)) : z_J G l mL_law z_SL 752 (z_lol x i) [] w kc ks := by
  show z_J G l mL_law _ 752 [(0, _), (1, _), (2, _), (3, _), (4, _)] [] _ _ _
  refine j_aload_n dL_law_752 rfl rfl ?_
  refine j_aload_n dL_law_753 rfl rfl ?_
  refine j_iload dL_law_754 rfl ?_
  refine j_iconst (v := 1) dL_law_756 (by decide) ?_
  refine j_iadd dL_law_757 ?_
  refine j_top (congrArg Value.int (show nI i + (1 : Int32) = nI (i + 1) from nI_add i 1)) ?_
  refine j_sld dL_law_758 (by omega) (by omega) ?_
  refine j_aload_n dL_law_759 rfl rfl ?_
  refine j_iload dL_law_760 rfl ?_
  refine j_iconst (v := 2) dL_law_762 (by decide) ?_
  refine j_iadd dL_law_763 ?_
  refine j_top (congrArg Value.int (show nI i + (2 : Int32) = nI (i + 2) from nI_add i 2)) ?_
  refine j_sld dL_law_764 (by omega) (by omega) ?_
  refine j_aload_n dL_law_765 rfl rfl ?_
  refine j_iload dL_law_766 rfl ?_
  refine j_iconst (v := 3) dL_law_768 (by decide) ?_
  refine j_iadd dL_law_769 ?_
  refine j_top (congrArg Value.int (show nI i + (3 : Int32) = nI (i + 3) from nI_add i 3)) ?_
  refine j_sld dL_law_770 (by omega) (by omega) ?_
  refine j_aload_n dL_law_771 rfl rfl ?_
  refine j_callSW dL_law_772 kL_replace lL_209 stL_replace (lw_replace hl w _ _ _ _ LT (z_sc G (i + 1)) (z_sc G (i + 2)) (z_sc G (i + 3))) (Nat.le_of_ble_eq_true rfl) ⟨(by show _ ≤ 793551; omega), (by show _ ≤ 6715452; omega)⟩ rfl (Nat.le_of_ble_eq_true rfl) rfl rfl (fun _ _ h => h.elim) ?_
  rintro _ w1 ⟨n1, rfl, LT1, hn1⟩
  refine j_istore (lo' := [(5, _), (0, _), (1, _), (2, _), (3, _), (4, _)]) dL_law_775 (by decide) rfl ?_
  refine j_aload_n dL_law_777 rfl rfl ?_
  refine j_aload_n dL_law_778 rfl rfl ?_
  refine j_iload dL_law_779 rfl ?_
  refine j_iconst (v := 1) dL_law_781 (by decide) ?_
  refine j_iadd dL_law_782 ?_
  refine j_top (congrArg Value.int (show nI i + (1 : Int32) = nI (i + 1) from nI_add i 1)) ?_
  refine j_sld dL_law_783 (by omega) (by omega) ?_
  refine j_aload_n dL_law_784 rfl rfl ?_
  refine j_iload dL_law_785 rfl ?_
  refine j_iconst (v := 2) dL_law_787 (by decide) ?_
  refine j_iadd dL_law_788 ?_
  refine j_top (congrArg Value.int (show nI i + (2 : Int32) = nI (i + 2) from nI_add i 2)) ?_
  refine j_sld dL_law_789 (by omega) (by omega) ?_
  refine j_aload_n dL_law_790 rfl rfl ?_
  refine j_iload dL_law_791 rfl ?_
  refine j_iconst (v := 3) dL_law_793 (by decide) ?_
  refine j_iadd dL_law_794 ?_
  refine j_top (congrArg Value.int (show nI i + (3 : Int32) = nI (i + 3) from nI_add i 3)) ?_
  refine j_sld dL_law_795 (by omega) (by omega) ?_
  obtain ⟨-, ⟨s13, hs13, -⟩, -⟩ := id LT1
  refine j_callV (q := (RX11, TX11, 8)) dL_law_796 kX11_replace lL_211 inX11_replace seX11_replace hs13.m rfl (kx_replace hl w1 LT1 (z_sc G (i + 1)) (z_sc G (i + 2)) (z_sc G (i + 3))) (Nat.le_of_ble_eq_true rfl) ⟨(by show _ ≤ 793551; omega), (by show _ ≤ 6715452; omega)⟩ rfl (Nat.le_of_ble_eq_true rfl) rfl rfl (fun _ _ h => h.elim) ?_
  rintro _ w2 ⟨r2, rfl, LT2, th2, hr2⟩
  refine j_istore (lo' := [(6, _), (5, _), (0, _), (1, _), (2, _), (3, _), (4, _)]) dL_law_799 (by decide) rfl ?_
  refine j_goto (tgt := 2228) dL_law_801 (by decide) ?_
  refine j_widen (kc' := kc + 200) (ks' := ks + 6000) (by omega) (by omega) ?_
  exact j_lo2 (KK _ _ _ LT2) (z_q1 rfl (z_q1 rfl (z_q1 rfl (z_q1 rfl (z_q1 rfl z_q0)))))
set_option maxRecDepth 100000 in
set_option maxHeartbeats 4000000 in
theorem lc_12 (hl : l.stackTraces = false) {w : z_W} {x i kc ks : Nat} {S : sp_S} {n : Int64} (LT : z_LX x S S n w) (hi6 : i + 6 ≤ z_sn G) (hsn : z_sn G ≤ 3072) (hkc : kc + 200 ≤ 793551) (hks : ks + 6000 ≤ 6715452) (KK : ∀ (S9 : sp_S) (n9 : Int64) (w9 : z_W), z_LX x S9 S9 n9 w9 → z_J G l mL_law z_SL 2228 (z_lol x i) [] w9 (kc + 200) (ks + 6000)) : z_J G l mL_law z_SL 804 (z_lol x i) [] w kc ks := by
  show z_J G l mL_law _ 804 [(0, _), (1, _), (2, _), (3, _), (4, _)] [] _ _ _
  refine j_aload_n dL_law_804 rfl rfl ?_
  refine j_aload_n dL_law_805 rfl rfl ?_
  refine j_iload dL_law_806 rfl ?_
  refine j_iconst (v := 1) dL_law_808 (by decide) ?_
  refine j_iadd dL_law_809 ?_
  refine j_top (congrArg Value.int (show nI i + (1 : Int32) = nI (i + 1) from nI_add i 1)) ?_
  refine j_sld dL_law_810 (by omega) (by omega) ?_
  refine j_aload_n dL_law_811 rfl rfl ?_
  refine j_iload dL_law_812 rfl ?_
  refine j_iconst (v := 2) dL_law_814 (by decide) ?_
  refine j_iadd dL_law_815 ?_
  refine j_top (congrArg Value.int (show nI i + (2 : Int32) = nI (i + 2) from nI_add i 2)) ?_
  refine j_sld dL_law_816 (by omega) (by omega) ?_
  refine j_aload_n dL_law_817 rfl rfl ?_
  refine j_iload dL_law_818 rfl ?_
  refine j_iconst (v := 3) dL_law_820 (by decide) ?_
  refine j_iadd dL_law_821 ?_
  refine j_top (congrArg Value.int (show nI i + (3 : Int32) = nI (i + 3) from nI_add i 3)) ?_
  refine j_sld dL_law_822 (by omega) (by omega) ?_
  refine j_aload_n dL_law_823 rfl rfl ?_
  refine j_iload dL_law_824 rfl ?_
  refine j_iconst (v := 4) dL_law_826 (by decide) ?_
  refine j_iadd dL_law_827 ?_
  refine j_top (congrArg Value.int (show nI i + (4 : Int32) = nI (i + 4) from nI_add i 4)) ?_
  refine j_sld dL_law_828 (by omega) (by omega) ?_
  refine j_aload_n dL_law_829 rfl rfl ?_
  refine j_callSW dL_law_830 kL_replaceIf lL_212 stL_replaceIf (lw_replaceIf hl w _ _ _ _ LT (z_sc G (i + 1)) (z_sc G (i + 2)) (z_sc G (i + 3)) (z_sc G (i + 4))) (Nat.le_of_ble_eq_true rfl) ⟨(by show _ ≤ 793551; omega), (by show _ ≤ 6715452; omega)⟩ rfl (Nat.le_of_ble_eq_true rfl) rfl rfl (fun _ _ h => h.elim) ?_
  rintro _ w1 ⟨n1, rfl, LT1, hn1⟩
  refine j_istore (lo' := [(5, _), (0, _), (1, _), (2, _), (3, _), (4, _)]) dL_law_833 (by decide) rfl ?_
  refine j_aload_n dL_law_835 rfl rfl ?_
  refine j_aload_n dL_law_836 rfl rfl ?_
  refine j_iload dL_law_837 rfl ?_
  refine j_iconst (v := 1) dL_law_839 (by decide) ?_
  refine j_iadd dL_law_840 ?_
  refine j_top (congrArg Value.int (show nI i + (1 : Int32) = nI (i + 1) from nI_add i 1)) ?_
  refine j_sld dL_law_841 (by omega) (by omega) ?_
  refine j_aload_n dL_law_842 rfl rfl ?_
  refine j_iload dL_law_843 rfl ?_
  refine j_iconst (v := 2) dL_law_845 (by decide) ?_
  refine j_iadd dL_law_846 ?_
  refine j_top (congrArg Value.int (show nI i + (2 : Int32) = nI (i + 2) from nI_add i 2)) ?_
  refine j_sld dL_law_847 (by omega) (by omega) ?_
  refine j_aload_n dL_law_848 rfl rfl ?_
  refine j_iload dL_law_849 rfl ?_
  refine j_iconst (v := 3) dL_law_851 (by decide) ?_
  refine j_iadd dL_law_852 ?_
  refine j_top (congrArg Value.int (show nI i + (3 : Int32) = nI (i + 3) from nI_add i 3)) ?_
  refine j_sld dL_law_853 (by omega) (by omega) ?_
  refine j_aload_n dL_law_854 rfl rfl ?_
  refine j_iload dL_law_855 rfl ?_
  refine j_iconst (v := 4) dL_law_857 (by decide) ?_
  refine j_iadd dL_law_858 ?_
  refine j_top (congrArg Value.int (show nI i + (4 : Int32) = nI (i + 4) from nI_add i 4)) ?_
  refine j_sld dL_law_859 (by omega) (by omega) ?_
  obtain ⟨-, ⟨s14, hs14, -⟩, -⟩ := id LT1
  refine j_callV (q := (RX11, TX11, 8)) dL_law_860 kX11_replaceIf lL_215 inX11_replaceIf seX11_replaceIf hs14.m rfl (kx_replaceIf hl w1 LT1 (z_sc G (i + 1)) (z_sc G (i + 2)) (z_sc G (i + 3)) (z_sc G (i + 4))) (Nat.le_of_ble_eq_true rfl) ⟨(by show _ ≤ 793551; omega), (by show _ ≤ 6715452; omega)⟩ rfl (Nat.le_of_ble_eq_true rfl) rfl rfl (fun _ _ h => h.elim) ?_
  rintro _ w2 ⟨r2, rfl, LT2, th2, hr2⟩
  refine j_istore (lo' := [(6, _), (5, _), (0, _), (1, _), (2, _), (3, _), (4, _)]) dL_law_863 (by decide) rfl ?_
  refine j_goto (tgt := 2228) dL_law_865 (by decide) ?_
  refine j_widen (kc' := kc + 200) (ks' := ks + 6000) (by omega) (by omega) ?_
  exact j_lo2 (KK _ _ _ LT2) (z_q1 rfl (z_q1 rfl (z_q1 rfl (z_q1 rfl (z_q1 rfl z_q0)))))
set_option maxRecDepth 100000 in
set_option maxHeartbeats 4000000 in
theorem lc_13 (hl : l.stackTraces = false) {w : z_W} {x i kc ks : Nat} {S : sp_S} {n : Int64} (LT : z_LX x S S n w) (hi6 : i + 6 ≤ z_sn G) (hsn : z_sn G ≤ 3072) (hkc : kc + 200 ≤ 793551) (hks : ks + 6000 ≤ 6715452) (KK : ∀ (S9 : sp_S) (n9 : Int64) (w9 : z_W), z_LX x S9 S9 n9 w9 → z_J G l mL_law z_SL 2228 (z_lol x i) [] w9 (kc + 200) (ks + 6000)) : z_J G l mL_law z_SL 868 (z_lol x i) [] w kc ks := by
  show z_J G l mL_law _ 868 [(0, _), (1, _), (2, _), (3, _), (4, _)] [] _ _ _
  refine j_aload_n dL_law_868 rfl rfl ?_
  refine j_aload_n dL_law_869 rfl rfl ?_
  refine j_iload dL_law_870 rfl ?_
  refine j_iconst (v := 1) dL_law_872 (by decide) ?_
  refine j_iadd dL_law_873 ?_
  refine j_top (congrArg Value.int (show nI i + (1 : Int32) = nI (i + 1) from nI_add i 1)) ?_
  refine j_sld dL_law_874 (by omega) (by omega) ?_
  refine j_aload_n dL_law_875 rfl rfl ?_
  refine j_iload dL_law_876 rfl ?_
  refine j_iconst (v := 2) dL_law_878 (by decide) ?_
  refine j_iadd dL_law_879 ?_
  refine j_top (congrArg Value.int (show nI i + (2 : Int32) = nI (i + 2) from nI_add i 2)) ?_
  refine j_sld dL_law_880 (by omega) (by omega) ?_
  refine j_aload_n dL_law_881 rfl rfl ?_
  refine j_iload dL_law_882 rfl ?_
  refine j_iconst (v := 3) dL_law_884 (by decide) ?_
  refine j_iadd dL_law_885 ?_
  refine j_top (congrArg Value.int (show nI i + (3 : Int32) = nI (i + 3) from nI_add i 3)) ?_
  refine j_sld dL_law_886 (by omega) (by omega) ?_
  refine j_aload_n dL_law_887 rfl rfl ?_
  refine j_callSW dL_law_888 kL_removePair lL_216 stL_removePair (lw_removePair hl w _ _ _ _ LT (z_sc G (i + 1)) (z_sc G (i + 2)) (z_sc G (i + 3))) (Nat.le_of_ble_eq_true rfl) ⟨(by show _ ≤ 793551; omega), (by show _ ≤ 6715452; omega)⟩ rfl (Nat.le_of_ble_eq_true rfl) rfl rfl (fun _ _ h => h.elim) ?_
  rintro _ w1 ⟨n1, rfl, LT1, hn1⟩
  refine j_istore (lo' := [(5, _), (0, _), (1, _), (2, _), (3, _), (4, _)]) dL_law_891 (by decide) rfl ?_
  refine j_aload_n dL_law_893 rfl rfl ?_
  refine j_aload_n dL_law_894 rfl rfl ?_
  refine j_iload dL_law_895 rfl ?_
  refine j_iconst (v := 1) dL_law_897 (by decide) ?_
  refine j_iadd dL_law_898 ?_
  refine j_top (congrArg Value.int (show nI i + (1 : Int32) = nI (i + 1) from nI_add i 1)) ?_
  refine j_sld dL_law_899 (by omega) (by omega) ?_
  refine j_aload_n dL_law_900 rfl rfl ?_
  refine j_iload dL_law_901 rfl ?_
  refine j_iconst (v := 2) dL_law_903 (by decide) ?_
  refine j_iadd dL_law_904 ?_
  refine j_top (congrArg Value.int (show nI i + (2 : Int32) = nI (i + 2) from nI_add i 2)) ?_
  refine j_sld dL_law_905 (by omega) (by omega) ?_
  refine j_aload_n dL_law_906 rfl rfl ?_
  refine j_iload dL_law_907 rfl ?_
  refine j_iconst (v := 3) dL_law_909 (by decide) ?_
  refine j_iadd dL_law_910 ?_
  refine j_top (congrArg Value.int (show nI i + (3 : Int32) = nI (i + 3) from nI_add i 3)) ?_
  refine j_sld dL_law_911 (by omega) (by omega) ?_
  obtain ⟨-, ⟨s15, hs15, -⟩, -⟩ := id LT1
  refine j_callV (q := (RX11, TX11, 8)) dL_law_912 kX11_removePair lL_218 inX11_removePair seX11_removePair hs15.m rfl (kx_removePair hl w1 LT1 (z_sc G (i + 1)) (z_sc G (i + 2)) (z_sc G (i + 3))) (Nat.le_of_ble_eq_true rfl) ⟨(by show _ ≤ 793551; omega), (by show _ ≤ 6715452; omega)⟩ rfl (Nat.le_of_ble_eq_true rfl) rfl rfl (fun _ _ h => h.elim) ?_
  rintro _ w2 ⟨r2, rfl, LT2, th2, hr2⟩
  refine j_istore (lo' := [(6, _), (5, _), (0, _), (1, _), (2, _), (3, _), (4, _)]) dL_law_915 (by decide) rfl ?_
  refine j_goto (tgt := 2228) dL_law_917 (by decide) ?_
  refine j_widen (kc' := kc + 200) (ks' := ks + 6000) (by omega) (by omega) ?_
  exact j_lo2 (KK _ _ _ LT2) (z_q1 rfl (z_q1 rfl (z_q1 rfl (z_q1 rfl (z_q1 rfl z_q0)))))
set_option maxRecDepth 100000 in
set_option maxHeartbeats 4000000 in
theorem lc_14 (hl : l.stackTraces = false) {w : z_W} {x i kc ks : Nat} {S : sp_S} {n : Int64} (LT : z_LX x S S n w) (hi6 : i + 6 ≤ z_sn G) (hsn : z_sn G ≤ 3072) (hkc : kc + 200 ≤ 793551) (hks : ks + 6000 ≤ 6715452) (KK : ∀ (S9 : sp_S) (n9 : Int64) (w9 : z_W), z_LX x S9 S9 n9 w9 → z_J G l mL_law z_SL 2228 (z_lol x i) [] w9 (kc + 200) (ks + 6000)) : z_J G l mL_law z_SL 920 (z_lol x i) [] w kc ks := by
  show z_J G l mL_law _ 920 [(0, _), (1, _), (2, _), (3, _), (4, _)] [] _ _ _
  refine j_aload_n dL_law_920 rfl rfl ?_
  refine j_aload_n dL_law_921 rfl rfl ?_
  refine j_iload dL_law_922 rfl ?_
  refine j_iconst (v := 1) dL_law_924 (by decide) ?_
  refine j_iadd dL_law_925 ?_
  refine j_top (congrArg Value.int (show nI i + (1 : Int32) = nI (i + 1) from nI_add i 1)) ?_
  refine j_sld dL_law_926 (by omega) (by omega) ?_
  refine j_aload_n dL_law_927 rfl rfl ?_
  refine j_iload dL_law_928 rfl ?_
  refine j_iconst (v := 2) dL_law_930 (by decide) ?_
  refine j_iadd dL_law_931 ?_
  refine j_top (congrArg Value.int (show nI i + (2 : Int32) = nI (i + 2) from nI_add i 2)) ?_
  refine j_sld dL_law_932 (by omega) (by omega) ?_
  refine j_aload_n dL_law_933 rfl rfl ?_
  refine j_iload dL_law_934 rfl ?_
  refine j_iconst (v := 3) dL_law_936 (by decide) ?_
  refine j_iadd dL_law_937 ?_
  refine j_top (congrArg Value.int (show nI i + (3 : Int32) = nI (i + 3) from nI_add i 3)) ?_
  refine j_sld dL_law_938 (by omega) (by omega) ?_
  refine j_aload_n dL_law_939 rfl rfl ?_
  refine j_iload dL_law_940 rfl ?_
  refine j_iconst (v := 4) dL_law_942 (by decide) ?_
  refine j_iadd dL_law_943 ?_
  refine j_top (congrArg Value.int (show nI i + (4 : Int32) = nI (i + 4) from nI_add i 4)) ?_
  refine j_sld dL_law_944 (by omega) (by omega) ?_
  refine j_aload_n dL_law_945 rfl rfl ?_
  refine j_callSW dL_law_946 kL_computeIfAbsent lL_219 stL_computeIfAbsent (lw_computeIfAbsent hl w _ _ _ _ LT (z_sc G (i + 1)) (z_sc G (i + 2)) (z_sc G (i + 3)) (z_sc G (i + 4))) (Nat.le_of_ble_eq_true rfl) ⟨(by show _ ≤ 793551; omega), (by show _ ≤ 6715452; omega)⟩ rfl (Nat.le_of_ble_eq_true rfl) rfl rfl (fun _ _ h => h.elim) ?_
  rintro _ w1 ⟨n1, rfl, LT1, hn1⟩
  refine j_istore (lo' := [(5, _), (0, _), (1, _), (2, _), (3, _), (4, _)]) dL_law_949 (by decide) rfl ?_
  refine j_aload_n dL_law_951 rfl rfl ?_
  refine j_aload_n dL_law_952 rfl rfl ?_
  refine j_iload dL_law_953 rfl ?_
  refine j_iconst (v := 1) dL_law_955 (by decide) ?_
  refine j_iadd dL_law_956 ?_
  refine j_top (congrArg Value.int (show nI i + (1 : Int32) = nI (i + 1) from nI_add i 1)) ?_
  refine j_sld dL_law_957 (by omega) (by omega) ?_
  refine j_aload_n dL_law_958 rfl rfl ?_
  refine j_iload dL_law_959 rfl ?_
  refine j_iconst (v := 2) dL_law_961 (by decide) ?_
  refine j_iadd dL_law_962 ?_
  refine j_top (congrArg Value.int (show nI i + (2 : Int32) = nI (i + 2) from nI_add i 2)) ?_
  refine j_sld dL_law_963 (by omega) (by omega) ?_
  refine j_aload_n dL_law_964 rfl rfl ?_
  refine j_iload dL_law_965 rfl ?_
  refine j_iconst (v := 3) dL_law_967 (by decide) ?_
  refine j_iadd dL_law_968 ?_
  refine j_top (congrArg Value.int (show nI i + (3 : Int32) = nI (i + 3) from nI_add i 3)) ?_
  refine j_sld dL_law_969 (by omega) (by omega) ?_
  refine j_aload_n dL_law_970 rfl rfl ?_
  refine j_iload dL_law_971 rfl ?_
  refine j_iconst (v := 4) dL_law_973 (by decide) ?_
  refine j_iadd dL_law_974 ?_
  refine j_top (congrArg Value.int (show nI i + (4 : Int32) = nI (i + 4) from nI_add i 4)) ?_
  refine j_sld dL_law_975 (by omega) (by omega) ?_
  obtain ⟨-, ⟨s16, hs16, -⟩, -⟩ := id LT1
  refine j_callV (q := (RX11, TX11, 8)) dL_law_976 kX11_computeIfAbsent lL_221 inX11_computeIfAbsent seX11_computeIfAbsent hs16.m rfl (kx_computeIfAbsent hl w1 LT1 (z_sc G (i + 1)) (z_sc G (i + 2)) (z_sc G (i + 3)) (z_sc G (i + 4))) (Nat.le_of_ble_eq_true rfl) ⟨(by show _ ≤ 793551; omega), (by show _ ≤ 6715452; omega)⟩ rfl (Nat.le_of_ble_eq_true rfl) rfl rfl (fun _ _ h => h.elim) ?_
  rintro _ w2 ⟨r2, rfl, LT2, th2, hr2⟩
  refine j_istore (lo' := [(6, _), (5, _), (0, _), (1, _), (2, _), (3, _), (4, _)]) dL_law_979 (by decide) rfl ?_
  refine j_goto (tgt := 2228) dL_law_981 (by decide) ?_
  refine j_widen (kc' := kc + 200) (ks' := ks + 6000) (by omega) (by omega) ?_
  exact j_lo2 (KK _ _ _ LT2) (z_q1 rfl (z_q1 rfl (z_q1 rfl (z_q1 rfl (z_q1 rfl z_q0)))))
set_option maxRecDepth 100000 in
set_option maxHeartbeats 4000000 in
theorem lc_15 (hl : l.stackTraces = false) {w : z_W} {x i kc ks : Nat} {S : sp_S} {n : Int64} (LT : z_LX x S S n w) (hi6 : i + 6 ≤ z_sn G) (hsn : z_sn G ≤ 3072) (hkc : kc + 200 ≤ 793551) (hks : ks + 6000 ≤ 6715452) (KK : ∀ (S9 : sp_S) (n9 : Int64) (w9 : z_W), z_LX x S9 S9 n9 w9 → z_J G l mL_law z_SL 2228 (z_lol x i) [] w9 (kc + 200) (ks + 6000)) : z_J G l mL_law z_SL 984 (z_lol x i) [] w kc ks := by
  show z_J G l mL_law _ 984 [(0, _), (1, _), (2, _), (3, _), (4, _)] [] _ _ _
  refine j_aload_n dL_law_984 rfl rfl ?_
  refine j_aload_n dL_law_985 rfl rfl ?_
  refine j_iload dL_law_986 rfl ?_
  refine j_iconst (v := 1) dL_law_988 (by decide) ?_
  refine j_iadd dL_law_989 ?_
  refine j_top (congrArg Value.int (show nI i + (1 : Int32) = nI (i + 1) from nI_add i 1)) ?_
  refine j_sld dL_law_990 (by omega) (by omega) ?_
  refine j_aload_n dL_law_991 rfl rfl ?_
  refine j_iload dL_law_992 rfl ?_
  refine j_iconst (v := 2) dL_law_994 (by decide) ?_
  refine j_iadd dL_law_995 ?_
  refine j_top (congrArg Value.int (show nI i + (2 : Int32) = nI (i + 2) from nI_add i 2)) ?_
  refine j_sld dL_law_996 (by omega) (by omega) ?_
  refine j_aload_n dL_law_997 rfl rfl ?_
  refine j_iload dL_law_998 rfl ?_
  refine j_iconst (v := 3) dL_law_1000 (by decide) ?_
  refine j_iadd dL_law_1001 ?_
  refine j_top (congrArg Value.int (show nI i + (3 : Int32) = nI (i + 3) from nI_add i 3)) ?_
  refine j_sld dL_law_1002 (by omega) (by omega) ?_
  refine j_aload_n dL_law_1003 rfl rfl ?_
  refine j_iload dL_law_1004 rfl ?_
  refine j_iconst (v := 4) dL_law_1006 (by decide) ?_
  refine j_iadd dL_law_1007 ?_
  refine j_top (congrArg Value.int (show nI i + (4 : Int32) = nI (i + 4) from nI_add i 4)) ?_
  refine j_sld dL_law_1008 (by omega) (by omega) ?_
  refine j_aload_n dL_law_1009 rfl rfl ?_
  refine j_callSW dL_law_1010 kL_computeIfPresent lL_222 stL_computeIfPresent (lw_computeIfPresent hl w _ _ _ _ LT (z_sc G (i + 1)) (z_sc G (i + 2)) (z_sc G (i + 3)) (z_sc G (i + 4))) (Nat.le_of_ble_eq_true rfl) ⟨(by show _ ≤ 793551; omega), (by show _ ≤ 6715452; omega)⟩ rfl (Nat.le_of_ble_eq_true rfl) rfl rfl (fun _ _ h => h.elim) ?_
  rintro _ w1 ⟨n1, rfl, LT1, hn1⟩
  refine j_istore (lo' := [(5, _), (0, _), (1, _), (2, _), (3, _), (4, _)]) dL_law_1013 (by decide) rfl ?_
  refine j_aload_n dL_law_1015 rfl rfl ?_
  refine j_aload_n dL_law_1016 rfl rfl ?_
  refine j_iload dL_law_1017 rfl ?_
  refine j_iconst (v := 1) dL_law_1019 (by decide) ?_
  refine j_iadd dL_law_1020 ?_
  refine j_top (congrArg Value.int (show nI i + (1 : Int32) = nI (i + 1) from nI_add i 1)) ?_
  refine j_sld dL_law_1021 (by omega) (by omega) ?_
  refine j_aload_n dL_law_1022 rfl rfl ?_
  refine j_iload dL_law_1023 rfl ?_
  refine j_iconst (v := 2) dL_law_1025 (by decide) ?_
  refine j_iadd dL_law_1026 ?_
  refine j_top (congrArg Value.int (show nI i + (2 : Int32) = nI (i + 2) from nI_add i 2)) ?_
  refine j_sld dL_law_1027 (by omega) (by omega) ?_
  refine j_aload_n dL_law_1028 rfl rfl ?_
  refine j_iload dL_law_1029 rfl ?_
  refine j_iconst (v := 3) dL_law_1031 (by decide) ?_
  refine j_iadd dL_law_1032 ?_
  refine j_top (congrArg Value.int (show nI i + (3 : Int32) = nI (i + 3) from nI_add i 3)) ?_
  refine j_sld dL_law_1033 (by omega) (by omega) ?_
  refine j_aload_n dL_law_1034 rfl rfl ?_
  refine j_iload dL_law_1035 rfl ?_
  refine j_iconst (v := 4) dL_law_1037 (by decide) ?_
  refine j_iadd dL_law_1038 ?_
  refine j_top (congrArg Value.int (show nI i + (4 : Int32) = nI (i + 4) from nI_add i 4)) ?_
  refine j_sld dL_law_1039 (by omega) (by omega) ?_
  obtain ⟨-, ⟨s17, hs17, -⟩, -⟩ := id LT1
  refine j_callV (q := (RX11, TX11, 8)) dL_law_1040 kX11_computeIfPresent lL_224 inX11_computeIfPresent seX11_computeIfPresent hs17.m rfl (kx_computeIfPresent hl w1 LT1 (z_sc G (i + 1)) (z_sc G (i + 2)) (z_sc G (i + 3)) (z_sc G (i + 4))) (Nat.le_of_ble_eq_true rfl) ⟨(by show _ ≤ 793551; omega), (by show _ ≤ 6715452; omega)⟩ rfl (Nat.le_of_ble_eq_true rfl) rfl rfl (fun _ _ h => h.elim) ?_
  rintro _ w2 ⟨r2, rfl, LT2, th2, hr2⟩
  refine j_istore (lo' := [(6, _), (5, _), (0, _), (1, _), (2, _), (3, _), (4, _)]) dL_law_1043 (by decide) rfl ?_
  refine j_goto (tgt := 2228) dL_law_1045 (by decide) ?_
  refine j_widen (kc' := kc + 200) (ks' := ks + 6000) (by omega) (by omega) ?_
  exact j_lo2 (KK _ _ _ LT2) (z_q1 rfl (z_q1 rfl (z_q1 rfl (z_q1 rfl (z_q1 rfl z_q0)))))
set_option maxRecDepth 100000 in
set_option maxHeartbeats 4000000 in
theorem lc_16 (hl : l.stackTraces = false) {w : z_W} {x i kc ks : Nat} {S : sp_S} {n : Int64} (LT : z_LX x S S n w) (hi6 : i + 6 ≤ z_sn G) (hsn : z_sn G ≤ 3072) (hkc : kc + 200 ≤ 793551) (hks : ks + 6000 ≤ 6715452) (KK : ∀ (S9 : sp_S) (n9 : Int64) (w9 : z_W), z_LX x S9 S9 n9 w9 → z_J G l mL_law z_SL 2228 (z_lol x i) [] w9 (kc + 200) (ks + 6000)) : z_J G l mL_law z_SL 1048 (z_lol x i) [] w kc ks := by
  show z_J G l mL_law _ 1048 [(0, _), (1, _), (2, _), (3, _), (4, _)] [] _ _ _
  refine j_aload_n dL_law_1048 rfl rfl ?_
  refine j_aload_n dL_law_1049 rfl rfl ?_
  refine j_iload dL_law_1050 rfl ?_
  refine j_iconst (v := 1) dL_law_1052 (by decide) ?_
  refine j_iadd dL_law_1053 ?_
  refine j_top (congrArg Value.int (show nI i + (1 : Int32) = nI (i + 1) from nI_add i 1)) ?_
  refine j_sld dL_law_1054 (by omega) (by omega) ?_
  refine j_aload_n dL_law_1055 rfl rfl ?_
  refine j_iload dL_law_1056 rfl ?_
  refine j_iconst (v := 2) dL_law_1058 (by decide) ?_
  refine j_iadd dL_law_1059 ?_
  refine j_top (congrArg Value.int (show nI i + (2 : Int32) = nI (i + 2) from nI_add i 2)) ?_
  refine j_sld dL_law_1060 (by omega) (by omega) ?_
  refine j_aload_n dL_law_1061 rfl rfl ?_
  refine j_iload dL_law_1062 rfl ?_
  refine j_iconst (v := 3) dL_law_1064 (by decide) ?_
  refine j_iadd dL_law_1065 ?_
  refine j_top (congrArg Value.int (show nI i + (3 : Int32) = nI (i + 3) from nI_add i 3)) ?_
  refine j_sld dL_law_1066 (by omega) (by omega) ?_
  refine j_aload_n dL_law_1067 rfl rfl ?_
  refine j_iload dL_law_1068 rfl ?_
  refine j_iconst (v := 4) dL_law_1070 (by decide) ?_
  refine j_iadd dL_law_1071 ?_
  refine j_top (congrArg Value.int (show nI i + (4 : Int32) = nI (i + 4) from nI_add i 4)) ?_
  refine j_sld dL_law_1072 (by omega) (by omega) ?_
  refine j_aload_n dL_law_1073 rfl rfl ?_
  refine j_callSW dL_law_1074 kL_compute lL_225 stL_compute (lw_compute hl w _ _ _ _ LT (z_sc G (i + 1)) (z_sc G (i + 2)) (z_sc G (i + 3)) (z_sc G (i + 4))) (Nat.le_of_ble_eq_true rfl) ⟨(by show _ ≤ 793551; omega), (by show _ ≤ 6715452; omega)⟩ rfl (Nat.le_of_ble_eq_true rfl) rfl rfl (fun _ _ h => h.elim) ?_
  rintro _ w1 ⟨n1, rfl, LT1, hn1⟩
  refine j_istore (lo' := [(5, _), (0, _), (1, _), (2, _), (3, _), (4, _)]) dL_law_1077 (by decide) rfl ?_
  refine j_aload_n dL_law_1079 rfl rfl ?_
  refine j_aload_n dL_law_1080 rfl rfl ?_
  refine j_iload dL_law_1081 rfl ?_
  refine j_iconst (v := 1) dL_law_1083 (by decide) ?_
  refine j_iadd dL_law_1084 ?_
  refine j_top (congrArg Value.int (show nI i + (1 : Int32) = nI (i + 1) from nI_add i 1)) ?_
  refine j_sld dL_law_1085 (by omega) (by omega) ?_
  refine j_aload_n dL_law_1086 rfl rfl ?_
  refine j_iload dL_law_1087 rfl ?_
  refine j_iconst (v := 2) dL_law_1089 (by decide) ?_
  refine j_iadd dL_law_1090 ?_
  refine j_top (congrArg Value.int (show nI i + (2 : Int32) = nI (i + 2) from nI_add i 2)) ?_
  refine j_sld dL_law_1091 (by omega) (by omega) ?_
  refine j_aload_n dL_law_1092 rfl rfl ?_
  refine j_iload dL_law_1093 rfl ?_
  refine j_iconst (v := 3) dL_law_1095 (by decide) ?_
  refine j_iadd dL_law_1096 ?_
  refine j_top (congrArg Value.int (show nI i + (3 : Int32) = nI (i + 3) from nI_add i 3)) ?_
  refine j_sld dL_law_1097 (by omega) (by omega) ?_
  refine j_aload_n dL_law_1098 rfl rfl ?_
  refine j_iload dL_law_1099 rfl ?_
  refine j_iconst (v := 4) dL_law_1101 (by decide) ?_
  refine j_iadd dL_law_1102 ?_
  refine j_top (congrArg Value.int (show nI i + (4 : Int32) = nI (i + 4) from nI_add i 4)) ?_
  refine j_sld dL_law_1103 (by omega) (by omega) ?_
  obtain ⟨-, ⟨s18, hs18, -⟩, -⟩ := id LT1
  refine j_callV (q := (RX11, TX11, 8)) dL_law_1104 kX11_compute lL_227 inX11_compute seX11_compute hs18.m rfl (kx_compute hl w1 LT1 (z_sc G (i + 1)) (z_sc G (i + 2)) (z_sc G (i + 3)) (z_sc G (i + 4))) (Nat.le_of_ble_eq_true rfl) ⟨(by show _ ≤ 793551; omega), (by show _ ≤ 6715452; omega)⟩ rfl (Nat.le_of_ble_eq_true rfl) rfl rfl (fun _ _ h => h.elim) ?_
  rintro _ w2 ⟨r2, rfl, LT2, th2, hr2⟩
  refine j_istore (lo' := [(6, _), (5, _), (0, _), (1, _), (2, _), (3, _), (4, _)]) dL_law_1107 (by decide) rfl ?_
  refine j_goto (tgt := 2228) dL_law_1109 (by decide) ?_
  refine j_widen (kc' := kc + 200) (ks' := ks + 6000) (by omega) (by omega) ?_
  exact j_lo2 (KK _ _ _ LT2) (z_q1 rfl (z_q1 rfl (z_q1 rfl (z_q1 rfl (z_q1 rfl z_q0)))))
set_option maxRecDepth 100000 in
set_option maxHeartbeats 4000000 in
theorem lc_17 (hl : l.stackTraces = false) {w : z_W} {x i kc ks : Nat} {S : sp_S} {n : Int64} (LT : z_LX x S S n w) (hi6 : i + 6 ≤ z_sn G) (hsn : z_sn G ≤ 3072) (hkc : kc + 200 ≤ 793551) (hks : ks + 6000 ≤ 6715452) (KK : ∀ (S9 : sp_S) (n9 : Int64) (w9 : z_W), z_LX x S9 S9 n9 w9 → z_J G l mL_law z_SL 2228 (z_lol x i) [] w9 (kc + 200) (ks + 6000)) : z_J G l mL_law z_SL 1112 (z_lol x i) [] w kc ks := by
  show z_J G l mL_law _ 1112 [(0, _), (1, _), (2, _), (3, _), (4, _)] [] _ _ _
  refine j_aload_n dL_law_1112 rfl rfl ?_
  refine j_aload_n dL_law_1113 rfl rfl ?_
  refine j_iload dL_law_1114 rfl ?_
  refine j_iconst (v := 1) dL_law_1116 (by decide) ?_
  refine j_iadd dL_law_1117 ?_
  refine j_top (congrArg Value.int (show nI i + (1 : Int32) = nI (i + 1) from nI_add i 1)) ?_
  refine j_sld dL_law_1118 (by omega) (by omega) ?_
  refine j_aload_n dL_law_1119 rfl rfl ?_
  refine j_iload dL_law_1120 rfl ?_
  refine j_iconst (v := 2) dL_law_1122 (by decide) ?_
  refine j_iadd dL_law_1123 ?_
  refine j_top (congrArg Value.int (show nI i + (2 : Int32) = nI (i + 2) from nI_add i 2)) ?_
  refine j_sld dL_law_1124 (by omega) (by omega) ?_
  refine j_aload_n dL_law_1125 rfl rfl ?_
  refine j_iload dL_law_1126 rfl ?_
  refine j_iconst (v := 3) dL_law_1128 (by decide) ?_
  refine j_iadd dL_law_1129 ?_
  refine j_top (congrArg Value.int (show nI i + (3 : Int32) = nI (i + 3) from nI_add i 3)) ?_
  refine j_sld dL_law_1130 (by omega) (by omega) ?_
  refine j_aload_n dL_law_1131 rfl rfl ?_
  refine j_iload dL_law_1132 rfl ?_
  refine j_iconst (v := 4) dL_law_1134 (by decide) ?_
  refine j_iadd dL_law_1135 ?_
  refine j_top (congrArg Value.int (show nI i + (4 : Int32) = nI (i + 4) from nI_add i 4)) ?_
  refine j_sld dL_law_1136 (by omega) (by omega) ?_
  refine j_aload_n dL_law_1137 rfl rfl ?_
  refine j_callSW dL_law_1138 kL_merge lL_228 stL_merge (lw_merge hl w _ _ _ _ LT (z_sc G (i + 1)) (z_sc G (i + 2)) (z_sc G (i + 3)) (z_sc G (i + 4))) (Nat.le_of_ble_eq_true rfl) ⟨(by show _ ≤ 793551; omega), (by show _ ≤ 6715452; omega)⟩ rfl (Nat.le_of_ble_eq_true rfl) rfl rfl (fun _ _ h => h.elim) ?_
  rintro _ w1 ⟨n1, rfl, LT1, hn1⟩
  refine j_istore (lo' := [(5, _), (0, _), (1, _), (2, _), (3, _), (4, _)]) dL_law_1141 (by decide) rfl ?_
  refine j_aload_n dL_law_1143 rfl rfl ?_
  refine j_aload_n dL_law_1144 rfl rfl ?_
  refine j_iload dL_law_1145 rfl ?_
  refine j_iconst (v := 1) dL_law_1147 (by decide) ?_
  refine j_iadd dL_law_1148 ?_
  refine j_top (congrArg Value.int (show nI i + (1 : Int32) = nI (i + 1) from nI_add i 1)) ?_
  refine j_sld dL_law_1149 (by omega) (by omega) ?_
  refine j_aload_n dL_law_1150 rfl rfl ?_
  refine j_iload dL_law_1151 rfl ?_
  refine j_iconst (v := 2) dL_law_1153 (by decide) ?_
  refine j_iadd dL_law_1154 ?_
  refine j_top (congrArg Value.int (show nI i + (2 : Int32) = nI (i + 2) from nI_add i 2)) ?_
  refine j_sld dL_law_1155 (by omega) (by omega) ?_
  refine j_aload_n dL_law_1156 rfl rfl ?_
  refine j_iload dL_law_1157 rfl ?_
  refine j_iconst (v := 3) dL_law_1159 (by decide) ?_
  refine j_iadd dL_law_1160 ?_
  refine j_top (congrArg Value.int (show nI i + (3 : Int32) = nI (i + 3) from nI_add i 3)) ?_
  refine j_sld dL_law_1161 (by omega) (by omega) ?_
  refine j_aload_n dL_law_1162 rfl rfl ?_
  refine j_iload dL_law_1163 rfl ?_
  refine j_iconst (v := 4) dL_law_1165 (by decide) ?_
  refine j_iadd dL_law_1166 ?_
  refine j_top (congrArg Value.int (show nI i + (4 : Int32) = nI (i + 4) from nI_add i 4)) ?_
  refine j_sld dL_law_1167 (by omega) (by omega) ?_
  obtain ⟨-, ⟨s19, hs19, -⟩, -⟩ := id LT1
  refine j_callV (q := (RX11, TX11, 8)) dL_law_1168 kX11_merge lL_230 inX11_merge seX11_merge hs19.m rfl (kx_merge hl w1 LT1 (z_sc G (i + 1)) (z_sc G (i + 2)) (z_sc G (i + 3)) (z_sc G (i + 4))) (Nat.le_of_ble_eq_true rfl) ⟨(by show _ ≤ 793551; omega), (by show _ ≤ 6715452; omega)⟩ rfl (Nat.le_of_ble_eq_true rfl) rfl rfl (fun _ _ h => h.elim) ?_
  rintro _ w2 ⟨r2, rfl, LT2, th2, hr2⟩
  refine j_istore (lo' := [(6, _), (5, _), (0, _), (1, _), (2, _), (3, _), (4, _)]) dL_law_1171 (by decide) rfl ?_
  refine j_goto (tgt := 2228) dL_law_1173 (by decide) ?_
  refine j_widen (kc' := kc + 200) (ks' := ks + 6000) (by omega) (by omega) ?_
  exact j_lo2 (KK _ _ _ LT2) (z_q1 rfl (z_q1 rfl (z_q1 rfl (z_q1 rfl (z_q1 rfl z_q0)))))
set_option maxRecDepth 100000 in
set_option maxHeartbeats 4000000 in
theorem lc_18 (hl : l.stackTraces = false) {w : z_W} {x i kc ks : Nat} {S : sp_S} {n : Int64} (LT : z_LX x S S n w) (hi6 : i + 6 ≤ z_sn G) (hsn : z_sn G ≤ 3072) (hkc : kc + 200 ≤ 793551) (hks : ks + 6000 ≤ 6715452) (KK : ∀ (S9 : sp_S) (n9 : Int64) (w9 : z_W), z_LX x S9 S9 n9 w9 → z_J G l mL_law z_SL 2228 (z_lol x i) [] w9 (kc + 200) (ks + 6000)) : z_J G l mL_law z_SL 1176 (z_lol x i) [] w kc ks := by
  show z_J G l mL_law _ 1176 [(0, _), (1, _), (2, _), (3, _), (4, _)] [] _ _ _
  refine j_aload_n dL_law_1176 rfl rfl ?_
  refine j_aload_n dL_law_1177 rfl rfl ?_
  refine j_iload dL_law_1178 rfl ?_
  refine j_iconst (v := 1) dL_law_1180 (by decide) ?_
  refine j_iadd dL_law_1181 ?_
  refine j_top (congrArg Value.int (show nI i + (1 : Int32) = nI (i + 1) from nI_add i 1)) ?_
  refine j_sld dL_law_1182 (by omega) (by omega) ?_
  refine j_aload_n dL_law_1183 rfl rfl ?_
  refine j_iload dL_law_1184 rfl ?_
  refine j_iconst (v := 2) dL_law_1186 (by decide) ?_
  refine j_iadd dL_law_1187 ?_
  refine j_top (congrArg Value.int (show nI i + (2 : Int32) = nI (i + 2) from nI_add i 2)) ?_
  refine j_sld dL_law_1188 (by omega) (by omega) ?_
  refine j_aload_n dL_law_1189 rfl rfl ?_
  refine j_callSW dL_law_1190 kL_hearTable lL_231 stL_hearTable (lw_hearTable hl w _ _ _ _ LT (z_sc G (i + 1)) (z_sc G (i + 2))) (Nat.le_of_ble_eq_true rfl) ⟨(by show _ ≤ 793551; omega), (by show _ ≤ 6715452; omega)⟩ rfl (Nat.le_of_ble_eq_true rfl) rfl rfl (fun _ _ h => h.elim) ?_
  rintro _ w1 ⟨n1, rfl, LT1, hn1⟩
  refine j_istore (lo' := [(5, _), (0, _), (1, _), (2, _), (3, _), (4, _)]) dL_law_1193 (by decide) rfl ?_
  refine j_aload_n dL_law_1195 rfl rfl ?_
  refine j_aload_n dL_law_1196 rfl rfl ?_
  refine j_iload dL_law_1197 rfl ?_
  refine j_iconst (v := 1) dL_law_1199 (by decide) ?_
  refine j_iadd dL_law_1200 ?_
  refine j_top (congrArg Value.int (show nI i + (1 : Int32) = nI (i + 1) from nI_add i 1)) ?_
  refine j_sld dL_law_1201 (by omega) (by omega) ?_
  refine j_aload_n dL_law_1202 rfl rfl ?_
  refine j_iload dL_law_1203 rfl ?_
  refine j_iconst (v := 2) dL_law_1205 (by decide) ?_
  refine j_iadd dL_law_1206 ?_
  refine j_top (congrArg Value.int (show nI i + (2 : Int32) = nI (i + 2) from nI_add i 2)) ?_
  refine j_sld dL_law_1207 (by omega) (by omega) ?_
  obtain ⟨-, ⟨s20, hs20, -⟩, -⟩ := id LT1
  refine j_callV (q := (RX11, TX11, 8)) dL_law_1208 kX11_hearTable lL_233 inX11_hearTable seX11_hearTable hs20.m rfl (kx_hearTable hl w1 LT1 (z_sc G (i + 1)) (z_sc G (i + 2))) (Nat.le_of_ble_eq_true rfl) ⟨(by show _ ≤ 793551; omega), (by show _ ≤ 6715452; omega)⟩ rfl (Nat.le_of_ble_eq_true rfl) rfl rfl (fun _ _ h => h.elim) ?_
  rintro _ w2 ⟨r2, rfl, LT2, th2, hr2⟩
  refine j_istore (lo' := [(6, _), (5, _), (0, _), (1, _), (2, _), (3, _), (4, _)]) dL_law_1211 (by decide) rfl ?_
  refine j_goto (tgt := 2228) dL_law_1213 (by decide) ?_
  refine j_widen (kc' := kc + 200) (ks' := ks + 6000) (by omega) (by omega) ?_
  exact j_lo2 (KK _ _ _ LT2) (z_q1 rfl (z_q1 rfl (z_q1 rfl (z_q1 rfl (z_q1 rfl z_q0)))))
set_option maxRecDepth 100000 in
set_option maxHeartbeats 4000000 in
theorem lc_19 (hl : l.stackTraces = false) {w : z_W} {x i kc ks : Nat} {S : sp_S} {n : Int64} (LT : z_LX x S S n w) (hi6 : i + 6 ≤ z_sn G) (hsn : z_sn G ≤ 3072) (hkc : kc + 200 ≤ 793551) (hks : ks + 6000 ≤ 6715452) (KK : ∀ (S9 : sp_S) (n9 : Int64) (w9 : z_W), z_LX x S9 S9 n9 w9 → z_J G l mL_law z_SL 2228 (z_lol x i) [] w9 (kc + 200) (ks + 6000)) : z_J G l mL_law z_SL 1216 (z_lol x i) [] w kc ks := by
  show z_J G l mL_law _ 1216 [(0, _), (1, _), (2, _), (3, _), (4, _)] [] _ _ _
  refine j_aload_n dL_law_1216 rfl rfl ?_
  refine j_aload_n dL_law_1217 rfl rfl ?_
  refine j_iload dL_law_1218 rfl ?_
  refine j_iconst (v := 1) dL_law_1220 (by decide) ?_
  refine j_iadd dL_law_1221 ?_
  refine j_top (congrArg Value.int (show nI i + (1 : Int32) = nI (i + 1) from nI_add i 1)) ?_
  refine j_sld dL_law_1222 (by omega) (by omega) ?_
  refine j_aload_n dL_law_1223 rfl rfl ?_
  refine j_iload dL_law_1224 rfl ?_
  refine j_iconst (v := 2) dL_law_1226 (by decide) ?_
  refine j_iadd dL_law_1227 ?_
  refine j_top (congrArg Value.int (show nI i + (2 : Int32) = nI (i + 2) from nI_add i 2)) ?_
  refine j_sld dL_law_1228 (by omega) (by omega) ?_
  refine j_aload_n dL_law_1229 rfl rfl ?_
  refine j_iload dL_law_1230 rfl ?_
  refine j_iconst (v := 3) dL_law_1232 (by decide) ?_
  refine j_iadd dL_law_1233 ?_
  refine j_top (congrArg Value.int (show nI i + (3 : Int32) = nI (i + 3) from nI_add i 3)) ?_
  refine j_sld dL_law_1234 (by omega) (by omega) ?_
  refine j_aload_n dL_law_1235 rfl rfl ?_
  refine j_callSW dL_law_1236 kL_replaceTable lL_234 stL_replaceTable (lw_replaceTable hl w _ _ _ _ LT (z_sc G (i + 1)) (z_sc G (i + 2)) (z_sc G (i + 3))) (Nat.le_of_ble_eq_true rfl) ⟨(by show _ ≤ 793551; omega), (by show _ ≤ 6715452; omega)⟩ rfl (Nat.le_of_ble_eq_true rfl) rfl rfl (fun _ _ h => h.elim) ?_
  rintro _ w1 ⟨n1, rfl, LT1, hn1⟩
  refine j_istore (lo' := [(5, _), (0, _), (1, _), (2, _), (3, _), (4, _)]) dL_law_1239 (by decide) rfl ?_
  refine j_aload_n dL_law_1241 rfl rfl ?_
  refine j_aload_n dL_law_1242 rfl rfl ?_
  refine j_iload dL_law_1243 rfl ?_
  refine j_iconst (v := 1) dL_law_1245 (by decide) ?_
  refine j_iadd dL_law_1246 ?_
  refine j_top (congrArg Value.int (show nI i + (1 : Int32) = nI (i + 1) from nI_add i 1)) ?_
  refine j_sld dL_law_1247 (by omega) (by omega) ?_
  refine j_aload_n dL_law_1248 rfl rfl ?_
  refine j_iload dL_law_1249 rfl ?_
  refine j_iconst (v := 2) dL_law_1251 (by decide) ?_
  refine j_iadd dL_law_1252 ?_
  refine j_top (congrArg Value.int (show nI i + (2 : Int32) = nI (i + 2) from nI_add i 2)) ?_
  refine j_sld dL_law_1253 (by omega) (by omega) ?_
  refine j_aload_n dL_law_1254 rfl rfl ?_
  refine j_iload dL_law_1255 rfl ?_
  refine j_iconst (v := 3) dL_law_1257 (by decide) ?_
  refine j_iadd dL_law_1258 ?_
  refine j_top (congrArg Value.int (show nI i + (3 : Int32) = nI (i + 3) from nI_add i 3)) ?_
  refine j_sld dL_law_1259 (by omega) (by omega) ?_
  obtain ⟨-, ⟨s21, hs21, -⟩, -⟩ := id LT1
  refine j_callV (q := (RX11, TX11, 8)) dL_law_1260 kX11_replaceTable lL_236 inX11_replaceTable seX11_replaceTable hs21.m rfl (kx_replaceTable hl w1 LT1 (z_sc G (i + 1)) (z_sc G (i + 2)) (z_sc G (i + 3))) (Nat.le_of_ble_eq_true rfl) ⟨(by show _ ≤ 793551; omega), (by show _ ≤ 6715452; omega)⟩ rfl (Nat.le_of_ble_eq_true rfl) rfl rfl (fun _ _ h => h.elim) ?_
  rintro _ w2 ⟨r2, rfl, LT2, th2, hr2⟩
  refine j_istore (lo' := [(6, _), (5, _), (0, _), (1, _), (2, _), (3, _), (4, _)]) dL_law_1263 (by decide) rfl ?_
  refine j_goto (tgt := 2228) dL_law_1265 (by decide) ?_
  refine j_widen (kc' := kc + 200) (ks' := ks + 6000) (by omega) (by omega) ?_
  exact j_lo2 (KK _ _ _ LT2) (z_q1 rfl (z_q1 rfl (z_q1 rfl (z_q1 rfl (z_q1 rfl z_q0)))))
set_option maxRecDepth 100000 in
set_option maxHeartbeats 4000000 in
theorem lc_20 (hl : l.stackTraces = false) {w : z_W} {x i kc ks : Nat} {S : sp_S} {n : Int64} (LT : z_LX x S S n w) (hi6 : i + 6 ≤ z_sn G) (hsn : z_sn G ≤ 3072) (hkc : kc + 200 ≤ 793551) (hks : ks + 6000 ≤ 6715452) (KK : ∀ (S9 : sp_S) (n9 : Int64) (w9 : z_W), z_LX x S9 S9 n9 w9 → z_J G l mL_law z_SL 2228 (z_lol x i) [] w9 (kc + 200) (ks + 6000)) : z_J G l mL_law z_SL 1268 (z_lol x i) [] w kc ks := by
  show z_J G l mL_law _ 1268 [(0, _), (1, _), (2, _), (3, _), (4, _)] [] _ _ _
  refine j_aload_n dL_law_1268 rfl rfl ?_
  refine j_aload_n dL_law_1269 rfl rfl ?_
  refine j_iload dL_law_1270 rfl ?_
  refine j_iconst (v := 1) dL_law_1272 (by decide) ?_
  refine j_iadd dL_law_1273 ?_
  refine j_top (congrArg Value.int (show nI i + (1 : Int32) = nI (i + 1) from nI_add i 1)) ?_
  refine j_sld dL_law_1274 (by omega) (by omega) ?_
  refine j_aload_n dL_law_1275 rfl rfl ?_
  refine j_callSW dL_law_1276 kL_clear lL_237 stL_clear (lw_clear hl w _ _ _ _ LT (z_sc G (i + 1))) (Nat.le_of_ble_eq_true rfl) ⟨(by show _ ≤ 793551; omega), (by show _ ≤ 6715452; omega)⟩ rfl (Nat.le_of_ble_eq_true rfl) rfl rfl (fun _ _ h => h.elim) ?_
  rintro _ w1 ⟨n1, rfl, LT1, hn1⟩
  refine j_istore (lo' := [(5, _), (0, _), (1, _), (2, _), (3, _), (4, _)]) dL_law_1279 (by decide) rfl ?_
  refine j_aload_n dL_law_1281 rfl rfl ?_
  refine j_aload_n dL_law_1282 rfl rfl ?_
  refine j_iload dL_law_1283 rfl ?_
  refine j_iconst (v := 1) dL_law_1285 (by decide) ?_
  refine j_iadd dL_law_1286 ?_
  refine j_top (congrArg Value.int (show nI i + (1 : Int32) = nI (i + 1) from nI_add i 1)) ?_
  refine j_sld dL_law_1287 (by omega) (by omega) ?_
  obtain ⟨-, ⟨s22, hs22, -⟩, -⟩ := id LT1
  refine j_callV (q := (RX11, TX11, 8)) dL_law_1288 kX11_clear lL_239 inX11_clear seX11_clear hs22.m rfl (kx_clear hl w1 LT1 (z_sc G (i + 1))) (Nat.le_of_ble_eq_true rfl) ⟨(by show _ ≤ 793551; omega), (by show _ ≤ 6715452; omega)⟩ rfl (Nat.le_of_ble_eq_true rfl) rfl rfl (fun _ _ h => h.elim) ?_
  rintro _ w2 ⟨r2, rfl, LT2, th2, hr2⟩
  refine j_istore (lo' := [(6, _), (5, _), (0, _), (1, _), (2, _), (3, _), (4, _)]) dL_law_1291 (by decide) rfl ?_
  refine j_goto (tgt := 2228) dL_law_1293 (by decide) ?_
  refine j_widen (kc' := kc + 200) (ks' := ks + 6000) (by omega) (by omega) ?_
  exact j_lo2 (KK _ _ _ LT2) (z_q1 rfl (z_q1 rfl (z_q1 rfl (z_q1 rfl (z_q1 rfl z_q0)))))
set_option maxRecDepth 100000 in
set_option maxHeartbeats 4000000 in
theorem lc_21 (hl : l.stackTraces = false) {w : z_W} {x i kc ks : Nat} {S : sp_S} {n : Int64} (LT : z_LX x S S n w) (hi6 : i + 6 ≤ z_sn G) (hsn : z_sn G ≤ 3072) (hkc : kc + 200 ≤ 793551) (hks : ks + 6000 ≤ 6715452) (KK : ∀ (S9 : sp_S) (n9 : Int64) (w9 : z_W), z_LX x S9 S9 n9 w9 → z_J G l mL_law z_SL 2228 (z_lol x i) [] w9 (kc + 200) (ks + 6000)) : z_J G l mL_law z_SL 1296 (z_lol x i) [] w kc ks := by
  show z_J G l mL_law _ 1296 [(0, _), (1, _), (2, _), (3, _), (4, _)] [] _ _ _
  refine j_aload_n dL_law_1296 rfl rfl ?_
  refine j_aload_n dL_law_1297 rfl rfl ?_
  refine j_iload dL_law_1298 rfl ?_
  refine j_iconst (v := 1) dL_law_1300 (by decide) ?_
  refine j_iadd dL_law_1301 ?_
  refine j_top (congrArg Value.int (show nI i + (1 : Int32) = nI (i + 1) from nI_add i 1)) ?_
  refine j_sld dL_law_1302 (by omega) (by omega) ?_
  refine j_aload_n dL_law_1303 rfl rfl ?_
  refine j_iload dL_law_1304 rfl ?_
  refine j_iconst (v := 2) dL_law_1306 (by decide) ?_
  refine j_iadd dL_law_1307 ?_
  refine j_top (congrArg Value.int (show nI i + (2 : Int32) = nI (i + 2) from nI_add i 2)) ?_
  refine j_sld dL_law_1308 (by omega) (by omega) ?_
  refine j_aload_n dL_law_1309 rfl rfl ?_
  refine j_iload dL_law_1310 rfl ?_
  refine j_iconst (v := 3) dL_law_1312 (by decide) ?_
  refine j_iadd dL_law_1313 ?_
  refine j_top (congrArg Value.int (show nI i + (3 : Int32) = nI (i + 3) from nI_add i 3)) ?_
  refine j_sld dL_law_1314 (by omega) (by omega) ?_
  refine j_aload_n dL_law_1315 rfl rfl ?_
  refine j_iload dL_law_1316 rfl ?_
  refine j_iconst (v := 4) dL_law_1318 (by decide) ?_
  refine j_iadd dL_law_1319 ?_
  refine j_top (congrArg Value.int (show nI i + (4 : Int32) = nI (i + 4) from nI_add i 4)) ?_
  refine j_sld dL_law_1320 (by omega) (by omega) ?_
  refine j_aload_n dL_law_1321 rfl rfl ?_
  refine j_callSW dL_law_1322 kL_hearSpan lL_240 stL_hearSpan (lw_hearSpan hl w _ _ _ _ LT (z_sc G (i + 1)) (z_sc G (i + 2)) (z_sc G (i + 3)) (z_sc G (i + 4))) (Nat.le_of_ble_eq_true rfl) ⟨(by show _ ≤ 793551; omega), (by show _ ≤ 6715452; omega)⟩ rfl (Nat.le_of_ble_eq_true rfl) rfl rfl (fun _ _ h => h.elim) ?_
  rintro _ w1 ⟨n1, rfl, LT1, hn1⟩
  refine j_istore (lo' := [(5, _), (0, _), (1, _), (2, _), (3, _), (4, _)]) dL_law_1325 (by decide) rfl ?_
  refine j_aload_n dL_law_1327 rfl rfl ?_
  refine j_aload_n dL_law_1328 rfl rfl ?_
  refine j_iload dL_law_1329 rfl ?_
  refine j_iconst (v := 1) dL_law_1331 (by decide) ?_
  refine j_iadd dL_law_1332 ?_
  refine j_top (congrArg Value.int (show nI i + (1 : Int32) = nI (i + 1) from nI_add i 1)) ?_
  refine j_sld dL_law_1333 (by omega) (by omega) ?_
  refine j_aload_n dL_law_1334 rfl rfl ?_
  refine j_iload dL_law_1335 rfl ?_
  refine j_iconst (v := 2) dL_law_1337 (by decide) ?_
  refine j_iadd dL_law_1338 ?_
  refine j_top (congrArg Value.int (show nI i + (2 : Int32) = nI (i + 2) from nI_add i 2)) ?_
  refine j_sld dL_law_1339 (by omega) (by omega) ?_
  refine j_aload_n dL_law_1340 rfl rfl ?_
  refine j_iload dL_law_1341 rfl ?_
  refine j_iconst (v := 3) dL_law_1343 (by decide) ?_
  refine j_iadd dL_law_1344 ?_
  refine j_top (congrArg Value.int (show nI i + (3 : Int32) = nI (i + 3) from nI_add i 3)) ?_
  refine j_sld dL_law_1345 (by omega) (by omega) ?_
  refine j_aload_n dL_law_1346 rfl rfl ?_
  refine j_iload dL_law_1347 rfl ?_
  refine j_iconst (v := 4) dL_law_1349 (by decide) ?_
  refine j_iadd dL_law_1350 ?_
  refine j_top (congrArg Value.int (show nI i + (4 : Int32) = nI (i + 4) from nI_add i 4)) ?_
  refine j_sld dL_law_1351 (by omega) (by omega) ?_
  obtain ⟨-, ⟨s23, hs23, -⟩, -⟩ := id LT1
  refine j_callV (q := (RX11, TX11, 8)) dL_law_1352 kX11_hearSpan lL_242 inX11_hearSpan seX11_hearSpan hs23.m rfl (kx_hearSpan hl w1 LT1 (z_sc G (i + 1)) (z_sc G (i + 2)) (z_sc G (i + 3)) (z_sc G (i + 4))) (Nat.le_of_ble_eq_true rfl) ⟨(by show _ ≤ 793551; omega), (by show _ ≤ 6715452; omega)⟩ rfl (Nat.le_of_ble_eq_true rfl) rfl rfl (fun _ _ h => h.elim) ?_
  rintro _ w2 ⟨r2, rfl, LT2, th2, hr2⟩
  refine j_istore (lo' := [(6, _), (5, _), (0, _), (1, _), (2, _), (3, _), (4, _)]) dL_law_1355 (by decide) rfl ?_
  refine j_goto (tgt := 2228) dL_law_1357 (by decide) ?_
  refine j_widen (kc' := kc + 200) (ks' := ks + 6000) (by omega) (by omega) ?_
  exact j_lo2 (KK _ _ _ LT2) (z_q1 rfl (z_q1 rfl (z_q1 rfl (z_q1 rfl (z_q1 rfl z_q0)))))
set_option maxRecDepth 100000 in
set_option maxHeartbeats 4000000 in
theorem lc_22 (hl : l.stackTraces = false) {w : z_W} {x i kc ks : Nat} {S : sp_S} {n : Int64} (LT : z_LX x S S n w) (hi6 : i + 6 ≤ z_sn G) (hsn : z_sn G ≤ 3072) (hkc : kc + 200 ≤ 793551) (hks : ks + 6000 ≤ 6715452) (KK : ∀ (S9 : sp_S) (n9 : Int64) (w9 : z_W), z_LX x S9 S9 n9 w9 → z_J G l mL_law z_SL 2228 (z_lol x i) [] w9 (kc + 200) (ks + 6000)) : z_J G l mL_law z_SL 1360 (z_lol x i) [] w kc ks := by
  show z_J G l mL_law _ 1360 [(0, _), (1, _), (2, _), (3, _), (4, _)] [] _ _ _
  refine j_aload_n dL_law_1360 rfl rfl ?_
  refine j_aload_n dL_law_1361 rfl rfl ?_
  refine j_iload dL_law_1362 rfl ?_
  refine j_iconst (v := 1) dL_law_1364 (by decide) ?_
  refine j_iadd dL_law_1365 ?_
  refine j_top (congrArg Value.int (show nI i + (1 : Int32) = nI (i + 1) from nI_add i 1)) ?_
  refine j_sld dL_law_1366 (by omega) (by omega) ?_
  refine j_aload_n dL_law_1367 rfl rfl ?_
  refine j_iload dL_law_1368 rfl ?_
  refine j_iconst (v := 2) dL_law_1370 (by decide) ?_
  refine j_iadd dL_law_1371 ?_
  refine j_top (congrArg Value.int (show nI i + (2 : Int32) = nI (i + 2) from nI_add i 2)) ?_
  refine j_sld dL_law_1372 (by omega) (by omega) ?_
  refine j_aload_n dL_law_1373 rfl rfl ?_
  refine j_iload dL_law_1374 rfl ?_
  refine j_iconst (v := 3) dL_law_1376 (by decide) ?_
  refine j_iadd dL_law_1377 ?_
  refine j_top (congrArg Value.int (show nI i + (3 : Int32) = nI (i + 3) from nI_add i 3)) ?_
  refine j_sld dL_law_1378 (by omega) (by omega) ?_
  refine j_aload_n dL_law_1379 rfl rfl ?_
  refine j_iload dL_law_1380 rfl ?_
  refine j_iconst (v := 4) dL_law_1382 (by decide) ?_
  refine j_iadd dL_law_1383 ?_
  refine j_top (congrArg Value.int (show nI i + (4 : Int32) = nI (i + 4) from nI_add i 4)) ?_
  refine j_sld dL_law_1384 (by omega) (by omega) ?_
  refine j_aload_n dL_law_1385 rfl rfl ?_
  refine j_iload dL_law_1386 rfl ?_
  refine j_iconst (v := 5) dL_law_1388 (by decide) ?_
  refine j_iadd dL_law_1389 ?_
  refine j_top (congrArg Value.int (show nI i + (5 : Int32) = nI (i + 5) from nI_add i 5)) ?_
  refine j_sld dL_law_1390 (by omega) (by omega) ?_
  refine j_aload_n dL_law_1391 rfl rfl ?_
  refine j_callSW dL_law_1392 kL_hearSteps lL_243 stL_hearSteps (lw_hearSteps hl w _ _ _ _ LT (z_sc G (i + 1)) (z_sc G (i + 2)) (z_sc G (i + 3)) (z_sc G (i + 4)) (z_sc G (i + 5))) (Nat.le_of_ble_eq_true rfl) ⟨(by show _ ≤ 793551; omega), (by show _ ≤ 6715452; omega)⟩ rfl (Nat.le_of_ble_eq_true rfl) rfl rfl (fun _ _ h => h.elim) ?_
  rintro _ w1 ⟨n1, rfl, LT1, hn1⟩
  refine j_istore (lo' := [(5, _), (0, _), (1, _), (2, _), (3, _), (4, _)]) dL_law_1395 (by decide) rfl ?_
  refine j_aload_n dL_law_1397 rfl rfl ?_
  refine j_aload_n dL_law_1398 rfl rfl ?_
  refine j_iload dL_law_1399 rfl ?_
  refine j_iconst (v := 1) dL_law_1401 (by decide) ?_
  refine j_iadd dL_law_1402 ?_
  refine j_top (congrArg Value.int (show nI i + (1 : Int32) = nI (i + 1) from nI_add i 1)) ?_
  refine j_sld dL_law_1403 (by omega) (by omega) ?_
  refine j_aload_n dL_law_1404 rfl rfl ?_
  refine j_iload dL_law_1405 rfl ?_
  refine j_iconst (v := 2) dL_law_1407 (by decide) ?_
  refine j_iadd dL_law_1408 ?_
  refine j_top (congrArg Value.int (show nI i + (2 : Int32) = nI (i + 2) from nI_add i 2)) ?_
  refine j_sld dL_law_1409 (by omega) (by omega) ?_
  refine j_aload_n dL_law_1410 rfl rfl ?_
  refine j_iload dL_law_1411 rfl ?_
  refine j_iconst (v := 3) dL_law_1413 (by decide) ?_
  refine j_iadd dL_law_1414 ?_
  refine j_top (congrArg Value.int (show nI i + (3 : Int32) = nI (i + 3) from nI_add i 3)) ?_
  refine j_sld dL_law_1415 (by omega) (by omega) ?_
  refine j_aload_n dL_law_1416 rfl rfl ?_
  refine j_iload dL_law_1417 rfl ?_
  refine j_iconst (v := 4) dL_law_1419 (by decide) ?_
  refine j_iadd dL_law_1420 ?_
  refine j_top (congrArg Value.int (show nI i + (4 : Int32) = nI (i + 4) from nI_add i 4)) ?_
  refine j_sld dL_law_1421 (by omega) (by omega) ?_
  refine j_aload_n dL_law_1422 rfl rfl ?_
  refine j_iload dL_law_1423 rfl ?_
  refine j_iconst (v := 5) dL_law_1425 (by decide) ?_
  refine j_iadd dL_law_1426 ?_
  refine j_top (congrArg Value.int (show nI i + (5 : Int32) = nI (i + 5) from nI_add i 5)) ?_
  refine j_sld dL_law_1427 (by omega) (by omega) ?_
  obtain ⟨-, ⟨s24, hs24, -⟩, -⟩ := id LT1
  refine j_callV (q := (RX11, TX11, 8)) dL_law_1428 kX11_hearSteps lL_246 inX11_hearSteps seX11_hearSteps hs24.m rfl (kx_hearSteps hl w1 LT1 (z_sc G (i + 1)) (z_sc G (i + 2)) (z_sc G (i + 3)) (z_sc G (i + 4)) (z_sc G (i + 5))) (Nat.le_of_ble_eq_true rfl) ⟨(by show _ ≤ 793551; omega), (by show _ ≤ 6715452; omega)⟩ rfl (Nat.le_of_ble_eq_true rfl) rfl rfl (fun _ _ h => h.elim) ?_
  rintro _ w2 ⟨r2, rfl, LT2, th2, hr2⟩
  refine j_istore (lo' := [(6, _), (5, _), (0, _), (1, _), (2, _), (3, _), (4, _)]) dL_law_1431 (by decide) rfl ?_
  refine j_goto (tgt := 2228) dL_law_1433 (by decide) ?_
  refine j_widen (kc' := kc + 200) (ks' := ks + 6000) (by omega) (by omega) ?_
  exact j_lo2 (KK _ _ _ LT2) (z_q1 rfl (z_q1 rfl (z_q1 rfl (z_q1 rfl (z_q1 rfl z_q0)))))
set_option maxRecDepth 100000 in
set_option maxHeartbeats 4000000 in
theorem lc_23 (hl : l.stackTraces = false) {w : z_W} {x i kc ks : Nat} {S : sp_S} {n : Int64} (LT : z_LX x S S n w) (hi6 : i + 6 ≤ z_sn G) (hsn : z_sn G ≤ 3072) (hkc : kc + 200 ≤ 793551) (hks : ks + 6000 ≤ 6715452) (KK : ∀ (S9 : sp_S) (n9 : Int64) (w9 : z_W), z_LX x S9 S9 n9 w9 → z_J G l mL_law z_SL 2228 (z_lol x i) [] w9 (kc + 200) (ks + 6000)) : z_J G l mL_law z_SL 1436 (z_lol x i) [] w kc ks := by
  show z_J G l mL_law _ 1436 [(0, _), (1, _), (2, _), (3, _), (4, _)] [] _ _ _
  refine j_aload_n dL_law_1436 rfl rfl ?_
  refine j_aload_n dL_law_1437 rfl rfl ?_
  refine j_iload dL_law_1438 rfl ?_
  refine j_iconst (v := 1) dL_law_1440 (by decide) ?_
  refine j_iadd dL_law_1441 ?_
  refine j_top (congrArg Value.int (show nI i + (1 : Int32) = nI (i + 1) from nI_add i 1)) ?_
  refine j_sld dL_law_1442 (by omega) (by omega) ?_
  refine j_aload_n dL_law_1443 rfl rfl ?_
  refine j_iload dL_law_1444 rfl ?_
  refine j_iconst (v := 2) dL_law_1446 (by decide) ?_
  refine j_iadd dL_law_1447 ?_
  refine j_top (congrArg Value.int (show nI i + (2 : Int32) = nI (i + 2) from nI_add i 2)) ?_
  refine j_sld dL_law_1448 (by omega) (by omega) ?_
  refine j_aload_n dL_law_1449 rfl rfl ?_
  refine j_callSW dL_law_1450 kL_takeStep lL_247 stL_takeStep (lw_takeStep hl w _ _ _ _ LT (z_sc G (i + 1)) (z_sc G (i + 2))) (Nat.le_of_ble_eq_true rfl) ⟨(by show _ ≤ 793551; omega), (by show _ ≤ 6715452; omega)⟩ rfl (Nat.le_of_ble_eq_true rfl) rfl rfl (fun _ _ h => h.elim) ?_
  rintro _ w1 ⟨n1, rfl, LT1, hn1⟩
  refine j_istore (lo' := [(5, _), (0, _), (1, _), (2, _), (3, _), (4, _)]) dL_law_1453 (by decide) rfl ?_
  refine j_aload_n dL_law_1455 rfl rfl ?_
  refine j_aload_n dL_law_1456 rfl rfl ?_
  refine j_iload dL_law_1457 rfl ?_
  refine j_iconst (v := 1) dL_law_1459 (by decide) ?_
  refine j_iadd dL_law_1460 ?_
  refine j_top (congrArg Value.int (show nI i + (1 : Int32) = nI (i + 1) from nI_add i 1)) ?_
  refine j_sld dL_law_1461 (by omega) (by omega) ?_
  refine j_aload_n dL_law_1462 rfl rfl ?_
  refine j_iload dL_law_1463 rfl ?_
  refine j_iconst (v := 2) dL_law_1465 (by decide) ?_
  refine j_iadd dL_law_1466 ?_
  refine j_top (congrArg Value.int (show nI i + (2 : Int32) = nI (i + 2) from nI_add i 2)) ?_
  refine j_sld dL_law_1467 (by omega) (by omega) ?_
  obtain ⟨-, ⟨s25, hs25, -⟩, -⟩ := id LT1
  refine j_callV (q := (RX11, TX11, 8)) dL_law_1468 kX11_takeStep lL_249 inX11_takeStep seX11_takeStep hs25.m rfl (kx_takeStep hl w1 LT1 (z_sc G (i + 1)) (z_sc G (i + 2))) (Nat.le_of_ble_eq_true rfl) ⟨(by show _ ≤ 793551; omega), (by show _ ≤ 6715452; omega)⟩ rfl (Nat.le_of_ble_eq_true rfl) rfl rfl (fun _ _ h => h.elim) ?_
  rintro _ w2 ⟨r2, rfl, LT2, th2, hr2⟩
  refine j_istore (lo' := [(6, _), (5, _), (0, _), (1, _), (2, _), (3, _), (4, _)]) dL_law_1471 (by decide) rfl ?_
  refine j_goto (tgt := 2228) dL_law_1473 (by decide) ?_
  refine j_widen (kc' := kc + 200) (ks' := ks + 6000) (by omega) (by omega) ?_
  exact j_lo2 (KK _ _ _ LT2) (z_q1 rfl (z_q1 rfl (z_q1 rfl (z_q1 rfl (z_q1 rfl z_q0)))))
set_option maxRecDepth 100000 in
set_option maxHeartbeats 4000000 in
theorem lc_24 (hl : l.stackTraces = false) {w : z_W} {x i kc ks : Nat} {S : sp_S} {n : Int64} (LT : z_LX x S S n w) (hi6 : i + 6 ≤ z_sn G) (hsn : z_sn G ≤ 3072) (hkc : kc + 200 ≤ 793551) (hks : ks + 6000 ≤ 6715452) (KK : ∀ (S9 : sp_S) (n9 : Int64) (w9 : z_W), z_LX x S9 S9 n9 w9 → z_J G l mL_law z_SL 2228 (z_lol x i) [] w9 (kc + 200) (ks + 6000)) : z_J G l mL_law z_SL 1476 (z_lol x i) [] w kc ks := by
  show z_J G l mL_law _ 1476 [(0, _), (1, _), (2, _), (3, _), (4, _)] [] _ _ _
  refine j_aload_n dL_law_1476 rfl rfl ?_
  refine j_aload_n dL_law_1477 rfl rfl ?_
  refine j_iload dL_law_1478 rfl ?_
  refine j_iconst (v := 1) dL_law_1480 (by decide) ?_
  refine j_iadd dL_law_1481 ?_
  refine j_top (congrArg Value.int (show nI i + (1 : Int32) = nI (i + 1) from nI_add i 1)) ?_
  refine j_sld dL_law_1482 (by omega) (by omega) ?_
  refine j_aload_n dL_law_1483 rfl rfl ?_
  refine j_iload dL_law_1484 rfl ?_
  refine j_iconst (v := 2) dL_law_1486 (by decide) ?_
  refine j_iadd dL_law_1487 ?_
  refine j_top (congrArg Value.int (show nI i + (2 : Int32) = nI (i + 2) from nI_add i 2)) ?_
  refine j_sld dL_law_1488 (by omega) (by omega) ?_
  refine j_aload_n dL_law_1489 rfl rfl ?_
  refine j_callSW dL_law_1490 kL_stop lL_250 stL_stop (lw_stop hl w _ _ _ _ LT (z_sc G (i + 1)) (z_sc G (i + 2))) (Nat.le_of_ble_eq_true rfl) ⟨(by show _ ≤ 793551; omega), (by show _ ≤ 6715452; omega)⟩ rfl (Nat.le_of_ble_eq_true rfl) rfl rfl (fun _ _ h => h.elim) ?_
  rintro _ w1 ⟨n1, rfl, LT1, hn1⟩
  refine j_istore (lo' := [(5, _), (0, _), (1, _), (2, _), (3, _), (4, _)]) dL_law_1493 (by decide) rfl ?_
  refine j_aload_n dL_law_1495 rfl rfl ?_
  refine j_aload_n dL_law_1496 rfl rfl ?_
  refine j_iload dL_law_1497 rfl ?_
  refine j_iconst (v := 1) dL_law_1499 (by decide) ?_
  refine j_iadd dL_law_1500 ?_
  refine j_top (congrArg Value.int (show nI i + (1 : Int32) = nI (i + 1) from nI_add i 1)) ?_
  refine j_sld dL_law_1501 (by omega) (by omega) ?_
  refine j_aload_n dL_law_1502 rfl rfl ?_
  refine j_iload dL_law_1503 rfl ?_
  refine j_iconst (v := 2) dL_law_1505 (by decide) ?_
  refine j_iadd dL_law_1506 ?_
  refine j_top (congrArg Value.int (show nI i + (2 : Int32) = nI (i + 2) from nI_add i 2)) ?_
  refine j_sld dL_law_1507 (by omega) (by omega) ?_
  obtain ⟨-, ⟨s26, hs26, -⟩, -⟩ := id LT1
  refine j_callV (q := (RX11, TX11, 8)) dL_law_1508 kX11_stop lL_252 inX11_stop seX11_stop hs26.m rfl (kx_stop hl w1 LT1 (z_sc G (i + 1)) (z_sc G (i + 2))) (Nat.le_of_ble_eq_true rfl) ⟨(by show _ ≤ 793551; omega), (by show _ ≤ 6715452; omega)⟩ rfl (Nat.le_of_ble_eq_true rfl) rfl rfl (fun _ _ h => h.elim) ?_
  rintro _ w2 ⟨r2, rfl, LT2, th2, hr2⟩
  refine j_istore (lo' := [(6, _), (5, _), (0, _), (1, _), (2, _), (3, _), (4, _)]) dL_law_1511 (by decide) rfl ?_
  refine j_goto (tgt := 2228) dL_law_1513 (by decide) ?_
  refine j_widen (kc' := kc + 200) (ks' := ks + 6000) (by omega) (by omega) ?_
  exact j_lo2 (KK _ _ _ LT2) (z_q1 rfl (z_q1 rfl (z_q1 rfl (z_q1 rfl (z_q1 rfl z_q0)))))
set_option maxRecDepth 100000 in
set_option maxHeartbeats 4000000 in
theorem lc_25 (hl : l.stackTraces = false) {w : z_W} {x i kc ks : Nat} {S : sp_S} {n : Int64} (LT : z_LX x S S n w) (hi6 : i + 6 ≤ z_sn G) (hsn : z_sn G ≤ 3072) (hkc : kc + 200 ≤ 793551) (hks : ks + 6000 ≤ 6715452) (KK : ∀ (S9 : sp_S) (n9 : Int64) (w9 : z_W), z_LX x S9 S9 n9 w9 → z_J G l mL_law z_SL 2228 (z_lol x i) [] w9 (kc + 200) (ks + 6000)) : z_J G l mL_law z_SL 1516 (z_lol x i) [] w kc ks := by
  show z_J G l mL_law _ 1516 [(0, _), (1, _), (2, _), (3, _), (4, _)] [] _ _ _
  refine j_aload_n dL_law_1516 rfl rfl ?_
  refine j_aload_n dL_law_1517 rfl rfl ?_
  refine j_iload dL_law_1518 rfl ?_
  refine j_iconst (v := 1) dL_law_1520 (by decide) ?_
  refine j_iadd dL_law_1521 ?_
  refine j_top (congrArg Value.int (show nI i + (1 : Int32) = nI (i + 1) from nI_add i 1)) ?_
  refine j_sld dL_law_1522 (by omega) (by omega) ?_
  refine j_aload_n dL_law_1523 rfl rfl ?_
  refine j_callSW dL_law_1524 kL_forget lL_253 stL_forget (lw_forget hl w _ _ _ _ LT (z_sc G (i + 1))) (Nat.le_of_ble_eq_true rfl) ⟨(by show _ ≤ 793551; omega), (by show _ ≤ 6715452; omega)⟩ rfl (Nat.le_of_ble_eq_true rfl) rfl rfl (fun _ _ h => h.elim) ?_
  rintro _ w1 ⟨n1, rfl, LT1, hn1⟩
  refine j_istore (lo' := [(5, _), (0, _), (1, _), (2, _), (3, _), (4, _)]) dL_law_1527 (by decide) rfl ?_
  refine j_aload_n dL_law_1529 rfl rfl ?_
  refine j_aload_n dL_law_1530 rfl rfl ?_
  refine j_iload dL_law_1531 rfl ?_
  refine j_iconst (v := 1) dL_law_1533 (by decide) ?_
  refine j_iadd dL_law_1534 ?_
  refine j_top (congrArg Value.int (show nI i + (1 : Int32) = nI (i + 1) from nI_add i 1)) ?_
  refine j_sld dL_law_1535 (by omega) (by omega) ?_
  obtain ⟨-, ⟨s27, hs27, -⟩, -⟩ := id LT1
  refine j_callV (q := (RX11, TX11, 8)) dL_law_1536 kX11_forget lL_255 inX11_forget seX11_forget hs27.m rfl (kx_forget hl w1 LT1 (z_sc G (i + 1))) (Nat.le_of_ble_eq_true rfl) ⟨(by show _ ≤ 793551; omega), (by show _ ≤ 6715452; omega)⟩ rfl (Nat.le_of_ble_eq_true rfl) rfl rfl (fun _ _ h => h.elim) ?_
  rintro _ w2 ⟨r2, rfl, LT2, th2, hr2⟩
  refine j_istore (lo' := [(6, _), (5, _), (0, _), (1, _), (2, _), (3, _), (4, _)]) dL_law_1539 (by decide) rfl ?_
  refine j_goto (tgt := 2228) dL_law_1541 (by decide) ?_
  refine j_widen (kc' := kc + 200) (ks' := ks + 6000) (by omega) (by omega) ?_
  exact j_lo2 (KK _ _ _ LT2) (z_q1 rfl (z_q1 rfl (z_q1 rfl (z_q1 rfl (z_q1 rfl z_q0)))))
set_option maxRecDepth 100000 in
set_option maxHeartbeats 4000000 in
theorem lc_26 (hl : l.stackTraces = false) {w : z_W} {x i kc ks : Nat} {S : sp_S} {n : Int64} (LT : z_LX x S S n w) (hi6 : i + 6 ≤ z_sn G) (hsn : z_sn G ≤ 3072) (hkc : kc + 200 ≤ 793551) (hks : ks + 6000 ≤ 6715452) (KK : ∀ (S9 : sp_S) (n9 : Int64) (w9 : z_W), z_LX x S9 S9 n9 w9 → z_J G l mL_law z_SL 2228 (z_lol x i) [] w9 (kc + 200) (ks + 6000)) : z_J G l mL_law z_SL 1544 (z_lol x i) [] w kc ks := by
  show z_J G l mL_law _ 1544 [(0, _), (1, _), (2, _), (3, _), (4, _)] [] _ _ _
  refine j_aload_n dL_law_1544 rfl rfl ?_
  refine j_aload_n dL_law_1545 rfl rfl ?_
  refine j_iload dL_law_1546 rfl ?_
  refine j_iconst (v := 1) dL_law_1548 (by decide) ?_
  refine j_iadd dL_law_1549 ?_
  refine j_top (congrArg Value.int (show nI i + (1 : Int32) = nI (i + 1) from nI_add i 1)) ?_
  refine j_sld dL_law_1550 (by omega) (by omega) ?_
  refine j_aload_n dL_law_1551 rfl rfl ?_
  refine j_iload dL_law_1552 rfl ?_
  refine j_iconst (v := 2) dL_law_1554 (by decide) ?_
  refine j_iadd dL_law_1555 ?_
  refine j_top (congrArg Value.int (show nI i + (2 : Int32) = nI (i + 2) from nI_add i 2)) ?_
  refine j_sld dL_law_1556 (by omega) (by omega) ?_
  refine j_aload_n dL_law_1557 rfl rfl ?_
  refine j_callSW dL_law_1558 kL_heard lL_256 stL_heard (lw_heard hl w _ _ _ _ LT (z_sc G (i + 1)) (z_sc G (i + 2))) (Nat.le_of_ble_eq_true rfl) ⟨(by show _ ≤ 793551; omega), (by show _ ≤ 6715452; omega)⟩ rfl (Nat.le_of_ble_eq_true rfl) rfl rfl (fun _ _ h => h.elim) ?_
  rintro _ w1 ⟨n1, rfl, LT1, hn1⟩
  refine j_istore (lo' := [(5, _), (0, _), (1, _), (2, _), (3, _), (4, _)]) dL_law_1561 (by decide) rfl ?_
  refine j_aload_n dL_law_1563 rfl rfl ?_
  refine j_aload_n dL_law_1564 rfl rfl ?_
  refine j_iload dL_law_1565 rfl ?_
  refine j_iconst (v := 1) dL_law_1567 (by decide) ?_
  refine j_iadd dL_law_1568 ?_
  refine j_top (congrArg Value.int (show nI i + (1 : Int32) = nI (i + 1) from nI_add i 1)) ?_
  refine j_sld dL_law_1569 (by omega) (by omega) ?_
  refine j_aload_n dL_law_1570 rfl rfl ?_
  refine j_iload dL_law_1571 rfl ?_
  refine j_iconst (v := 2) dL_law_1573 (by decide) ?_
  refine j_iadd dL_law_1574 ?_
  refine j_top (congrArg Value.int (show nI i + (2 : Int32) = nI (i + 2) from nI_add i 2)) ?_
  refine j_sld dL_law_1575 (by omega) (by omega) ?_
  obtain ⟨-, ⟨s28, hs28, -⟩, -⟩ := id LT1
  refine j_callV (q := (RX11, TX11, 8)) dL_law_1576 kX11_heard lL_258 inX11_heard seX11_heard hs28.m rfl (kx_heard hl w1 LT1 (z_sc G (i + 1)) (z_sc G (i + 2))) (Nat.le_of_ble_eq_true rfl) ⟨(by show _ ≤ 793551; omega), (by show _ ≤ 6715452; omega)⟩ rfl (Nat.le_of_ble_eq_true rfl) rfl rfl (fun _ _ h => h.elim) ?_
  rintro _ w2 ⟨r2, rfl, LT2, th2, hr2⟩
  refine j_istore (lo' := [(6, _), (5, _), (0, _), (1, _), (2, _), (3, _), (4, _)]) dL_law_1579 (by decide) rfl ?_
  refine j_goto (tgt := 2228) dL_law_1581 (by decide) ?_
  refine j_widen (kc' := kc + 200) (ks' := ks + 6000) (by omega) (by omega) ?_
  exact j_lo2 (KK _ _ _ LT2) (z_q1 rfl (z_q1 rfl (z_q1 rfl (z_q1 rfl (z_q1 rfl z_q0)))))
set_option maxRecDepth 100000 in
set_option maxHeartbeats 4000000 in
theorem lc_27 (hl : l.stackTraces = false) {w : z_W} {x i kc ks : Nat} {S : sp_S} {n : Int64} (LT : z_LX x S S n w) (hi6 : i + 6 ≤ z_sn G) (hsn : z_sn G ≤ 3072) (hkc : kc + 200 ≤ 793551) (hks : ks + 6000 ≤ 6715452) (KK : ∀ (S9 : sp_S) (n9 : Int64) (w9 : z_W), z_LX x S9 S9 n9 w9 → z_J G l mL_law z_SL 2228 (z_lol x i) [] w9 (kc + 200) (ks + 6000)) : z_J G l mL_law z_SL 1584 (z_lol x i) [] w kc ks := by
  show z_J G l mL_law _ 1584 [(0, _), (1, _), (2, _), (3, _), (4, _)] [] _ _ _
  refine j_aload_n dL_law_1584 rfl rfl ?_
  refine j_aload_n dL_law_1585 rfl rfl ?_
  refine j_iload dL_law_1586 rfl ?_
  refine j_iconst (v := 1) dL_law_1588 (by decide) ?_
  refine j_iadd dL_law_1589 ?_
  refine j_top (congrArg Value.int (show nI i + (1 : Int32) = nI (i + 1) from nI_add i 1)) ?_
  refine j_sld dL_law_1590 (by omega) (by omega) ?_
  refine j_aload_n dL_law_1591 rfl rfl ?_
  refine j_callSW dL_law_1592 kL_heardText lL_259 stL_heardText (lw_heardText hl w _ _ _ _ LT (z_sc G (i + 1))) (Nat.le_of_ble_eq_true rfl) ⟨(by show _ ≤ 793551; omega), (by show _ ≤ 6715452; omega)⟩ rfl (Nat.le_of_ble_eq_true rfl) rfl rfl (fun _ _ h => h.elim) ?_
  rintro _ w1 ⟨r1, n1, rfl, LT1⟩
  refine j_istore (lo' := [(5, _), (0, _), (1, _), (2, _), (3, _), (4, _)]) dL_law_1595 (by decide) rfl ?_
  refine j_aload_n dL_law_1597 rfl rfl ?_
  refine j_aload_n dL_law_1598 rfl rfl ?_
  refine j_iload dL_law_1599 rfl ?_
  refine j_iconst (v := 1) dL_law_1601 (by decide) ?_
  refine j_iadd dL_law_1602 ?_
  refine j_top (congrArg Value.int (show nI i + (1 : Int32) = nI (i + 1) from nI_add i 1)) ?_
  refine j_sld dL_law_1603 (by omega) (by omega) ?_
  obtain ⟨-, ⟨s29, hs29, -⟩, -⟩ := id LT1
  refine j_callV (q := (RX11, TX11, 8)) dL_law_1604 kX11_heardText lL_261 inX11_heardText seX11_heardText hs29.m rfl (kx_heardText hl w1 LT1 (z_sc G (i + 1))) (Nat.le_of_ble_eq_true rfl) ⟨(by show _ ≤ 793551; omega), (by show _ ≤ 6715452; omega)⟩ rfl (Nat.le_of_ble_eq_true rfl) rfl rfl (fun _ _ h => h.elim) ?_
  rintro _ w2 ⟨r2, rfl, hir2, LT2⟩
  refine j_astore (lo' := [(6, _), (5, _), (0, _), (1, _), (2, _), (3, _), (4, _)]) dL_law_1607 hir2 (by decide) rfl ?_
  refine j_goto (tgt := 2228) dL_law_1609 (by decide) ?_
  refine j_widen (kc' := kc + 200) (ks' := ks + 6000) (by omega) (by omega) ?_
  exact j_lo2 (KK _ _ _ LT2) (z_q1 rfl (z_q1 rfl (z_q1 rfl (z_q1 rfl (z_q1 rfl z_q0)))))
set_option maxRecDepth 100000 in
set_option maxHeartbeats 4000000 in
theorem lc_28 (hl : l.stackTraces = false) {w : z_W} {x i kc ks : Nat} {S : sp_S} {n : Int64} (LT : z_LX x S S n w) (hi6 : i + 6 ≤ z_sn G) (hsn : z_sn G ≤ 3072) (hkc : kc + 200 ≤ 793551) (hks : ks + 6000 ≤ 6715452) (KK : ∀ (S9 : sp_S) (n9 : Int64) (w9 : z_W), z_LX x S9 S9 n9 w9 → z_J G l mL_law z_SL 2228 (z_lol x i) [] w9 (kc + 200) (ks + 6000)) : z_J G l mL_law z_SL 1612 (z_lol x i) [] w kc ks := by
  show z_J G l mL_law _ 1612 [(0, _), (1, _), (2, _), (3, _), (4, _)] [] _ _ _
  refine j_aload_n dL_law_1612 rfl rfl ?_
  refine j_aload_n dL_law_1613 rfl rfl ?_
  refine j_iload dL_law_1614 rfl ?_
  refine j_iconst (v := 1) dL_law_1616 (by decide) ?_
  refine j_iadd dL_law_1617 ?_
  refine j_top (congrArg Value.int (show nI i + (1 : Int32) = nI (i + 1) from nI_add i 1)) ?_
  refine j_sld dL_law_1618 (by omega) (by omega) ?_
  refine j_aload_n dL_law_1619 rfl rfl ?_
  refine j_callSW dL_law_1620 kL_length lL_262 stL_length (lw_length hl w _ _ _ _ LT (z_sc G (i + 1))) (Nat.le_of_ble_eq_true rfl) ⟨(by show _ ≤ 793551; omega), (by show _ ≤ 6715452; omega)⟩ rfl (Nat.le_of_ble_eq_true rfl) rfl rfl (fun _ _ h => h.elim) ?_
  rintro _ w1 ⟨n1, rfl, LT1, hn1⟩
  refine j_istore (lo' := [(5, _), (0, _), (1, _), (2, _), (3, _), (4, _)]) dL_law_1623 (by decide) rfl ?_
  refine j_aload_n dL_law_1625 rfl rfl ?_
  refine j_aload_n dL_law_1626 rfl rfl ?_
  refine j_iload dL_law_1627 rfl ?_
  refine j_iconst (v := 1) dL_law_1629 (by decide) ?_
  refine j_iadd dL_law_1630 ?_
  refine j_top (congrArg Value.int (show nI i + (1 : Int32) = nI (i + 1) from nI_add i 1)) ?_
  refine j_sld dL_law_1631 (by omega) (by omega) ?_
  obtain ⟨-, ⟨s30, hs30, -⟩, -⟩ := id LT1
  refine j_callV (q := (RX11, TX11, 8)) dL_law_1632 kX11_length lL_264 inX11_length seX11_length hs30.m rfl (kx_length hl w1 LT1 (z_sc G (i + 1))) (Nat.le_of_ble_eq_true rfl) ⟨(by show _ ≤ 793551; omega), (by show _ ≤ 6715452; omega)⟩ rfl (Nat.le_of_ble_eq_true rfl) rfl rfl (fun _ _ h => h.elim) ?_
  rintro _ w2 ⟨r2, rfl, LT2, th2, hr2⟩
  refine j_istore (lo' := [(6, _), (5, _), (0, _), (1, _), (2, _), (3, _), (4, _)]) dL_law_1635 (by decide) rfl ?_
  refine j_goto (tgt := 2228) dL_law_1637 (by decide) ?_
  refine j_widen (kc' := kc + 200) (ks' := ks + 6000) (by omega) (by omega) ?_
  exact j_lo2 (KK _ _ _ LT2) (z_q1 rfl (z_q1 rfl (z_q1 rfl (z_q1 rfl (z_q1 rfl z_q0)))))
set_option maxRecDepth 100000 in
set_option maxHeartbeats 4000000 in
theorem lc_29 (hl : l.stackTraces = false) {w : z_W} {x i kc ks : Nat} {S : sp_S} {n : Int64} (LT : z_LX x S S n w) (hi6 : i + 6 ≤ z_sn G) (hsn : z_sn G ≤ 3072) (hkc : kc + 200 ≤ 793551) (hks : ks + 6000 ≤ 6715452) (KK : ∀ (S9 : sp_S) (n9 : Int64) (w9 : z_W), z_LX x S9 S9 n9 w9 → z_J G l mL_law z_SL 2228 (z_lol x i) [] w9 (kc + 200) (ks + 6000)) : z_J G l mL_law z_SL 1640 (z_lol x i) [] w kc ks := by
  show z_J G l mL_law _ 1640 [(0, _), (1, _), (2, _), (3, _), (4, _)] [] _ _ _
  refine j_aload_n dL_law_1640 rfl rfl ?_
  refine j_aload_n dL_law_1641 rfl rfl ?_
  refine j_iload dL_law_1642 rfl ?_
  refine j_iconst (v := 1) dL_law_1644 (by decide) ?_
  refine j_iadd dL_law_1645 ?_
  refine j_top (congrArg Value.int (show nI i + (1 : Int32) = nI (i + 1) from nI_add i 1)) ?_
  refine j_sld dL_law_1646 (by omega) (by omega) ?_
  refine j_aload_n dL_law_1647 rfl rfl ?_
  refine j_iload dL_law_1648 rfl ?_
  refine j_iconst (v := 2) dL_law_1650 (by decide) ?_
  refine j_iadd dL_law_1651 ?_
  refine j_top (congrArg Value.int (show nI i + (2 : Int32) = nI (i + 2) from nI_add i 2)) ?_
  refine j_sld dL_law_1652 (by omega) (by omega) ?_
  refine j_aload_n dL_law_1653 rfl rfl ?_
  refine j_callSW dL_law_1654 kL_at lL_265 stL_at (lw_at hl w _ _ _ _ LT (z_sc G (i + 1)) (z_sc G (i + 2))) (Nat.le_of_ble_eq_true rfl) ⟨(by show _ ≤ 793551; omega), (by show _ ≤ 6715452; omega)⟩ rfl (Nat.le_of_ble_eq_true rfl) rfl rfl (fun _ _ h => h.elim) ?_
  rintro _ w1 ⟨n1, rfl, LT1, hn1⟩
  refine j_istore (lo' := [(5, _), (0, _), (1, _), (2, _), (3, _), (4, _)]) dL_law_1657 (by decide) rfl ?_
  refine j_aload_n dL_law_1659 rfl rfl ?_
  refine j_aload_n dL_law_1660 rfl rfl ?_
  refine j_iload dL_law_1661 rfl ?_
  refine j_iconst (v := 1) dL_law_1663 (by decide) ?_
  refine j_iadd dL_law_1664 ?_
  refine j_top (congrArg Value.int (show nI i + (1 : Int32) = nI (i + 1) from nI_add i 1)) ?_
  refine j_sld dL_law_1665 (by omega) (by omega) ?_
  refine j_aload_n dL_law_1666 rfl rfl ?_
  refine j_iload dL_law_1667 rfl ?_
  refine j_iconst (v := 2) dL_law_1669 (by decide) ?_
  refine j_iadd dL_law_1670 ?_
  refine j_top (congrArg Value.int (show nI i + (2 : Int32) = nI (i + 2) from nI_add i 2)) ?_
  refine j_sld dL_law_1671 (by omega) (by omega) ?_
  obtain ⟨-, ⟨s31, hs31, -⟩, -⟩ := id LT1
  refine j_callV (q := (RX11, TX11, 8)) dL_law_1672 kX11_at lL_267 inX11_at seX11_at hs31.m rfl (kx_at hl w1 LT1 (z_sc G (i + 1)) (z_sc G (i + 2))) (Nat.le_of_ble_eq_true rfl) ⟨(by show _ ≤ 793551; omega), (by show _ ≤ 6715452; omega)⟩ rfl (Nat.le_of_ble_eq_true rfl) rfl rfl (fun _ _ h => h.elim) ?_
  rintro _ w2 ⟨r2, rfl, LT2, th2, hr2⟩
  refine j_istore (lo' := [(6, _), (5, _), (0, _), (1, _), (2, _), (3, _), (4, _)]) dL_law_1675 (by decide) rfl ?_
  refine j_goto (tgt := 2228) dL_law_1677 (by decide) ?_
  refine j_widen (kc' := kc + 200) (ks' := ks + 6000) (by omega) (by omega) ?_
  exact j_lo2 (KK _ _ _ LT2) (z_q1 rfl (z_q1 rfl (z_q1 rfl (z_q1 rfl (z_q1 rfl z_q0)))))
set_option maxRecDepth 100000 in
set_option maxHeartbeats 4000000 in
theorem lc_30 (hl : l.stackTraces = false) {w : z_W} {x i kc ks : Nat} {S : sp_S} {n : Int64} (LT : z_LX x S S n w) (hi6 : i + 6 ≤ z_sn G) (hsn : z_sn G ≤ 3072) (hkc : kc + 200 ≤ 793551) (hks : ks + 6000 ≤ 6715452) (KK : ∀ (S9 : sp_S) (n9 : Int64) (w9 : z_W), z_LX x S9 S9 n9 w9 → z_J G l mL_law z_SL 2228 (z_lol x i) [] w9 (kc + 200) (ks + 6000)) : z_J G l mL_law z_SL 1680 (z_lol x i) [] w kc ks := by
  show z_J G l mL_law _ 1680 [(0, _), (1, _), (2, _), (3, _), (4, _)] [] _ _ _
  refine j_aload_n dL_law_1680 rfl rfl ?_
  refine j_aload_n dL_law_1681 rfl rfl ?_
  refine j_iload dL_law_1682 rfl ?_
  refine j_iconst (v := 1) dL_law_1684 (by decide) ?_
  refine j_iadd dL_law_1685 ?_
  refine j_top (congrArg Value.int (show nI i + (1 : Int32) = nI (i + 1) from nI_add i 1)) ?_
  refine j_sld dL_law_1686 (by omega) (by omega) ?_
  refine j_aload_n dL_law_1687 rfl rfl ?_
  refine j_callSW dL_law_1688 kL_rowText lL_268 stL_rowText (lw_rowText hl w _ _ _ _ LT (z_sc G (i + 1))) (Nat.le_of_ble_eq_true rfl) ⟨(by show _ ≤ 793551; omega), (by show _ ≤ 6715452; omega)⟩ rfl (Nat.le_of_ble_eq_true rfl) rfl rfl (fun _ _ h => h.elim) ?_
  rintro _ w1 ⟨r1, n1, rfl, LT1⟩
  refine j_istore (lo' := [(5, _), (0, _), (1, _), (2, _), (3, _), (4, _)]) dL_law_1691 (by decide) rfl ?_
  refine j_aload_n dL_law_1693 rfl rfl ?_
  refine j_aload_n dL_law_1694 rfl rfl ?_
  refine j_iload dL_law_1695 rfl ?_
  refine j_iconst (v := 1) dL_law_1697 (by decide) ?_
  refine j_iadd dL_law_1698 ?_
  refine j_top (congrArg Value.int (show nI i + (1 : Int32) = nI (i + 1) from nI_add i 1)) ?_
  refine j_sld dL_law_1699 (by omega) (by omega) ?_
  obtain ⟨-, ⟨s32, hs32, -⟩, -⟩ := id LT1
  refine j_callV (q := (RX11, TX11, 8)) dL_law_1700 kX11_rowText lL_270 inX11_rowText seX11_rowText hs32.m rfl (kx_rowText hl w1 LT1 (z_sc G (i + 1))) (Nat.le_of_ble_eq_true rfl) ⟨(by show _ ≤ 793551; omega), (by show _ ≤ 6715452; omega)⟩ rfl (Nat.le_of_ble_eq_true rfl) rfl rfl (fun _ _ h => h.elim) ?_
  rintro _ w2 ⟨r2, rfl, hir2, LT2⟩
  refine j_astore (lo' := [(6, _), (5, _), (0, _), (1, _), (2, _), (3, _), (4, _)]) dL_law_1703 hir2 (by decide) rfl ?_
  refine j_goto (tgt := 2228) dL_law_1705 (by decide) ?_
  refine j_widen (kc' := kc + 200) (ks' := ks + 6000) (by omega) (by omega) ?_
  exact j_lo2 (KK _ _ _ LT2) (z_q1 rfl (z_q1 rfl (z_q1 rfl (z_q1 rfl (z_q1 rfl z_q0)))))
set_option maxRecDepth 100000 in
set_option maxHeartbeats 4000000 in
theorem lc_31 (hl : l.stackTraces = false) {w : z_W} {x i kc ks : Nat} {S : sp_S} {n : Int64} (LT : z_LX x S S n w) (hi6 : i + 6 ≤ z_sn G) (hsn : z_sn G ≤ 3072) (hkc : kc + 200 ≤ 793551) (hks : ks + 6000 ≤ 6715452) (KK : ∀ (S9 : sp_S) (n9 : Int64) (w9 : z_W), z_LX x S9 S9 n9 w9 → z_J G l mL_law z_SL 2228 (z_lol x i) [] w9 (kc + 200) (ks + 6000)) : z_J G l mL_law z_SL 1708 (z_lol x i) [] w kc ks := by
  show z_J G l mL_law _ 1708 [(0, _), (1, _), (2, _), (3, _), (4, _)] [] _ _ _
  refine j_aload_n dL_law_1708 rfl rfl ?_
  refine j_aload_n dL_law_1709 rfl rfl ?_
  refine j_iload dL_law_1710 rfl ?_
  refine j_iconst (v := 1) dL_law_1712 (by decide) ?_
  refine j_iadd dL_law_1713 ?_
  refine j_top (congrArg Value.int (show nI i + (1 : Int32) = nI (i + 1) from nI_add i 1)) ?_
  refine j_sld dL_law_1714 (by omega) (by omega) ?_
  refine j_aload_n dL_law_1715 rfl rfl ?_
  refine j_callSW dL_law_1716 kL_isFixed lL_271 stL_isFixed (lw_isFixed hl w _ _ _ _ LT (z_sc G (i + 1))) (Nat.le_of_ble_eq_true rfl) ⟨(by show _ ≤ 793551; omega), (by show _ ≤ 6715452; omega)⟩ rfl (Nat.le_of_ble_eq_true rfl) rfl rfl (fun _ _ h => h.elim) ?_
  rintro _ w1 ⟨n1, rfl, LT1, hn1⟩
  refine j_istore (lo' := [(5, _), (0, _), (1, _), (2, _), (3, _), (4, _)]) dL_law_1719 (by decide) rfl ?_
  refine j_aload_n dL_law_1721 rfl rfl ?_
  refine j_aload_n dL_law_1722 rfl rfl ?_
  refine j_iload dL_law_1723 rfl ?_
  refine j_iconst (v := 1) dL_law_1725 (by decide) ?_
  refine j_iadd dL_law_1726 ?_
  refine j_top (congrArg Value.int (show nI i + (1 : Int32) = nI (i + 1) from nI_add i 1)) ?_
  refine j_sld dL_law_1727 (by omega) (by omega) ?_
  obtain ⟨-, ⟨s33, hs33, -⟩, -⟩ := id LT1
  refine j_callV (q := (RX11, TX11, 8)) dL_law_1728 kX11_isFixed lL_273 inX11_isFixed seX11_isFixed hs33.m rfl (kx_isFixed hl w1 LT1 (z_sc G (i + 1))) (Nat.le_of_ble_eq_true rfl) ⟨(by show _ ≤ 793551; omega), (by show _ ≤ 6715452; omega)⟩ rfl (Nat.le_of_ble_eq_true rfl) rfl rfl (fun _ _ h => h.elim) ?_
  rintro _ w2 ⟨r2, rfl, LT2, th2, hr2⟩
  refine j_istore (lo' := [(6, _), (5, _), (0, _), (1, _), (2, _), (3, _), (4, _)]) dL_law_1731 (by decide) rfl ?_
  refine j_goto (tgt := 2228) dL_law_1733 (by decide) ?_
  refine j_widen (kc' := kc + 200) (ks' := ks + 6000) (by omega) (by omega) ?_
  exact j_lo2 (KK _ _ _ LT2) (z_q1 rfl (z_q1 rfl (z_q1 rfl (z_q1 rfl (z_q1 rfl z_q0)))))
set_option maxRecDepth 100000 in
set_option maxHeartbeats 4000000 in
theorem lc_32 (hl : l.stackTraces = false) {w : z_W} {x i kc ks : Nat} {S : sp_S} {n : Int64} (LT : z_LX x S S n w) (hi6 : i + 6 ≤ z_sn G) (hsn : z_sn G ≤ 3072) (hkc : kc + 200 ≤ 793551) (hks : ks + 6000 ≤ 6715452) (KK : ∀ (S9 : sp_S) (n9 : Int64) (w9 : z_W), z_LX x S9 S9 n9 w9 → z_J G l mL_law z_SL 2228 (z_lol x i) [] w9 (kc + 200) (ks + 6000)) : z_J G l mL_law z_SL 1736 (z_lol x i) [] w kc ks := by
  show z_J G l mL_law _ 1736 [(0, _), (1, _), (2, _), (3, _), (4, _)] [] _ _ _
  refine j_aload_n dL_law_1736 rfl rfl ?_
  refine j_aload_n dL_law_1737 rfl rfl ?_
  refine j_iload dL_law_1738 rfl ?_
  refine j_iconst (v := 1) dL_law_1740 (by decide) ?_
  refine j_iadd dL_law_1741 ?_
  refine j_top (congrArg Value.int (show nI i + (1 : Int32) = nI (i + 1) from nI_add i 1)) ?_
  refine j_sld dL_law_1742 (by omega) (by omega) ?_
  refine j_aload_n dL_law_1743 rfl rfl ?_
  refine j_iload dL_law_1744 rfl ?_
  refine j_iconst (v := 2) dL_law_1746 (by decide) ?_
  refine j_iadd dL_law_1747 ?_
  refine j_top (congrArg Value.int (show nI i + (2 : Int32) = nI (i + 2) from nI_add i 2)) ?_
  refine j_sld dL_law_1748 (by omega) (by omega) ?_
  refine j_aload_n dL_law_1749 rfl rfl ?_
  refine j_callSW dL_law_1750 kL_counts lL_274 stL_counts (lw_counts hl w _ _ _ _ LT (z_sc G (i + 1)) (z_sc G (i + 2))) (Nat.le_of_ble_eq_true rfl) ⟨(by show _ ≤ 793551; omega), (by show _ ≤ 6715452; omega)⟩ rfl (Nat.le_of_ble_eq_true rfl) rfl rfl (fun _ _ h => h.elim) ?_
  rintro _ w1 ⟨n1, rfl, LT1, hn1⟩
  refine j_istore (lo' := [(5, _), (0, _), (1, _), (2, _), (3, _), (4, _)]) dL_law_1753 (by decide) rfl ?_
  refine j_aload_n dL_law_1755 rfl rfl ?_
  refine j_aload_n dL_law_1756 rfl rfl ?_
  refine j_iload dL_law_1757 rfl ?_
  refine j_iconst (v := 1) dL_law_1759 (by decide) ?_
  refine j_iadd dL_law_1760 ?_
  refine j_top (congrArg Value.int (show nI i + (1 : Int32) = nI (i + 1) from nI_add i 1)) ?_
  refine j_sld dL_law_1761 (by omega) (by omega) ?_
  refine j_aload_n dL_law_1762 rfl rfl ?_
  refine j_iload dL_law_1763 rfl ?_
  refine j_iconst (v := 2) dL_law_1765 (by decide) ?_
  refine j_iadd dL_law_1766 ?_
  refine j_top (congrArg Value.int (show nI i + (2 : Int32) = nI (i + 2) from nI_add i 2)) ?_
  refine j_sld dL_law_1767 (by omega) (by omega) ?_
  obtain ⟨-, ⟨s34, hs34, -⟩, -⟩ := id LT1
  refine j_callV (q := (RX11, TX11, 8)) dL_law_1768 kX11_counts lL_276 inX11_counts seX11_counts hs34.m rfl (kx_counts hl w1 LT1 (z_sc G (i + 1)) (z_sc G (i + 2))) (Nat.le_of_ble_eq_true rfl) ⟨(by show _ ≤ 793551; omega), (by show _ ≤ 6715452; omega)⟩ rfl (Nat.le_of_ble_eq_true rfl) rfl rfl (fun _ _ h => h.elim) ?_
  rintro _ w2 ⟨r2, rfl, LT2, th2, hr2⟩
  refine j_istore (lo' := [(6, _), (5, _), (0, _), (1, _), (2, _), (3, _), (4, _)]) dL_law_1771 (by decide) rfl ?_
  refine j_goto (tgt := 2228) dL_law_1773 (by decide) ?_
  refine j_widen (kc' := kc + 200) (ks' := ks + 6000) (by omega) (by omega) ?_
  exact j_lo2 (KK _ _ _ LT2) (z_q1 rfl (z_q1 rfl (z_q1 rfl (z_q1 rfl (z_q1 rfl z_q0)))))
set_option maxRecDepth 100000 in
set_option maxHeartbeats 4000000 in
theorem lc_33 (hl : l.stackTraces = false) {w : z_W} {x i kc ks : Nat} {S : sp_S} {n : Int64} (LT : z_LX x S S n w) (hi6 : i + 6 ≤ z_sn G) (hsn : z_sn G ≤ 3072) (hkc : kc + 200 ≤ 793551) (hks : ks + 6000 ≤ 6715452) (KK : ∀ (S9 : sp_S) (n9 : Int64) (w9 : z_W), z_LX x S9 S9 n9 w9 → z_J G l mL_law z_SL 2228 (z_lol x i) [] w9 (kc + 200) (ks + 6000)) : z_J G l mL_law z_SL 1776 (z_lol x i) [] w kc ks := by
  show z_J G l mL_law _ 1776 [(0, _), (1, _), (2, _), (3, _), (4, _)] [] _ _ _
  refine j_aload_n dL_law_1776 rfl rfl ?_
  refine j_aload_n dL_law_1777 rfl rfl ?_
  refine j_iload dL_law_1778 rfl ?_
  refine j_iconst (v := 1) dL_law_1780 (by decide) ?_
  refine j_iadd dL_law_1781 ?_
  refine j_top (congrArg Value.int (show nI i + (1 : Int32) = nI (i + 1) from nI_add i 1)) ?_
  refine j_sld dL_law_1782 (by omega) (by omega) ?_
  refine j_aload_n dL_law_1783 rfl rfl ?_
  refine j_callSW dL_law_1784 kL_shelfCounts lL_277 stL_shelfCounts (lw_shelfCounts hl w _ _ _ _ LT (z_sc G (i + 1))) (Nat.le_of_ble_eq_true rfl) ⟨(by show _ ≤ 793551; omega), (by show _ ≤ 6715452; omega)⟩ rfl (Nat.le_of_ble_eq_true rfl) rfl rfl (fun _ _ h => h.elim) ?_
  rintro _ w1 ⟨n1, rfl, LT1, hn1⟩
  refine j_istore (lo' := [(5, _), (0, _), (1, _), (2, _), (3, _), (4, _)]) dL_law_1787 (by decide) rfl ?_
  refine j_aload_n dL_law_1789 rfl rfl ?_
  refine j_aload_n dL_law_1790 rfl rfl ?_
  refine j_iload dL_law_1791 rfl ?_
  refine j_iconst (v := 1) dL_law_1793 (by decide) ?_
  refine j_iadd dL_law_1794 ?_
  refine j_top (congrArg Value.int (show nI i + (1 : Int32) = nI (i + 1) from nI_add i 1)) ?_
  refine j_sld dL_law_1795 (by omega) (by omega) ?_
  obtain ⟨-, ⟨s35, hs35, -⟩, -⟩ := id LT1
  refine j_callV (q := (RX11, TX11, 8)) dL_law_1796 kX11_shelfCounts lL_279 inX11_shelfCounts seX11_shelfCounts hs35.m rfl (kx_shelfCounts hl w1 LT1 (z_sc G (i + 1))) (Nat.le_of_ble_eq_true rfl) ⟨(by show _ ≤ 793551; omega), (by show _ ≤ 6715452; omega)⟩ rfl (Nat.le_of_ble_eq_true rfl) rfl rfl (fun _ _ h => h.elim) ?_
  rintro _ w2 ⟨r2, rfl, LT2, th2, hr2⟩
  refine j_istore (lo' := [(6, _), (5, _), (0, _), (1, _), (2, _), (3, _), (4, _)]) dL_law_1799 (by decide) rfl ?_
  refine j_goto (tgt := 2228) dL_law_1801 (by decide) ?_
  refine j_widen (kc' := kc + 200) (ks' := ks + 6000) (by omega) (by omega) ?_
  exact j_lo2 (KK _ _ _ LT2) (z_q1 rfl (z_q1 rfl (z_q1 rfl (z_q1 rfl (z_q1 rfl z_q0)))))
set_option maxRecDepth 100000 in
set_option maxHeartbeats 4000000 in
theorem lc_34 (hl : l.stackTraces = false) {w : z_W} {x i kc ks : Nat} {S : sp_S} {n : Int64} (LT : z_LX x S S n w) (hi6 : i + 6 ≤ z_sn G) (hsn : z_sn G ≤ 3072) (hkc : kc + 200 ≤ 793551) (hks : ks + 6000 ≤ 6715452) (KK : ∀ (S9 : sp_S) (n9 : Int64) (w9 : z_W), z_LX x S9 S9 n9 w9 → z_J G l mL_law z_SL 2228 (z_lol x i) [] w9 (kc + 200) (ks + 6000)) : z_J G l mL_law z_SL 1804 (z_lol x i) [] w kc ks := by
  show z_J G l mL_law _ 1804 [(0, _), (1, _), (2, _), (3, _), (4, _)] [] _ _ _
  refine j_aload_n dL_law_1804 rfl rfl ?_
  obtain ⟨fs36, gs36⟩ := LT.rc
  refine j_callV (q := (RX8, TX8, 9)) dL_law_1805 kX8_forgetCounts lL_280 inX8_forgetCounts seX8_forgetCounts gs36 rfl (px_forgetCounts hl w _ LT.1.1 LT.1.2) (Nat.le_of_ble_eq_true rfl) ⟨(by show _ ≤ 793551; omega), (by show _ ≤ 6715452; omega)⟩ rfl (Nat.le_of_ble_eq_true rfl) rfl rfl (fun _ _ h => h.elim) ?_
  rintro _ w1 ⟨rfl, hW1, hh1⟩
  have LT1 := LT.cls hW1 (okk_forgetCounts LT.1.2) hh1
  refine j_aload_n dL_law_1808 rfl rfl ?_
  obtain ⟨-, ⟨s37, hs37, -⟩, -⟩ := id LT1
  refine j_callV (q := (RX11, TX11, 8)) dL_law_1809 kX11_forgetCounts lL_284 inX11_forgetCounts seX11_forgetCounts hs37.m rfl (kx_forgetCounts hl w1 LT1) (Nat.le_of_ble_eq_true rfl) ⟨(by show _ ≤ 793551; omega), (by show _ ≤ 6715452; omega)⟩ rfl (Nat.le_of_ble_eq_true rfl) rfl rfl (fun _ _ h => h.elim) ?_
  rintro _ w2 ⟨r2, rfl, LT2, th2, hr2⟩
  refine j_icmp_eq (tgt := 2228) dL_law_1812 (by decide) (fun c_1812_10 => ?_) (fun c_1812_10 => ?_)
  · refine j_widen (kc' := kc + 200) (ks' := ks + 6000) (by omega) (by omega) ?_
    exact j_lo2 (KK _ _ _ LT2) (z_q1 rfl (z_q1 rfl (z_q1 rfl (z_q1 rfl (z_q1 rfl z_q0)))))
  · exact absurd hr2.symm c_1812_10
set_option maxRecDepth 100000 in
set_option maxHeartbeats 4000000 in
theorem lc_35 (hl : l.stackTraces = false) {w : z_W} {x i kc ks : Nat} {S : sp_S} {n : Int64} (LT : z_LX x S S n w) (hi6 : i + 6 ≤ z_sn G) (hsn : z_sn G ≤ 3072) (hkc : kc + 200 ≤ 793551) (hks : ks + 6000 ≤ 6715452) (KK : ∀ (S9 : sp_S) (n9 : Int64) (w9 : z_W), z_LX x S9 S9 n9 w9 → z_J G l mL_law z_SL 2228 (z_lol x i) [] w9 (kc + 200) (ks + 6000)) : z_J G l mL_law z_SL 1817 (z_lol x i) [] w kc ks := by
  show z_J G l mL_law _ 1817 [(0, _), (1, _), (2, _), (3, _), (4, _)] [] _ _ _
  refine j_aload_n dL_law_1817 rfl rfl ?_
  refine j_aload_n dL_law_1818 rfl rfl ?_
  refine j_iload dL_law_1819 rfl ?_
  refine j_iconst (v := 1) dL_law_1821 (by decide) ?_
  refine j_iadd dL_law_1822 ?_
  refine j_top (congrArg Value.int (show nI i + (1 : Int32) = nI (i + 1) from nI_add i 1)) ?_
  refine j_sld dL_law_1823 (by omega) (by omega) ?_
  refine j_aload_n dL_law_1824 rfl rfl ?_
  refine j_iload dL_law_1825 rfl ?_
  refine j_iconst (v := 2) dL_law_1827 (by decide) ?_
  refine j_iadd dL_law_1828 ?_
  refine j_top (congrArg Value.int (show nI i + (2 : Int32) = nI (i + 2) from nI_add i 2)) ?_
  refine j_sld dL_law_1829 (by omega) (by omega) ?_
  refine j_aload_n dL_law_1830 rfl rfl ?_
  refine j_callSW dL_law_1831 kL_get lL_285 stL_get (lw_get hl w _ _ _ _ LT (z_sc G (i + 1)) (z_sc G (i + 2))) (Nat.le_of_ble_eq_true rfl) ⟨(by show _ ≤ 793551; omega), (by show _ ≤ 6715452; omega)⟩ rfl (Nat.le_of_ble_eq_true rfl) rfl rfl (fun _ _ h => h.elim) ?_
  rintro _ w1 ⟨n1, rfl, LT1, hn1⟩
  refine j_istore (lo' := [(5, _), (0, _), (1, _), (2, _), (3, _), (4, _)]) dL_law_1834 (by decide) rfl ?_
  refine j_aload_n dL_law_1836 rfl rfl ?_
  refine j_aload_n dL_law_1837 rfl rfl ?_
  refine j_iload dL_law_1838 rfl ?_
  refine j_iconst (v := 1) dL_law_1840 (by decide) ?_
  refine j_iadd dL_law_1841 ?_
  refine j_top (congrArg Value.int (show nI i + (1 : Int32) = nI (i + 1) from nI_add i 1)) ?_
  refine j_sld dL_law_1842 (by omega) (by omega) ?_
  refine j_aload_n dL_law_1843 rfl rfl ?_
  refine j_iload dL_law_1844 rfl ?_
  refine j_iconst (v := 2) dL_law_1846 (by decide) ?_
  refine j_iadd dL_law_1847 ?_
  refine j_top (congrArg Value.int (show nI i + (2 : Int32) = nI (i + 2) from nI_add i 2)) ?_
  refine j_sld dL_law_1848 (by omega) (by omega) ?_
  obtain ⟨-, ⟨s38, hs38, -⟩, -⟩ := id LT1
  refine j_callV (q := (RX11, TX11, 8)) dL_law_1849 kX11_get lL_287 inX11_get seX11_get hs38.m rfl (kx_get hl w1 LT1 (z_sc G (i + 1)) (z_sc G (i + 2))) (Nat.le_of_ble_eq_true rfl) ⟨(by show _ ≤ 793551; omega), (by show _ ≤ 6715452; omega)⟩ rfl (Nat.le_of_ble_eq_true rfl) rfl rfl (fun _ _ h => h.elim) ?_
  rintro _ w2 ⟨r2, rfl, LT2, th2, hr2⟩
  refine j_istore (lo' := [(6, _), (5, _), (0, _), (1, _), (2, _), (3, _), (4, _)]) dL_law_1852 (by decide) rfl ?_
  refine j_goto (tgt := 2228) dL_law_1854 (by decide) ?_
  refine j_widen (kc' := kc + 200) (ks' := ks + 6000) (by omega) (by omega) ?_
  exact j_lo2 (KK _ _ _ LT2) (z_q1 rfl (z_q1 rfl (z_q1 rfl (z_q1 rfl (z_q1 rfl z_q0)))))
set_option maxRecDepth 100000 in
set_option maxHeartbeats 4000000 in
theorem lc_36 (hl : l.stackTraces = false) {w : z_W} {x i kc ks : Nat} {S : sp_S} {n : Int64} (LT : z_LX x S S n w) (hi6 : i + 6 ≤ z_sn G) (hsn : z_sn G ≤ 3072) (hkc : kc + 200 ≤ 793551) (hks : ks + 6000 ≤ 6715452) (KK : ∀ (S9 : sp_S) (n9 : Int64) (w9 : z_W), z_LX x S9 S9 n9 w9 → z_J G l mL_law z_SL 2228 (z_lol x i) [] w9 (kc + 200) (ks + 6000)) : z_J G l mL_law z_SL 1857 (z_lol x i) [] w kc ks := by
  show z_J G l mL_law _ 1857 [(0, _), (1, _), (2, _), (3, _), (4, _)] [] _ _ _
  refine j_aload_n dL_law_1857 rfl rfl ?_
  refine j_aload_n dL_law_1858 rfl rfl ?_
  refine j_iload dL_law_1859 rfl ?_
  refine j_iconst (v := 1) dL_law_1861 (by decide) ?_
  refine j_iadd dL_law_1862 ?_
  refine j_top (congrArg Value.int (show nI i + (1 : Int32) = nI (i + 1) from nI_add i 1)) ?_
  refine j_sld dL_law_1863 (by omega) (by omega) ?_
  refine j_aload_n dL_law_1864 rfl rfl ?_
  refine j_iload dL_law_1865 rfl ?_
  refine j_iconst (v := 2) dL_law_1867 (by decide) ?_
  refine j_iadd dL_law_1868 ?_
  refine j_top (congrArg Value.int (show nI i + (2 : Int32) = nI (i + 2) from nI_add i 2)) ?_
  refine j_sld dL_law_1869 (by omega) (by omega) ?_
  refine j_aload_n dL_law_1870 rfl rfl ?_
  refine j_iload dL_law_1871 rfl ?_
  refine j_iconst (v := 3) dL_law_1873 (by decide) ?_
  refine j_iadd dL_law_1874 ?_
  refine j_top (congrArg Value.int (show nI i + (3 : Int32) = nI (i + 3) from nI_add i 3)) ?_
  refine j_sld dL_law_1875 (by omega) (by omega) ?_
  refine j_aload_n dL_law_1876 rfl rfl ?_
  refine j_callSW dL_law_1877 kL_getOr lL_288 stL_getOr (lw_getOr hl w _ _ _ _ LT (z_sc G (i + 1)) (z_sc G (i + 2)) (z_sc G (i + 3))) (Nat.le_of_ble_eq_true rfl) ⟨(by show _ ≤ 793551; omega), (by show _ ≤ 6715452; omega)⟩ rfl (Nat.le_of_ble_eq_true rfl) rfl rfl (fun _ _ h => h.elim) ?_
  rintro _ w1 ⟨n1, rfl, LT1, hn1⟩
  refine j_istore (lo' := [(5, _), (0, _), (1, _), (2, _), (3, _), (4, _)]) dL_law_1880 (by decide) rfl ?_
  refine j_aload_n dL_law_1882 rfl rfl ?_
  refine j_aload_n dL_law_1883 rfl rfl ?_
  refine j_iload dL_law_1884 rfl ?_
  refine j_iconst (v := 1) dL_law_1886 (by decide) ?_
  refine j_iadd dL_law_1887 ?_
  refine j_top (congrArg Value.int (show nI i + (1 : Int32) = nI (i + 1) from nI_add i 1)) ?_
  refine j_sld dL_law_1888 (by omega) (by omega) ?_
  refine j_aload_n dL_law_1889 rfl rfl ?_
  refine j_iload dL_law_1890 rfl ?_
  refine j_iconst (v := 2) dL_law_1892 (by decide) ?_
  refine j_iadd dL_law_1893 ?_
  refine j_top (congrArg Value.int (show nI i + (2 : Int32) = nI (i + 2) from nI_add i 2)) ?_
  refine j_sld dL_law_1894 (by omega) (by omega) ?_
  refine j_aload_n dL_law_1895 rfl rfl ?_
  refine j_iload dL_law_1896 rfl ?_
  refine j_iconst (v := 3) dL_law_1898 (by decide) ?_
  refine j_iadd dL_law_1899 ?_
  refine j_top (congrArg Value.int (show nI i + (3 : Int32) = nI (i + 3) from nI_add i 3)) ?_
  refine j_sld dL_law_1900 (by omega) (by omega) ?_
  obtain ⟨-, ⟨s39, hs39, -⟩, -⟩ := id LT1
  refine j_callV (q := (RX11, TX11, 8)) dL_law_1901 kX11_getOr lL_290 inX11_getOr seX11_getOr hs39.m rfl (kx_getOr hl w1 LT1 (z_sc G (i + 1)) (z_sc G (i + 2)) (z_sc G (i + 3))) (Nat.le_of_ble_eq_true rfl) ⟨(by show _ ≤ 793551; omega), (by show _ ≤ 6715452; omega)⟩ rfl (Nat.le_of_ble_eq_true rfl) rfl rfl (fun _ _ h => h.elim) ?_
  rintro _ w2 ⟨r2, rfl, LT2, th2, hr2⟩
  refine j_istore (lo' := [(6, _), (5, _), (0, _), (1, _), (2, _), (3, _), (4, _)]) dL_law_1904 (by decide) rfl ?_
  refine j_goto (tgt := 2228) dL_law_1906 (by decide) ?_
  refine j_widen (kc' := kc + 200) (ks' := ks + 6000) (by omega) (by omega) ?_
  exact j_lo2 (KK _ _ _ LT2) (z_q1 rfl (z_q1 rfl (z_q1 rfl (z_q1 rfl (z_q1 rfl z_q0)))))
set_option maxRecDepth 100000 in
set_option maxHeartbeats 4000000 in
theorem lc_37 (hl : l.stackTraces = false) {w : z_W} {x i kc ks : Nat} {S : sp_S} {n : Int64} (LT : z_LX x S S n w) (hi6 : i + 6 ≤ z_sn G) (hsn : z_sn G ≤ 3072) (hkc : kc + 200 ≤ 793551) (hks : ks + 6000 ≤ 6715452) (KK : ∀ (S9 : sp_S) (n9 : Int64) (w9 : z_W), z_LX x S9 S9 n9 w9 → z_J G l mL_law z_SL 2228 (z_lol x i) [] w9 (kc + 200) (ks + 6000)) : z_J G l mL_law z_SL 1909 (z_lol x i) [] w kc ks := by
  show z_J G l mL_law _ 1909 [(0, _), (1, _), (2, _), (3, _), (4, _)] [] _ _ _
  refine j_aload_n dL_law_1909 rfl rfl ?_
  refine j_aload_n dL_law_1910 rfl rfl ?_
  refine j_iload dL_law_1911 rfl ?_
  refine j_iconst (v := 1) dL_law_1913 (by decide) ?_
  refine j_iadd dL_law_1914 ?_
  refine j_top (congrArg Value.int (show nI i + (1 : Int32) = nI (i + 1) from nI_add i 1)) ?_
  refine j_sld dL_law_1915 (by omega) (by omega) ?_
  refine j_aload_n dL_law_1916 rfl rfl ?_
  refine j_iload dL_law_1917 rfl ?_
  refine j_iconst (v := 2) dL_law_1919 (by decide) ?_
  refine j_iadd dL_law_1920 ?_
  refine j_top (congrArg Value.int (show nI i + (2 : Int32) = nI (i + 2) from nI_add i 2)) ?_
  refine j_sld dL_law_1921 (by omega) (by omega) ?_
  refine j_aload_n dL_law_1922 rfl rfl ?_
  refine j_callSW dL_law_1923 kL_has lL_291 stL_has (lw_has hl w _ _ _ _ LT (z_sc G (i + 1)) (z_sc G (i + 2))) (Nat.le_of_ble_eq_true rfl) ⟨(by show _ ≤ 793551; omega), (by show _ ≤ 6715452; omega)⟩ rfl (Nat.le_of_ble_eq_true rfl) rfl rfl (fun _ _ h => h.elim) ?_
  rintro _ w1 ⟨n1, rfl, LT1, hn1⟩
  refine j_istore (lo' := [(5, _), (0, _), (1, _), (2, _), (3, _), (4, _)]) dL_law_1926 (by decide) rfl ?_
  refine j_aload_n dL_law_1928 rfl rfl ?_
  refine j_aload_n dL_law_1929 rfl rfl ?_
  refine j_iload dL_law_1930 rfl ?_
  refine j_iconst (v := 1) dL_law_1932 (by decide) ?_
  refine j_iadd dL_law_1933 ?_
  refine j_top (congrArg Value.int (show nI i + (1 : Int32) = nI (i + 1) from nI_add i 1)) ?_
  refine j_sld dL_law_1934 (by omega) (by omega) ?_
  refine j_aload_n dL_law_1935 rfl rfl ?_
  refine j_iload dL_law_1936 rfl ?_
  refine j_iconst (v := 2) dL_law_1938 (by decide) ?_
  refine j_iadd dL_law_1939 ?_
  refine j_top (congrArg Value.int (show nI i + (2 : Int32) = nI (i + 2) from nI_add i 2)) ?_
  refine j_sld dL_law_1940 (by omega) (by omega) ?_
  obtain ⟨-, ⟨s40, hs40, -⟩, -⟩ := id LT1
  refine j_callV (q := (RX11, TX11, 8)) dL_law_1941 kX11_has lL_293 inX11_has seX11_has hs40.m rfl (kx_has hl w1 LT1 (z_sc G (i + 1)) (z_sc G (i + 2))) (Nat.le_of_ble_eq_true rfl) ⟨(by show _ ≤ 793551; omega), (by show _ ≤ 6715452; omega)⟩ rfl (Nat.le_of_ble_eq_true rfl) rfl rfl (fun _ _ h => h.elim) ?_
  rintro _ w2 ⟨r2, rfl, LT2, th2, hr2⟩
  refine j_istore (lo' := [(6, _), (5, _), (0, _), (1, _), (2, _), (3, _), (4, _)]) dL_law_1944 (by decide) rfl ?_
  refine j_goto (tgt := 2228) dL_law_1946 (by decide) ?_
  refine j_widen (kc' := kc + 200) (ks' := ks + 6000) (by omega) (by omega) ?_
  exact j_lo2 (KK _ _ _ LT2) (z_q1 rfl (z_q1 rfl (z_q1 rfl (z_q1 rfl (z_q1 rfl z_q0)))))
set_option maxRecDepth 100000 in
set_option maxHeartbeats 4000000 in
theorem lc_38 (hl : l.stackTraces = false) {w : z_W} {x i kc ks : Nat} {S : sp_S} {n : Int64} (LT : z_LX x S S n w) (hi6 : i + 6 ≤ z_sn G) (hsn : z_sn G ≤ 3072) (hkc : kc + 200 ≤ 793551) (hks : ks + 6000 ≤ 6715452) (KK : ∀ (S9 : sp_S) (n9 : Int64) (w9 : z_W), z_LX x S9 S9 n9 w9 → z_J G l mL_law z_SL 2228 (z_lol x i) [] w9 (kc + 200) (ks + 6000)) : z_J G l mL_law z_SL 1949 (z_lol x i) [] w kc ks := by
  show z_J G l mL_law _ 1949 [(0, _), (1, _), (2, _), (3, _), (4, _)] [] _ _ _
  refine j_aload_n dL_law_1949 rfl rfl ?_
  refine j_aload_n dL_law_1950 rfl rfl ?_
  refine j_iload dL_law_1951 rfl ?_
  refine j_iconst (v := 1) dL_law_1953 (by decide) ?_
  refine j_iadd dL_law_1954 ?_
  refine j_top (congrArg Value.int (show nI i + (1 : Int32) = nI (i + 1) from nI_add i 1)) ?_
  refine j_sld dL_law_1955 (by omega) (by omega) ?_
  refine j_aload_n dL_law_1956 rfl rfl ?_
  refine j_callSW dL_law_1957 kL_size lL_294 stL_size (lw_size hl w _ _ _ _ LT (z_sc G (i + 1))) (Nat.le_of_ble_eq_true rfl) ⟨(by show _ ≤ 793551; omega), (by show _ ≤ 6715452; omega)⟩ rfl (Nat.le_of_ble_eq_true rfl) rfl rfl (fun _ _ h => h.elim) ?_
  rintro _ w1 ⟨n1, rfl, LT1, hn1⟩
  refine j_istore (lo' := [(5, _), (0, _), (1, _), (2, _), (3, _), (4, _)]) dL_law_1960 (by decide) rfl ?_
  refine j_aload_n dL_law_1962 rfl rfl ?_
  refine j_aload_n dL_law_1963 rfl rfl ?_
  refine j_iload dL_law_1964 rfl ?_
  refine j_iconst (v := 1) dL_law_1966 (by decide) ?_
  refine j_iadd dL_law_1967 ?_
  refine j_top (congrArg Value.int (show nI i + (1 : Int32) = nI (i + 1) from nI_add i 1)) ?_
  refine j_sld dL_law_1968 (by omega) (by omega) ?_
  obtain ⟨-, ⟨s41, hs41, -⟩, -⟩ := id LT1
  refine j_callV (q := (RX11, TX11, 8)) dL_law_1969 kX11_size lL_296 inX11_size seX11_size hs41.m rfl (kx_size hl w1 LT1 (z_sc G (i + 1))) (Nat.le_of_ble_eq_true rfl) ⟨(by show _ ≤ 793551; omega), (by show _ ≤ 6715452; omega)⟩ rfl (Nat.le_of_ble_eq_true rfl) rfl rfl (fun _ _ h => h.elim) ?_
  rintro _ w2 ⟨r2, rfl, LT2, th2, hr2⟩
  refine j_istore (lo' := [(6, _), (5, _), (0, _), (1, _), (2, _), (3, _), (4, _)]) dL_law_1972 (by decide) rfl ?_
  refine j_goto (tgt := 2228) dL_law_1974 (by decide) ?_
  refine j_widen (kc' := kc + 200) (ks' := ks + 6000) (by omega) (by omega) ?_
  exact j_lo2 (KK _ _ _ LT2) (z_q1 rfl (z_q1 rfl (z_q1 rfl (z_q1 rfl (z_q1 rfl z_q0)))))
set_option maxRecDepth 100000 in
set_option maxHeartbeats 4000000 in
theorem lc_39 (hl : l.stackTraces = false) {w : z_W} {x i kc ks : Nat} {S : sp_S} {n : Int64} (LT : z_LX x S S n w) (hi6 : i + 6 ≤ z_sn G) (hsn : z_sn G ≤ 3072) (hkc : kc + 200 ≤ 793551) (hks : ks + 6000 ≤ 6715452) (KK : ∀ (S9 : sp_S) (n9 : Int64) (w9 : z_W), z_LX x S9 S9 n9 w9 → z_J G l mL_law z_SL 2228 (z_lol x i) [] w9 (kc + 200) (ks + 6000)) : z_J G l mL_law z_SL 1977 (z_lol x i) [] w kc ks := by
  show z_J G l mL_law _ 1977 [(0, _), (1, _), (2, _), (3, _), (4, _)] [] _ _ _
  refine j_aload_n dL_law_1977 rfl rfl ?_
  refine j_aload_n dL_law_1978 rfl rfl ?_
  refine j_iload dL_law_1979 rfl ?_
  refine j_iconst (v := 1) dL_law_1981 (by decide) ?_
  refine j_iadd dL_law_1982 ?_
  refine j_top (congrArg Value.int (show nI i + (1 : Int32) = nI (i + 1) from nI_add i 1)) ?_
  refine j_sld dL_law_1983 (by omega) (by omega) ?_
  refine j_aload_n dL_law_1984 rfl rfl ?_
  refine j_callSW dL_law_1985 kL_text lL_297 stL_text (lw_text hl w _ _ _ _ LT (z_sc G (i + 1))) (Nat.le_of_ble_eq_true rfl) ⟨(by show _ ≤ 793551; omega), (by show _ ≤ 6715452; omega)⟩ rfl (Nat.le_of_ble_eq_true rfl) rfl rfl (fun _ _ h => h.elim) ?_
  rintro _ w1 ⟨r1, n1, rfl, LT1⟩
  refine j_istore (lo' := [(5, _), (0, _), (1, _), (2, _), (3, _), (4, _)]) dL_law_1988 (by decide) rfl ?_
  refine j_aload_n dL_law_1990 rfl rfl ?_
  refine j_aload_n dL_law_1991 rfl rfl ?_
  refine j_iload dL_law_1992 rfl ?_
  refine j_iconst (v := 1) dL_law_1994 (by decide) ?_
  refine j_iadd dL_law_1995 ?_
  refine j_top (congrArg Value.int (show nI i + (1 : Int32) = nI (i + 1) from nI_add i 1)) ?_
  refine j_sld dL_law_1996 (by omega) (by omega) ?_
  obtain ⟨-, ⟨s42, hs42, -⟩, -⟩ := id LT1
  refine j_callV (q := (RX11, TX11, 8)) dL_law_1997 kX11_text lL_299 inX11_text seX11_text hs42.m rfl (kx_text hl w1 LT1 (z_sc G (i + 1))) (Nat.le_of_ble_eq_true rfl) ⟨(by show _ ≤ 793551; omega), (by show _ ≤ 6715452; omega)⟩ rfl (Nat.le_of_ble_eq_true rfl) rfl rfl (fun _ _ h => h.elim) ?_
  rintro _ w2 ⟨r2, rfl, hir2, LT2⟩
  refine j_astore (lo' := [(6, _), (5, _), (0, _), (1, _), (2, _), (3, _), (4, _)]) dL_law_2000 hir2 (by decide) rfl ?_
  refine j_goto (tgt := 2228) dL_law_2002 (by decide) ?_
  refine j_widen (kc' := kc + 200) (ks' := ks + 6000) (by omega) (by omega) ?_
  exact j_lo2 (KK _ _ _ LT2) (z_q1 rfl (z_q1 rfl (z_q1 rfl (z_q1 rfl (z_q1 rfl z_q0)))))
set_option maxRecDepth 100000 in
set_option maxHeartbeats 4000000 in
theorem lc_40 (hl : l.stackTraces = false) {w : z_W} {x i kc ks : Nat} {S : sp_S} {n : Int64} (LT : z_LX x S S n w) (hi6 : i + 6 ≤ z_sn G) (hsn : z_sn G ≤ 3072) (hkc : kc + 200 ≤ 793551) (hks : ks + 6000 ≤ 6715452) (KK : ∀ (S9 : sp_S) (n9 : Int64) (w9 : z_W), z_LX x S9 S9 n9 w9 → z_J G l mL_law z_SL 2228 (z_lol x i) [] w9 (kc + 200) (ks + 6000)) : z_J G l mL_law z_SL 2005 (z_lol x i) [] w kc ks := by
  show z_J G l mL_law _ 2005 [(0, _), (1, _), (2, _), (3, _), (4, _)] [] _ _ _
  refine j_aload_n dL_law_2005 rfl rfl ?_
  refine j_aload_n dL_law_2006 rfl rfl ?_
  refine j_iload dL_law_2007 rfl ?_
  refine j_iconst (v := 1) dL_law_2009 (by decide) ?_
  refine j_iadd dL_law_2010 ?_
  refine j_top (congrArg Value.int (show nI i + (1 : Int32) = nI (i + 1) from nI_add i 1)) ?_
  refine j_sld dL_law_2011 (by omega) (by omega) ?_
  refine j_aload_n dL_law_2012 rfl rfl ?_
  refine j_iload dL_law_2013 rfl ?_
  refine j_iconst (v := 2) dL_law_2015 (by decide) ?_
  refine j_iadd dL_law_2016 ?_
  refine j_top (congrArg Value.int (show nI i + (2 : Int32) = nI (i + 2) from nI_add i 2)) ?_
  refine j_sld dL_law_2017 (by omega) (by omega) ?_
  refine j_aload_n dL_law_2018 rfl rfl ?_
  refine j_callSW dL_law_2019 kL_areLike lL_300 stL_areLike (lw_areLike hl w _ _ _ _ LT (z_sc G (i + 1)) (z_sc G (i + 2))) (Nat.le_of_ble_eq_true rfl) ⟨(by show _ ≤ 793551; omega), (by show _ ≤ 6715452; omega)⟩ rfl (Nat.le_of_ble_eq_true rfl) rfl rfl (fun _ _ h => h.elim) ?_
  rintro _ w1 ⟨n1, rfl, LT1, hn1⟩
  refine j_istore (lo' := [(5, _), (0, _), (1, _), (2, _), (3, _), (4, _)]) dL_law_2022 (by decide) rfl ?_
  refine j_aload_n dL_law_2024 rfl rfl ?_
  refine j_aload_n dL_law_2025 rfl rfl ?_
  refine j_iload dL_law_2026 rfl ?_
  refine j_iconst (v := 1) dL_law_2028 (by decide) ?_
  refine j_iadd dL_law_2029 ?_
  refine j_top (congrArg Value.int (show nI i + (1 : Int32) = nI (i + 1) from nI_add i 1)) ?_
  refine j_sld dL_law_2030 (by omega) (by omega) ?_
  refine j_aload_n dL_law_2031 rfl rfl ?_
  refine j_iload dL_law_2032 rfl ?_
  refine j_iconst (v := 2) dL_law_2034 (by decide) ?_
  refine j_iadd dL_law_2035 ?_
  refine j_top (congrArg Value.int (show nI i + (2 : Int32) = nI (i + 2) from nI_add i 2)) ?_
  refine j_sld dL_law_2036 (by omega) (by omega) ?_
  obtain ⟨-, ⟨s43, hs43, -⟩, -⟩ := id LT1
  refine j_callV (q := (RX11, TX11, 8)) dL_law_2037 kX11_areLike lL_302 inX11_areLike seX11_areLike hs43.m rfl (kx_areLike hl w1 LT1 (z_sc G (i + 1)) (z_sc G (i + 2))) (Nat.le_of_ble_eq_true rfl) ⟨(by show _ ≤ 793551; omega), (by show _ ≤ 6715452; omega)⟩ rfl (Nat.le_of_ble_eq_true rfl) rfl rfl (fun _ _ h => h.elim) ?_
  rintro _ w2 ⟨r2, rfl, LT2, th2, hr2⟩
  refine j_istore (lo' := [(6, _), (5, _), (0, _), (1, _), (2, _), (3, _), (4, _)]) dL_law_2040 (by decide) rfl ?_
  refine j_goto (tgt := 2228) dL_law_2042 (by decide) ?_
  refine j_widen (kc' := kc + 200) (ks' := ks + 6000) (by omega) (by omega) ?_
  exact j_lo2 (KK _ _ _ LT2) (z_q1 rfl (z_q1 rfl (z_q1 rfl (z_q1 rfl (z_q1 rfl z_q0)))))
set_option maxRecDepth 100000 in
set_option maxHeartbeats 4000000 in
theorem lc_41 (hl : l.stackTraces = false) {w : z_W} {x i kc ks : Nat} {S : sp_S} {n : Int64} (LT : z_LX x S S n w) (hi6 : i + 6 ≤ z_sn G) (hsn : z_sn G ≤ 3072) (hkc : kc + 200 ≤ 793551) (hks : ks + 6000 ≤ 6715452) (KK : ∀ (S9 : sp_S) (n9 : Int64) (w9 : z_W), z_LX x S9 S9 n9 w9 → z_J G l mL_law z_SL 2228 (z_lol x i) [] w9 (kc + 200) (ks + 6000)) : z_J G l mL_law z_SL 2045 (z_lol x i) [] w kc ks := by
  show z_J G l mL_law _ 2045 [(0, _), (1, _), (2, _), (3, _), (4, _)] [] _ _ _
  refine j_aload_n dL_law_2045 rfl rfl ?_
  refine j_aload_n dL_law_2046 rfl rfl ?_
  refine j_iload dL_law_2047 rfl ?_
  refine j_iconst (v := 1) dL_law_2049 (by decide) ?_
  refine j_iadd dL_law_2050 ?_
  refine j_top (congrArg Value.int (show nI i + (1 : Int32) = nI (i + 1) from nI_add i 1)) ?_
  refine j_sld dL_law_2051 (by omega) (by omega) ?_
  refine j_aload_n dL_law_2052 rfl rfl ?_
  refine j_iload dL_law_2053 rfl ?_
  refine j_iconst (v := 2) dL_law_2055 (by decide) ?_
  refine j_iadd dL_law_2056 ?_
  refine j_top (congrArg Value.int (show nI i + (2 : Int32) = nI (i + 2) from nI_add i 2)) ?_
  refine j_sld dL_law_2057 (by omega) (by omega) ?_
  refine j_aload_n dL_law_2058 rfl rfl ?_
  refine j_iload dL_law_2059 rfl ?_
  refine j_iconst (v := 3) dL_law_2061 (by decide) ?_
  refine j_iadd dL_law_2062 ?_
  refine j_top (congrArg Value.int (show nI i + (3 : Int32) = nI (i + 3) from nI_add i 3)) ?_
  refine j_sld dL_law_2063 (by omega) (by omega) ?_
  refine j_aload_n dL_law_2064 rfl rfl ?_
  refine j_iload dL_law_2065 rfl ?_
  refine j_iconst (v := 4) dL_law_2067 (by decide) ?_
  refine j_iadd dL_law_2068 ?_
  refine j_top (congrArg Value.int (show nI i + (4 : Int32) = nI (i + 4) from nI_add i 4)) ?_
  refine j_sld dL_law_2069 (by omega) (by omega) ?_
  refine j_aload_n dL_law_2070 rfl rfl ?_
  refine j_callSW dL_law_2071 kL_given lL_303 stL_given (lw_given hl w _ _ _ _ LT (z_sc G (i + 1)) (z_sc G (i + 2)) (z_sc G (i + 3)) (z_sc G (i + 4))) (Nat.le_of_ble_eq_true rfl) ⟨(by show _ ≤ 793551; omega), (by show _ ≤ 6715452; omega)⟩ rfl (Nat.le_of_ble_eq_true rfl) rfl rfl (fun _ _ h => h.elim) ?_
  rintro _ w1 ⟨n1, rfl, LT1, hn1⟩
  refine j_istore (lo' := [(5, _), (0, _), (1, _), (2, _), (3, _), (4, _)]) dL_law_2074 (by decide) rfl ?_
  refine j_aload_n dL_law_2076 rfl rfl ?_
  refine j_aload_n dL_law_2077 rfl rfl ?_
  refine j_iload dL_law_2078 rfl ?_
  refine j_iconst (v := 1) dL_law_2080 (by decide) ?_
  refine j_iadd dL_law_2081 ?_
  refine j_top (congrArg Value.int (show nI i + (1 : Int32) = nI (i + 1) from nI_add i 1)) ?_
  refine j_sld dL_law_2082 (by omega) (by omega) ?_
  refine j_aload_n dL_law_2083 rfl rfl ?_
  refine j_iload dL_law_2084 rfl ?_
  refine j_iconst (v := 2) dL_law_2086 (by decide) ?_
  refine j_iadd dL_law_2087 ?_
  refine j_top (congrArg Value.int (show nI i + (2 : Int32) = nI (i + 2) from nI_add i 2)) ?_
  refine j_sld dL_law_2088 (by omega) (by omega) ?_
  refine j_aload_n dL_law_2089 rfl rfl ?_
  refine j_iload dL_law_2090 rfl ?_
  refine j_iconst (v := 3) dL_law_2092 (by decide) ?_
  refine j_iadd dL_law_2093 ?_
  refine j_top (congrArg Value.int (show nI i + (3 : Int32) = nI (i + 3) from nI_add i 3)) ?_
  refine j_sld dL_law_2094 (by omega) (by omega) ?_
  refine j_aload_n dL_law_2095 rfl rfl ?_
  refine j_iload dL_law_2096 rfl ?_
  refine j_iconst (v := 4) dL_law_2098 (by decide) ?_
  refine j_iadd dL_law_2099 ?_
  refine j_top (congrArg Value.int (show nI i + (4 : Int32) = nI (i + 4) from nI_add i 4)) ?_
  refine j_sld dL_law_2100 (by omega) (by omega) ?_
  obtain ⟨-, ⟨s44, hs44, -⟩, -⟩ := id LT1
  refine j_callV (q := (RX11, TX11, 8)) dL_law_2101 kX11_given lL_305 inX11_given seX11_given hs44.m rfl (kx_given hl w1 LT1 (z_sc G (i + 1)) (z_sc G (i + 2)) (z_sc G (i + 3)) (z_sc G (i + 4))) (Nat.le_of_ble_eq_true rfl) ⟨(by show _ ≤ 793551; omega), (by show _ ≤ 6715452; omega)⟩ rfl (Nat.le_of_ble_eq_true rfl) rfl rfl (fun _ _ h => h.elim) ?_
  rintro _ w2 ⟨r2, rfl, LT2, th2, hr2⟩
  refine j_istore (lo' := [(6, _), (5, _), (0, _), (1, _), (2, _), (3, _), (4, _)]) dL_law_2104 (by decide) rfl ?_
  refine j_goto (tgt := 2228) dL_law_2106 (by decide) ?_
  refine j_widen (kc' := kc + 200) (ks' := ks + 6000) (by omega) (by omega) ?_
  exact j_lo2 (KK _ _ _ LT2) (z_q1 rfl (z_q1 rfl (z_q1 rfl (z_q1 rfl (z_q1 rfl z_q0)))))
set_option maxRecDepth 100000 in
set_option maxHeartbeats 4000000 in
theorem lc_42 (hl : l.stackTraces = false) {w : z_W} {x i kc ks : Nat} {S : sp_S} {n : Int64} (LT : z_LX x S S n w) (hi6 : i + 6 ≤ z_sn G) (hsn : z_sn G ≤ 3072) (hkc : kc + 200 ≤ 793551) (hks : ks + 6000 ≤ 6715452) (KK : ∀ (S9 : sp_S) (n9 : Int64) (w9 : z_W), z_LX x S9 S9 n9 w9 → z_J G l mL_law z_SL 2228 (z_lol x i) [] w9 (kc + 200) (ks + 6000)) : z_J G l mL_law z_SL 2109 (z_lol x i) [] w kc ks := by
  show z_J G l mL_law _ 2109 [(0, _), (1, _), (2, _), (3, _), (4, _)] [] _ _ _
  refine j_aload_n dL_law_2109 rfl rfl ?_
  refine j_aload_n dL_law_2110 rfl rfl ?_
  refine j_iload dL_law_2111 rfl ?_
  refine j_iconst (v := 1) dL_law_2113 (by decide) ?_
  refine j_iadd dL_law_2114 ?_
  refine j_top (congrArg Value.int (show nI i + (1 : Int32) = nI (i + 1) from nI_add i 1)) ?_
  refine j_sld dL_law_2115 (by omega) (by omega) ?_
  refine j_aload_n dL_law_2116 rfl rfl ?_
  refine j_iload dL_law_2117 rfl ?_
  refine j_iconst (v := 2) dL_law_2119 (by decide) ?_
  refine j_iadd dL_law_2120 ?_
  refine j_top (congrArg Value.int (show nI i + (2 : Int32) = nI (i + 2) from nI_add i 2)) ?_
  refine j_sld dL_law_2121 (by omega) (by omega) ?_
  refine j_aload_n dL_law_2122 rfl rfl ?_
  refine j_iload dL_law_2123 rfl ?_
  refine j_iconst (v := 3) dL_law_2125 (by decide) ?_
  refine j_iadd dL_law_2126 ?_
  refine j_top (congrArg Value.int (show nI i + (3 : Int32) = nI (i + 3) from nI_add i 3)) ?_
  refine j_sld dL_law_2127 (by omega) (by omega) ?_
  refine j_aload_n dL_law_2128 rfl rfl ?_
  refine j_callSW dL_law_2129 kL_tested lL_306 stL_tested (lw_tested hl w _ _ _ _ LT (z_sc G (i + 1)) (z_sc G (i + 2)) (z_sc G (i + 3))) (Nat.le_of_ble_eq_true rfl) ⟨(by show _ ≤ 793551; omega), (by show _ ≤ 6715452; omega)⟩ rfl (Nat.le_of_ble_eq_true rfl) rfl rfl (fun _ _ h => h.elim) ?_
  rintro _ w1 ⟨n1, rfl, LT1, hn1⟩
  refine j_istore (lo' := [(5, _), (0, _), (1, _), (2, _), (3, _), (4, _)]) dL_law_2132 (by decide) rfl ?_
  refine j_aload_n dL_law_2134 rfl rfl ?_
  refine j_aload_n dL_law_2135 rfl rfl ?_
  refine j_iload dL_law_2136 rfl ?_
  refine j_iconst (v := 1) dL_law_2138 (by decide) ?_
  refine j_iadd dL_law_2139 ?_
  refine j_top (congrArg Value.int (show nI i + (1 : Int32) = nI (i + 1) from nI_add i 1)) ?_
  refine j_sld dL_law_2140 (by omega) (by omega) ?_
  refine j_aload_n dL_law_2141 rfl rfl ?_
  refine j_iload dL_law_2142 rfl ?_
  refine j_iconst (v := 2) dL_law_2144 (by decide) ?_
  refine j_iadd dL_law_2145 ?_
  refine j_top (congrArg Value.int (show nI i + (2 : Int32) = nI (i + 2) from nI_add i 2)) ?_
  refine j_sld dL_law_2146 (by omega) (by omega) ?_
  refine j_aload_n dL_law_2147 rfl rfl ?_
  refine j_iload dL_law_2148 rfl ?_
  refine j_iconst (v := 3) dL_law_2150 (by decide) ?_
  refine j_iadd dL_law_2151 ?_
  refine j_top (congrArg Value.int (show nI i + (3 : Int32) = nI (i + 3) from nI_add i 3)) ?_
  refine j_sld dL_law_2152 (by omega) (by omega) ?_
  obtain ⟨-, ⟨s45, hs45, -⟩, -⟩ := id LT1
  refine j_callV (q := (RX11, TX11, 8)) dL_law_2153 kX11_tested lL_308 inX11_tested seX11_tested hs45.m rfl (kx_tested hl w1 LT1 (z_sc G (i + 1)) (z_sc G (i + 2)) (z_sc G (i + 3))) (Nat.le_of_ble_eq_true rfl) ⟨(by show _ ≤ 793551; omega), (by show _ ≤ 6715452; omega)⟩ rfl (Nat.le_of_ble_eq_true rfl) rfl rfl (fun _ _ h => h.elim) ?_
  rintro _ w2 ⟨r2, rfl, LT2, th2, hr2⟩
  refine j_istore (lo' := [(6, _), (5, _), (0, _), (1, _), (2, _), (3, _), (4, _)]) dL_law_2156 (by decide) rfl ?_
  refine j_goto (tgt := 2228) dL_law_2158 (by decide) ?_
  refine j_widen (kc' := kc + 200) (ks' := ks + 6000) (by omega) (by omega) ?_
  exact j_lo2 (KK _ _ _ LT2) (z_q1 rfl (z_q1 rfl (z_q1 rfl (z_q1 rfl (z_q1 rfl z_q0)))))
set_option maxRecDepth 100000 in
set_option maxHeartbeats 4000000 in
theorem lc_43 (hl : l.stackTraces = false) {w : z_W} {x i kc ks : Nat} {S : sp_S} {n : Int64} (LT : z_LX x S S n w) (hi6 : i + 6 ≤ z_sn G) (hsn : z_sn G ≤ 3072) (hkc : kc + 200 ≤ 793551) (hks : ks + 6000 ≤ 6715452) (KK : ∀ (S9 : sp_S) (n9 : Int64) (w9 : z_W), z_LX x S9 S9 n9 w9 → z_J G l mL_law z_SL 2228 (z_lol x i) [] w9 (kc + 200) (ks + 6000)) : z_J G l mL_law z_SL 2161 (z_lol x i) [] w kc ks := by
  show z_J G l mL_law _ 2161 [(0, _), (1, _), (2, _), (3, _), (4, _)] [] _ _ _
  refine j_aload_n dL_law_2161 rfl rfl ?_
  obtain ⟨fs46, gs46⟩ := LT.rc
  refine j_callV (q := (RX8, TX8, 9)) dL_law_2162 kX8_knock lL_309 inX8_knock seX8_knock gs46 rfl (px_knock hl w _ LT.1.1 LT.1.2) (Nat.le_of_ble_eq_true rfl) ⟨(by show _ ≤ 793551; omega), (by show _ ≤ 6715452; omega)⟩ rfl (Nat.le_of_ble_eq_true rfl) rfl rfl (fun _ _ h => h.elim) ?_
  rintro _ w1 ⟨rfl, hW1, hh1⟩
  have LT1 := LT.cls hW1 (okk_knock LT.1.2) hh1
  refine j_pop dL_law_2165 rfl ?_
  refine j_aload_n dL_law_2166 rfl rfl ?_
  obtain ⟨-, ⟨s47, hs47, -⟩, -⟩ := id LT1
  refine j_callV (q := (RX11, TX11, 8)) dL_law_2167 kX11_knock lL_312 inX11_knock seX11_knock hs47.m rfl (kx_knock hl w1 LT1) (Nat.le_of_ble_eq_true rfl) ⟨(by show _ ≤ 793551; omega), (by show _ ≤ 6715452; omega)⟩ rfl (Nat.le_of_ble_eq_true rfl) rfl rfl (fun _ _ h => h.elim) ?_
  rintro _ w2 ⟨r2, rfl, LT2, th2, hr2⟩
  refine j_pop dL_law_2170 rfl ?_
  refine j_goto (tgt := 2228) dL_law_2171 (by decide) ?_
  refine j_widen (kc' := kc + 200) (ks' := ks + 6000) (by omega) (by omega) ?_
  exact j_lo2 (KK _ _ _ LT2) (z_q1 rfl (z_q1 rfl (z_q1 rfl (z_q1 rfl (z_q1 rfl z_q0)))))
set_option maxRecDepth 100000 in
set_option maxHeartbeats 4000000 in
theorem lc_44 (hl : l.stackTraces = false) {w : z_W} {x i kc ks : Nat} {S : sp_S} {n : Int64} (LT : z_LX x S S n w) (hi6 : i + 6 ≤ z_sn G) (hsn : z_sn G ≤ 3072) (hkc : kc + 200 ≤ 793551) (hks : ks + 6000 ≤ 6715452) (KK : ∀ (S9 : sp_S) (n9 : Int64) (w9 : z_W), z_LX x S9 S9 n9 w9 → z_J G l mL_law z_SL 2228 (z_lol x i) [] w9 (kc + 200) (ks + 6000)) : z_J G l mL_law z_SL 2174 (z_lol x i) [] w kc ks := by
  show z_J G l mL_law _ 2174 [(0, _), (1, _), (2, _), (3, _), (4, _)] [] _ _ _
  refine j_aload_n dL_law_2174 rfl rfl ?_
  refine j_aload_n dL_law_2175 rfl rfl ?_
  refine j_iload dL_law_2176 rfl ?_
  refine j_iconst (v := 1) dL_law_2178 (by decide) ?_
  refine j_iadd dL_law_2179 ?_
  refine j_top (congrArg Value.int (show nI i + (1 : Int32) = nI (i + 1) from nI_add i 1)) ?_
  refine j_sld dL_law_2180 (by omega) (by omega) ?_
  refine j_aload_n dL_law_2181 rfl rfl ?_
  refine j_callSW dL_law_2182 kL_house lL_313 stL_house (lw_house hl w _ _ _ _ LT (z_sc G (i + 1))) (Nat.le_of_ble_eq_true rfl) ⟨(by show _ ≤ 793551; omega), (by show _ ≤ 6715452; omega)⟩ rfl (Nat.le_of_ble_eq_true rfl) rfl rfl (fun _ _ h => h.elim) ?_
  rintro _ w1 ⟨n1, rfl, LT1, hn1⟩
  refine j_istore (lo' := [(5, _), (0, _), (1, _), (2, _), (3, _), (4, _)]) dL_law_2185 (by decide) rfl ?_
  refine j_aload_n dL_law_2187 rfl rfl ?_
  refine j_aload_n dL_law_2188 rfl rfl ?_
  refine j_iload dL_law_2189 rfl ?_
  refine j_iconst (v := 1) dL_law_2191 (by decide) ?_
  refine j_iadd dL_law_2192 ?_
  refine j_top (congrArg Value.int (show nI i + (1 : Int32) = nI (i + 1) from nI_add i 1)) ?_
  refine j_sld dL_law_2193 (by omega) (by omega) ?_
  obtain ⟨-, ⟨s48, hs48, -⟩, -⟩ := id LT1
  refine j_callV (q := (RX11, TX11, 8)) dL_law_2194 kX11_house lL_315 inX11_house seX11_house hs48.m rfl (kx_house hl w1 LT1 (z_sc G (i + 1))) (Nat.le_of_ble_eq_true rfl) ⟨(by show _ ≤ 793551; omega), (by show _ ≤ 6715452; omega)⟩ rfl (Nat.le_of_ble_eq_true rfl) rfl rfl (fun _ _ h => h.elim) ?_
  rintro _ w2 ⟨r2, rfl, LT2, th2, hr2⟩
  refine j_istore (lo' := [(6, _), (5, _), (0, _), (1, _), (2, _), (3, _), (4, _)]) dL_law_2197 (by decide) rfl ?_
  refine j_goto (tgt := 2228) dL_law_2199 (by decide) ?_
  refine j_widen (kc' := kc + 200) (ks' := ks + 6000) (by omega) (by omega) ?_
  exact j_lo2 (KK _ _ _ LT2) (z_q1 rfl (z_q1 rfl (z_q1 rfl (z_q1 rfl (z_q1 rfl z_q0)))))
set_option maxRecDepth 100000 in
set_option maxHeartbeats 4000000 in
theorem lc_45 (hl : l.stackTraces = false) {w : z_W} {x i kc ks : Nat} {S : sp_S} {n : Int64} (LT : z_LX x S S n w) (hi6 : i + 6 ≤ z_sn G) (hsn : z_sn G ≤ 3072) (hkc : kc + 200 ≤ 793551) (hks : ks + 6000 ≤ 6715452) (KK : ∀ (S9 : sp_S) (n9 : Int64) (w9 : z_W), z_LX x S9 S9 n9 w9 → z_J G l mL_law z_SL 2228 (z_lol x i) [] w9 (kc + 200) (ks + 6000)) : z_J G l mL_law z_SL 2202 (z_lol x i) [] w kc ks := by
  show z_J G l mL_law _ 2202 [(0, _), (1, _), (2, _), (3, _), (4, _)] [] _ _ _
  refine j_aload_n dL_law_2202 rfl rfl ?_
  obtain ⟨fs49, gs49⟩ := LT.rc
  refine j_callV (q := (RX8, TX8, 9)) dL_law_2203 kX8_isSound lL_316 inX8_isSound seX8_isSound gs49 rfl (px_isSound hl w _ LT.1.1) (Nat.le_of_ble_eq_true rfl) ⟨(by show _ ≤ 793551; omega), (by show _ ≤ 6715452; omega)⟩ rfl (Nat.le_of_ble_eq_true rfl) rfl rfl (fun _ _ h => h.elim) ?_
  rintro _ w1 ⟨rfl, hW1, hh1⟩
  have LT1 := LT.cls hW1 LT.1.2 hh1
  refine j_pop dL_law_2206 rfl ?_
  refine j_aload_n dL_law_2207 rfl rfl ?_
  obtain ⟨-, ⟨s50, hs50, -⟩, -⟩ := id LT1
  refine j_callV (q := (RX11, TX11, 8)) dL_law_2208 kX11_isSound lL_320 inX11_isSound seX11_isSound hs50.m rfl (kx_isSound hl w1 LT1) (Nat.le_of_ble_eq_true rfl) ⟨(by show _ ≤ 793551; omega), (by show _ ≤ 6715452; omega)⟩ rfl (Nat.le_of_ble_eq_true rfl) rfl rfl (fun _ _ h => h.elim) ?_
  rintro _ w2 ⟨r2, rfl, LT2, th2, hr2⟩
  refine j_pop dL_law_2211 rfl ?_
  refine j_goto (tgt := 2228) dL_law_2212 (by decide) ?_
  refine j_widen (kc' := kc + 200) (ks' := ks + 6000) (by omega) (by omega) ?_
  exact j_lo2 (KK _ _ _ LT2) (z_q1 rfl (z_q1 rfl (z_q1 rfl (z_q1 rfl (z_q1 rfl z_q0)))))
set_option maxRecDepth 100000 in
set_option maxHeartbeats 4000000 in
theorem lc_46 (hl : l.stackTraces = false) {w : z_W} {x i kc ks : Nat} {S : sp_S} {n : Int64} (LT : z_LX x S S n w) (hi6 : i + 6 ≤ z_sn G) (hsn : z_sn G ≤ 3072) (hkc : kc + 200 ≤ 793551) (hks : ks + 6000 ≤ 6715452) (KK : ∀ (S9 : sp_S) (n9 : Int64) (w9 : z_W), z_LX x S9 S9 n9 w9 → z_J G l mL_law z_SL 2228 (z_lol x i) [] w9 (kc + 200) (ks + 6000)) : z_J G l mL_law z_SL 2215 (z_lol x i) [] w kc ks := by
  show z_J G l mL_law _ 2215 [(0, _), (1, _), (2, _), (3, _), (4, _)] [] _ _ _
  refine j_aload_n dL_law_2215 rfl rfl ?_
  obtain ⟨fs51, gs51⟩ := LT.rc
  obtain ⟨kn, xa, xb, b0, b1, hWk⟩ := LT.1.1.Wk
  refine j_callV (q := (RX8, TX8, 9)) dL_law_2216 kX8_digest lL_321 inX8_digest seX8_digest gs51 rfl (pt_digest hl w _ LT.1.1 kn xa xb b0 b1 hWk LT.fn) (Nat.le_of_ble_eq_true rfl) ⟨(by show _ ≤ 793551; omega), (by show _ ≤ 6715452; omega)⟩ rfl (Nat.le_of_ble_eq_true rfl) rfl rfl (fun _ _ h => h.elim) ?_
  rintro _ w1 ⟨⟨x1, rfl⟩, hW1, hh1⟩
  have LT1 := LT.cls hW1 LT.1.2 hh1
  refine j_pop2 dL_law_2219 rfl ?_
  refine j_aload_n dL_law_2220 rfl rfl ?_
  obtain ⟨-, ⟨s52, hs52, -⟩, -⟩ := id LT1
  refine j_callV (q := (RX11, TX11, 8)) dL_law_2221 kX11_digest lL_325 inX11_digest seX11_digest hs52.m rfl (kx_digest hl w1 LT1) (Nat.le_of_ble_eq_true rfl) ⟨(by show _ ≤ 793551; omega), (by show _ ≤ 6715452; omega)⟩ rfl (Nat.le_of_ble_eq_true rfl) rfl rfl (fun _ _ h => h.elim) ?_
  rintro _ w2 ⟨r2, rfl, LT2⟩
  refine j_pop2 dL_law_2224 rfl ?_
  refine j_goto (tgt := 2228) dL_law_2225 (by decide) ?_
  refine j_widen (kc' := kc + 200) (ks' := ks + 6000) (by omega) (by omega) ?_
  exact j_lo2 (KK _ _ _ LT2) (z_q1 rfl (z_q1 rfl (z_q1 rfl (z_q1 rfl (z_q1 rfl z_q0)))))
end ZLaw
