section ZLaw
variable {G : z_G} {l : Launch}
abbrev mL_law : z_M := (yL_law, cL_law, 7, some .boolean, [])
abbrev z_SL : z_S := (2048, 793551, 6715452, ([], z_no), (fun v _ => v = some (.int 1)), fun _ _ => False)
abbrev z_lol (x i : Nat) : List (Nat × Value) := [(0, .retAddr 8), (1, .ref 0), (2, .ref 1000), (3, .ref x), (4, .int (nI i))]
theorem z_LS.mod1 {x : Nat} {kn : Int32} {w w9 : z_W} {s s9 : z_Z} (h : z_LS x kn w) (h1 : z_fm 59 w w9) (h2 : z_mst w9 s9) (h3 : s9.1.2.2 = s.1.2.2) (h4 : s.1.2.2 = kn) : z_LS x kn w9 := by
  obtain ⟨hW, -, ⟨n, v, hg⟩, hx, hx2⟩ := h
  exact ⟨by rw [h1.1]; exact hW, ⟨s9, h2, h3.trans h4⟩, ⟨n, v, h1.g hx (by omega) hg⟩, hx, hx2⟩
/-- after the class's knock, before the model's -/
def z_LK (x : Nat) (kn : Int32) (w : z_W) : Prop := z_Wn (kn + 1) w.1 ∧ (∃ s, z_mst w s ∧ s.1.2.2 = kn) ∧ (∃ (n : Int64) (v : Value), z_g w x = some (.inr (13, [.long n, v]))) ∧ 1000 ≤ x ∧ x % 64 = 60
theorem z_LS.clsk {x : Nat} {kn : Int32} {w w9 : z_W} (h : z_LS x kn w) (h1 : z_Wn (kn + 1) w9.1) (h2 : z_hi w w9) : z_LK x kn w9 := by
  obtain ⟨-, ⟨s, hs, hk⟩, ⟨n, v, hg⟩, hx, hx2⟩ := h
  exact ⟨h1, ⟨s, hs.hi h2, hk⟩, ⟨n, v, (h2.1 x hx (Or.inr (by omega))).trans hg⟩, hx, hx2⟩
theorem z_LK.modk {x : Nat} {kn : Int32} {w w9 : z_W} {s : z_Z} (h : z_LK x kn w) (hk : s.1.2.2 = kn) (h1 : z_fm 56 w w9) (h2 : z_mst w9 (z_tm s (0, s.1.2.1, s.1.2.2 + 1))) : z_LS x (kn + 1) w9 := by
  obtain ⟨hW, -, ⟨n, v, hg⟩, hx, hx2⟩ := h
  exact ⟨by rw [h1.1]; exact hW, ⟨_, h2, by show s.1.2.2 + 1 = kn + 1; rw [hk]⟩, ⟨n, v, h1.g hx (by omega) hg⟩, hx, hx2⟩
set_option maxRecDepth 100000 in
set_option maxHeartbeats 4000000 in
theorem lc_0 (hl : l.stackTraces = false) {w : z_W} {x i kc ks : Nat} {kn : Int32} (LS : z_LS x kn w) (hi6 : i + 6 ≤ z_sn G) (hsn : z_sn G ≤ 3072) (hkc : kc + 200 ≤ 793551) (hks : ks + 6000 ≤ 6715452) (KK : ∀ (kn9 : Int32) (w9 : z_W), z_LS x kn9 w9 → z_J G l mL_law z_SL 2228 (z_lol x i) [] w9 (kc + 200) (ks + 6000)) : z_J G l mL_law z_SL 248 (z_lol x i) [] w kc ks := by
  show z_J G l mL_law _ 248 [(0, _), (1, _), (2, _), (3, _), (4, _)] [] _ _ _
  refine j_aload_n dL_law_248 rfl rfl ?_
  refine j_aload_n dL_law_249 rfl rfl ?_
  refine j_iload dL_law_250 rfl ?_
  refine j_iconst (v := 1) dL_law_252 (by decide) ?_
  refine j_iadd dL_law_253 ?_
  refine j_top (congrArg Value.int (show nI i + (1 : Int32) = nI (i + 1) from nI_add i 1)) ?_
  refine j_sld dL_law_254 (vp_in_nI (by omega) (by omega)) ?_
  intro xs1
  refine j_aload_n dL_law_255 rfl rfl ?_
  refine j_iload dL_law_256 rfl ?_
  refine j_iconst (v := 2) dL_law_258 (by decide) ?_
  refine j_iadd dL_law_259 ?_
  refine j_top (congrArg Value.int (show nI i + (2 : Int32) = nI (i + 2) from nI_add i 2)) ?_
  refine j_sld dL_law_260 (vp_in_nI (by omega) (by omega)) ?_
  intro xs2
  refine j_aload_n dL_law_261 rfl rfl ?_
  refine j_callSW dL_law_262 kL_type lL_170 stL_type (lw_type hl w _ _ LS _ _) (Nat.le_of_ble_eq_true rfl) ⟨(by show _ ≤ 793551; omega), (by show _ ≤ 6715452; omega)⟩ rfl (Nat.le_of_ble_eq_true rfl) rfl rfl (fun _ _ h => h.elim) ?_
  rintro _ w1 ⟨⟨r1, rfl⟩, LS1⟩
  refine j_istore (lo' := [(5, _), (0, _), (1, _), (2, _), (3, _), (4, _)]) dL_law_265 (by decide) rfl ?_
  refine j_aload_n dL_law_267 rfl rfl ?_
  refine j_aload_n dL_law_268 rfl rfl ?_
  refine j_iload dL_law_269 rfl ?_
  refine j_iconst (v := 1) dL_law_271 (by decide) ?_
  refine j_iadd dL_law_272 ?_
  refine j_top (congrArg Value.int (show nI i + (1 : Int32) = nI (i + 1) from nI_add i 1)) ?_
  refine j_sld dL_law_273 (vp_in_nI (by omega) (by omega)) ?_
  intro xs3
  refine j_aload_n dL_law_274 rfl rfl ?_
  refine j_iload dL_law_275 rfl ?_
  refine j_iconst (v := 2) dL_law_277 (by decide) ?_
  refine j_iadd dL_law_278 ?_
  refine j_top (congrArg Value.int (show nI i + (2 : Int32) = nI (i + 2) from nI_add i 2)) ?_
  refine j_sld dL_law_279 (vp_in_nI (by omega) (by omega)) ?_
  intro xs4
  obtain ⟨-, ⟨s5, hs5, hk5⟩, -⟩ := id LS1
  refine j_callV (q := (RX11, TX11, 8)) dL_law_280 kX11_type lL_175 inX11_type seX11_type hs5.m rfl (cm_type hl w1 _ _ _ hs5) (Nat.le_of_ble_eq_true rfl) ⟨(by show _ ≤ 793551; omega), (by show _ ≤ 6715452; omega)⟩ rfl (Nat.le_of_ble_eq_true rfl) rfl rfl (fun _ _ h => h.elim) ?_
  rintro _ w2 ⟨r2, s2x, rfl, fm2, h2, h2k⟩
  have LS2 := LS1.mod1 fm2 h2 (congrArg Prod.fst h2k) hk5
  refine j_istore (lo' := [(6, _), (5, _), (0, _), (1, _), (2, _), (3, _), (4, _)]) dL_law_283 (by decide) rfl ?_
  refine j_goto (tgt := 2228) dL_law_285 (by decide) ?_
  refine j_widen (kc' := kc + 200) (ks' := ks + 6000) (by omega) (by omega) ?_
  exact j_lo2 (KK _ _ LS2) (z_q1 rfl (z_q1 rfl (z_q1 rfl (z_q1 rfl (z_q1 rfl z_q0)))))
set_option maxRecDepth 100000 in
set_option maxHeartbeats 4000000 in
theorem lc_1 (hl : l.stackTraces = false) {w : z_W} {x i kc ks : Nat} {kn : Int32} (LS : z_LS x kn w) (hi6 : i + 6 ≤ z_sn G) (hsn : z_sn G ≤ 3072) (hkc : kc + 200 ≤ 793551) (hks : ks + 6000 ≤ 6715452) (KK : ∀ (kn9 : Int32) (w9 : z_W), z_LS x kn9 w9 → z_J G l mL_law z_SL 2228 (z_lol x i) [] w9 (kc + 200) (ks + 6000)) : z_J G l mL_law z_SL 288 (z_lol x i) [] w kc ks := by
  show z_J G l mL_law _ 288 [(0, _), (1, _), (2, _), (3, _), (4, _)] [] _ _ _
  refine j_aload_n dL_law_288 rfl rfl ?_
  refine j_aload_n dL_law_289 rfl rfl ?_
  refine j_iload dL_law_290 rfl ?_
  refine j_iconst (v := 1) dL_law_292 (by decide) ?_
  refine j_iadd dL_law_293 ?_
  refine j_top (congrArg Value.int (show nI i + (1 : Int32) = nI (i + 1) from nI_add i 1)) ?_
  refine j_sld dL_law_294 (vp_in_nI (by omega) (by omega)) ?_
  intro xs6
  refine j_aload_n dL_law_295 rfl rfl ?_
  refine j_iload dL_law_296 rfl ?_
  refine j_iconst (v := 2) dL_law_298 (by decide) ?_
  refine j_iadd dL_law_299 ?_
  refine j_top (congrArg Value.int (show nI i + (2 : Int32) = nI (i + 2) from nI_add i 2)) ?_
  refine j_sld dL_law_300 (vp_in_nI (by omega) (by omega)) ?_
  intro xs7
  refine j_aload_n dL_law_301 rfl rfl ?_
  refine j_callSW dL_law_302 kL_drop lL_176 stL_drop (lw_drop hl w _ _ LS _ _) (Nat.le_of_ble_eq_true rfl) ⟨(by show _ ≤ 793551; omega), (by show _ ≤ 6715452; omega)⟩ rfl (Nat.le_of_ble_eq_true rfl) rfl rfl (fun _ _ h => h.elim) ?_
  rintro _ w1 ⟨⟨r1, rfl⟩, LS1⟩
  refine j_istore (lo' := [(5, _), (0, _), (1, _), (2, _), (3, _), (4, _)]) dL_law_305 (by decide) rfl ?_
  refine j_aload_n dL_law_307 rfl rfl ?_
  refine j_aload_n dL_law_308 rfl rfl ?_
  refine j_iload dL_law_309 rfl ?_
  refine j_iconst (v := 1) dL_law_311 (by decide) ?_
  refine j_iadd dL_law_312 ?_
  refine j_top (congrArg Value.int (show nI i + (1 : Int32) = nI (i + 1) from nI_add i 1)) ?_
  refine j_sld dL_law_313 (vp_in_nI (by omega) (by omega)) ?_
  intro xs8
  refine j_aload_n dL_law_314 rfl rfl ?_
  refine j_iload dL_law_315 rfl ?_
  refine j_iconst (v := 2) dL_law_317 (by decide) ?_
  refine j_iadd dL_law_318 ?_
  refine j_top (congrArg Value.int (show nI i + (2 : Int32) = nI (i + 2) from nI_add i 2)) ?_
  refine j_sld dL_law_319 (vp_in_nI (by omega) (by omega)) ?_
  intro xs9
  obtain ⟨-, ⟨s10, hs10, hk10⟩, -⟩ := id LS1
  refine j_callV (q := (RX11, TX11, 8)) dL_law_320 kX11_drop lL_178 inX11_drop seX11_drop hs10.m rfl (cm_drop hl w1 _ _ _ hs10) (Nat.le_of_ble_eq_true rfl) ⟨(by show _ ≤ 793551; omega), (by show _ ≤ 6715452; omega)⟩ rfl (Nat.le_of_ble_eq_true rfl) rfl rfl (fun _ _ h => h.elim) ?_
  rintro _ w2 ⟨r2, s2x, rfl, fm2, h2, h2k⟩
  have LS2 := LS1.mod1 fm2 h2 (congrArg Prod.fst h2k) hk10
  refine j_istore (lo' := [(6, _), (5, _), (0, _), (1, _), (2, _), (3, _), (4, _)]) dL_law_323 (by decide) rfl ?_
  refine j_goto (tgt := 2228) dL_law_325 (by decide) ?_
  refine j_widen (kc' := kc + 200) (ks' := ks + 6000) (by omega) (by omega) ?_
  exact j_lo2 (KK _ _ LS2) (z_q1 rfl (z_q1 rfl (z_q1 rfl (z_q1 rfl (z_q1 rfl z_q0)))))
set_option maxRecDepth 100000 in
set_option maxHeartbeats 4000000 in
theorem lc_2 (hl : l.stackTraces = false) {w : z_W} {x i kc ks : Nat} {kn : Int32} (LS : z_LS x kn w) (hi6 : i + 6 ≤ z_sn G) (hsn : z_sn G ≤ 3072) (hkc : kc + 200 ≤ 793551) (hks : ks + 6000 ≤ 6715452) (KK : ∀ (kn9 : Int32) (w9 : z_W), z_LS x kn9 w9 → z_J G l mL_law z_SL 2228 (z_lol x i) [] w9 (kc + 200) (ks + 6000)) : z_J G l mL_law z_SL 328 (z_lol x i) [] w kc ks := by
  show z_J G l mL_law _ 328 [(0, _), (1, _), (2, _), (3, _), (4, _)] [] _ _ _
  refine j_aload_n dL_law_328 rfl rfl ?_
  refine j_aload_n dL_law_329 rfl rfl ?_
  refine j_iload dL_law_330 rfl ?_
  refine j_iconst (v := 1) dL_law_332 (by decide) ?_
  refine j_iadd dL_law_333 ?_
  refine j_top (congrArg Value.int (show nI i + (1 : Int32) = nI (i + 1) from nI_add i 1)) ?_
  refine j_sld dL_law_334 (vp_in_nI (by omega) (by omega)) ?_
  intro xs11
  refine j_aload_n dL_law_335 rfl rfl ?_
  refine j_iload dL_law_336 rfl ?_
  refine j_iconst (v := 2) dL_law_338 (by decide) ?_
  refine j_iadd dL_law_339 ?_
  refine j_top (congrArg Value.int (show nI i + (2 : Int32) = nI (i + 2) from nI_add i 2)) ?_
  refine j_sld dL_law_340 (vp_in_nI (by omega) (by omega)) ?_
  intro xs12
  refine j_if_eq (tgt := 348) dL_law_341 (by decide) (fun c_341_16 => ?_) (fun c_341_16 => ?_)
  · refine j_iconst (v := 0) dL_law_348 (by decide) ?_
    refine j_aload_n dL_law_349 rfl rfl ?_
    refine j_callSW dL_law_350 kL_fix lL_179 stL_fix (lw_fix hl w _ _ LS _ false) (Nat.le_of_ble_eq_true rfl) ⟨(by show _ ≤ 793551; omega), (by show _ ≤ 6715452; omega)⟩ rfl (Nat.le_of_ble_eq_true rfl) rfl rfl (fun _ _ h => h.elim) ?_
    rintro _ w1 ⟨⟨r1, rfl⟩, LS1⟩
    refine j_istore (lo' := [(5, _), (0, _), (1, _), (2, _), (3, _), (4, _)]) dL_law_353 (by decide) rfl ?_
    refine j_aload_n dL_law_355 rfl rfl ?_
    refine j_aload_n dL_law_356 rfl rfl ?_
    refine j_iload dL_law_357 rfl ?_
    refine j_iconst (v := 1) dL_law_359 (by decide) ?_
    refine j_iadd dL_law_360 ?_
    refine j_top (congrArg Value.int (show nI i + (1 : Int32) = nI (i + 1) from nI_add i 1)) ?_
    refine j_sld dL_law_361 (vp_in_nI (by omega) (by omega)) ?_
    intro xs13
    refine j_aload_n dL_law_362 rfl rfl ?_
    refine j_iload dL_law_363 rfl ?_
    refine j_iconst (v := 2) dL_law_365 (by decide) ?_
    refine j_iadd dL_law_366 ?_
    refine j_top (congrArg Value.int (show nI i + (2 : Int32) = nI (i + 2) from nI_add i 2)) ?_
    refine j_sld dL_law_367 (vp_in_nI (by omega) (by omega)) ?_
    intro xs14
    refine j_if_eq (tgt := 375) dL_law_368 (by decide) (fun c_368_37 => ?_) (fun c_368_37 => ?_)
    · refine j_iconst (v := 0) dL_law_375 (by decide) ?_
      obtain ⟨-, ⟨s15, hs15, hk15⟩, -⟩ := id LS1
      refine j_callV (q := (RX11, TX11, 8)) dL_law_376 kX11_fix lL_182 inX11_fix seX11_fix hs15.m rfl (cm_fix hl w1 _ _ _ hs15 rfl) (Nat.le_of_ble_eq_true rfl) ⟨(by show _ ≤ 793551; omega), (by show _ ≤ 6715452; omega)⟩ rfl (Nat.le_of_ble_eq_true rfl) rfl rfl (fun _ _ h => h.elim) ?_
      rintro _ w2 ⟨r2, s2x, rfl, fm2, h2, h2k⟩
      have LS2 := LS1.mod1 fm2 h2 (by rcases h2k with z | ⟨_, -, -, z⟩ <;> exact congrArg Prod.fst z) hk15
      refine j_istore (lo' := [(6, _), (5, _), (0, _), (1, _), (2, _), (3, _), (4, _)]) dL_law_379 (by decide) rfl ?_
      refine j_goto (tgt := 2228) dL_law_381 (by decide) ?_
      refine j_widen (kc' := kc + 200) (ks' := ks + 6000) (by omega) (by omega) ?_
      exact j_lo2 (KK _ _ LS2) (z_q1 rfl (z_q1 rfl (z_q1 rfl (z_q1 rfl (z_q1 rfl z_q0)))))
    · refine j_iconst (v := 1) dL_law_371 (by decide) ?_
      refine j_goto (tgt := 376) dL_law_372 (by decide) ?_
      obtain ⟨-, ⟨s16, hs16, hk16⟩, -⟩ := id LS1
      refine j_callV (q := (RX11, TX11, 8)) dL_law_376 kX11_fix lL_182 inX11_fix seX11_fix hs16.m rfl (cm_fix hl w1 _ _ _ hs16 rfl) (Nat.le_of_ble_eq_true rfl) ⟨(by show _ ≤ 793551; omega), (by show _ ≤ 6715452; omega)⟩ rfl (Nat.le_of_ble_eq_true rfl) rfl rfl (fun _ _ h => h.elim) ?_
      rintro _ w3 ⟨r3, s3x, rfl, fm3, h3, h3k⟩
      have LS3 := LS1.mod1 fm3 h3 (by rcases h3k with z | ⟨_, -, -, z⟩ <;> exact congrArg Prod.fst z) hk16
      refine j_istore (lo' := [(6, _), (5, _), (0, _), (1, _), (2, _), (3, _), (4, _)]) dL_law_379 (by decide) rfl ?_
      refine j_goto (tgt := 2228) dL_law_381 (by decide) ?_
      refine j_widen (kc' := kc + 200) (ks' := ks + 6000) (by omega) (by omega) ?_
      exact j_lo2 (KK _ _ LS3) (z_q1 rfl (z_q1 rfl (z_q1 rfl (z_q1 rfl (z_q1 rfl z_q0)))))
  · refine j_iconst (v := 1) dL_law_344 (by decide) ?_
    refine j_goto (tgt := 349) dL_law_345 (by decide) ?_
    refine j_aload_n dL_law_349 rfl rfl ?_
    refine j_callSW dL_law_350 kL_fix lL_179 stL_fix (lw_fix hl w _ _ LS _ true) (Nat.le_of_ble_eq_true rfl) ⟨(by show _ ≤ 793551; omega), (by show _ ≤ 6715452; omega)⟩ rfl (Nat.le_of_ble_eq_true rfl) rfl rfl (fun _ _ h => h.elim) ?_
    rintro _ w4 ⟨⟨r4, rfl⟩, LS4⟩
    refine j_istore (lo' := [(5, _), (0, _), (1, _), (2, _), (3, _), (4, _)]) dL_law_353 (by decide) rfl ?_
    refine j_aload_n dL_law_355 rfl rfl ?_
    refine j_aload_n dL_law_356 rfl rfl ?_
    refine j_iload dL_law_357 rfl ?_
    refine j_iconst (v := 1) dL_law_359 (by decide) ?_
    refine j_iadd dL_law_360 ?_
    refine j_top (congrArg Value.int (show nI i + (1 : Int32) = nI (i + 1) from nI_add i 1)) ?_
    refine j_sld dL_law_361 (vp_in_nI (by omega) (by omega)) ?_
    intro xs17
    refine j_aload_n dL_law_362 rfl rfl ?_
    refine j_iload dL_law_363 rfl ?_
    refine j_iconst (v := 2) dL_law_365 (by decide) ?_
    refine j_iadd dL_law_366 ?_
    refine j_top (congrArg Value.int (show nI i + (2 : Int32) = nI (i + 2) from nI_add i 2)) ?_
    refine j_sld dL_law_367 (vp_in_nI (by omega) (by omega)) ?_
    intro xs18
    refine j_if_eq (tgt := 375) dL_law_368 (by decide) (fun c_368_78 => ?_) (fun c_368_78 => ?_)
    · refine j_iconst (v := 0) dL_law_375 (by decide) ?_
      obtain ⟨-, ⟨s19, hs19, hk19⟩, -⟩ := id LS4
      refine j_callV (q := (RX11, TX11, 8)) dL_law_376 kX11_fix lL_182 inX11_fix seX11_fix hs19.m rfl (cm_fix hl w4 _ _ _ hs19 rfl) (Nat.le_of_ble_eq_true rfl) ⟨(by show _ ≤ 793551; omega), (by show _ ≤ 6715452; omega)⟩ rfl (Nat.le_of_ble_eq_true rfl) rfl rfl (fun _ _ h => h.elim) ?_
      rintro _ w5 ⟨r5, s5x, rfl, fm5, h5, h5k⟩
      have LS5 := LS4.mod1 fm5 h5 (by rcases h5k with z | ⟨_, -, -, z⟩ <;> exact congrArg Prod.fst z) hk19
      refine j_istore (lo' := [(6, _), (5, _), (0, _), (1, _), (2, _), (3, _), (4, _)]) dL_law_379 (by decide) rfl ?_
      refine j_goto (tgt := 2228) dL_law_381 (by decide) ?_
      refine j_widen (kc' := kc + 200) (ks' := ks + 6000) (by omega) (by omega) ?_
      exact j_lo2 (KK _ _ LS5) (z_q1 rfl (z_q1 rfl (z_q1 rfl (z_q1 rfl (z_q1 rfl z_q0)))))
    · refine j_iconst (v := 1) dL_law_371 (by decide) ?_
      refine j_goto (tgt := 376) dL_law_372 (by decide) ?_
      obtain ⟨-, ⟨s20, hs20, hk20⟩, -⟩ := id LS4
      refine j_callV (q := (RX11, TX11, 8)) dL_law_376 kX11_fix lL_182 inX11_fix seX11_fix hs20.m rfl (cm_fix hl w4 _ _ _ hs20 rfl) (Nat.le_of_ble_eq_true rfl) ⟨(by show _ ≤ 793551; omega), (by show _ ≤ 6715452; omega)⟩ rfl (Nat.le_of_ble_eq_true rfl) rfl rfl (fun _ _ h => h.elim) ?_
      rintro _ w6 ⟨r6, s6x, rfl, fm6, h6, h6k⟩
      have LS6 := LS4.mod1 fm6 h6 (by rcases h6k with z | ⟨_, -, -, z⟩ <;> exact congrArg Prod.fst z) hk20
      refine j_istore (lo' := [(6, _), (5, _), (0, _), (1, _), (2, _), (3, _), (4, _)]) dL_law_379 (by decide) rfl ?_
      refine j_goto (tgt := 2228) dL_law_381 (by decide) ?_
      refine j_widen (kc' := kc + 200) (ks' := ks + 6000) (by omega) (by omega) ?_
      exact j_lo2 (KK _ _ LS6) (z_q1 rfl (z_q1 rfl (z_q1 rfl (z_q1 rfl (z_q1 rfl z_q0)))))
set_option maxRecDepth 100000 in
set_option maxHeartbeats 4000000 in
theorem lc_3 (hl : l.stackTraces = false) {w : z_W} {x i kc ks : Nat} {kn : Int32} (LS : z_LS x kn w) (hi6 : i + 6 ≤ z_sn G) (hsn : z_sn G ≤ 3072) (hkc : kc + 200 ≤ 793551) (hks : ks + 6000 ≤ 6715452) (KK : ∀ (kn9 : Int32) (w9 : z_W), z_LS x kn9 w9 → z_J G l mL_law z_SL 2228 (z_lol x i) [] w9 (kc + 200) (ks + 6000)) : z_J G l mL_law z_SL 384 (z_lol x i) [] w kc ks := by
  show z_J G l mL_law _ 384 [(0, _), (1, _), (2, _), (3, _), (4, _)] [] _ _ _
  refine j_aload_n dL_law_384 rfl rfl ?_
  refine j_aload_n dL_law_385 rfl rfl ?_
  refine j_iload dL_law_386 rfl ?_
  refine j_iconst (v := 1) dL_law_388 (by decide) ?_
  refine j_iadd dL_law_389 ?_
  refine j_top (congrArg Value.int (show nI i + (1 : Int32) = nI (i + 1) from nI_add i 1)) ?_
  refine j_sld dL_law_390 (vp_in_nI (by omega) (by omega)) ?_
  intro xs21
  refine j_aload_n dL_law_391 rfl rfl ?_
  refine j_iload dL_law_392 rfl ?_
  refine j_iconst (v := 2) dL_law_394 (by decide) ?_
  refine j_iadd dL_law_395 ?_
  refine j_top (congrArg Value.int (show nI i + (2 : Int32) = nI (i + 2) from nI_add i 2)) ?_
  refine j_sld dL_law_396 (vp_in_nI (by omega) (by omega)) ?_
  intro xs22
  refine j_aload_n dL_law_397 rfl rfl ?_
  refine j_callSW dL_law_398 kL_hear lL_183 stL_hear (lw_hear hl w _ _ LS _ _) (Nat.le_of_ble_eq_true rfl) ⟨(by show _ ≤ 793551; omega), (by show _ ≤ 6715452; omega)⟩ rfl (Nat.le_of_ble_eq_true rfl) rfl rfl (fun _ _ h => h.elim) ?_
  rintro _ w1 ⟨⟨r1, rfl⟩, LS1⟩
  refine j_istore (lo' := [(5, _), (0, _), (1, _), (2, _), (3, _), (4, _)]) dL_law_401 (by decide) rfl ?_
  refine j_aload_n dL_law_403 rfl rfl ?_
  refine j_aload_n dL_law_404 rfl rfl ?_
  refine j_iload dL_law_405 rfl ?_
  refine j_iconst (v := 1) dL_law_407 (by decide) ?_
  refine j_iadd dL_law_408 ?_
  refine j_top (congrArg Value.int (show nI i + (1 : Int32) = nI (i + 1) from nI_add i 1)) ?_
  refine j_sld dL_law_409 (vp_in_nI (by omega) (by omega)) ?_
  intro xs23
  refine j_aload_n dL_law_410 rfl rfl ?_
  refine j_iload dL_law_411 rfl ?_
  refine j_iconst (v := 2) dL_law_413 (by decide) ?_
  refine j_iadd dL_law_414 ?_
  refine j_top (congrArg Value.int (show nI i + (2 : Int32) = nI (i + 2) from nI_add i 2)) ?_
  refine j_sld dL_law_415 (vp_in_nI (by omega) (by omega)) ?_
  intro xs24
  obtain ⟨-, ⟨s25, hs25, hk25⟩, -⟩ := id LS1
  refine j_callV (q := (RX11, TX11, 8)) dL_law_416 kX11_hear lL_185 inX11_hear seX11_hear hs25.m rfl (cm_hear hl w1 _ _ _ hs25) (Nat.le_of_ble_eq_true rfl) ⟨(by show _ ≤ 793551; omega), (by show _ ≤ 6715452; omega)⟩ rfl (Nat.le_of_ble_eq_true rfl) rfl rfl (fun _ _ h => h.elim) ?_
  rintro _ w2 ⟨r2, s2x, rfl, fm2, h2, h2k⟩
  have LS2 := LS1.mod1 fm2 h2 (congrArg Prod.fst h2k) hk25
  refine j_istore (lo' := [(6, _), (5, _), (0, _), (1, _), (2, _), (3, _), (4, _)]) dL_law_419 (by decide) rfl ?_
  refine j_goto (tgt := 2228) dL_law_421 (by decide) ?_
  refine j_widen (kc' := kc + 200) (ks' := ks + 6000) (by omega) (by omega) ?_
  exact j_lo2 (KK _ _ LS2) (z_q1 rfl (z_q1 rfl (z_q1 rfl (z_q1 rfl (z_q1 rfl z_q0)))))
set_option maxRecDepth 100000 in
set_option maxHeartbeats 4000000 in
theorem lc_4 (hl : l.stackTraces = false) {w : z_W} {x i kc ks : Nat} {kn : Int32} (LS : z_LS x kn w) (hi6 : i + 6 ≤ z_sn G) (hsn : z_sn G ≤ 3072) (hkc : kc + 200 ≤ 793551) (hks : ks + 6000 ≤ 6715452) (KK : ∀ (kn9 : Int32) (w9 : z_W), z_LS x kn9 w9 → z_J G l mL_law z_SL 2228 (z_lol x i) [] w9 (kc + 200) (ks + 6000)) : z_J G l mL_law z_SL 424 (z_lol x i) [] w kc ks := by
  show z_J G l mL_law _ 424 [(0, _), (1, _), (2, _), (3, _), (4, _)] [] _ _ _
  refine j_aload_n dL_law_424 rfl rfl ?_
  refine j_aload_n dL_law_425 rfl rfl ?_
  refine j_iload dL_law_426 rfl ?_
  refine j_iconst (v := 1) dL_law_428 (by decide) ?_
  refine j_iadd dL_law_429 ?_
  refine j_top (congrArg Value.int (show nI i + (1 : Int32) = nI (i + 1) from nI_add i 1)) ?_
  refine j_sld dL_law_430 (vp_in_nI (by omega) (by omega)) ?_
  intro xs26
  refine j_aload_n dL_law_431 rfl rfl ?_
  refine j_iload dL_law_432 rfl ?_
  refine j_iconst (v := 2) dL_law_434 (by decide) ?_
  refine j_iadd dL_law_435 ?_
  refine j_top (congrArg Value.int (show nI i + (2 : Int32) = nI (i + 2) from nI_add i 2)) ?_
  refine j_sld dL_law_436 (vp_in_nI (by omega) (by omega)) ?_
  intro xs27
  refine j_aload_n dL_law_437 rfl rfl ?_
  refine j_iload dL_law_438 rfl ?_
  refine j_iconst (v := 3) dL_law_440 (by decide) ?_
  refine j_iadd dL_law_441 ?_
  refine j_top (congrArg Value.int (show nI i + (3 : Int32) = nI (i + 3) from nI_add i 3)) ?_
  refine j_sld dL_law_442 (vp_in_nI (by omega) (by omega)) ?_
  intro xs28
  refine j_aload_n dL_law_443 rfl rfl ?_
  refine j_callSW dL_law_444 kL_rest lL_186 stL_rest (lw_rest hl w _ _ LS _ _ _) (Nat.le_of_ble_eq_true rfl) ⟨(by show _ ≤ 793551; omega), (by show _ ≤ 6715452; omega)⟩ rfl (Nat.le_of_ble_eq_true rfl) rfl rfl (fun _ _ h => h.elim) ?_
  rintro _ w1 ⟨⟨r1, rfl⟩, LS1⟩
  refine j_istore (lo' := [(5, _), (0, _), (1, _), (2, _), (3, _), (4, _)]) dL_law_447 (by decide) rfl ?_
  refine j_aload_n dL_law_449 rfl rfl ?_
  refine j_aload_n dL_law_450 rfl rfl ?_
  refine j_iload dL_law_451 rfl ?_
  refine j_iconst (v := 1) dL_law_453 (by decide) ?_
  refine j_iadd dL_law_454 ?_
  refine j_top (congrArg Value.int (show nI i + (1 : Int32) = nI (i + 1) from nI_add i 1)) ?_
  refine j_sld dL_law_455 (vp_in_nI (by omega) (by omega)) ?_
  intro xs29
  refine j_aload_n dL_law_456 rfl rfl ?_
  refine j_iload dL_law_457 rfl ?_
  refine j_iconst (v := 2) dL_law_459 (by decide) ?_
  refine j_iadd dL_law_460 ?_
  refine j_top (congrArg Value.int (show nI i + (2 : Int32) = nI (i + 2) from nI_add i 2)) ?_
  refine j_sld dL_law_461 (vp_in_nI (by omega) (by omega)) ?_
  intro xs30
  refine j_aload_n dL_law_462 rfl rfl ?_
  refine j_iload dL_law_463 rfl ?_
  refine j_iconst (v := 3) dL_law_465 (by decide) ?_
  refine j_iadd dL_law_466 ?_
  refine j_top (congrArg Value.int (show nI i + (3 : Int32) = nI (i + 3) from nI_add i 3)) ?_
  refine j_sld dL_law_467 (vp_in_nI (by omega) (by omega)) ?_
  intro xs31
  obtain ⟨-, ⟨s32, hs32, hk32⟩, -⟩ := id LS1
  refine j_callV (q := (RX11, TX11, 8)) dL_law_468 kX11_rest lL_189 inX11_rest seX11_rest hs32.m rfl (cm_rest hl w1 _ _ _ _ hs32) (Nat.le_of_ble_eq_true rfl) ⟨(by show _ ≤ 793551; omega), (by show _ ≤ 6715452; omega)⟩ rfl (Nat.le_of_ble_eq_true rfl) rfl rfl (fun _ _ h => h.elim) ?_
  rintro _ w2 ⟨r2, s2x, rfl, fm2, h2, h2k⟩
  have LS2 := LS1.mod1 fm2 h2 (congrArg Prod.fst h2k) hk32
  refine j_istore (lo' := [(6, _), (5, _), (0, _), (1, _), (2, _), (3, _), (4, _)]) dL_law_471 (by decide) rfl ?_
  refine j_goto (tgt := 2228) dL_law_473 (by decide) ?_
  refine j_widen (kc' := kc + 200) (ks' := ks + 6000) (by omega) (by omega) ?_
  exact j_lo2 (KK _ _ LS2) (z_q1 rfl (z_q1 rfl (z_q1 rfl (z_q1 rfl (z_q1 rfl z_q0)))))
set_option maxRecDepth 100000 in
set_option maxHeartbeats 4000000 in
theorem lc_5 (hl : l.stackTraces = false) {w : z_W} {x i kc ks : Nat} {kn : Int32} (LS : z_LS x kn w) (hi6 : i + 6 ≤ z_sn G) (hsn : z_sn G ≤ 3072) (hkc : kc + 200 ≤ 793551) (hks : ks + 6000 ≤ 6715452) (KK : ∀ (kn9 : Int32) (w9 : z_W), z_LS x kn9 w9 → z_J G l mL_law z_SL 2228 (z_lol x i) [] w9 (kc + 200) (ks + 6000)) : z_J G l mL_law z_SL 476 (z_lol x i) [] w kc ks := by
  show z_J G l mL_law _ 476 [(0, _), (1, _), (2, _), (3, _), (4, _)] [] _ _ _
  refine j_aload_n dL_law_476 rfl rfl ?_
  refine j_aload_n dL_law_477 rfl rfl ?_
  refine j_iload dL_law_478 rfl ?_
  refine j_iconst (v := 1) dL_law_480 (by decide) ?_
  refine j_iadd dL_law_481 ?_
  refine j_top (congrArg Value.int (show nI i + (1 : Int32) = nI (i + 1) from nI_add i 1)) ?_
  refine j_sld dL_law_482 (vp_in_nI (by omega) (by omega)) ?_
  intro xs33
  refine j_aload_n dL_law_483 rfl rfl ?_
  refine j_iload dL_law_484 rfl ?_
  refine j_iconst (v := 2) dL_law_486 (by decide) ?_
  refine j_iadd dL_law_487 ?_
  refine j_top (congrArg Value.int (show nI i + (2 : Int32) = nI (i + 2) from nI_add i 2)) ?_
  refine j_sld dL_law_488 (vp_in_nI (by omega) (by omega)) ?_
  intro xs34
  refine j_aload_n dL_law_489 rfl rfl ?_
  refine j_iload dL_law_490 rfl ?_
  refine j_iconst (v := 3) dL_law_492 (by decide) ?_
  refine j_iadd dL_law_493 ?_
  refine j_top (congrArg Value.int (show nI i + (3 : Int32) = nI (i + 3) from nI_add i 3)) ?_
  refine j_sld dL_law_494 (vp_in_nI (by omega) (by omega)) ?_
  intro xs35
  refine j_aload_n dL_law_495 rfl rfl ?_
  refine j_callSW dL_law_496 kL_removeIf lL_190 stL_removeIf (lw_removeIf hl w _ _ LS _ _ _) (Nat.le_of_ble_eq_true rfl) ⟨(by show _ ≤ 793551; omega), (by show _ ≤ 6715452; omega)⟩ rfl (Nat.le_of_ble_eq_true rfl) rfl rfl (fun _ _ h => h.elim) ?_
  rintro _ w1 ⟨⟨r1, rfl⟩, LS1⟩
  refine j_istore (lo' := [(5, _), (0, _), (1, _), (2, _), (3, _), (4, _)]) dL_law_499 (by decide) rfl ?_
  refine j_aload_n dL_law_501 rfl rfl ?_
  refine j_aload_n dL_law_502 rfl rfl ?_
  refine j_iload dL_law_503 rfl ?_
  refine j_iconst (v := 1) dL_law_505 (by decide) ?_
  refine j_iadd dL_law_506 ?_
  refine j_top (congrArg Value.int (show nI i + (1 : Int32) = nI (i + 1) from nI_add i 1)) ?_
  refine j_sld dL_law_507 (vp_in_nI (by omega) (by omega)) ?_
  intro xs36
  refine j_aload_n dL_law_508 rfl rfl ?_
  refine j_iload dL_law_509 rfl ?_
  refine j_iconst (v := 2) dL_law_511 (by decide) ?_
  refine j_iadd dL_law_512 ?_
  refine j_top (congrArg Value.int (show nI i + (2 : Int32) = nI (i + 2) from nI_add i 2)) ?_
  refine j_sld dL_law_513 (vp_in_nI (by omega) (by omega)) ?_
  intro xs37
  refine j_aload_n dL_law_514 rfl rfl ?_
  refine j_iload dL_law_515 rfl ?_
  refine j_iconst (v := 3) dL_law_517 (by decide) ?_
  refine j_iadd dL_law_518 ?_
  refine j_top (congrArg Value.int (show nI i + (3 : Int32) = nI (i + 3) from nI_add i 3)) ?_
  refine j_sld dL_law_519 (vp_in_nI (by omega) (by omega)) ?_
  intro xs38
  obtain ⟨-, ⟨s39, hs39, hk39⟩, -⟩ := id LS1
  refine j_callV (q := (RX11, TX11, 8)) dL_law_520 kX11_removeIf lL_192 inX11_removeIf seX11_removeIf hs39.m rfl (cm_removeIf hl w1 _ _ _ _ hs39) (Nat.le_of_ble_eq_true rfl) ⟨(by show _ ≤ 793551; omega), (by show _ ≤ 6715452; omega)⟩ rfl (Nat.le_of_ble_eq_true rfl) rfl rfl (fun _ _ h => h.elim) ?_
  rintro _ w2 ⟨r2, s2x, rfl, fm2, h2, h2k⟩
  have LS2 := LS1.mod1 fm2 h2 (congrArg Prod.fst h2k) hk39
  refine j_istore (lo' := [(6, _), (5, _), (0, _), (1, _), (2, _), (3, _), (4, _)]) dL_law_523 (by decide) rfl ?_
  refine j_goto (tgt := 2228) dL_law_525 (by decide) ?_
  refine j_widen (kc' := kc + 200) (ks' := ks + 6000) (by omega) (by omega) ?_
  exact j_lo2 (KK _ _ LS2) (z_q1 rfl (z_q1 rfl (z_q1 rfl (z_q1 rfl (z_q1 rfl z_q0)))))
set_option maxRecDepth 100000 in
set_option maxHeartbeats 4000000 in
theorem lc_6 (hl : l.stackTraces = false) {w : z_W} {x i kc ks : Nat} {kn : Int32} (LS : z_LS x kn w) (hi6 : i + 6 ≤ z_sn G) (hsn : z_sn G ≤ 3072) (hkc : kc + 200 ≤ 793551) (hks : ks + 6000 ≤ 6715452) (KK : ∀ (kn9 : Int32) (w9 : z_W), z_LS x kn9 w9 → z_J G l mL_law z_SL 2228 (z_lol x i) [] w9 (kc + 200) (ks + 6000)) : z_J G l mL_law z_SL 528 (z_lol x i) [] w kc ks := by
  show z_J G l mL_law _ 528 [(0, _), (1, _), (2, _), (3, _), (4, _)] [] _ _ _
  refine j_aload_n dL_law_528 rfl rfl ?_
  refine j_aload_n dL_law_529 rfl rfl ?_
  refine j_iload dL_law_530 rfl ?_
  refine j_iconst (v := 1) dL_law_532 (by decide) ?_
  refine j_iadd dL_law_533 ?_
  refine j_top (congrArg Value.int (show nI i + (1 : Int32) = nI (i + 1) from nI_add i 1)) ?_
  refine j_sld dL_law_534 (vp_in_nI (by omega) (by omega)) ?_
  intro xs40
  refine j_aload_n dL_law_535 rfl rfl ?_
  refine j_iload dL_law_536 rfl ?_
  refine j_iconst (v := 2) dL_law_538 (by decide) ?_
  refine j_iadd dL_law_539 ?_
  refine j_top (congrArg Value.int (show nI i + (2 : Int32) = nI (i + 2) from nI_add i 2)) ?_
  refine j_sld dL_law_540 (vp_in_nI (by omega) (by omega)) ?_
  intro xs41
  refine j_aload_n dL_law_541 rfl rfl ?_
  refine j_iload dL_law_542 rfl ?_
  refine j_iconst (v := 3) dL_law_544 (by decide) ?_
  refine j_iadd dL_law_545 ?_
  refine j_top (congrArg Value.int (show nI i + (3 : Int32) = nI (i + 3) from nI_add i 3)) ?_
  refine j_sld dL_law_546 (vp_in_nI (by omega) (by omega)) ?_
  intro xs42
  refine j_aload_n dL_law_547 rfl rfl ?_
  refine j_callSW dL_law_548 kL_replaceAll lL_193 stL_replaceAll (lw_replaceAll hl w _ _ LS _ _ _) (Nat.le_of_ble_eq_true rfl) ⟨(by show _ ≤ 793551; omega), (by show _ ≤ 6715452; omega)⟩ rfl (Nat.le_of_ble_eq_true rfl) rfl rfl (fun _ _ h => h.elim) ?_
  rintro _ w1 ⟨⟨r1, rfl⟩, LS1⟩
  refine j_istore (lo' := [(5, _), (0, _), (1, _), (2, _), (3, _), (4, _)]) dL_law_551 (by decide) rfl ?_
  refine j_aload_n dL_law_553 rfl rfl ?_
  refine j_aload_n dL_law_554 rfl rfl ?_
  refine j_iload dL_law_555 rfl ?_
  refine j_iconst (v := 1) dL_law_557 (by decide) ?_
  refine j_iadd dL_law_558 ?_
  refine j_top (congrArg Value.int (show nI i + (1 : Int32) = nI (i + 1) from nI_add i 1)) ?_
  refine j_sld dL_law_559 (vp_in_nI (by omega) (by omega)) ?_
  intro xs43
  refine j_aload_n dL_law_560 rfl rfl ?_
  refine j_iload dL_law_561 rfl ?_
  refine j_iconst (v := 2) dL_law_563 (by decide) ?_
  refine j_iadd dL_law_564 ?_
  refine j_top (congrArg Value.int (show nI i + (2 : Int32) = nI (i + 2) from nI_add i 2)) ?_
  refine j_sld dL_law_565 (vp_in_nI (by omega) (by omega)) ?_
  intro xs44
  refine j_aload_n dL_law_566 rfl rfl ?_
  refine j_iload dL_law_567 rfl ?_
  refine j_iconst (v := 3) dL_law_569 (by decide) ?_
  refine j_iadd dL_law_570 ?_
  refine j_top (congrArg Value.int (show nI i + (3 : Int32) = nI (i + 3) from nI_add i 3)) ?_
  refine j_sld dL_law_571 (vp_in_nI (by omega) (by omega)) ?_
  intro xs45
  obtain ⟨-, ⟨s46, hs46, hk46⟩, -⟩ := id LS1
  refine j_callV (q := (RX11, TX11, 8)) dL_law_572 kX11_replaceAll lL_195 inX11_replaceAll seX11_replaceAll hs46.m rfl (cm_replaceAll hl w1 _ _ _ _ hs46) (Nat.le_of_ble_eq_true rfl) ⟨(by show _ ≤ 793551; omega), (by show _ ≤ 6715452; omega)⟩ rfl (Nat.le_of_ble_eq_true rfl) rfl rfl (fun _ _ h => h.elim) ?_
  rintro _ w2 ⟨r2, s2x, rfl, fm2, h2, h2k⟩
  have LS2 := LS1.mod1 fm2 h2 (congrArg Prod.fst h2k) hk46
  refine j_istore (lo' := [(6, _), (5, _), (0, _), (1, _), (2, _), (3, _), (4, _)]) dL_law_575 (by decide) rfl ?_
  refine j_goto (tgt := 2228) dL_law_577 (by decide) ?_
  refine j_widen (kc' := kc + 200) (ks' := ks + 6000) (by omega) (by omega) ?_
  exact j_lo2 (KK _ _ LS2) (z_q1 rfl (z_q1 rfl (z_q1 rfl (z_q1 rfl (z_q1 rfl z_q0)))))
set_option maxRecDepth 100000 in
set_option maxHeartbeats 4000000 in
theorem lc_7 (hl : l.stackTraces = false) {w : z_W} {x i kc ks : Nat} {kn : Int32} (LS : z_LS x kn w) (hi6 : i + 6 ≤ z_sn G) (hsn : z_sn G ≤ 3072) (hkc : kc + 200 ≤ 793551) (hks : ks + 6000 ≤ 6715452) (KK : ∀ (kn9 : Int32) (w9 : z_W), z_LS x kn9 w9 → z_J G l mL_law z_SL 2228 (z_lol x i) [] w9 (kc + 200) (ks + 6000)) : z_J G l mL_law z_SL 580 (z_lol x i) [] w kc ks := by
  show z_J G l mL_law _ 580 [(0, _), (1, _), (2, _), (3, _), (4, _)] [] _ _ _
  refine j_aload_n dL_law_580 rfl rfl ?_
  refine j_aload_n dL_law_581 rfl rfl ?_
  refine j_iload dL_law_582 rfl ?_
  refine j_iconst (v := 1) dL_law_584 (by decide) ?_
  refine j_iadd dL_law_585 ?_
  refine j_top (congrArg Value.int (show nI i + (1 : Int32) = nI (i + 1) from nI_add i 1)) ?_
  refine j_sld dL_law_586 (vp_in_nI (by omega) (by omega)) ?_
  intro xs47
  refine j_aload_n dL_law_587 rfl rfl ?_
  refine j_callSW dL_law_588 kL_copy lL_196 stL_copy (lw_copy hl w _ _ LS _) (Nat.le_of_ble_eq_true rfl) ⟨(by show _ ≤ 793551; omega), (by show _ ≤ 6715452; omega)⟩ rfl (Nat.le_of_ble_eq_true rfl) rfl rfl (fun _ _ h => h.elim) ?_
  rintro _ w1 ⟨⟨r1, rfl⟩, LS1⟩
  refine j_istore (lo' := [(5, _), (0, _), (1, _), (2, _), (3, _), (4, _)]) dL_law_591 (by decide) rfl ?_
  refine j_aload_n dL_law_593 rfl rfl ?_
  refine j_aload_n dL_law_594 rfl rfl ?_
  refine j_iload dL_law_595 rfl ?_
  refine j_iconst (v := 1) dL_law_597 (by decide) ?_
  refine j_iadd dL_law_598 ?_
  refine j_top (congrArg Value.int (show nI i + (1 : Int32) = nI (i + 1) from nI_add i 1)) ?_
  refine j_sld dL_law_599 (vp_in_nI (by omega) (by omega)) ?_
  intro xs48
  obtain ⟨-, ⟨s49, hs49, hk49⟩, -⟩ := id LS1
  refine j_callV (q := (RX11, TX11, 8)) dL_law_600 kX11_copy lL_199 inX11_copy seX11_copy hs49.m rfl (cm_copy hl w1 _ _ hs49) (Nat.le_of_ble_eq_true rfl) ⟨(by show _ ≤ 793551; omega), (by show _ ≤ 6715452; omega)⟩ rfl (Nat.le_of_ble_eq_true rfl) rfl rfl (fun _ _ h => h.elim) ?_
  rintro _ w2 ⟨r2, s2x, rfl, fm2, h2, h2k⟩
  have LS2 := LS1.mod1 fm2 h2 (congrArg Prod.fst h2k) hk49
  refine j_istore (lo' := [(6, _), (5, _), (0, _), (1, _), (2, _), (3, _), (4, _)]) dL_law_603 (by decide) rfl ?_
  refine j_goto (tgt := 2228) dL_law_605 (by decide) ?_
  refine j_widen (kc' := kc + 200) (ks' := ks + 6000) (by omega) (by omega) ?_
  exact j_lo2 (KK _ _ LS2) (z_q1 rfl (z_q1 rfl (z_q1 rfl (z_q1 rfl (z_q1 rfl z_q0)))))
set_option maxRecDepth 100000 in
set_option maxHeartbeats 4000000 in
theorem lc_8 (hl : l.stackTraces = false) {w : z_W} {x i kc ks : Nat} {kn : Int32} (LS : z_LS x kn w) (hi6 : i + 6 ≤ z_sn G) (hsn : z_sn G ≤ 3072) (hkc : kc + 200 ≤ 793551) (hks : ks + 6000 ≤ 6715452) (KK : ∀ (kn9 : Int32) (w9 : z_W), z_LS x kn9 w9 → z_J G l mL_law z_SL 2228 (z_lol x i) [] w9 (kc + 200) (ks + 6000)) : z_J G l mL_law z_SL 608 (z_lol x i) [] w kc ks := by
  show z_J G l mL_law _ 608 [(0, _), (1, _), (2, _), (3, _), (4, _)] [] _ _ _
  refine j_aload_n dL_law_608 rfl rfl ?_
  refine j_aload_n dL_law_609 rfl rfl ?_
  refine j_iload dL_law_610 rfl ?_
  refine j_iconst (v := 1) dL_law_612 (by decide) ?_
  refine j_iadd dL_law_613 ?_
  refine j_top (congrArg Value.int (show nI i + (1 : Int32) = nI (i + 1) from nI_add i 1)) ?_
  refine j_sld dL_law_614 (vp_in_nI (by omega) (by omega)) ?_
  intro xs50
  refine j_aload_n dL_law_615 rfl rfl ?_
  refine j_iload dL_law_616 rfl ?_
  refine j_iconst (v := 2) dL_law_618 (by decide) ?_
  refine j_iadd dL_law_619 ?_
  refine j_top (congrArg Value.int (show nI i + (2 : Int32) = nI (i + 2) from nI_add i 2)) ?_
  refine j_sld dL_law_620 (vp_in_nI (by omega) (by omega)) ?_
  intro xs51
  refine j_aload_n dL_law_621 rfl rfl ?_
  refine j_iload dL_law_622 rfl ?_
  refine j_iconst (v := 3) dL_law_624 (by decide) ?_
  refine j_iadd dL_law_625 ?_
  refine j_top (congrArg Value.int (show nI i + (3 : Int32) = nI (i + 3) from nI_add i 3)) ?_
  refine j_sld dL_law_626 (vp_in_nI (by omega) (by omega)) ?_
  intro xs52
  refine j_aload_n dL_law_627 rfl rfl ?_
  refine j_callSW dL_law_628 kL_put lL_200 stL_put (lw_put hl w _ _ LS _ _ _) (Nat.le_of_ble_eq_true rfl) ⟨(by show _ ≤ 793551; omega), (by show _ ≤ 6715452; omega)⟩ rfl (Nat.le_of_ble_eq_true rfl) rfl rfl (fun _ _ h => h.elim) ?_
  rintro _ w1 ⟨⟨r1, rfl⟩, LS1⟩
  refine j_istore (lo' := [(5, _), (0, _), (1, _), (2, _), (3, _), (4, _)]) dL_law_631 (by decide) rfl ?_
  refine j_aload_n dL_law_633 rfl rfl ?_
  refine j_aload_n dL_law_634 rfl rfl ?_
  refine j_iload dL_law_635 rfl ?_
  refine j_iconst (v := 1) dL_law_637 (by decide) ?_
  refine j_iadd dL_law_638 ?_
  refine j_top (congrArg Value.int (show nI i + (1 : Int32) = nI (i + 1) from nI_add i 1)) ?_
  refine j_sld dL_law_639 (vp_in_nI (by omega) (by omega)) ?_
  intro xs53
  refine j_aload_n dL_law_640 rfl rfl ?_
  refine j_iload dL_law_641 rfl ?_
  refine j_iconst (v := 2) dL_law_643 (by decide) ?_
  refine j_iadd dL_law_644 ?_
  refine j_top (congrArg Value.int (show nI i + (2 : Int32) = nI (i + 2) from nI_add i 2)) ?_
  refine j_sld dL_law_645 (vp_in_nI (by omega) (by omega)) ?_
  intro xs54
  refine j_aload_n dL_law_646 rfl rfl ?_
  refine j_iload dL_law_647 rfl ?_
  refine j_iconst (v := 3) dL_law_649 (by decide) ?_
  refine j_iadd dL_law_650 ?_
  refine j_top (congrArg Value.int (show nI i + (3 : Int32) = nI (i + 3) from nI_add i 3)) ?_
  refine j_sld dL_law_651 (vp_in_nI (by omega) (by omega)) ?_
  intro xs55
  obtain ⟨-, ⟨s56, hs56, hk56⟩, -⟩ := id LS1
  refine j_callV (q := (RX11, TX11, 8)) dL_law_652 kX11_put lL_202 inX11_put seX11_put hs56.m rfl (cm_put hl w1 _ _ _ _ hs56) (Nat.le_of_ble_eq_true rfl) ⟨(by show _ ≤ 793551; omega), (by show _ ≤ 6715452; omega)⟩ rfl (Nat.le_of_ble_eq_true rfl) rfl rfl (fun _ _ h => h.elim) ?_
  rintro _ w2 ⟨r2, s2x, rfl, fm2, h2, h2k⟩
  have LS2 := LS1.mod1 fm2 h2 (congrArg Prod.fst h2k) hk56
  refine j_istore (lo' := [(6, _), (5, _), (0, _), (1, _), (2, _), (3, _), (4, _)]) dL_law_655 (by decide) rfl ?_
  refine j_goto (tgt := 2228) dL_law_657 (by decide) ?_
  refine j_widen (kc' := kc + 200) (ks' := ks + 6000) (by omega) (by omega) ?_
  exact j_lo2 (KK _ _ LS2) (z_q1 rfl (z_q1 rfl (z_q1 rfl (z_q1 rfl (z_q1 rfl z_q0)))))
set_option maxRecDepth 100000 in
set_option maxHeartbeats 4000000 in
theorem lc_9 (hl : l.stackTraces = false) {w : z_W} {x i kc ks : Nat} {kn : Int32} (LS : z_LS x kn w) (hi6 : i + 6 ≤ z_sn G) (hsn : z_sn G ≤ 3072) (hkc : kc + 200 ≤ 793551) (hks : ks + 6000 ≤ 6715452) (KK : ∀ (kn9 : Int32) (w9 : z_W), z_LS x kn9 w9 → z_J G l mL_law z_SL 2228 (z_lol x i) [] w9 (kc + 200) (ks + 6000)) : z_J G l mL_law z_SL 660 (z_lol x i) [] w kc ks := by
  show z_J G l mL_law _ 660 [(0, _), (1, _), (2, _), (3, _), (4, _)] [] _ _ _
  refine j_aload_n dL_law_660 rfl rfl ?_
  refine j_aload_n dL_law_661 rfl rfl ?_
  refine j_iload dL_law_662 rfl ?_
  refine j_iconst (v := 1) dL_law_664 (by decide) ?_
  refine j_iadd dL_law_665 ?_
  refine j_top (congrArg Value.int (show nI i + (1 : Int32) = nI (i + 1) from nI_add i 1)) ?_
  refine j_sld dL_law_666 (vp_in_nI (by omega) (by omega)) ?_
  intro xs57
  refine j_aload_n dL_law_667 rfl rfl ?_
  refine j_iload dL_law_668 rfl ?_
  refine j_iconst (v := 2) dL_law_670 (by decide) ?_
  refine j_iadd dL_law_671 ?_
  refine j_top (congrArg Value.int (show nI i + (2 : Int32) = nI (i + 2) from nI_add i 2)) ?_
  refine j_sld dL_law_672 (vp_in_nI (by omega) (by omega)) ?_
  intro xs58
  refine j_aload_n dL_law_673 rfl rfl ?_
  refine j_callSW dL_law_674 kL_remove lL_203 stL_remove (lw_remove hl w _ _ LS _ _) (Nat.le_of_ble_eq_true rfl) ⟨(by show _ ≤ 793551; omega), (by show _ ≤ 6715452; omega)⟩ rfl (Nat.le_of_ble_eq_true rfl) rfl rfl (fun _ _ h => h.elim) ?_
  rintro _ w1 ⟨⟨r1, rfl⟩, LS1⟩
  refine j_istore (lo' := [(5, _), (0, _), (1, _), (2, _), (3, _), (4, _)]) dL_law_677 (by decide) rfl ?_
  refine j_aload_n dL_law_679 rfl rfl ?_
  refine j_aload_n dL_law_680 rfl rfl ?_
  refine j_iload dL_law_681 rfl ?_
  refine j_iconst (v := 1) dL_law_683 (by decide) ?_
  refine j_iadd dL_law_684 ?_
  refine j_top (congrArg Value.int (show nI i + (1 : Int32) = nI (i + 1) from nI_add i 1)) ?_
  refine j_sld dL_law_685 (vp_in_nI (by omega) (by omega)) ?_
  intro xs59
  refine j_aload_n dL_law_686 rfl rfl ?_
  refine j_iload dL_law_687 rfl ?_
  refine j_iconst (v := 2) dL_law_689 (by decide) ?_
  refine j_iadd dL_law_690 ?_
  refine j_top (congrArg Value.int (show nI i + (2 : Int32) = nI (i + 2) from nI_add i 2)) ?_
  refine j_sld dL_law_691 (vp_in_nI (by omega) (by omega)) ?_
  intro xs60
  obtain ⟨-, ⟨s61, hs61, hk61⟩, -⟩ := id LS1
  refine j_callV (q := (RX11, TX11, 8)) dL_law_692 kX11_remove lL_205 inX11_remove seX11_remove hs61.m rfl (cm_remove hl w1 _ _ _ hs61) (Nat.le_of_ble_eq_true rfl) ⟨(by show _ ≤ 793551; omega), (by show _ ≤ 6715452; omega)⟩ rfl (Nat.le_of_ble_eq_true rfl) rfl rfl (fun _ _ h => h.elim) ?_
  rintro _ w2 ⟨r2, s2x, rfl, fm2, h2, h2k⟩
  have LS2 := LS1.mod1 fm2 h2 (congrArg Prod.fst h2k) hk61
  refine j_istore (lo' := [(6, _), (5, _), (0, _), (1, _), (2, _), (3, _), (4, _)]) dL_law_695 (by decide) rfl ?_
  refine j_goto (tgt := 2228) dL_law_697 (by decide) ?_
  refine j_widen (kc' := kc + 200) (ks' := ks + 6000) (by omega) (by omega) ?_
  exact j_lo2 (KK _ _ LS2) (z_q1 rfl (z_q1 rfl (z_q1 rfl (z_q1 rfl (z_q1 rfl z_q0)))))
set_option maxRecDepth 100000 in
set_option maxHeartbeats 4000000 in
theorem lc_10 (hl : l.stackTraces = false) {w : z_W} {x i kc ks : Nat} {kn : Int32} (LS : z_LS x kn w) (hi6 : i + 6 ≤ z_sn G) (hsn : z_sn G ≤ 3072) (hkc : kc + 200 ≤ 793551) (hks : ks + 6000 ≤ 6715452) (KK : ∀ (kn9 : Int32) (w9 : z_W), z_LS x kn9 w9 → z_J G l mL_law z_SL 2228 (z_lol x i) [] w9 (kc + 200) (ks + 6000)) : z_J G l mL_law z_SL 700 (z_lol x i) [] w kc ks := by
  show z_J G l mL_law _ 700 [(0, _), (1, _), (2, _), (3, _), (4, _)] [] _ _ _
  refine j_aload_n dL_law_700 rfl rfl ?_
  refine j_aload_n dL_law_701 rfl rfl ?_
  refine j_iload dL_law_702 rfl ?_
  refine j_iconst (v := 1) dL_law_704 (by decide) ?_
  refine j_iadd dL_law_705 ?_
  refine j_top (congrArg Value.int (show nI i + (1 : Int32) = nI (i + 1) from nI_add i 1)) ?_
  refine j_sld dL_law_706 (vp_in_nI (by omega) (by omega)) ?_
  intro xs62
  refine j_aload_n dL_law_707 rfl rfl ?_
  refine j_iload dL_law_708 rfl ?_
  refine j_iconst (v := 2) dL_law_710 (by decide) ?_
  refine j_iadd dL_law_711 ?_
  refine j_top (congrArg Value.int (show nI i + (2 : Int32) = nI (i + 2) from nI_add i 2)) ?_
  refine j_sld dL_law_712 (vp_in_nI (by omega) (by omega)) ?_
  intro xs63
  refine j_aload_n dL_law_713 rfl rfl ?_
  refine j_iload dL_law_714 rfl ?_
  refine j_iconst (v := 3) dL_law_716 (by decide) ?_
  refine j_iadd dL_law_717 ?_
  refine j_top (congrArg Value.int (show nI i + (3 : Int32) = nI (i + 3) from nI_add i 3)) ?_
  refine j_sld dL_law_718 (vp_in_nI (by omega) (by omega)) ?_
  intro xs64
  refine j_aload_n dL_law_719 rfl rfl ?_
  refine j_callSW dL_law_720 kL_putIfAbsent lL_206 stL_putIfAbsent (lw_putIfAbsent hl w _ _ LS _ _ _) (Nat.le_of_ble_eq_true rfl) ⟨(by show _ ≤ 793551; omega), (by show _ ≤ 6715452; omega)⟩ rfl (Nat.le_of_ble_eq_true rfl) rfl rfl (fun _ _ h => h.elim) ?_
  rintro _ w1 ⟨⟨r1, rfl⟩, LS1⟩
  refine j_istore (lo' := [(5, _), (0, _), (1, _), (2, _), (3, _), (4, _)]) dL_law_723 (by decide) rfl ?_
  refine j_aload_n dL_law_725 rfl rfl ?_
  refine j_aload_n dL_law_726 rfl rfl ?_
  refine j_iload dL_law_727 rfl ?_
  refine j_iconst (v := 1) dL_law_729 (by decide) ?_
  refine j_iadd dL_law_730 ?_
  refine j_top (congrArg Value.int (show nI i + (1 : Int32) = nI (i + 1) from nI_add i 1)) ?_
  refine j_sld dL_law_731 (vp_in_nI (by omega) (by omega)) ?_
  intro xs65
  refine j_aload_n dL_law_732 rfl rfl ?_
  refine j_iload dL_law_733 rfl ?_
  refine j_iconst (v := 2) dL_law_735 (by decide) ?_
  refine j_iadd dL_law_736 ?_
  refine j_top (congrArg Value.int (show nI i + (2 : Int32) = nI (i + 2) from nI_add i 2)) ?_
  refine j_sld dL_law_737 (vp_in_nI (by omega) (by omega)) ?_
  intro xs66
  refine j_aload_n dL_law_738 rfl rfl ?_
  refine j_iload dL_law_739 rfl ?_
  refine j_iconst (v := 3) dL_law_741 (by decide) ?_
  refine j_iadd dL_law_742 ?_
  refine j_top (congrArg Value.int (show nI i + (3 : Int32) = nI (i + 3) from nI_add i 3)) ?_
  refine j_sld dL_law_743 (vp_in_nI (by omega) (by omega)) ?_
  intro xs67
  obtain ⟨-, ⟨s68, hs68, hk68⟩, -⟩ := id LS1
  refine j_callV (q := (RX11, TX11, 8)) dL_law_744 kX11_putIfAbsent lL_208 inX11_putIfAbsent seX11_putIfAbsent hs68.m rfl (cm_putIfAbsent hl w1 _ _ _ _ hs68) (Nat.le_of_ble_eq_true rfl) ⟨(by show _ ≤ 793551; omega), (by show _ ≤ 6715452; omega)⟩ rfl (Nat.le_of_ble_eq_true rfl) rfl rfl (fun _ _ h => h.elim) ?_
  rintro _ w2 ⟨r2, s2x, rfl, fm2, h2, h2k⟩
  have LS2 := LS1.mod1 fm2 h2 (congrArg Prod.fst h2k) hk68
  refine j_istore (lo' := [(6, _), (5, _), (0, _), (1, _), (2, _), (3, _), (4, _)]) dL_law_747 (by decide) rfl ?_
  refine j_goto (tgt := 2228) dL_law_749 (by decide) ?_
  refine j_widen (kc' := kc + 200) (ks' := ks + 6000) (by omega) (by omega) ?_
  exact j_lo2 (KK _ _ LS2) (z_q1 rfl (z_q1 rfl (z_q1 rfl (z_q1 rfl (z_q1 rfl z_q0)))))
set_option maxRecDepth 100000 in
set_option maxHeartbeats 4000000 in
theorem lc_11 (hl : l.stackTraces = false) {w : z_W} {x i kc ks : Nat} {kn : Int32} (LS : z_LS x kn w) (hi6 : i + 6 ≤ z_sn G) (hsn : z_sn G ≤ 3072) (hkc : kc + 200 ≤ 793551) (hks : ks + 6000 ≤ 6715452) (KK : ∀ (kn9 : Int32) (w9 : z_W), z_LS x kn9 w9 → z_J G l mL_law z_SL 2228 (z_lol x i) [] w9 (kc + 200) (ks + 6000)) : z_J G l mL_law z_SL 752 (z_lol x i) [] w kc ks := by
  show z_J G l mL_law _ 752 [(0, _), (1, _), (2, _), (3, _), (4, _)] [] _ _ _
  refine j_aload_n dL_law_752 rfl rfl ?_
  refine j_aload_n dL_law_753 rfl rfl ?_
  refine j_iload dL_law_754 rfl ?_
  refine j_iconst (v := 1) dL_law_756 (by decide) ?_
  refine j_iadd dL_law_757 ?_
  refine j_top (congrArg Value.int (show nI i + (1 : Int32) = nI (i + 1) from nI_add i 1)) ?_
  refine j_sld dL_law_758 (vp_in_nI (by omega) (by omega)) ?_
  intro xs69
  refine j_aload_n dL_law_759 rfl rfl ?_
  refine j_iload dL_law_760 rfl ?_
  refine j_iconst (v := 2) dL_law_762 (by decide) ?_
  refine j_iadd dL_law_763 ?_
  refine j_top (congrArg Value.int (show nI i + (2 : Int32) = nI (i + 2) from nI_add i 2)) ?_
  refine j_sld dL_law_764 (vp_in_nI (by omega) (by omega)) ?_
  intro xs70
  refine j_aload_n dL_law_765 rfl rfl ?_
  refine j_iload dL_law_766 rfl ?_
  refine j_iconst (v := 3) dL_law_768 (by decide) ?_
  refine j_iadd dL_law_769 ?_
  refine j_top (congrArg Value.int (show nI i + (3 : Int32) = nI (i + 3) from nI_add i 3)) ?_
  refine j_sld dL_law_770 (vp_in_nI (by omega) (by omega)) ?_
  intro xs71
  refine j_aload_n dL_law_771 rfl rfl ?_
  refine j_callSW dL_law_772 kL_replace lL_209 stL_replace (lw_replace hl w _ _ LS _ _ _) (Nat.le_of_ble_eq_true rfl) ⟨(by show _ ≤ 793551; omega), (by show _ ≤ 6715452; omega)⟩ rfl (Nat.le_of_ble_eq_true rfl) rfl rfl (fun _ _ h => h.elim) ?_
  rintro _ w1 ⟨⟨r1, rfl⟩, LS1⟩
  refine j_istore (lo' := [(5, _), (0, _), (1, _), (2, _), (3, _), (4, _)]) dL_law_775 (by decide) rfl ?_
  refine j_aload_n dL_law_777 rfl rfl ?_
  refine j_aload_n dL_law_778 rfl rfl ?_
  refine j_iload dL_law_779 rfl ?_
  refine j_iconst (v := 1) dL_law_781 (by decide) ?_
  refine j_iadd dL_law_782 ?_
  refine j_top (congrArg Value.int (show nI i + (1 : Int32) = nI (i + 1) from nI_add i 1)) ?_
  refine j_sld dL_law_783 (vp_in_nI (by omega) (by omega)) ?_
  intro xs72
  refine j_aload_n dL_law_784 rfl rfl ?_
  refine j_iload dL_law_785 rfl ?_
  refine j_iconst (v := 2) dL_law_787 (by decide) ?_
  refine j_iadd dL_law_788 ?_
  refine j_top (congrArg Value.int (show nI i + (2 : Int32) = nI (i + 2) from nI_add i 2)) ?_
  refine j_sld dL_law_789 (vp_in_nI (by omega) (by omega)) ?_
  intro xs73
  refine j_aload_n dL_law_790 rfl rfl ?_
  refine j_iload dL_law_791 rfl ?_
  refine j_iconst (v := 3) dL_law_793 (by decide) ?_
  refine j_iadd dL_law_794 ?_
  refine j_top (congrArg Value.int (show nI i + (3 : Int32) = nI (i + 3) from nI_add i 3)) ?_
  refine j_sld dL_law_795 (vp_in_nI (by omega) (by omega)) ?_
  intro xs74
  obtain ⟨-, ⟨s75, hs75, hk75⟩, -⟩ := id LS1
  refine j_callV (q := (RX11, TX11, 8)) dL_law_796 kX11_replace lL_211 inX11_replace seX11_replace hs75.m rfl (cm_replace hl w1 _ _ _ _ hs75) (Nat.le_of_ble_eq_true rfl) ⟨(by show _ ≤ 793551; omega), (by show _ ≤ 6715452; omega)⟩ rfl (Nat.le_of_ble_eq_true rfl) rfl rfl (fun _ _ h => h.elim) ?_
  rintro _ w2 ⟨r2, s2x, rfl, fm2, h2, h2k⟩
  have LS2 := LS1.mod1 fm2 h2 (congrArg Prod.fst h2k) hk75
  refine j_istore (lo' := [(6, _), (5, _), (0, _), (1, _), (2, _), (3, _), (4, _)]) dL_law_799 (by decide) rfl ?_
  refine j_goto (tgt := 2228) dL_law_801 (by decide) ?_
  refine j_widen (kc' := kc + 200) (ks' := ks + 6000) (by omega) (by omega) ?_
  exact j_lo2 (KK _ _ LS2) (z_q1 rfl (z_q1 rfl (z_q1 rfl (z_q1 rfl (z_q1 rfl z_q0)))))
set_option maxRecDepth 100000 in
set_option maxHeartbeats 4000000 in
theorem lc_12 (hl : l.stackTraces = false) {w : z_W} {x i kc ks : Nat} {kn : Int32} (LS : z_LS x kn w) (hi6 : i + 6 ≤ z_sn G) (hsn : z_sn G ≤ 3072) (hkc : kc + 200 ≤ 793551) (hks : ks + 6000 ≤ 6715452) (KK : ∀ (kn9 : Int32) (w9 : z_W), z_LS x kn9 w9 → z_J G l mL_law z_SL 2228 (z_lol x i) [] w9 (kc + 200) (ks + 6000)) : z_J G l mL_law z_SL 804 (z_lol x i) [] w kc ks := by
  show z_J G l mL_law _ 804 [(0, _), (1, _), (2, _), (3, _), (4, _)] [] _ _ _
  refine j_aload_n dL_law_804 rfl rfl ?_
  refine j_aload_n dL_law_805 rfl rfl ?_
  refine j_iload dL_law_806 rfl ?_
  refine j_iconst (v := 1) dL_law_808 (by decide) ?_
  refine j_iadd dL_law_809 ?_
  refine j_top (congrArg Value.int (show nI i + (1 : Int32) = nI (i + 1) from nI_add i 1)) ?_
  refine j_sld dL_law_810 (vp_in_nI (by omega) (by omega)) ?_
  intro xs76
  refine j_aload_n dL_law_811 rfl rfl ?_
  refine j_iload dL_law_812 rfl ?_
  refine j_iconst (v := 2) dL_law_814 (by decide) ?_
  refine j_iadd dL_law_815 ?_
  refine j_top (congrArg Value.int (show nI i + (2 : Int32) = nI (i + 2) from nI_add i 2)) ?_
  refine j_sld dL_law_816 (vp_in_nI (by omega) (by omega)) ?_
  intro xs77
  refine j_aload_n dL_law_817 rfl rfl ?_
  refine j_iload dL_law_818 rfl ?_
  refine j_iconst (v := 3) dL_law_820 (by decide) ?_
  refine j_iadd dL_law_821 ?_
  refine j_top (congrArg Value.int (show nI i + (3 : Int32) = nI (i + 3) from nI_add i 3)) ?_
  refine j_sld dL_law_822 (vp_in_nI (by omega) (by omega)) ?_
  intro xs78
  refine j_aload_n dL_law_823 rfl rfl ?_
  refine j_iload dL_law_824 rfl ?_
  refine j_iconst (v := 4) dL_law_826 (by decide) ?_
  refine j_iadd dL_law_827 ?_
  refine j_top (congrArg Value.int (show nI i + (4 : Int32) = nI (i + 4) from nI_add i 4)) ?_
  refine j_sld dL_law_828 (vp_in_nI (by omega) (by omega)) ?_
  intro xs79
  refine j_aload_n dL_law_829 rfl rfl ?_
  refine j_callSW dL_law_830 kL_replaceIf lL_212 stL_replaceIf (lw_replaceIf hl w _ _ LS _ _ _ _) (Nat.le_of_ble_eq_true rfl) ⟨(by show _ ≤ 793551; omega), (by show _ ≤ 6715452; omega)⟩ rfl (Nat.le_of_ble_eq_true rfl) rfl rfl (fun _ _ h => h.elim) ?_
  rintro _ w1 ⟨⟨r1, rfl⟩, LS1⟩
  refine j_istore (lo' := [(5, _), (0, _), (1, _), (2, _), (3, _), (4, _)]) dL_law_833 (by decide) rfl ?_
  refine j_aload_n dL_law_835 rfl rfl ?_
  refine j_aload_n dL_law_836 rfl rfl ?_
  refine j_iload dL_law_837 rfl ?_
  refine j_iconst (v := 1) dL_law_839 (by decide) ?_
  refine j_iadd dL_law_840 ?_
  refine j_top (congrArg Value.int (show nI i + (1 : Int32) = nI (i + 1) from nI_add i 1)) ?_
  refine j_sld dL_law_841 (vp_in_nI (by omega) (by omega)) ?_
  intro xs80
  refine j_aload_n dL_law_842 rfl rfl ?_
  refine j_iload dL_law_843 rfl ?_
  refine j_iconst (v := 2) dL_law_845 (by decide) ?_
  refine j_iadd dL_law_846 ?_
  refine j_top (congrArg Value.int (show nI i + (2 : Int32) = nI (i + 2) from nI_add i 2)) ?_
  refine j_sld dL_law_847 (vp_in_nI (by omega) (by omega)) ?_
  intro xs81
  refine j_aload_n dL_law_848 rfl rfl ?_
  refine j_iload dL_law_849 rfl ?_
  refine j_iconst (v := 3) dL_law_851 (by decide) ?_
  refine j_iadd dL_law_852 ?_
  refine j_top (congrArg Value.int (show nI i + (3 : Int32) = nI (i + 3) from nI_add i 3)) ?_
  refine j_sld dL_law_853 (vp_in_nI (by omega) (by omega)) ?_
  intro xs82
  refine j_aload_n dL_law_854 rfl rfl ?_
  refine j_iload dL_law_855 rfl ?_
  refine j_iconst (v := 4) dL_law_857 (by decide) ?_
  refine j_iadd dL_law_858 ?_
  refine j_top (congrArg Value.int (show nI i + (4 : Int32) = nI (i + 4) from nI_add i 4)) ?_
  refine j_sld dL_law_859 (vp_in_nI (by omega) (by omega)) ?_
  intro xs83
  obtain ⟨-, ⟨s84, hs84, hk84⟩, -⟩ := id LS1
  refine j_callV (q := (RX11, TX11, 8)) dL_law_860 kX11_replaceIf lL_215 inX11_replaceIf seX11_replaceIf hs84.m rfl (cm_replaceIf hl w1 _ _ _ _ _ hs84) (Nat.le_of_ble_eq_true rfl) ⟨(by show _ ≤ 793551; omega), (by show _ ≤ 6715452; omega)⟩ rfl (Nat.le_of_ble_eq_true rfl) rfl rfl (fun _ _ h => h.elim) ?_
  rintro _ w2 ⟨r2, s2x, rfl, fm2, h2, h2k⟩
  have LS2 := LS1.mod1 fm2 h2 (congrArg Prod.fst h2k) hk84
  refine j_istore (lo' := [(6, _), (5, _), (0, _), (1, _), (2, _), (3, _), (4, _)]) dL_law_863 (by decide) rfl ?_
  refine j_goto (tgt := 2228) dL_law_865 (by decide) ?_
  refine j_widen (kc' := kc + 200) (ks' := ks + 6000) (by omega) (by omega) ?_
  exact j_lo2 (KK _ _ LS2) (z_q1 rfl (z_q1 rfl (z_q1 rfl (z_q1 rfl (z_q1 rfl z_q0)))))
set_option maxRecDepth 100000 in
set_option maxHeartbeats 4000000 in
theorem lc_13 (hl : l.stackTraces = false) {w : z_W} {x i kc ks : Nat} {kn : Int32} (LS : z_LS x kn w) (hi6 : i + 6 ≤ z_sn G) (hsn : z_sn G ≤ 3072) (hkc : kc + 200 ≤ 793551) (hks : ks + 6000 ≤ 6715452) (KK : ∀ (kn9 : Int32) (w9 : z_W), z_LS x kn9 w9 → z_J G l mL_law z_SL 2228 (z_lol x i) [] w9 (kc + 200) (ks + 6000)) : z_J G l mL_law z_SL 868 (z_lol x i) [] w kc ks := by
  show z_J G l mL_law _ 868 [(0, _), (1, _), (2, _), (3, _), (4, _)] [] _ _ _
  refine j_aload_n dL_law_868 rfl rfl ?_
  refine j_aload_n dL_law_869 rfl rfl ?_
  refine j_iload dL_law_870 rfl ?_
  refine j_iconst (v := 1) dL_law_872 (by decide) ?_
  refine j_iadd dL_law_873 ?_
  refine j_top (congrArg Value.int (show nI i + (1 : Int32) = nI (i + 1) from nI_add i 1)) ?_
  refine j_sld dL_law_874 (vp_in_nI (by omega) (by omega)) ?_
  intro xs85
  refine j_aload_n dL_law_875 rfl rfl ?_
  refine j_iload dL_law_876 rfl ?_
  refine j_iconst (v := 2) dL_law_878 (by decide) ?_
  refine j_iadd dL_law_879 ?_
  refine j_top (congrArg Value.int (show nI i + (2 : Int32) = nI (i + 2) from nI_add i 2)) ?_
  refine j_sld dL_law_880 (vp_in_nI (by omega) (by omega)) ?_
  intro xs86
  refine j_aload_n dL_law_881 rfl rfl ?_
  refine j_iload dL_law_882 rfl ?_
  refine j_iconst (v := 3) dL_law_884 (by decide) ?_
  refine j_iadd dL_law_885 ?_
  refine j_top (congrArg Value.int (show nI i + (3 : Int32) = nI (i + 3) from nI_add i 3)) ?_
  refine j_sld dL_law_886 (vp_in_nI (by omega) (by omega)) ?_
  intro xs87
  refine j_aload_n dL_law_887 rfl rfl ?_
  refine j_callSW dL_law_888 kL_removePair lL_216 stL_removePair (lw_removePair hl w _ _ LS _ _ _) (Nat.le_of_ble_eq_true rfl) ⟨(by show _ ≤ 793551; omega), (by show _ ≤ 6715452; omega)⟩ rfl (Nat.le_of_ble_eq_true rfl) rfl rfl (fun _ _ h => h.elim) ?_
  rintro _ w1 ⟨⟨r1, rfl⟩, LS1⟩
  refine j_istore (lo' := [(5, _), (0, _), (1, _), (2, _), (3, _), (4, _)]) dL_law_891 (by decide) rfl ?_
  refine j_aload_n dL_law_893 rfl rfl ?_
  refine j_aload_n dL_law_894 rfl rfl ?_
  refine j_iload dL_law_895 rfl ?_
  refine j_iconst (v := 1) dL_law_897 (by decide) ?_
  refine j_iadd dL_law_898 ?_
  refine j_top (congrArg Value.int (show nI i + (1 : Int32) = nI (i + 1) from nI_add i 1)) ?_
  refine j_sld dL_law_899 (vp_in_nI (by omega) (by omega)) ?_
  intro xs88
  refine j_aload_n dL_law_900 rfl rfl ?_
  refine j_iload dL_law_901 rfl ?_
  refine j_iconst (v := 2) dL_law_903 (by decide) ?_
  refine j_iadd dL_law_904 ?_
  refine j_top (congrArg Value.int (show nI i + (2 : Int32) = nI (i + 2) from nI_add i 2)) ?_
  refine j_sld dL_law_905 (vp_in_nI (by omega) (by omega)) ?_
  intro xs89
  refine j_aload_n dL_law_906 rfl rfl ?_
  refine j_iload dL_law_907 rfl ?_
  refine j_iconst (v := 3) dL_law_909 (by decide) ?_
  refine j_iadd dL_law_910 ?_
  refine j_top (congrArg Value.int (show nI i + (3 : Int32) = nI (i + 3) from nI_add i 3)) ?_
  refine j_sld dL_law_911 (vp_in_nI (by omega) (by omega)) ?_
  intro xs90
  obtain ⟨-, ⟨s91, hs91, hk91⟩, -⟩ := id LS1
  refine j_callV (q := (RX11, TX11, 8)) dL_law_912 kX11_removePair lL_218 inX11_removePair seX11_removePair hs91.m rfl (cm_removePair hl w1 _ _ _ _ hs91) (Nat.le_of_ble_eq_true rfl) ⟨(by show _ ≤ 793551; omega), (by show _ ≤ 6715452; omega)⟩ rfl (Nat.le_of_ble_eq_true rfl) rfl rfl (fun _ _ h => h.elim) ?_
  rintro _ w2 ⟨r2, s2x, rfl, fm2, h2, h2k⟩
  have LS2 := LS1.mod1 fm2 h2 (congrArg Prod.fst h2k) hk91
  refine j_istore (lo' := [(6, _), (5, _), (0, _), (1, _), (2, _), (3, _), (4, _)]) dL_law_915 (by decide) rfl ?_
  refine j_goto (tgt := 2228) dL_law_917 (by decide) ?_
  refine j_widen (kc' := kc + 200) (ks' := ks + 6000) (by omega) (by omega) ?_
  exact j_lo2 (KK _ _ LS2) (z_q1 rfl (z_q1 rfl (z_q1 rfl (z_q1 rfl (z_q1 rfl z_q0)))))
set_option maxRecDepth 100000 in
set_option maxHeartbeats 4000000 in
theorem lc_14 (hl : l.stackTraces = false) {w : z_W} {x i kc ks : Nat} {kn : Int32} (LS : z_LS x kn w) (hi6 : i + 6 ≤ z_sn G) (hsn : z_sn G ≤ 3072) (hkc : kc + 200 ≤ 793551) (hks : ks + 6000 ≤ 6715452) (KK : ∀ (kn9 : Int32) (w9 : z_W), z_LS x kn9 w9 → z_J G l mL_law z_SL 2228 (z_lol x i) [] w9 (kc + 200) (ks + 6000)) : z_J G l mL_law z_SL 920 (z_lol x i) [] w kc ks := by
  show z_J G l mL_law _ 920 [(0, _), (1, _), (2, _), (3, _), (4, _)] [] _ _ _
  refine j_aload_n dL_law_920 rfl rfl ?_
  refine j_aload_n dL_law_921 rfl rfl ?_
  refine j_iload dL_law_922 rfl ?_
  refine j_iconst (v := 1) dL_law_924 (by decide) ?_
  refine j_iadd dL_law_925 ?_
  refine j_top (congrArg Value.int (show nI i + (1 : Int32) = nI (i + 1) from nI_add i 1)) ?_
  refine j_sld dL_law_926 (vp_in_nI (by omega) (by omega)) ?_
  intro xs92
  refine j_aload_n dL_law_927 rfl rfl ?_
  refine j_iload dL_law_928 rfl ?_
  refine j_iconst (v := 2) dL_law_930 (by decide) ?_
  refine j_iadd dL_law_931 ?_
  refine j_top (congrArg Value.int (show nI i + (2 : Int32) = nI (i + 2) from nI_add i 2)) ?_
  refine j_sld dL_law_932 (vp_in_nI (by omega) (by omega)) ?_
  intro xs93
  refine j_aload_n dL_law_933 rfl rfl ?_
  refine j_iload dL_law_934 rfl ?_
  refine j_iconst (v := 3) dL_law_936 (by decide) ?_
  refine j_iadd dL_law_937 ?_
  refine j_top (congrArg Value.int (show nI i + (3 : Int32) = nI (i + 3) from nI_add i 3)) ?_
  refine j_sld dL_law_938 (vp_in_nI (by omega) (by omega)) ?_
  intro xs94
  refine j_aload_n dL_law_939 rfl rfl ?_
  refine j_iload dL_law_940 rfl ?_
  refine j_iconst (v := 4) dL_law_942 (by decide) ?_
  refine j_iadd dL_law_943 ?_
  refine j_top (congrArg Value.int (show nI i + (4 : Int32) = nI (i + 4) from nI_add i 4)) ?_
  refine j_sld dL_law_944 (vp_in_nI (by omega) (by omega)) ?_
  intro xs95
  refine j_aload_n dL_law_945 rfl rfl ?_
  refine j_callSW dL_law_946 kL_computeIfAbsent lL_219 stL_computeIfAbsent (lw_computeIfAbsent hl w _ _ LS _ _ _ _) (Nat.le_of_ble_eq_true rfl) ⟨(by show _ ≤ 793551; omega), (by show _ ≤ 6715452; omega)⟩ rfl (Nat.le_of_ble_eq_true rfl) rfl rfl (fun _ _ h => h.elim) ?_
  rintro _ w1 ⟨⟨r1, rfl⟩, LS1⟩
  refine j_istore (lo' := [(5, _), (0, _), (1, _), (2, _), (3, _), (4, _)]) dL_law_949 (by decide) rfl ?_
  refine j_aload_n dL_law_951 rfl rfl ?_
  refine j_aload_n dL_law_952 rfl rfl ?_
  refine j_iload dL_law_953 rfl ?_
  refine j_iconst (v := 1) dL_law_955 (by decide) ?_
  refine j_iadd dL_law_956 ?_
  refine j_top (congrArg Value.int (show nI i + (1 : Int32) = nI (i + 1) from nI_add i 1)) ?_
  refine j_sld dL_law_957 (vp_in_nI (by omega) (by omega)) ?_
  intro xs96
  refine j_aload_n dL_law_958 rfl rfl ?_
  refine j_iload dL_law_959 rfl ?_
  refine j_iconst (v := 2) dL_law_961 (by decide) ?_
  refine j_iadd dL_law_962 ?_
  refine j_top (congrArg Value.int (show nI i + (2 : Int32) = nI (i + 2) from nI_add i 2)) ?_
  refine j_sld dL_law_963 (vp_in_nI (by omega) (by omega)) ?_
  intro xs97
  refine j_aload_n dL_law_964 rfl rfl ?_
  refine j_iload dL_law_965 rfl ?_
  refine j_iconst (v := 3) dL_law_967 (by decide) ?_
  refine j_iadd dL_law_968 ?_
  refine j_top (congrArg Value.int (show nI i + (3 : Int32) = nI (i + 3) from nI_add i 3)) ?_
  refine j_sld dL_law_969 (vp_in_nI (by omega) (by omega)) ?_
  intro xs98
  refine j_aload_n dL_law_970 rfl rfl ?_
  refine j_iload dL_law_971 rfl ?_
  refine j_iconst (v := 4) dL_law_973 (by decide) ?_
  refine j_iadd dL_law_974 ?_
  refine j_top (congrArg Value.int (show nI i + (4 : Int32) = nI (i + 4) from nI_add i 4)) ?_
  refine j_sld dL_law_975 (vp_in_nI (by omega) (by omega)) ?_
  intro xs99
  obtain ⟨-, ⟨s100, hs100, hk100⟩, -⟩ := id LS1
  refine j_callV (q := (RX11, TX11, 8)) dL_law_976 kX11_computeIfAbsent lL_221 inX11_computeIfAbsent seX11_computeIfAbsent hs100.m rfl (cm_computeIfAbsent hl w1 _ _ _ _ _ hs100) (Nat.le_of_ble_eq_true rfl) ⟨(by show _ ≤ 793551; omega), (by show _ ≤ 6715452; omega)⟩ rfl (Nat.le_of_ble_eq_true rfl) rfl rfl (fun _ _ h => h.elim) ?_
  rintro _ w2 ⟨r2, s2x, rfl, fm2, h2, h2k⟩
  have LS2 := LS1.mod1 fm2 h2 (congrArg Prod.fst h2k) hk100
  refine j_istore (lo' := [(6, _), (5, _), (0, _), (1, _), (2, _), (3, _), (4, _)]) dL_law_979 (by decide) rfl ?_
  refine j_goto (tgt := 2228) dL_law_981 (by decide) ?_
  refine j_widen (kc' := kc + 200) (ks' := ks + 6000) (by omega) (by omega) ?_
  exact j_lo2 (KK _ _ LS2) (z_q1 rfl (z_q1 rfl (z_q1 rfl (z_q1 rfl (z_q1 rfl z_q0)))))
set_option maxRecDepth 100000 in
set_option maxHeartbeats 4000000 in
theorem lc_15 (hl : l.stackTraces = false) {w : z_W} {x i kc ks : Nat} {kn : Int32} (LS : z_LS x kn w) (hi6 : i + 6 ≤ z_sn G) (hsn : z_sn G ≤ 3072) (hkc : kc + 200 ≤ 793551) (hks : ks + 6000 ≤ 6715452) (KK : ∀ (kn9 : Int32) (w9 : z_W), z_LS x kn9 w9 → z_J G l mL_law z_SL 2228 (z_lol x i) [] w9 (kc + 200) (ks + 6000)) : z_J G l mL_law z_SL 984 (z_lol x i) [] w kc ks := by
  show z_J G l mL_law _ 984 [(0, _), (1, _), (2, _), (3, _), (4, _)] [] _ _ _
  refine j_aload_n dL_law_984 rfl rfl ?_
  refine j_aload_n dL_law_985 rfl rfl ?_
  refine j_iload dL_law_986 rfl ?_
  refine j_iconst (v := 1) dL_law_988 (by decide) ?_
  refine j_iadd dL_law_989 ?_
  refine j_top (congrArg Value.int (show nI i + (1 : Int32) = nI (i + 1) from nI_add i 1)) ?_
  refine j_sld dL_law_990 (vp_in_nI (by omega) (by omega)) ?_
  intro xs101
  refine j_aload_n dL_law_991 rfl rfl ?_
  refine j_iload dL_law_992 rfl ?_
  refine j_iconst (v := 2) dL_law_994 (by decide) ?_
  refine j_iadd dL_law_995 ?_
  refine j_top (congrArg Value.int (show nI i + (2 : Int32) = nI (i + 2) from nI_add i 2)) ?_
  refine j_sld dL_law_996 (vp_in_nI (by omega) (by omega)) ?_
  intro xs102
  refine j_aload_n dL_law_997 rfl rfl ?_
  refine j_iload dL_law_998 rfl ?_
  refine j_iconst (v := 3) dL_law_1000 (by decide) ?_
  refine j_iadd dL_law_1001 ?_
  refine j_top (congrArg Value.int (show nI i + (3 : Int32) = nI (i + 3) from nI_add i 3)) ?_
  refine j_sld dL_law_1002 (vp_in_nI (by omega) (by omega)) ?_
  intro xs103
  refine j_aload_n dL_law_1003 rfl rfl ?_
  refine j_iload dL_law_1004 rfl ?_
  refine j_iconst (v := 4) dL_law_1006 (by decide) ?_
  refine j_iadd dL_law_1007 ?_
  refine j_top (congrArg Value.int (show nI i + (4 : Int32) = nI (i + 4) from nI_add i 4)) ?_
  refine j_sld dL_law_1008 (vp_in_nI (by omega) (by omega)) ?_
  intro xs104
  refine j_aload_n dL_law_1009 rfl rfl ?_
  refine j_callSW dL_law_1010 kL_computeIfPresent lL_222 stL_computeIfPresent (lw_computeIfPresent hl w _ _ LS _ _ _ _) (Nat.le_of_ble_eq_true rfl) ⟨(by show _ ≤ 793551; omega), (by show _ ≤ 6715452; omega)⟩ rfl (Nat.le_of_ble_eq_true rfl) rfl rfl (fun _ _ h => h.elim) ?_
  rintro _ w1 ⟨⟨r1, rfl⟩, LS1⟩
  refine j_istore (lo' := [(5, _), (0, _), (1, _), (2, _), (3, _), (4, _)]) dL_law_1013 (by decide) rfl ?_
  refine j_aload_n dL_law_1015 rfl rfl ?_
  refine j_aload_n dL_law_1016 rfl rfl ?_
  refine j_iload dL_law_1017 rfl ?_
  refine j_iconst (v := 1) dL_law_1019 (by decide) ?_
  refine j_iadd dL_law_1020 ?_
  refine j_top (congrArg Value.int (show nI i + (1 : Int32) = nI (i + 1) from nI_add i 1)) ?_
  refine j_sld dL_law_1021 (vp_in_nI (by omega) (by omega)) ?_
  intro xs105
  refine j_aload_n dL_law_1022 rfl rfl ?_
  refine j_iload dL_law_1023 rfl ?_
  refine j_iconst (v := 2) dL_law_1025 (by decide) ?_
  refine j_iadd dL_law_1026 ?_
  refine j_top (congrArg Value.int (show nI i + (2 : Int32) = nI (i + 2) from nI_add i 2)) ?_
  refine j_sld dL_law_1027 (vp_in_nI (by omega) (by omega)) ?_
  intro xs106
  refine j_aload_n dL_law_1028 rfl rfl ?_
  refine j_iload dL_law_1029 rfl ?_
  refine j_iconst (v := 3) dL_law_1031 (by decide) ?_
  refine j_iadd dL_law_1032 ?_
  refine j_top (congrArg Value.int (show nI i + (3 : Int32) = nI (i + 3) from nI_add i 3)) ?_
  refine j_sld dL_law_1033 (vp_in_nI (by omega) (by omega)) ?_
  intro xs107
  refine j_aload_n dL_law_1034 rfl rfl ?_
  refine j_iload dL_law_1035 rfl ?_
  refine j_iconst (v := 4) dL_law_1037 (by decide) ?_
  refine j_iadd dL_law_1038 ?_
  refine j_top (congrArg Value.int (show nI i + (4 : Int32) = nI (i + 4) from nI_add i 4)) ?_
  refine j_sld dL_law_1039 (vp_in_nI (by omega) (by omega)) ?_
  intro xs108
  obtain ⟨-, ⟨s109, hs109, hk109⟩, -⟩ := id LS1
  refine j_callV (q := (RX11, TX11, 8)) dL_law_1040 kX11_computeIfPresent lL_224 inX11_computeIfPresent seX11_computeIfPresent hs109.m rfl (cm_computeIfPresent hl w1 _ _ _ _ _ hs109) (Nat.le_of_ble_eq_true rfl) ⟨(by show _ ≤ 793551; omega), (by show _ ≤ 6715452; omega)⟩ rfl (Nat.le_of_ble_eq_true rfl) rfl rfl (fun _ _ h => h.elim) ?_
  rintro _ w2 ⟨r2, s2x, rfl, fm2, h2, h2k⟩
  have LS2 := LS1.mod1 fm2 h2 (congrArg Prod.fst h2k) hk109
  refine j_istore (lo' := [(6, _), (5, _), (0, _), (1, _), (2, _), (3, _), (4, _)]) dL_law_1043 (by decide) rfl ?_
  refine j_goto (tgt := 2228) dL_law_1045 (by decide) ?_
  refine j_widen (kc' := kc + 200) (ks' := ks + 6000) (by omega) (by omega) ?_
  exact j_lo2 (KK _ _ LS2) (z_q1 rfl (z_q1 rfl (z_q1 rfl (z_q1 rfl (z_q1 rfl z_q0)))))
set_option maxRecDepth 100000 in
set_option maxHeartbeats 4000000 in
theorem lc_16 (hl : l.stackTraces = false) {w : z_W} {x i kc ks : Nat} {kn : Int32} (LS : z_LS x kn w) (hi6 : i + 6 ≤ z_sn G) (hsn : z_sn G ≤ 3072) (hkc : kc + 200 ≤ 793551) (hks : ks + 6000 ≤ 6715452) (KK : ∀ (kn9 : Int32) (w9 : z_W), z_LS x kn9 w9 → z_J G l mL_law z_SL 2228 (z_lol x i) [] w9 (kc + 200) (ks + 6000)) : z_J G l mL_law z_SL 1048 (z_lol x i) [] w kc ks := by
  show z_J G l mL_law _ 1048 [(0, _), (1, _), (2, _), (3, _), (4, _)] [] _ _ _
  refine j_aload_n dL_law_1048 rfl rfl ?_
  refine j_aload_n dL_law_1049 rfl rfl ?_
  refine j_iload dL_law_1050 rfl ?_
  refine j_iconst (v := 1) dL_law_1052 (by decide) ?_
  refine j_iadd dL_law_1053 ?_
  refine j_top (congrArg Value.int (show nI i + (1 : Int32) = nI (i + 1) from nI_add i 1)) ?_
  refine j_sld dL_law_1054 (vp_in_nI (by omega) (by omega)) ?_
  intro xs110
  refine j_aload_n dL_law_1055 rfl rfl ?_
  refine j_iload dL_law_1056 rfl ?_
  refine j_iconst (v := 2) dL_law_1058 (by decide) ?_
  refine j_iadd dL_law_1059 ?_
  refine j_top (congrArg Value.int (show nI i + (2 : Int32) = nI (i + 2) from nI_add i 2)) ?_
  refine j_sld dL_law_1060 (vp_in_nI (by omega) (by omega)) ?_
  intro xs111
  refine j_aload_n dL_law_1061 rfl rfl ?_
  refine j_iload dL_law_1062 rfl ?_
  refine j_iconst (v := 3) dL_law_1064 (by decide) ?_
  refine j_iadd dL_law_1065 ?_
  refine j_top (congrArg Value.int (show nI i + (3 : Int32) = nI (i + 3) from nI_add i 3)) ?_
  refine j_sld dL_law_1066 (vp_in_nI (by omega) (by omega)) ?_
  intro xs112
  refine j_aload_n dL_law_1067 rfl rfl ?_
  refine j_iload dL_law_1068 rfl ?_
  refine j_iconst (v := 4) dL_law_1070 (by decide) ?_
  refine j_iadd dL_law_1071 ?_
  refine j_top (congrArg Value.int (show nI i + (4 : Int32) = nI (i + 4) from nI_add i 4)) ?_
  refine j_sld dL_law_1072 (vp_in_nI (by omega) (by omega)) ?_
  intro xs113
  refine j_aload_n dL_law_1073 rfl rfl ?_
  refine j_callSW dL_law_1074 kL_compute lL_225 stL_compute (lw_compute hl w _ _ LS _ _ _ _) (Nat.le_of_ble_eq_true rfl) ⟨(by show _ ≤ 793551; omega), (by show _ ≤ 6715452; omega)⟩ rfl (Nat.le_of_ble_eq_true rfl) rfl rfl (fun _ _ h => h.elim) ?_
  rintro _ w1 ⟨⟨r1, rfl⟩, LS1⟩
  refine j_istore (lo' := [(5, _), (0, _), (1, _), (2, _), (3, _), (4, _)]) dL_law_1077 (by decide) rfl ?_
  refine j_aload_n dL_law_1079 rfl rfl ?_
  refine j_aload_n dL_law_1080 rfl rfl ?_
  refine j_iload dL_law_1081 rfl ?_
  refine j_iconst (v := 1) dL_law_1083 (by decide) ?_
  refine j_iadd dL_law_1084 ?_
  refine j_top (congrArg Value.int (show nI i + (1 : Int32) = nI (i + 1) from nI_add i 1)) ?_
  refine j_sld dL_law_1085 (vp_in_nI (by omega) (by omega)) ?_
  intro xs114
  refine j_aload_n dL_law_1086 rfl rfl ?_
  refine j_iload dL_law_1087 rfl ?_
  refine j_iconst (v := 2) dL_law_1089 (by decide) ?_
  refine j_iadd dL_law_1090 ?_
  refine j_top (congrArg Value.int (show nI i + (2 : Int32) = nI (i + 2) from nI_add i 2)) ?_
  refine j_sld dL_law_1091 (vp_in_nI (by omega) (by omega)) ?_
  intro xs115
  refine j_aload_n dL_law_1092 rfl rfl ?_
  refine j_iload dL_law_1093 rfl ?_
  refine j_iconst (v := 3) dL_law_1095 (by decide) ?_
  refine j_iadd dL_law_1096 ?_
  refine j_top (congrArg Value.int (show nI i + (3 : Int32) = nI (i + 3) from nI_add i 3)) ?_
  refine j_sld dL_law_1097 (vp_in_nI (by omega) (by omega)) ?_
  intro xs116
  refine j_aload_n dL_law_1098 rfl rfl ?_
  refine j_iload dL_law_1099 rfl ?_
  refine j_iconst (v := 4) dL_law_1101 (by decide) ?_
  refine j_iadd dL_law_1102 ?_
  refine j_top (congrArg Value.int (show nI i + (4 : Int32) = nI (i + 4) from nI_add i 4)) ?_
  refine j_sld dL_law_1103 (vp_in_nI (by omega) (by omega)) ?_
  intro xs117
  obtain ⟨-, ⟨s118, hs118, hk118⟩, -⟩ := id LS1
  refine j_callV (q := (RX11, TX11, 8)) dL_law_1104 kX11_compute lL_227 inX11_compute seX11_compute hs118.m rfl (cm_compute hl w1 _ _ _ _ _ hs118) (Nat.le_of_ble_eq_true rfl) ⟨(by show _ ≤ 793551; omega), (by show _ ≤ 6715452; omega)⟩ rfl (Nat.le_of_ble_eq_true rfl) rfl rfl (fun _ _ h => h.elim) ?_
  rintro _ w2 ⟨r2, s2x, rfl, fm2, h2, h2k⟩
  have LS2 := LS1.mod1 fm2 h2 (congrArg Prod.fst h2k) hk118
  refine j_istore (lo' := [(6, _), (5, _), (0, _), (1, _), (2, _), (3, _), (4, _)]) dL_law_1107 (by decide) rfl ?_
  refine j_goto (tgt := 2228) dL_law_1109 (by decide) ?_
  refine j_widen (kc' := kc + 200) (ks' := ks + 6000) (by omega) (by omega) ?_
  exact j_lo2 (KK _ _ LS2) (z_q1 rfl (z_q1 rfl (z_q1 rfl (z_q1 rfl (z_q1 rfl z_q0)))))
set_option maxRecDepth 100000 in
set_option maxHeartbeats 4000000 in
theorem lc_17 (hl : l.stackTraces = false) {w : z_W} {x i kc ks : Nat} {kn : Int32} (LS : z_LS x kn w) (hi6 : i + 6 ≤ z_sn G) (hsn : z_sn G ≤ 3072) (hkc : kc + 200 ≤ 793551) (hks : ks + 6000 ≤ 6715452) (KK : ∀ (kn9 : Int32) (w9 : z_W), z_LS x kn9 w9 → z_J G l mL_law z_SL 2228 (z_lol x i) [] w9 (kc + 200) (ks + 6000)) : z_J G l mL_law z_SL 1112 (z_lol x i) [] w kc ks := by
  show z_J G l mL_law _ 1112 [(0, _), (1, _), (2, _), (3, _), (4, _)] [] _ _ _
  refine j_aload_n dL_law_1112 rfl rfl ?_
  refine j_aload_n dL_law_1113 rfl rfl ?_
  refine j_iload dL_law_1114 rfl ?_
  refine j_iconst (v := 1) dL_law_1116 (by decide) ?_
  refine j_iadd dL_law_1117 ?_
  refine j_top (congrArg Value.int (show nI i + (1 : Int32) = nI (i + 1) from nI_add i 1)) ?_
  refine j_sld dL_law_1118 (vp_in_nI (by omega) (by omega)) ?_
  intro xs119
  refine j_aload_n dL_law_1119 rfl rfl ?_
  refine j_iload dL_law_1120 rfl ?_
  refine j_iconst (v := 2) dL_law_1122 (by decide) ?_
  refine j_iadd dL_law_1123 ?_
  refine j_top (congrArg Value.int (show nI i + (2 : Int32) = nI (i + 2) from nI_add i 2)) ?_
  refine j_sld dL_law_1124 (vp_in_nI (by omega) (by omega)) ?_
  intro xs120
  refine j_aload_n dL_law_1125 rfl rfl ?_
  refine j_iload dL_law_1126 rfl ?_
  refine j_iconst (v := 3) dL_law_1128 (by decide) ?_
  refine j_iadd dL_law_1129 ?_
  refine j_top (congrArg Value.int (show nI i + (3 : Int32) = nI (i + 3) from nI_add i 3)) ?_
  refine j_sld dL_law_1130 (vp_in_nI (by omega) (by omega)) ?_
  intro xs121
  refine j_aload_n dL_law_1131 rfl rfl ?_
  refine j_iload dL_law_1132 rfl ?_
  refine j_iconst (v := 4) dL_law_1134 (by decide) ?_
  refine j_iadd dL_law_1135 ?_
  refine j_top (congrArg Value.int (show nI i + (4 : Int32) = nI (i + 4) from nI_add i 4)) ?_
  refine j_sld dL_law_1136 (vp_in_nI (by omega) (by omega)) ?_
  intro xs122
  refine j_aload_n dL_law_1137 rfl rfl ?_
  refine j_callSW dL_law_1138 kL_merge lL_228 stL_merge (lw_merge hl w _ _ LS _ _ _ _) (Nat.le_of_ble_eq_true rfl) ⟨(by show _ ≤ 793551; omega), (by show _ ≤ 6715452; omega)⟩ rfl (Nat.le_of_ble_eq_true rfl) rfl rfl (fun _ _ h => h.elim) ?_
  rintro _ w1 ⟨⟨r1, rfl⟩, LS1⟩
  refine j_istore (lo' := [(5, _), (0, _), (1, _), (2, _), (3, _), (4, _)]) dL_law_1141 (by decide) rfl ?_
  refine j_aload_n dL_law_1143 rfl rfl ?_
  refine j_aload_n dL_law_1144 rfl rfl ?_
  refine j_iload dL_law_1145 rfl ?_
  refine j_iconst (v := 1) dL_law_1147 (by decide) ?_
  refine j_iadd dL_law_1148 ?_
  refine j_top (congrArg Value.int (show nI i + (1 : Int32) = nI (i + 1) from nI_add i 1)) ?_
  refine j_sld dL_law_1149 (vp_in_nI (by omega) (by omega)) ?_
  intro xs123
  refine j_aload_n dL_law_1150 rfl rfl ?_
  refine j_iload dL_law_1151 rfl ?_
  refine j_iconst (v := 2) dL_law_1153 (by decide) ?_
  refine j_iadd dL_law_1154 ?_
  refine j_top (congrArg Value.int (show nI i + (2 : Int32) = nI (i + 2) from nI_add i 2)) ?_
  refine j_sld dL_law_1155 (vp_in_nI (by omega) (by omega)) ?_
  intro xs124
  refine j_aload_n dL_law_1156 rfl rfl ?_
  refine j_iload dL_law_1157 rfl ?_
  refine j_iconst (v := 3) dL_law_1159 (by decide) ?_
  refine j_iadd dL_law_1160 ?_
  refine j_top (congrArg Value.int (show nI i + (3 : Int32) = nI (i + 3) from nI_add i 3)) ?_
  refine j_sld dL_law_1161 (vp_in_nI (by omega) (by omega)) ?_
  intro xs125
  refine j_aload_n dL_law_1162 rfl rfl ?_
  refine j_iload dL_law_1163 rfl ?_
  refine j_iconst (v := 4) dL_law_1165 (by decide) ?_
  refine j_iadd dL_law_1166 ?_
  refine j_top (congrArg Value.int (show nI i + (4 : Int32) = nI (i + 4) from nI_add i 4)) ?_
  refine j_sld dL_law_1167 (vp_in_nI (by omega) (by omega)) ?_
  intro xs126
  obtain ⟨-, ⟨s127, hs127, hk127⟩, -⟩ := id LS1
  refine j_callV (q := (RX11, TX11, 8)) dL_law_1168 kX11_merge lL_230 inX11_merge seX11_merge hs127.m rfl (cm_merge hl w1 _ _ _ _ _ hs127) (Nat.le_of_ble_eq_true rfl) ⟨(by show _ ≤ 793551; omega), (by show _ ≤ 6715452; omega)⟩ rfl (Nat.le_of_ble_eq_true rfl) rfl rfl (fun _ _ h => h.elim) ?_
  rintro _ w2 ⟨r2, s2x, rfl, fm2, h2, h2k⟩
  have LS2 := LS1.mod1 fm2 h2 (congrArg Prod.fst h2k) hk127
  refine j_istore (lo' := [(6, _), (5, _), (0, _), (1, _), (2, _), (3, _), (4, _)]) dL_law_1171 (by decide) rfl ?_
  refine j_goto (tgt := 2228) dL_law_1173 (by decide) ?_
  refine j_widen (kc' := kc + 200) (ks' := ks + 6000) (by omega) (by omega) ?_
  exact j_lo2 (KK _ _ LS2) (z_q1 rfl (z_q1 rfl (z_q1 rfl (z_q1 rfl (z_q1 rfl z_q0)))))
set_option maxRecDepth 100000 in
set_option maxHeartbeats 4000000 in
theorem lc_18 (hl : l.stackTraces = false) {w : z_W} {x i kc ks : Nat} {kn : Int32} (LS : z_LS x kn w) (hi6 : i + 6 ≤ z_sn G) (hsn : z_sn G ≤ 3072) (hkc : kc + 200 ≤ 793551) (hks : ks + 6000 ≤ 6715452) (KK : ∀ (kn9 : Int32) (w9 : z_W), z_LS x kn9 w9 → z_J G l mL_law z_SL 2228 (z_lol x i) [] w9 (kc + 200) (ks + 6000)) : z_J G l mL_law z_SL 1176 (z_lol x i) [] w kc ks := by
  show z_J G l mL_law _ 1176 [(0, _), (1, _), (2, _), (3, _), (4, _)] [] _ _ _
  refine j_aload_n dL_law_1176 rfl rfl ?_
  refine j_aload_n dL_law_1177 rfl rfl ?_
  refine j_iload dL_law_1178 rfl ?_
  refine j_iconst (v := 1) dL_law_1180 (by decide) ?_
  refine j_iadd dL_law_1181 ?_
  refine j_top (congrArg Value.int (show nI i + (1 : Int32) = nI (i + 1) from nI_add i 1)) ?_
  refine j_sld dL_law_1182 (vp_in_nI (by omega) (by omega)) ?_
  intro xs128
  refine j_aload_n dL_law_1183 rfl rfl ?_
  refine j_iload dL_law_1184 rfl ?_
  refine j_iconst (v := 2) dL_law_1186 (by decide) ?_
  refine j_iadd dL_law_1187 ?_
  refine j_top (congrArg Value.int (show nI i + (2 : Int32) = nI (i + 2) from nI_add i 2)) ?_
  refine j_sld dL_law_1188 (vp_in_nI (by omega) (by omega)) ?_
  intro xs129
  refine j_aload_n dL_law_1189 rfl rfl ?_
  refine j_callSW dL_law_1190 kL_hearTable lL_231 stL_hearTable (lw_hearTable hl w _ _ LS _ _) (Nat.le_of_ble_eq_true rfl) ⟨(by show _ ≤ 793551; omega), (by show _ ≤ 6715452; omega)⟩ rfl (Nat.le_of_ble_eq_true rfl) rfl rfl (fun _ _ h => h.elim) ?_
  rintro _ w1 ⟨⟨r1, rfl⟩, LS1⟩
  refine j_istore (lo' := [(5, _), (0, _), (1, _), (2, _), (3, _), (4, _)]) dL_law_1193 (by decide) rfl ?_
  refine j_aload_n dL_law_1195 rfl rfl ?_
  refine j_aload_n dL_law_1196 rfl rfl ?_
  refine j_iload dL_law_1197 rfl ?_
  refine j_iconst (v := 1) dL_law_1199 (by decide) ?_
  refine j_iadd dL_law_1200 ?_
  refine j_top (congrArg Value.int (show nI i + (1 : Int32) = nI (i + 1) from nI_add i 1)) ?_
  refine j_sld dL_law_1201 (vp_in_nI (by omega) (by omega)) ?_
  intro xs130
  refine j_aload_n dL_law_1202 rfl rfl ?_
  refine j_iload dL_law_1203 rfl ?_
  refine j_iconst (v := 2) dL_law_1205 (by decide) ?_
  refine j_iadd dL_law_1206 ?_
  refine j_top (congrArg Value.int (show nI i + (2 : Int32) = nI (i + 2) from nI_add i 2)) ?_
  refine j_sld dL_law_1207 (vp_in_nI (by omega) (by omega)) ?_
  intro xs131
  obtain ⟨-, ⟨s132, hs132, hk132⟩, -⟩ := id LS1
  refine j_callV (q := (RX11, TX11, 8)) dL_law_1208 kX11_hearTable lL_233 inX11_hearTable seX11_hearTable hs132.m rfl (cm_hearTable hl w1 _ _ _ hs132) (Nat.le_of_ble_eq_true rfl) ⟨(by show _ ≤ 793551; omega), (by show _ ≤ 6715452; omega)⟩ rfl (Nat.le_of_ble_eq_true rfl) rfl rfl (fun _ _ h => h.elim) ?_
  rintro _ w2 ⟨r2, s2x, rfl, fm2, h2, h2k⟩
  have LS2 := LS1.mod1 fm2 h2 (congrArg Prod.fst h2k) hk132
  refine j_istore (lo' := [(6, _), (5, _), (0, _), (1, _), (2, _), (3, _), (4, _)]) dL_law_1211 (by decide) rfl ?_
  refine j_goto (tgt := 2228) dL_law_1213 (by decide) ?_
  refine j_widen (kc' := kc + 200) (ks' := ks + 6000) (by omega) (by omega) ?_
  exact j_lo2 (KK _ _ LS2) (z_q1 rfl (z_q1 rfl (z_q1 rfl (z_q1 rfl (z_q1 rfl z_q0)))))
set_option maxRecDepth 100000 in
set_option maxHeartbeats 4000000 in
theorem lc_19 (hl : l.stackTraces = false) {w : z_W} {x i kc ks : Nat} {kn : Int32} (LS : z_LS x kn w) (hi6 : i + 6 ≤ z_sn G) (hsn : z_sn G ≤ 3072) (hkc : kc + 200 ≤ 793551) (hks : ks + 6000 ≤ 6715452) (KK : ∀ (kn9 : Int32) (w9 : z_W), z_LS x kn9 w9 → z_J G l mL_law z_SL 2228 (z_lol x i) [] w9 (kc + 200) (ks + 6000)) : z_J G l mL_law z_SL 1216 (z_lol x i) [] w kc ks := by
  show z_J G l mL_law _ 1216 [(0, _), (1, _), (2, _), (3, _), (4, _)] [] _ _ _
  refine j_aload_n dL_law_1216 rfl rfl ?_
  refine j_aload_n dL_law_1217 rfl rfl ?_
  refine j_iload dL_law_1218 rfl ?_
  refine j_iconst (v := 1) dL_law_1220 (by decide) ?_
  refine j_iadd dL_law_1221 ?_
  refine j_top (congrArg Value.int (show nI i + (1 : Int32) = nI (i + 1) from nI_add i 1)) ?_
  refine j_sld dL_law_1222 (vp_in_nI (by omega) (by omega)) ?_
  intro xs133
  refine j_aload_n dL_law_1223 rfl rfl ?_
  refine j_iload dL_law_1224 rfl ?_
  refine j_iconst (v := 2) dL_law_1226 (by decide) ?_
  refine j_iadd dL_law_1227 ?_
  refine j_top (congrArg Value.int (show nI i + (2 : Int32) = nI (i + 2) from nI_add i 2)) ?_
  refine j_sld dL_law_1228 (vp_in_nI (by omega) (by omega)) ?_
  intro xs134
  refine j_aload_n dL_law_1229 rfl rfl ?_
  refine j_iload dL_law_1230 rfl ?_
  refine j_iconst (v := 3) dL_law_1232 (by decide) ?_
  refine j_iadd dL_law_1233 ?_
  refine j_top (congrArg Value.int (show nI i + (3 : Int32) = nI (i + 3) from nI_add i 3)) ?_
  refine j_sld dL_law_1234 (vp_in_nI (by omega) (by omega)) ?_
  intro xs135
  refine j_aload_n dL_law_1235 rfl rfl ?_
  refine j_callSW dL_law_1236 kL_replaceTable lL_234 stL_replaceTable (lw_replaceTable hl w _ _ LS _ _ _) (Nat.le_of_ble_eq_true rfl) ⟨(by show _ ≤ 793551; omega), (by show _ ≤ 6715452; omega)⟩ rfl (Nat.le_of_ble_eq_true rfl) rfl rfl (fun _ _ h => h.elim) ?_
  rintro _ w1 ⟨⟨r1, rfl⟩, LS1⟩
  refine j_istore (lo' := [(5, _), (0, _), (1, _), (2, _), (3, _), (4, _)]) dL_law_1239 (by decide) rfl ?_
  refine j_aload_n dL_law_1241 rfl rfl ?_
  refine j_aload_n dL_law_1242 rfl rfl ?_
  refine j_iload dL_law_1243 rfl ?_
  refine j_iconst (v := 1) dL_law_1245 (by decide) ?_
  refine j_iadd dL_law_1246 ?_
  refine j_top (congrArg Value.int (show nI i + (1 : Int32) = nI (i + 1) from nI_add i 1)) ?_
  refine j_sld dL_law_1247 (vp_in_nI (by omega) (by omega)) ?_
  intro xs136
  refine j_aload_n dL_law_1248 rfl rfl ?_
  refine j_iload dL_law_1249 rfl ?_
  refine j_iconst (v := 2) dL_law_1251 (by decide) ?_
  refine j_iadd dL_law_1252 ?_
  refine j_top (congrArg Value.int (show nI i + (2 : Int32) = nI (i + 2) from nI_add i 2)) ?_
  refine j_sld dL_law_1253 (vp_in_nI (by omega) (by omega)) ?_
  intro xs137
  refine j_aload_n dL_law_1254 rfl rfl ?_
  refine j_iload dL_law_1255 rfl ?_
  refine j_iconst (v := 3) dL_law_1257 (by decide) ?_
  refine j_iadd dL_law_1258 ?_
  refine j_top (congrArg Value.int (show nI i + (3 : Int32) = nI (i + 3) from nI_add i 3)) ?_
  refine j_sld dL_law_1259 (vp_in_nI (by omega) (by omega)) ?_
  intro xs138
  obtain ⟨-, ⟨s139, hs139, hk139⟩, -⟩ := id LS1
  refine j_callV (q := (RX11, TX11, 8)) dL_law_1260 kX11_replaceTable lL_236 inX11_replaceTable seX11_replaceTable hs139.m rfl (cm_replaceTable hl w1 _ _ _ _ hs139) (Nat.le_of_ble_eq_true rfl) ⟨(by show _ ≤ 793551; omega), (by show _ ≤ 6715452; omega)⟩ rfl (Nat.le_of_ble_eq_true rfl) rfl rfl (fun _ _ h => h.elim) ?_
  rintro _ w2 ⟨r2, s2x, rfl, fm2, h2, h2k⟩
  have LS2 := LS1.mod1 fm2 h2 (congrArg Prod.fst h2k) hk139
  refine j_istore (lo' := [(6, _), (5, _), (0, _), (1, _), (2, _), (3, _), (4, _)]) dL_law_1263 (by decide) rfl ?_
  refine j_goto (tgt := 2228) dL_law_1265 (by decide) ?_
  refine j_widen (kc' := kc + 200) (ks' := ks + 6000) (by omega) (by omega) ?_
  exact j_lo2 (KK _ _ LS2) (z_q1 rfl (z_q1 rfl (z_q1 rfl (z_q1 rfl (z_q1 rfl z_q0)))))
set_option maxRecDepth 100000 in
set_option maxHeartbeats 4000000 in
theorem lc_20 (hl : l.stackTraces = false) {w : z_W} {x i kc ks : Nat} {kn : Int32} (LS : z_LS x kn w) (hi6 : i + 6 ≤ z_sn G) (hsn : z_sn G ≤ 3072) (hkc : kc + 200 ≤ 793551) (hks : ks + 6000 ≤ 6715452) (KK : ∀ (kn9 : Int32) (w9 : z_W), z_LS x kn9 w9 → z_J G l mL_law z_SL 2228 (z_lol x i) [] w9 (kc + 200) (ks + 6000)) : z_J G l mL_law z_SL 1268 (z_lol x i) [] w kc ks := by
  show z_J G l mL_law _ 1268 [(0, _), (1, _), (2, _), (3, _), (4, _)] [] _ _ _
  refine j_aload_n dL_law_1268 rfl rfl ?_
  refine j_aload_n dL_law_1269 rfl rfl ?_
  refine j_iload dL_law_1270 rfl ?_
  refine j_iconst (v := 1) dL_law_1272 (by decide) ?_
  refine j_iadd dL_law_1273 ?_
  refine j_top (congrArg Value.int (show nI i + (1 : Int32) = nI (i + 1) from nI_add i 1)) ?_
  refine j_sld dL_law_1274 (vp_in_nI (by omega) (by omega)) ?_
  intro xs140
  refine j_aload_n dL_law_1275 rfl rfl ?_
  refine j_callSW dL_law_1276 kL_clear lL_237 stL_clear (lw_clear hl w _ _ LS _) (Nat.le_of_ble_eq_true rfl) ⟨(by show _ ≤ 793551; omega), (by show _ ≤ 6715452; omega)⟩ rfl (Nat.le_of_ble_eq_true rfl) rfl rfl (fun _ _ h => h.elim) ?_
  rintro _ w1 ⟨⟨r1, rfl⟩, LS1⟩
  refine j_istore (lo' := [(5, _), (0, _), (1, _), (2, _), (3, _), (4, _)]) dL_law_1279 (by decide) rfl ?_
  refine j_aload_n dL_law_1281 rfl rfl ?_
  refine j_aload_n dL_law_1282 rfl rfl ?_
  refine j_iload dL_law_1283 rfl ?_
  refine j_iconst (v := 1) dL_law_1285 (by decide) ?_
  refine j_iadd dL_law_1286 ?_
  refine j_top (congrArg Value.int (show nI i + (1 : Int32) = nI (i + 1) from nI_add i 1)) ?_
  refine j_sld dL_law_1287 (vp_in_nI (by omega) (by omega)) ?_
  intro xs141
  obtain ⟨-, ⟨s142, hs142, hk142⟩, -⟩ := id LS1
  refine j_callV (q := (RX11, TX11, 8)) dL_law_1288 kX11_clear lL_239 inX11_clear seX11_clear hs142.m rfl (cm_clear hl w1 _ _ hs142) (Nat.le_of_ble_eq_true rfl) ⟨(by show _ ≤ 793551; omega), (by show _ ≤ 6715452; omega)⟩ rfl (Nat.le_of_ble_eq_true rfl) rfl rfl (fun _ _ h => h.elim) ?_
  rintro _ w2 ⟨r2, s2x, rfl, fm2, h2, h2k⟩
  have LS2 := LS1.mod1 fm2 h2 (congrArg Prod.fst h2k) hk142
  refine j_istore (lo' := [(6, _), (5, _), (0, _), (1, _), (2, _), (3, _), (4, _)]) dL_law_1291 (by decide) rfl ?_
  refine j_goto (tgt := 2228) dL_law_1293 (by decide) ?_
  refine j_widen (kc' := kc + 200) (ks' := ks + 6000) (by omega) (by omega) ?_
  exact j_lo2 (KK _ _ LS2) (z_q1 rfl (z_q1 rfl (z_q1 rfl (z_q1 rfl (z_q1 rfl z_q0)))))
set_option maxRecDepth 100000 in
set_option maxHeartbeats 4000000 in
theorem lc_21 (hl : l.stackTraces = false) {w : z_W} {x i kc ks : Nat} {kn : Int32} (LS : z_LS x kn w) (hi6 : i + 6 ≤ z_sn G) (hsn : z_sn G ≤ 3072) (hkc : kc + 200 ≤ 793551) (hks : ks + 6000 ≤ 6715452) (KK : ∀ (kn9 : Int32) (w9 : z_W), z_LS x kn9 w9 → z_J G l mL_law z_SL 2228 (z_lol x i) [] w9 (kc + 200) (ks + 6000)) : z_J G l mL_law z_SL 1296 (z_lol x i) [] w kc ks := by
  show z_J G l mL_law _ 1296 [(0, _), (1, _), (2, _), (3, _), (4, _)] [] _ _ _
  refine j_aload_n dL_law_1296 rfl rfl ?_
  refine j_aload_n dL_law_1297 rfl rfl ?_
  refine j_iload dL_law_1298 rfl ?_
  refine j_iconst (v := 1) dL_law_1300 (by decide) ?_
  refine j_iadd dL_law_1301 ?_
  refine j_top (congrArg Value.int (show nI i + (1 : Int32) = nI (i + 1) from nI_add i 1)) ?_
  refine j_sld dL_law_1302 (vp_in_nI (by omega) (by omega)) ?_
  intro xs143
  refine j_aload_n dL_law_1303 rfl rfl ?_
  refine j_iload dL_law_1304 rfl ?_
  refine j_iconst (v := 2) dL_law_1306 (by decide) ?_
  refine j_iadd dL_law_1307 ?_
  refine j_top (congrArg Value.int (show nI i + (2 : Int32) = nI (i + 2) from nI_add i 2)) ?_
  refine j_sld dL_law_1308 (vp_in_nI (by omega) (by omega)) ?_
  intro xs144
  refine j_aload_n dL_law_1309 rfl rfl ?_
  refine j_iload dL_law_1310 rfl ?_
  refine j_iconst (v := 3) dL_law_1312 (by decide) ?_
  refine j_iadd dL_law_1313 ?_
  refine j_top (congrArg Value.int (show nI i + (3 : Int32) = nI (i + 3) from nI_add i 3)) ?_
  refine j_sld dL_law_1314 (vp_in_nI (by omega) (by omega)) ?_
  intro xs145
  refine j_aload_n dL_law_1315 rfl rfl ?_
  refine j_iload dL_law_1316 rfl ?_
  refine j_iconst (v := 4) dL_law_1318 (by decide) ?_
  refine j_iadd dL_law_1319 ?_
  refine j_top (congrArg Value.int (show nI i + (4 : Int32) = nI (i + 4) from nI_add i 4)) ?_
  refine j_sld dL_law_1320 (vp_in_nI (by omega) (by omega)) ?_
  intro xs146
  refine j_aload_n dL_law_1321 rfl rfl ?_
  refine j_callSW dL_law_1322 kL_hearSpan lL_240 stL_hearSpan (lw_hearSpan hl w _ _ LS _ _ _ _) (Nat.le_of_ble_eq_true rfl) ⟨(by show _ ≤ 793551; omega), (by show _ ≤ 6715452; omega)⟩ rfl (Nat.le_of_ble_eq_true rfl) rfl rfl (fun _ _ h => h.elim) ?_
  rintro _ w1 ⟨⟨r1, rfl⟩, LS1⟩
  refine j_istore (lo' := [(5, _), (0, _), (1, _), (2, _), (3, _), (4, _)]) dL_law_1325 (by decide) rfl ?_
  refine j_aload_n dL_law_1327 rfl rfl ?_
  refine j_aload_n dL_law_1328 rfl rfl ?_
  refine j_iload dL_law_1329 rfl ?_
  refine j_iconst (v := 1) dL_law_1331 (by decide) ?_
  refine j_iadd dL_law_1332 ?_
  refine j_top (congrArg Value.int (show nI i + (1 : Int32) = nI (i + 1) from nI_add i 1)) ?_
  refine j_sld dL_law_1333 (vp_in_nI (by omega) (by omega)) ?_
  intro xs147
  refine j_aload_n dL_law_1334 rfl rfl ?_
  refine j_iload dL_law_1335 rfl ?_
  refine j_iconst (v := 2) dL_law_1337 (by decide) ?_
  refine j_iadd dL_law_1338 ?_
  refine j_top (congrArg Value.int (show nI i + (2 : Int32) = nI (i + 2) from nI_add i 2)) ?_
  refine j_sld dL_law_1339 (vp_in_nI (by omega) (by omega)) ?_
  intro xs148
  refine j_aload_n dL_law_1340 rfl rfl ?_
  refine j_iload dL_law_1341 rfl ?_
  refine j_iconst (v := 3) dL_law_1343 (by decide) ?_
  refine j_iadd dL_law_1344 ?_
  refine j_top (congrArg Value.int (show nI i + (3 : Int32) = nI (i + 3) from nI_add i 3)) ?_
  refine j_sld dL_law_1345 (vp_in_nI (by omega) (by omega)) ?_
  intro xs149
  refine j_aload_n dL_law_1346 rfl rfl ?_
  refine j_iload dL_law_1347 rfl ?_
  refine j_iconst (v := 4) dL_law_1349 (by decide) ?_
  refine j_iadd dL_law_1350 ?_
  refine j_top (congrArg Value.int (show nI i + (4 : Int32) = nI (i + 4) from nI_add i 4)) ?_
  refine j_sld dL_law_1351 (vp_in_nI (by omega) (by omega)) ?_
  intro xs150
  obtain ⟨-, ⟨s151, hs151, hk151⟩, -⟩ := id LS1
  refine j_callV (q := (RX11, TX11, 8)) dL_law_1352 kX11_hearSpan lL_242 inX11_hearSpan seX11_hearSpan hs151.m rfl (cm_hearSpan hl w1 _ _ _ _ _ hs151) (Nat.le_of_ble_eq_true rfl) ⟨(by show _ ≤ 793551; omega), (by show _ ≤ 6715452; omega)⟩ rfl (Nat.le_of_ble_eq_true rfl) rfl rfl (fun _ _ h => h.elim) ?_
  rintro _ w2 ⟨r2, s2x, rfl, fm2, h2, h2k⟩
  have LS2 := LS1.mod1 fm2 h2 (congrArg Prod.fst h2k) hk151
  refine j_istore (lo' := [(6, _), (5, _), (0, _), (1, _), (2, _), (3, _), (4, _)]) dL_law_1355 (by decide) rfl ?_
  refine j_goto (tgt := 2228) dL_law_1357 (by decide) ?_
  refine j_widen (kc' := kc + 200) (ks' := ks + 6000) (by omega) (by omega) ?_
  exact j_lo2 (KK _ _ LS2) (z_q1 rfl (z_q1 rfl (z_q1 rfl (z_q1 rfl (z_q1 rfl z_q0)))))
set_option maxRecDepth 100000 in
set_option maxHeartbeats 4000000 in
theorem lc_22 (hl : l.stackTraces = false) {w : z_W} {x i kc ks : Nat} {kn : Int32} (LS : z_LS x kn w) (hi6 : i + 6 ≤ z_sn G) (hsn : z_sn G ≤ 3072) (hkc : kc + 200 ≤ 793551) (hks : ks + 6000 ≤ 6715452) (KK : ∀ (kn9 : Int32) (w9 : z_W), z_LS x kn9 w9 → z_J G l mL_law z_SL 2228 (z_lol x i) [] w9 (kc + 200) (ks + 6000)) : z_J G l mL_law z_SL 1360 (z_lol x i) [] w kc ks := by
  show z_J G l mL_law _ 1360 [(0, _), (1, _), (2, _), (3, _), (4, _)] [] _ _ _
  refine j_aload_n dL_law_1360 rfl rfl ?_
  refine j_aload_n dL_law_1361 rfl rfl ?_
  refine j_iload dL_law_1362 rfl ?_
  refine j_iconst (v := 1) dL_law_1364 (by decide) ?_
  refine j_iadd dL_law_1365 ?_
  refine j_top (congrArg Value.int (show nI i + (1 : Int32) = nI (i + 1) from nI_add i 1)) ?_
  refine j_sld dL_law_1366 (vp_in_nI (by omega) (by omega)) ?_
  intro xs152
  refine j_aload_n dL_law_1367 rfl rfl ?_
  refine j_iload dL_law_1368 rfl ?_
  refine j_iconst (v := 2) dL_law_1370 (by decide) ?_
  refine j_iadd dL_law_1371 ?_
  refine j_top (congrArg Value.int (show nI i + (2 : Int32) = nI (i + 2) from nI_add i 2)) ?_
  refine j_sld dL_law_1372 (vp_in_nI (by omega) (by omega)) ?_
  intro xs153
  refine j_aload_n dL_law_1373 rfl rfl ?_
  refine j_iload dL_law_1374 rfl ?_
  refine j_iconst (v := 3) dL_law_1376 (by decide) ?_
  refine j_iadd dL_law_1377 ?_
  refine j_top (congrArg Value.int (show nI i + (3 : Int32) = nI (i + 3) from nI_add i 3)) ?_
  refine j_sld dL_law_1378 (vp_in_nI (by omega) (by omega)) ?_
  intro xs154
  refine j_aload_n dL_law_1379 rfl rfl ?_
  refine j_iload dL_law_1380 rfl ?_
  refine j_iconst (v := 4) dL_law_1382 (by decide) ?_
  refine j_iadd dL_law_1383 ?_
  refine j_top (congrArg Value.int (show nI i + (4 : Int32) = nI (i + 4) from nI_add i 4)) ?_
  refine j_sld dL_law_1384 (vp_in_nI (by omega) (by omega)) ?_
  intro xs155
  refine j_aload_n dL_law_1385 rfl rfl ?_
  refine j_iload dL_law_1386 rfl ?_
  refine j_iconst (v := 5) dL_law_1388 (by decide) ?_
  refine j_iadd dL_law_1389 ?_
  refine j_top (congrArg Value.int (show nI i + (5 : Int32) = nI (i + 5) from nI_add i 5)) ?_
  refine j_sld dL_law_1390 (vp_in_nI (by omega) (by omega)) ?_
  intro xs156
  refine j_aload_n dL_law_1391 rfl rfl ?_
  refine j_callSW dL_law_1392 kL_hearSteps lL_243 stL_hearSteps (lw_hearSteps hl w _ _ LS _ _ _ _ _) (Nat.le_of_ble_eq_true rfl) ⟨(by show _ ≤ 793551; omega), (by show _ ≤ 6715452; omega)⟩ rfl (Nat.le_of_ble_eq_true rfl) rfl rfl (fun _ _ h => h.elim) ?_
  rintro _ w1 ⟨⟨r1, rfl⟩, LS1⟩
  refine j_istore (lo' := [(5, _), (0, _), (1, _), (2, _), (3, _), (4, _)]) dL_law_1395 (by decide) rfl ?_
  refine j_aload_n dL_law_1397 rfl rfl ?_
  refine j_aload_n dL_law_1398 rfl rfl ?_
  refine j_iload dL_law_1399 rfl ?_
  refine j_iconst (v := 1) dL_law_1401 (by decide) ?_
  refine j_iadd dL_law_1402 ?_
  refine j_top (congrArg Value.int (show nI i + (1 : Int32) = nI (i + 1) from nI_add i 1)) ?_
  refine j_sld dL_law_1403 (vp_in_nI (by omega) (by omega)) ?_
  intro xs157
  refine j_aload_n dL_law_1404 rfl rfl ?_
  refine j_iload dL_law_1405 rfl ?_
  refine j_iconst (v := 2) dL_law_1407 (by decide) ?_
  refine j_iadd dL_law_1408 ?_
  refine j_top (congrArg Value.int (show nI i + (2 : Int32) = nI (i + 2) from nI_add i 2)) ?_
  refine j_sld dL_law_1409 (vp_in_nI (by omega) (by omega)) ?_
  intro xs158
  refine j_aload_n dL_law_1410 rfl rfl ?_
  refine j_iload dL_law_1411 rfl ?_
  refine j_iconst (v := 3) dL_law_1413 (by decide) ?_
  refine j_iadd dL_law_1414 ?_
  refine j_top (congrArg Value.int (show nI i + (3 : Int32) = nI (i + 3) from nI_add i 3)) ?_
  refine j_sld dL_law_1415 (vp_in_nI (by omega) (by omega)) ?_
  intro xs159
  refine j_aload_n dL_law_1416 rfl rfl ?_
  refine j_iload dL_law_1417 rfl ?_
  refine j_iconst (v := 4) dL_law_1419 (by decide) ?_
  refine j_iadd dL_law_1420 ?_
  refine j_top (congrArg Value.int (show nI i + (4 : Int32) = nI (i + 4) from nI_add i 4)) ?_
  refine j_sld dL_law_1421 (vp_in_nI (by omega) (by omega)) ?_
  intro xs160
  refine j_aload_n dL_law_1422 rfl rfl ?_
  refine j_iload dL_law_1423 rfl ?_
  refine j_iconst (v := 5) dL_law_1425 (by decide) ?_
  refine j_iadd dL_law_1426 ?_
  refine j_top (congrArg Value.int (show nI i + (5 : Int32) = nI (i + 5) from nI_add i 5)) ?_
  refine j_sld dL_law_1427 (vp_in_nI (by omega) (by omega)) ?_
  intro xs161
  obtain ⟨-, ⟨s162, hs162, hk162⟩, -⟩ := id LS1
  refine j_callV (q := (RX11, TX11, 8)) dL_law_1428 kX11_hearSteps lL_246 inX11_hearSteps seX11_hearSteps hs162.m rfl (cm_hearSteps hl w1 _ _ _ _ _ _ hs162) (Nat.le_of_ble_eq_true rfl) ⟨(by show _ ≤ 793551; omega), (by show _ ≤ 6715452; omega)⟩ rfl (Nat.le_of_ble_eq_true rfl) rfl rfl (fun _ _ h => h.elim) ?_
  rintro _ w2 ⟨r2, s2x, rfl, fm2, h2, h2k⟩
  have LS2 := LS1.mod1 fm2 h2 (congrArg Prod.fst h2k) hk162
  refine j_istore (lo' := [(6, _), (5, _), (0, _), (1, _), (2, _), (3, _), (4, _)]) dL_law_1431 (by decide) rfl ?_
  refine j_goto (tgt := 2228) dL_law_1433 (by decide) ?_
  refine j_widen (kc' := kc + 200) (ks' := ks + 6000) (by omega) (by omega) ?_
  exact j_lo2 (KK _ _ LS2) (z_q1 rfl (z_q1 rfl (z_q1 rfl (z_q1 rfl (z_q1 rfl z_q0)))))
set_option maxRecDepth 100000 in
set_option maxHeartbeats 4000000 in
theorem lc_23 (hl : l.stackTraces = false) {w : z_W} {x i kc ks : Nat} {kn : Int32} (LS : z_LS x kn w) (hi6 : i + 6 ≤ z_sn G) (hsn : z_sn G ≤ 3072) (hkc : kc + 200 ≤ 793551) (hks : ks + 6000 ≤ 6715452) (KK : ∀ (kn9 : Int32) (w9 : z_W), z_LS x kn9 w9 → z_J G l mL_law z_SL 2228 (z_lol x i) [] w9 (kc + 200) (ks + 6000)) : z_J G l mL_law z_SL 1436 (z_lol x i) [] w kc ks := by
  show z_J G l mL_law _ 1436 [(0, _), (1, _), (2, _), (3, _), (4, _)] [] _ _ _
  refine j_aload_n dL_law_1436 rfl rfl ?_
  refine j_aload_n dL_law_1437 rfl rfl ?_
  refine j_iload dL_law_1438 rfl ?_
  refine j_iconst (v := 1) dL_law_1440 (by decide) ?_
  refine j_iadd dL_law_1441 ?_
  refine j_top (congrArg Value.int (show nI i + (1 : Int32) = nI (i + 1) from nI_add i 1)) ?_
  refine j_sld dL_law_1442 (vp_in_nI (by omega) (by omega)) ?_
  intro xs163
  refine j_aload_n dL_law_1443 rfl rfl ?_
  refine j_iload dL_law_1444 rfl ?_
  refine j_iconst (v := 2) dL_law_1446 (by decide) ?_
  refine j_iadd dL_law_1447 ?_
  refine j_top (congrArg Value.int (show nI i + (2 : Int32) = nI (i + 2) from nI_add i 2)) ?_
  refine j_sld dL_law_1448 (vp_in_nI (by omega) (by omega)) ?_
  intro xs164
  refine j_aload_n dL_law_1449 rfl rfl ?_
  refine j_callSW dL_law_1450 kL_takeStep lL_247 stL_takeStep (lw_takeStep hl w _ _ LS _ _) (Nat.le_of_ble_eq_true rfl) ⟨(by show _ ≤ 793551; omega), (by show _ ≤ 6715452; omega)⟩ rfl (Nat.le_of_ble_eq_true rfl) rfl rfl (fun _ _ h => h.elim) ?_
  rintro _ w1 ⟨⟨r1, rfl⟩, LS1⟩
  refine j_istore (lo' := [(5, _), (0, _), (1, _), (2, _), (3, _), (4, _)]) dL_law_1453 (by decide) rfl ?_
  refine j_aload_n dL_law_1455 rfl rfl ?_
  refine j_aload_n dL_law_1456 rfl rfl ?_
  refine j_iload dL_law_1457 rfl ?_
  refine j_iconst (v := 1) dL_law_1459 (by decide) ?_
  refine j_iadd dL_law_1460 ?_
  refine j_top (congrArg Value.int (show nI i + (1 : Int32) = nI (i + 1) from nI_add i 1)) ?_
  refine j_sld dL_law_1461 (vp_in_nI (by omega) (by omega)) ?_
  intro xs165
  refine j_aload_n dL_law_1462 rfl rfl ?_
  refine j_iload dL_law_1463 rfl ?_
  refine j_iconst (v := 2) dL_law_1465 (by decide) ?_
  refine j_iadd dL_law_1466 ?_
  refine j_top (congrArg Value.int (show nI i + (2 : Int32) = nI (i + 2) from nI_add i 2)) ?_
  refine j_sld dL_law_1467 (vp_in_nI (by omega) (by omega)) ?_
  intro xs166
  obtain ⟨-, ⟨s167, hs167, hk167⟩, -⟩ := id LS1
  refine j_callV (q := (RX11, TX11, 8)) dL_law_1468 kX11_takeStep lL_249 inX11_takeStep seX11_takeStep hs167.m rfl (cm_takeStep hl w1 _ _ _ hs167) (Nat.le_of_ble_eq_true rfl) ⟨(by show _ ≤ 793551; omega), (by show _ ≤ 6715452; omega)⟩ rfl (Nat.le_of_ble_eq_true rfl) rfl rfl (fun _ _ h => h.elim) ?_
  rintro _ w2 ⟨r2, s2x, rfl, fm2, h2, h2k⟩
  have LS2 := LS1.mod1 fm2 h2 (congrArg Prod.fst h2k) hk167
  refine j_istore (lo' := [(6, _), (5, _), (0, _), (1, _), (2, _), (3, _), (4, _)]) dL_law_1471 (by decide) rfl ?_
  refine j_goto (tgt := 2228) dL_law_1473 (by decide) ?_
  refine j_widen (kc' := kc + 200) (ks' := ks + 6000) (by omega) (by omega) ?_
  exact j_lo2 (KK _ _ LS2) (z_q1 rfl (z_q1 rfl (z_q1 rfl (z_q1 rfl (z_q1 rfl z_q0)))))
set_option maxRecDepth 100000 in
set_option maxHeartbeats 4000000 in
theorem lc_24 (hl : l.stackTraces = false) {w : z_W} {x i kc ks : Nat} {kn : Int32} (LS : z_LS x kn w) (hi6 : i + 6 ≤ z_sn G) (hsn : z_sn G ≤ 3072) (hkc : kc + 200 ≤ 793551) (hks : ks + 6000 ≤ 6715452) (KK : ∀ (kn9 : Int32) (w9 : z_W), z_LS x kn9 w9 → z_J G l mL_law z_SL 2228 (z_lol x i) [] w9 (kc + 200) (ks + 6000)) : z_J G l mL_law z_SL 1476 (z_lol x i) [] w kc ks := by
  show z_J G l mL_law _ 1476 [(0, _), (1, _), (2, _), (3, _), (4, _)] [] _ _ _
  refine j_aload_n dL_law_1476 rfl rfl ?_
  refine j_aload_n dL_law_1477 rfl rfl ?_
  refine j_iload dL_law_1478 rfl ?_
  refine j_iconst (v := 1) dL_law_1480 (by decide) ?_
  refine j_iadd dL_law_1481 ?_
  refine j_top (congrArg Value.int (show nI i + (1 : Int32) = nI (i + 1) from nI_add i 1)) ?_
  refine j_sld dL_law_1482 (vp_in_nI (by omega) (by omega)) ?_
  intro xs168
  refine j_aload_n dL_law_1483 rfl rfl ?_
  refine j_iload dL_law_1484 rfl ?_
  refine j_iconst (v := 2) dL_law_1486 (by decide) ?_
  refine j_iadd dL_law_1487 ?_
  refine j_top (congrArg Value.int (show nI i + (2 : Int32) = nI (i + 2) from nI_add i 2)) ?_
  refine j_sld dL_law_1488 (vp_in_nI (by omega) (by omega)) ?_
  intro xs169
  refine j_aload_n dL_law_1489 rfl rfl ?_
  refine j_callSW dL_law_1490 kL_stop lL_250 stL_stop (lw_stop hl w _ _ LS _ _) (Nat.le_of_ble_eq_true rfl) ⟨(by show _ ≤ 793551; omega), (by show _ ≤ 6715452; omega)⟩ rfl (Nat.le_of_ble_eq_true rfl) rfl rfl (fun _ _ h => h.elim) ?_
  rintro _ w1 ⟨⟨r1, rfl⟩, LS1⟩
  refine j_istore (lo' := [(5, _), (0, _), (1, _), (2, _), (3, _), (4, _)]) dL_law_1493 (by decide) rfl ?_
  refine j_aload_n dL_law_1495 rfl rfl ?_
  refine j_aload_n dL_law_1496 rfl rfl ?_
  refine j_iload dL_law_1497 rfl ?_
  refine j_iconst (v := 1) dL_law_1499 (by decide) ?_
  refine j_iadd dL_law_1500 ?_
  refine j_top (congrArg Value.int (show nI i + (1 : Int32) = nI (i + 1) from nI_add i 1)) ?_
  refine j_sld dL_law_1501 (vp_in_nI (by omega) (by omega)) ?_
  intro xs170
  refine j_aload_n dL_law_1502 rfl rfl ?_
  refine j_iload dL_law_1503 rfl ?_
  refine j_iconst (v := 2) dL_law_1505 (by decide) ?_
  refine j_iadd dL_law_1506 ?_
  refine j_top (congrArg Value.int (show nI i + (2 : Int32) = nI (i + 2) from nI_add i 2)) ?_
  refine j_sld dL_law_1507 (vp_in_nI (by omega) (by omega)) ?_
  intro xs171
  obtain ⟨-, ⟨s172, hs172, hk172⟩, -⟩ := id LS1
  refine j_callV (q := (RX11, TX11, 8)) dL_law_1508 kX11_stop lL_252 inX11_stop seX11_stop hs172.m rfl (cm_stop hl w1 _ _ _ hs172) (Nat.le_of_ble_eq_true rfl) ⟨(by show _ ≤ 793551; omega), (by show _ ≤ 6715452; omega)⟩ rfl (Nat.le_of_ble_eq_true rfl) rfl rfl (fun _ _ h => h.elim) ?_
  rintro _ w2 ⟨r2, s2x, rfl, fm2, h2, h2k⟩
  have LS2 := LS1.mod1 fm2 h2 (by rcases h2k with z | ⟨_, -, -, z⟩ <;> exact congrArg Prod.fst z) hk172
  refine j_istore (lo' := [(6, _), (5, _), (0, _), (1, _), (2, _), (3, _), (4, _)]) dL_law_1511 (by decide) rfl ?_
  refine j_goto (tgt := 2228) dL_law_1513 (by decide) ?_
  refine j_widen (kc' := kc + 200) (ks' := ks + 6000) (by omega) (by omega) ?_
  exact j_lo2 (KK _ _ LS2) (z_q1 rfl (z_q1 rfl (z_q1 rfl (z_q1 rfl (z_q1 rfl z_q0)))))
set_option maxRecDepth 100000 in
set_option maxHeartbeats 4000000 in
theorem lc_25 (hl : l.stackTraces = false) {w : z_W} {x i kc ks : Nat} {kn : Int32} (LS : z_LS x kn w) (hi6 : i + 6 ≤ z_sn G) (hsn : z_sn G ≤ 3072) (hkc : kc + 200 ≤ 793551) (hks : ks + 6000 ≤ 6715452) (KK : ∀ (kn9 : Int32) (w9 : z_W), z_LS x kn9 w9 → z_J G l mL_law z_SL 2228 (z_lol x i) [] w9 (kc + 200) (ks + 6000)) : z_J G l mL_law z_SL 1516 (z_lol x i) [] w kc ks := by
  show z_J G l mL_law _ 1516 [(0, _), (1, _), (2, _), (3, _), (4, _)] [] _ _ _
  refine j_aload_n dL_law_1516 rfl rfl ?_
  refine j_aload_n dL_law_1517 rfl rfl ?_
  refine j_iload dL_law_1518 rfl ?_
  refine j_iconst (v := 1) dL_law_1520 (by decide) ?_
  refine j_iadd dL_law_1521 ?_
  refine j_top (congrArg Value.int (show nI i + (1 : Int32) = nI (i + 1) from nI_add i 1)) ?_
  refine j_sld dL_law_1522 (vp_in_nI (by omega) (by omega)) ?_
  intro xs173
  refine j_aload_n dL_law_1523 rfl rfl ?_
  refine j_callSW dL_law_1524 kL_forget lL_253 stL_forget (lw_forget hl w _ _ LS _) (Nat.le_of_ble_eq_true rfl) ⟨(by show _ ≤ 793551; omega), (by show _ ≤ 6715452; omega)⟩ rfl (Nat.le_of_ble_eq_true rfl) rfl rfl (fun _ _ h => h.elim) ?_
  rintro _ w1 ⟨⟨r1, rfl⟩, LS1⟩
  refine j_istore (lo' := [(5, _), (0, _), (1, _), (2, _), (3, _), (4, _)]) dL_law_1527 (by decide) rfl ?_
  refine j_aload_n dL_law_1529 rfl rfl ?_
  refine j_aload_n dL_law_1530 rfl rfl ?_
  refine j_iload dL_law_1531 rfl ?_
  refine j_iconst (v := 1) dL_law_1533 (by decide) ?_
  refine j_iadd dL_law_1534 ?_
  refine j_top (congrArg Value.int (show nI i + (1 : Int32) = nI (i + 1) from nI_add i 1)) ?_
  refine j_sld dL_law_1535 (vp_in_nI (by omega) (by omega)) ?_
  intro xs174
  obtain ⟨-, ⟨s175, hs175, hk175⟩, -⟩ := id LS1
  refine j_callV (q := (RX11, TX11, 8)) dL_law_1536 kX11_forget lL_255 inX11_forget seX11_forget hs175.m rfl (cm_forget hl w1 _ _ hs175) (Nat.le_of_ble_eq_true rfl) ⟨(by show _ ≤ 793551; omega), (by show _ ≤ 6715452; omega)⟩ rfl (Nat.le_of_ble_eq_true rfl) rfl rfl (fun _ _ h => h.elim) ?_
  rintro _ w2 ⟨r2, s2x, rfl, fm2, h2, h2k⟩
  have LS2 := LS1.mod1 fm2 h2 (congrArg Prod.fst h2k) hk175
  refine j_istore (lo' := [(6, _), (5, _), (0, _), (1, _), (2, _), (3, _), (4, _)]) dL_law_1539 (by decide) rfl ?_
  refine j_goto (tgt := 2228) dL_law_1541 (by decide) ?_
  refine j_widen (kc' := kc + 200) (ks' := ks + 6000) (by omega) (by omega) ?_
  exact j_lo2 (KK _ _ LS2) (z_q1 rfl (z_q1 rfl (z_q1 rfl (z_q1 rfl (z_q1 rfl z_q0)))))
set_option maxRecDepth 100000 in
set_option maxHeartbeats 4000000 in
theorem lc_26 (hl : l.stackTraces = false) {w : z_W} {x i kc ks : Nat} {kn : Int32} (LS : z_LS x kn w) (hi6 : i + 6 ≤ z_sn G) (hsn : z_sn G ≤ 3072) (hkc : kc + 200 ≤ 793551) (hks : ks + 6000 ≤ 6715452) (KK : ∀ (kn9 : Int32) (w9 : z_W), z_LS x kn9 w9 → z_J G l mL_law z_SL 2228 (z_lol x i) [] w9 (kc + 200) (ks + 6000)) : z_J G l mL_law z_SL 1544 (z_lol x i) [] w kc ks := by
  show z_J G l mL_law _ 1544 [(0, _), (1, _), (2, _), (3, _), (4, _)] [] _ _ _
  refine j_aload_n dL_law_1544 rfl rfl ?_
  refine j_aload_n dL_law_1545 rfl rfl ?_
  refine j_iload dL_law_1546 rfl ?_
  refine j_iconst (v := 1) dL_law_1548 (by decide) ?_
  refine j_iadd dL_law_1549 ?_
  refine j_top (congrArg Value.int (show nI i + (1 : Int32) = nI (i + 1) from nI_add i 1)) ?_
  refine j_sld dL_law_1550 (vp_in_nI (by omega) (by omega)) ?_
  intro xs176
  refine j_aload_n dL_law_1551 rfl rfl ?_
  refine j_iload dL_law_1552 rfl ?_
  refine j_iconst (v := 2) dL_law_1554 (by decide) ?_
  refine j_iadd dL_law_1555 ?_
  refine j_top (congrArg Value.int (show nI i + (2 : Int32) = nI (i + 2) from nI_add i 2)) ?_
  refine j_sld dL_law_1556 (vp_in_nI (by omega) (by omega)) ?_
  intro xs177
  refine j_aload_n dL_law_1557 rfl rfl ?_
  refine j_callSW dL_law_1558 kL_heard lL_256 stL_heard (lw_heard hl w _ _ LS _ _) (Nat.le_of_ble_eq_true rfl) ⟨(by show _ ≤ 793551; omega), (by show _ ≤ 6715452; omega)⟩ rfl (Nat.le_of_ble_eq_true rfl) rfl rfl (fun _ _ h => h.elim) ?_
  rintro _ w1 ⟨⟨r1, rfl⟩, LS1⟩
  refine j_istore (lo' := [(5, _), (0, _), (1, _), (2, _), (3, _), (4, _)]) dL_law_1561 (by decide) rfl ?_
  refine j_aload_n dL_law_1563 rfl rfl ?_
  refine j_aload_n dL_law_1564 rfl rfl ?_
  refine j_iload dL_law_1565 rfl ?_
  refine j_iconst (v := 1) dL_law_1567 (by decide) ?_
  refine j_iadd dL_law_1568 ?_
  refine j_top (congrArg Value.int (show nI i + (1 : Int32) = nI (i + 1) from nI_add i 1)) ?_
  refine j_sld dL_law_1569 (vp_in_nI (by omega) (by omega)) ?_
  intro xs178
  refine j_aload_n dL_law_1570 rfl rfl ?_
  refine j_iload dL_law_1571 rfl ?_
  refine j_iconst (v := 2) dL_law_1573 (by decide) ?_
  refine j_iadd dL_law_1574 ?_
  refine j_top (congrArg Value.int (show nI i + (2 : Int32) = nI (i + 2) from nI_add i 2)) ?_
  refine j_sld dL_law_1575 (vp_in_nI (by omega) (by omega)) ?_
  intro xs179
  obtain ⟨-, ⟨s180, hs180, hk180⟩, -⟩ := id LS1
  refine j_callV (q := (RX11, TX11, 8)) dL_law_1576 kX11_heard lL_258 inX11_heard seX11_heard hs180.m rfl (cm_heard hl w1 _ _ _ hs180) (Nat.le_of_ble_eq_true rfl) ⟨(by show _ ≤ 793551; omega), (by show _ ≤ 6715452; omega)⟩ rfl (Nat.le_of_ble_eq_true rfl) rfl rfl (fun _ _ h => h.elim) ?_
  rintro _ w2 ⟨r2, s2x, rfl, fm2, h2, h2k⟩
  have LS2 := LS1.mod1 fm2 h2 (congrArg Prod.fst h2k) hk180
  refine j_istore (lo' := [(6, _), (5, _), (0, _), (1, _), (2, _), (3, _), (4, _)]) dL_law_1579 (by decide) rfl ?_
  refine j_goto (tgt := 2228) dL_law_1581 (by decide) ?_
  refine j_widen (kc' := kc + 200) (ks' := ks + 6000) (by omega) (by omega) ?_
  exact j_lo2 (KK _ _ LS2) (z_q1 rfl (z_q1 rfl (z_q1 rfl (z_q1 rfl (z_q1 rfl z_q0)))))
set_option maxRecDepth 100000 in
set_option maxHeartbeats 4000000 in
theorem lc_27 (hl : l.stackTraces = false) {w : z_W} {x i kc ks : Nat} {kn : Int32} (LS : z_LS x kn w) (hi6 : i + 6 ≤ z_sn G) (hsn : z_sn G ≤ 3072) (hkc : kc + 200 ≤ 793551) (hks : ks + 6000 ≤ 6715452) (KK : ∀ (kn9 : Int32) (w9 : z_W), z_LS x kn9 w9 → z_J G l mL_law z_SL 2228 (z_lol x i) [] w9 (kc + 200) (ks + 6000)) : z_J G l mL_law z_SL 1584 (z_lol x i) [] w kc ks := by
  show z_J G l mL_law _ 1584 [(0, _), (1, _), (2, _), (3, _), (4, _)] [] _ _ _
  refine j_aload_n dL_law_1584 rfl rfl ?_
  refine j_aload_n dL_law_1585 rfl rfl ?_
  refine j_iload dL_law_1586 rfl ?_
  refine j_iconst (v := 1) dL_law_1588 (by decide) ?_
  refine j_iadd dL_law_1589 ?_
  refine j_top (congrArg Value.int (show nI i + (1 : Int32) = nI (i + 1) from nI_add i 1)) ?_
  refine j_sld dL_law_1590 (vp_in_nI (by omega) (by omega)) ?_
  intro xs181
  refine j_aload_n dL_law_1591 rfl rfl ?_
  refine j_callSW dL_law_1592 kL_heardText lL_259 stL_heardText (lw_heardText hl w _ _ LS _) (Nat.le_of_ble_eq_true rfl) ⟨(by show _ ≤ 793551; omega), (by show _ ≤ 6715452; omega)⟩ rfl (Nat.le_of_ble_eq_true rfl) rfl rfl (fun _ _ h => h.elim) ?_
  rintro _ w1 ⟨⟨r1, rfl⟩, LS1⟩
  refine j_istore (lo' := [(5, _), (0, _), (1, _), (2, _), (3, _), (4, _)]) dL_law_1595 (by decide) rfl ?_
  refine j_aload_n dL_law_1597 rfl rfl ?_
  refine j_aload_n dL_law_1598 rfl rfl ?_
  refine j_iload dL_law_1599 rfl ?_
  refine j_iconst (v := 1) dL_law_1601 (by decide) ?_
  refine j_iadd dL_law_1602 ?_
  refine j_top (congrArg Value.int (show nI i + (1 : Int32) = nI (i + 1) from nI_add i 1)) ?_
  refine j_sld dL_law_1603 (vp_in_nI (by omega) (by omega)) ?_
  intro xs182
  obtain ⟨-, ⟨s183, hs183, hk183⟩, -⟩ := id LS1
  refine j_callV (q := (RX11, TX11, 8)) dL_law_1604 kX11_heardText lL_261 inX11_heardText seX11_heardText hs183.m rfl (cm_heardText hl w1 _ _ hs183) (Nat.le_of_ble_eq_true rfl) ⟨(by show _ ≤ 793551; omega), (by show _ ≤ 6715452; omega)⟩ rfl (Nat.le_of_ble_eq_true rfl) rfl rfl (fun _ _ h => h.elim) ?_
  rintro _ w2 ⟨r2, s2x, rfl, hir2, fm2, h2, h2k⟩
  have LS2 := LS1.mod1 fm2 h2 (congrArg Prod.fst h2k) hk183
  refine j_astore (lo' := [(6, _), (5, _), (0, _), (1, _), (2, _), (3, _), (4, _)]) dL_law_1607 hir2 (by decide) rfl ?_
  refine j_goto (tgt := 2228) dL_law_1609 (by decide) ?_
  refine j_widen (kc' := kc + 200) (ks' := ks + 6000) (by omega) (by omega) ?_
  exact j_lo2 (KK _ _ LS2) (z_q1 rfl (z_q1 rfl (z_q1 rfl (z_q1 rfl (z_q1 rfl z_q0)))))
set_option maxRecDepth 100000 in
set_option maxHeartbeats 4000000 in
theorem lc_28 (hl : l.stackTraces = false) {w : z_W} {x i kc ks : Nat} {kn : Int32} (LS : z_LS x kn w) (hi6 : i + 6 ≤ z_sn G) (hsn : z_sn G ≤ 3072) (hkc : kc + 200 ≤ 793551) (hks : ks + 6000 ≤ 6715452) (KK : ∀ (kn9 : Int32) (w9 : z_W), z_LS x kn9 w9 → z_J G l mL_law z_SL 2228 (z_lol x i) [] w9 (kc + 200) (ks + 6000)) : z_J G l mL_law z_SL 1612 (z_lol x i) [] w kc ks := by
  show z_J G l mL_law _ 1612 [(0, _), (1, _), (2, _), (3, _), (4, _)] [] _ _ _
  refine j_aload_n dL_law_1612 rfl rfl ?_
  refine j_aload_n dL_law_1613 rfl rfl ?_
  refine j_iload dL_law_1614 rfl ?_
  refine j_iconst (v := 1) dL_law_1616 (by decide) ?_
  refine j_iadd dL_law_1617 ?_
  refine j_top (congrArg Value.int (show nI i + (1 : Int32) = nI (i + 1) from nI_add i 1)) ?_
  refine j_sld dL_law_1618 (vp_in_nI (by omega) (by omega)) ?_
  intro xs184
  refine j_aload_n dL_law_1619 rfl rfl ?_
  refine j_callSW dL_law_1620 kL_length lL_262 stL_length (lw_length hl w _ _ LS _) (Nat.le_of_ble_eq_true rfl) ⟨(by show _ ≤ 793551; omega), (by show _ ≤ 6715452; omega)⟩ rfl (Nat.le_of_ble_eq_true rfl) rfl rfl (fun _ _ h => h.elim) ?_
  rintro _ w1 ⟨⟨r1, rfl⟩, LS1⟩
  refine j_istore (lo' := [(5, _), (0, _), (1, _), (2, _), (3, _), (4, _)]) dL_law_1623 (by decide) rfl ?_
  refine j_aload_n dL_law_1625 rfl rfl ?_
  refine j_aload_n dL_law_1626 rfl rfl ?_
  refine j_iload dL_law_1627 rfl ?_
  refine j_iconst (v := 1) dL_law_1629 (by decide) ?_
  refine j_iadd dL_law_1630 ?_
  refine j_top (congrArg Value.int (show nI i + (1 : Int32) = nI (i + 1) from nI_add i 1)) ?_
  refine j_sld dL_law_1631 (vp_in_nI (by omega) (by omega)) ?_
  intro xs185
  obtain ⟨-, ⟨s186, hs186, hk186⟩, -⟩ := id LS1
  refine j_callV (q := (RX11, TX11, 8)) dL_law_1632 kX11_length lL_264 inX11_length seX11_length hs186.m rfl (cm_length hl w1 _ _ hs186) (Nat.le_of_ble_eq_true rfl) ⟨(by show _ ≤ 793551; omega), (by show _ ≤ 6715452; omega)⟩ rfl (Nat.le_of_ble_eq_true rfl) rfl rfl (fun _ _ h => h.elim) ?_
  rintro _ w2 ⟨r2, s2x, rfl, fm2, h2, h2k⟩
  have LS2 := LS1.mod1 fm2 h2 (congrArg Prod.fst h2k) hk186
  refine j_istore (lo' := [(6, _), (5, _), (0, _), (1, _), (2, _), (3, _), (4, _)]) dL_law_1635 (by decide) rfl ?_
  refine j_goto (tgt := 2228) dL_law_1637 (by decide) ?_
  refine j_widen (kc' := kc + 200) (ks' := ks + 6000) (by omega) (by omega) ?_
  exact j_lo2 (KK _ _ LS2) (z_q1 rfl (z_q1 rfl (z_q1 rfl (z_q1 rfl (z_q1 rfl z_q0)))))
set_option maxRecDepth 100000 in
set_option maxHeartbeats 4000000 in
theorem lc_29 (hl : l.stackTraces = false) {w : z_W} {x i kc ks : Nat} {kn : Int32} (LS : z_LS x kn w) (hi6 : i + 6 ≤ z_sn G) (hsn : z_sn G ≤ 3072) (hkc : kc + 200 ≤ 793551) (hks : ks + 6000 ≤ 6715452) (KK : ∀ (kn9 : Int32) (w9 : z_W), z_LS x kn9 w9 → z_J G l mL_law z_SL 2228 (z_lol x i) [] w9 (kc + 200) (ks + 6000)) : z_J G l mL_law z_SL 1640 (z_lol x i) [] w kc ks := by
  show z_J G l mL_law _ 1640 [(0, _), (1, _), (2, _), (3, _), (4, _)] [] _ _ _
  refine j_aload_n dL_law_1640 rfl rfl ?_
  refine j_aload_n dL_law_1641 rfl rfl ?_
  refine j_iload dL_law_1642 rfl ?_
  refine j_iconst (v := 1) dL_law_1644 (by decide) ?_
  refine j_iadd dL_law_1645 ?_
  refine j_top (congrArg Value.int (show nI i + (1 : Int32) = nI (i + 1) from nI_add i 1)) ?_
  refine j_sld dL_law_1646 (vp_in_nI (by omega) (by omega)) ?_
  intro xs187
  refine j_aload_n dL_law_1647 rfl rfl ?_
  refine j_iload dL_law_1648 rfl ?_
  refine j_iconst (v := 2) dL_law_1650 (by decide) ?_
  refine j_iadd dL_law_1651 ?_
  refine j_top (congrArg Value.int (show nI i + (2 : Int32) = nI (i + 2) from nI_add i 2)) ?_
  refine j_sld dL_law_1652 (vp_in_nI (by omega) (by omega)) ?_
  intro xs188
  refine j_aload_n dL_law_1653 rfl rfl ?_
  refine j_callSW dL_law_1654 kL_at lL_265 stL_at (lw_at hl w _ _ LS _ _) (Nat.le_of_ble_eq_true rfl) ⟨(by show _ ≤ 793551; omega), (by show _ ≤ 6715452; omega)⟩ rfl (Nat.le_of_ble_eq_true rfl) rfl rfl (fun _ _ h => h.elim) ?_
  rintro _ w1 ⟨⟨r1, rfl⟩, LS1⟩
  refine j_istore (lo' := [(5, _), (0, _), (1, _), (2, _), (3, _), (4, _)]) dL_law_1657 (by decide) rfl ?_
  refine j_aload_n dL_law_1659 rfl rfl ?_
  refine j_aload_n dL_law_1660 rfl rfl ?_
  refine j_iload dL_law_1661 rfl ?_
  refine j_iconst (v := 1) dL_law_1663 (by decide) ?_
  refine j_iadd dL_law_1664 ?_
  refine j_top (congrArg Value.int (show nI i + (1 : Int32) = nI (i + 1) from nI_add i 1)) ?_
  refine j_sld dL_law_1665 (vp_in_nI (by omega) (by omega)) ?_
  intro xs189
  refine j_aload_n dL_law_1666 rfl rfl ?_
  refine j_iload dL_law_1667 rfl ?_
  refine j_iconst (v := 2) dL_law_1669 (by decide) ?_
  refine j_iadd dL_law_1670 ?_
  refine j_top (congrArg Value.int (show nI i + (2 : Int32) = nI (i + 2) from nI_add i 2)) ?_
  refine j_sld dL_law_1671 (vp_in_nI (by omega) (by omega)) ?_
  intro xs190
  obtain ⟨-, ⟨s191, hs191, hk191⟩, -⟩ := id LS1
  refine j_callV (q := (RX11, TX11, 8)) dL_law_1672 kX11_at lL_267 inX11_at seX11_at hs191.m rfl (cm_at hl w1 _ _ _ hs191) (Nat.le_of_ble_eq_true rfl) ⟨(by show _ ≤ 793551; omega), (by show _ ≤ 6715452; omega)⟩ rfl (Nat.le_of_ble_eq_true rfl) rfl rfl (fun _ _ h => h.elim) ?_
  rintro _ w2 ⟨r2, s2x, rfl, fm2, h2, h2k⟩
  have LS2 := LS1.mod1 fm2 h2 (congrArg Prod.fst h2k) hk191
  refine j_istore (lo' := [(6, _), (5, _), (0, _), (1, _), (2, _), (3, _), (4, _)]) dL_law_1675 (by decide) rfl ?_
  refine j_goto (tgt := 2228) dL_law_1677 (by decide) ?_
  refine j_widen (kc' := kc + 200) (ks' := ks + 6000) (by omega) (by omega) ?_
  exact j_lo2 (KK _ _ LS2) (z_q1 rfl (z_q1 rfl (z_q1 rfl (z_q1 rfl (z_q1 rfl z_q0)))))
set_option maxRecDepth 100000 in
set_option maxHeartbeats 4000000 in
theorem lc_30 (hl : l.stackTraces = false) {w : z_W} {x i kc ks : Nat} {kn : Int32} (LS : z_LS x kn w) (hi6 : i + 6 ≤ z_sn G) (hsn : z_sn G ≤ 3072) (hkc : kc + 200 ≤ 793551) (hks : ks + 6000 ≤ 6715452) (KK : ∀ (kn9 : Int32) (w9 : z_W), z_LS x kn9 w9 → z_J G l mL_law z_SL 2228 (z_lol x i) [] w9 (kc + 200) (ks + 6000)) : z_J G l mL_law z_SL 1680 (z_lol x i) [] w kc ks := by
  show z_J G l mL_law _ 1680 [(0, _), (1, _), (2, _), (3, _), (4, _)] [] _ _ _
  refine j_aload_n dL_law_1680 rfl rfl ?_
  refine j_aload_n dL_law_1681 rfl rfl ?_
  refine j_iload dL_law_1682 rfl ?_
  refine j_iconst (v := 1) dL_law_1684 (by decide) ?_
  refine j_iadd dL_law_1685 ?_
  refine j_top (congrArg Value.int (show nI i + (1 : Int32) = nI (i + 1) from nI_add i 1)) ?_
  refine j_sld dL_law_1686 (vp_in_nI (by omega) (by omega)) ?_
  intro xs192
  refine j_aload_n dL_law_1687 rfl rfl ?_
  refine j_callSW dL_law_1688 kL_rowText lL_268 stL_rowText (lw_rowText hl w _ _ LS _) (Nat.le_of_ble_eq_true rfl) ⟨(by show _ ≤ 793551; omega), (by show _ ≤ 6715452; omega)⟩ rfl (Nat.le_of_ble_eq_true rfl) rfl rfl (fun _ _ h => h.elim) ?_
  rintro _ w1 ⟨⟨r1, rfl⟩, LS1⟩
  refine j_istore (lo' := [(5, _), (0, _), (1, _), (2, _), (3, _), (4, _)]) dL_law_1691 (by decide) rfl ?_
  refine j_aload_n dL_law_1693 rfl rfl ?_
  refine j_aload_n dL_law_1694 rfl rfl ?_
  refine j_iload dL_law_1695 rfl ?_
  refine j_iconst (v := 1) dL_law_1697 (by decide) ?_
  refine j_iadd dL_law_1698 ?_
  refine j_top (congrArg Value.int (show nI i + (1 : Int32) = nI (i + 1) from nI_add i 1)) ?_
  refine j_sld dL_law_1699 (vp_in_nI (by omega) (by omega)) ?_
  intro xs193
  obtain ⟨-, ⟨s194, hs194, hk194⟩, -⟩ := id LS1
  refine j_callV (q := (RX11, TX11, 8)) dL_law_1700 kX11_rowText lL_270 inX11_rowText seX11_rowText hs194.m rfl (cm_rowText hl w1 _ _ hs194) (Nat.le_of_ble_eq_true rfl) ⟨(by show _ ≤ 793551; omega), (by show _ ≤ 6715452; omega)⟩ rfl (Nat.le_of_ble_eq_true rfl) rfl rfl (fun _ _ h => h.elim) ?_
  rintro _ w2 ⟨r2, s2x, rfl, hir2, fm2, h2, h2k⟩
  have LS2 := LS1.mod1 fm2 h2 (congrArg Prod.fst h2k) hk194
  refine j_astore (lo' := [(6, _), (5, _), (0, _), (1, _), (2, _), (3, _), (4, _)]) dL_law_1703 hir2 (by decide) rfl ?_
  refine j_goto (tgt := 2228) dL_law_1705 (by decide) ?_
  refine j_widen (kc' := kc + 200) (ks' := ks + 6000) (by omega) (by omega) ?_
  exact j_lo2 (KK _ _ LS2) (z_q1 rfl (z_q1 rfl (z_q1 rfl (z_q1 rfl (z_q1 rfl z_q0)))))
set_option maxRecDepth 100000 in
set_option maxHeartbeats 4000000 in
theorem lc_31 (hl : l.stackTraces = false) {w : z_W} {x i kc ks : Nat} {kn : Int32} (LS : z_LS x kn w) (hi6 : i + 6 ≤ z_sn G) (hsn : z_sn G ≤ 3072) (hkc : kc + 200 ≤ 793551) (hks : ks + 6000 ≤ 6715452) (KK : ∀ (kn9 : Int32) (w9 : z_W), z_LS x kn9 w9 → z_J G l mL_law z_SL 2228 (z_lol x i) [] w9 (kc + 200) (ks + 6000)) : z_J G l mL_law z_SL 1708 (z_lol x i) [] w kc ks := by
  show z_J G l mL_law _ 1708 [(0, _), (1, _), (2, _), (3, _), (4, _)] [] _ _ _
  refine j_aload_n dL_law_1708 rfl rfl ?_
  refine j_aload_n dL_law_1709 rfl rfl ?_
  refine j_iload dL_law_1710 rfl ?_
  refine j_iconst (v := 1) dL_law_1712 (by decide) ?_
  refine j_iadd dL_law_1713 ?_
  refine j_top (congrArg Value.int (show nI i + (1 : Int32) = nI (i + 1) from nI_add i 1)) ?_
  refine j_sld dL_law_1714 (vp_in_nI (by omega) (by omega)) ?_
  intro xs195
  refine j_aload_n dL_law_1715 rfl rfl ?_
  refine j_callSW dL_law_1716 kL_isFixed lL_271 stL_isFixed (lw_isFixed hl w _ _ LS _) (Nat.le_of_ble_eq_true rfl) ⟨(by show _ ≤ 793551; omega), (by show _ ≤ 6715452; omega)⟩ rfl (Nat.le_of_ble_eq_true rfl) rfl rfl (fun _ _ h => h.elim) ?_
  rintro _ w1 ⟨⟨r1, rfl⟩, LS1⟩
  refine j_istore (lo' := [(5, _), (0, _), (1, _), (2, _), (3, _), (4, _)]) dL_law_1719 (by decide) rfl ?_
  refine j_aload_n dL_law_1721 rfl rfl ?_
  refine j_aload_n dL_law_1722 rfl rfl ?_
  refine j_iload dL_law_1723 rfl ?_
  refine j_iconst (v := 1) dL_law_1725 (by decide) ?_
  refine j_iadd dL_law_1726 ?_
  refine j_top (congrArg Value.int (show nI i + (1 : Int32) = nI (i + 1) from nI_add i 1)) ?_
  refine j_sld dL_law_1727 (vp_in_nI (by omega) (by omega)) ?_
  intro xs196
  obtain ⟨-, ⟨s197, hs197, hk197⟩, -⟩ := id LS1
  refine j_callV (q := (RX11, TX11, 8)) dL_law_1728 kX11_isFixed lL_273 inX11_isFixed seX11_isFixed hs197.m rfl (cm_isFixed hl w1 _ _ hs197) (Nat.le_of_ble_eq_true rfl) ⟨(by show _ ≤ 793551; omega), (by show _ ≤ 6715452; omega)⟩ rfl (Nat.le_of_ble_eq_true rfl) rfl rfl (fun _ _ h => h.elim) ?_
  rintro _ w2 ⟨r2, s2x, rfl, fm2, h2, h2k⟩
  have LS2 := LS1.mod1 fm2 h2 (congrArg Prod.fst h2k) hk197
  refine j_istore (lo' := [(6, _), (5, _), (0, _), (1, _), (2, _), (3, _), (4, _)]) dL_law_1731 (by decide) rfl ?_
  refine j_goto (tgt := 2228) dL_law_1733 (by decide) ?_
  refine j_widen (kc' := kc + 200) (ks' := ks + 6000) (by omega) (by omega) ?_
  exact j_lo2 (KK _ _ LS2) (z_q1 rfl (z_q1 rfl (z_q1 rfl (z_q1 rfl (z_q1 rfl z_q0)))))
set_option maxRecDepth 100000 in
set_option maxHeartbeats 4000000 in
theorem lc_32 (hl : l.stackTraces = false) {w : z_W} {x i kc ks : Nat} {kn : Int32} (LS : z_LS x kn w) (hi6 : i + 6 ≤ z_sn G) (hsn : z_sn G ≤ 3072) (hkc : kc + 200 ≤ 793551) (hks : ks + 6000 ≤ 6715452) (KK : ∀ (kn9 : Int32) (w9 : z_W), z_LS x kn9 w9 → z_J G l mL_law z_SL 2228 (z_lol x i) [] w9 (kc + 200) (ks + 6000)) : z_J G l mL_law z_SL 1736 (z_lol x i) [] w kc ks := by
  show z_J G l mL_law _ 1736 [(0, _), (1, _), (2, _), (3, _), (4, _)] [] _ _ _
  refine j_aload_n dL_law_1736 rfl rfl ?_
  refine j_aload_n dL_law_1737 rfl rfl ?_
  refine j_iload dL_law_1738 rfl ?_
  refine j_iconst (v := 1) dL_law_1740 (by decide) ?_
  refine j_iadd dL_law_1741 ?_
  refine j_top (congrArg Value.int (show nI i + (1 : Int32) = nI (i + 1) from nI_add i 1)) ?_
  refine j_sld dL_law_1742 (vp_in_nI (by omega) (by omega)) ?_
  intro xs198
  refine j_aload_n dL_law_1743 rfl rfl ?_
  refine j_iload dL_law_1744 rfl ?_
  refine j_iconst (v := 2) dL_law_1746 (by decide) ?_
  refine j_iadd dL_law_1747 ?_
  refine j_top (congrArg Value.int (show nI i + (2 : Int32) = nI (i + 2) from nI_add i 2)) ?_
  refine j_sld dL_law_1748 (vp_in_nI (by omega) (by omega)) ?_
  intro xs199
  refine j_aload_n dL_law_1749 rfl rfl ?_
  refine j_callSW dL_law_1750 kL_counts lL_274 stL_counts (lw_counts hl w _ _ LS _ _) (Nat.le_of_ble_eq_true rfl) ⟨(by show _ ≤ 793551; omega), (by show _ ≤ 6715452; omega)⟩ rfl (Nat.le_of_ble_eq_true rfl) rfl rfl (fun _ _ h => h.elim) ?_
  rintro _ w1 ⟨⟨r1, rfl⟩, LS1⟩
  refine j_istore (lo' := [(5, _), (0, _), (1, _), (2, _), (3, _), (4, _)]) dL_law_1753 (by decide) rfl ?_
  refine j_aload_n dL_law_1755 rfl rfl ?_
  refine j_aload_n dL_law_1756 rfl rfl ?_
  refine j_iload dL_law_1757 rfl ?_
  refine j_iconst (v := 1) dL_law_1759 (by decide) ?_
  refine j_iadd dL_law_1760 ?_
  refine j_top (congrArg Value.int (show nI i + (1 : Int32) = nI (i + 1) from nI_add i 1)) ?_
  refine j_sld dL_law_1761 (vp_in_nI (by omega) (by omega)) ?_
  intro xs200
  refine j_aload_n dL_law_1762 rfl rfl ?_
  refine j_iload dL_law_1763 rfl ?_
  refine j_iconst (v := 2) dL_law_1765 (by decide) ?_
  refine j_iadd dL_law_1766 ?_
  refine j_top (congrArg Value.int (show nI i + (2 : Int32) = nI (i + 2) from nI_add i 2)) ?_
  refine j_sld dL_law_1767 (vp_in_nI (by omega) (by omega)) ?_
  intro xs201
  obtain ⟨-, ⟨s202, hs202, hk202⟩, -⟩ := id LS1
  refine j_callV (q := (RX11, TX11, 8)) dL_law_1768 kX11_counts lL_276 inX11_counts seX11_counts hs202.m rfl (cm_counts hl w1 _ _ _ hs202) (Nat.le_of_ble_eq_true rfl) ⟨(by show _ ≤ 793551; omega), (by show _ ≤ 6715452; omega)⟩ rfl (Nat.le_of_ble_eq_true rfl) rfl rfl (fun _ _ h => h.elim) ?_
  rintro _ w2 ⟨r2, s2x, rfl, fm2, h2, h2k⟩
  have LS2 := LS1.mod1 fm2 h2 (congrArg Prod.fst h2k) hk202
  refine j_istore (lo' := [(6, _), (5, _), (0, _), (1, _), (2, _), (3, _), (4, _)]) dL_law_1771 (by decide) rfl ?_
  refine j_goto (tgt := 2228) dL_law_1773 (by decide) ?_
  refine j_widen (kc' := kc + 200) (ks' := ks + 6000) (by omega) (by omega) ?_
  exact j_lo2 (KK _ _ LS2) (z_q1 rfl (z_q1 rfl (z_q1 rfl (z_q1 rfl (z_q1 rfl z_q0)))))
set_option maxRecDepth 100000 in
set_option maxHeartbeats 4000000 in
theorem lc_33 (hl : l.stackTraces = false) {w : z_W} {x i kc ks : Nat} {kn : Int32} (LS : z_LS x kn w) (hi6 : i + 6 ≤ z_sn G) (hsn : z_sn G ≤ 3072) (hkc : kc + 200 ≤ 793551) (hks : ks + 6000 ≤ 6715452) (KK : ∀ (kn9 : Int32) (w9 : z_W), z_LS x kn9 w9 → z_J G l mL_law z_SL 2228 (z_lol x i) [] w9 (kc + 200) (ks + 6000)) : z_J G l mL_law z_SL 1776 (z_lol x i) [] w kc ks := by
  show z_J G l mL_law _ 1776 [(0, _), (1, _), (2, _), (3, _), (4, _)] [] _ _ _
  refine j_aload_n dL_law_1776 rfl rfl ?_
  refine j_aload_n dL_law_1777 rfl rfl ?_
  refine j_iload dL_law_1778 rfl ?_
  refine j_iconst (v := 1) dL_law_1780 (by decide) ?_
  refine j_iadd dL_law_1781 ?_
  refine j_top (congrArg Value.int (show nI i + (1 : Int32) = nI (i + 1) from nI_add i 1)) ?_
  refine j_sld dL_law_1782 (vp_in_nI (by omega) (by omega)) ?_
  intro xs203
  refine j_aload_n dL_law_1783 rfl rfl ?_
  refine j_callSW dL_law_1784 kL_shelfCounts lL_277 stL_shelfCounts (lw_shelfCounts hl w _ _ LS _) (Nat.le_of_ble_eq_true rfl) ⟨(by show _ ≤ 793551; omega), (by show _ ≤ 6715452; omega)⟩ rfl (Nat.le_of_ble_eq_true rfl) rfl rfl (fun _ _ h => h.elim) ?_
  rintro _ w1 ⟨⟨r1, rfl⟩, LS1⟩
  refine j_istore (lo' := [(5, _), (0, _), (1, _), (2, _), (3, _), (4, _)]) dL_law_1787 (by decide) rfl ?_
  refine j_aload_n dL_law_1789 rfl rfl ?_
  refine j_aload_n dL_law_1790 rfl rfl ?_
  refine j_iload dL_law_1791 rfl ?_
  refine j_iconst (v := 1) dL_law_1793 (by decide) ?_
  refine j_iadd dL_law_1794 ?_
  refine j_top (congrArg Value.int (show nI i + (1 : Int32) = nI (i + 1) from nI_add i 1)) ?_
  refine j_sld dL_law_1795 (vp_in_nI (by omega) (by omega)) ?_
  intro xs204
  obtain ⟨-, ⟨s205, hs205, hk205⟩, -⟩ := id LS1
  refine j_callV (q := (RX11, TX11, 8)) dL_law_1796 kX11_shelfCounts lL_279 inX11_shelfCounts seX11_shelfCounts hs205.m rfl (cm_shelfCounts hl w1 _ _ hs205) (Nat.le_of_ble_eq_true rfl) ⟨(by show _ ≤ 793551; omega), (by show _ ≤ 6715452; omega)⟩ rfl (Nat.le_of_ble_eq_true rfl) rfl rfl (fun _ _ h => h.elim) ?_
  rintro _ w2 ⟨r2, s2x, rfl, fm2, h2, h2k⟩
  have LS2 := LS1.mod1 fm2 h2 (congrArg Prod.fst h2k) hk205
  refine j_istore (lo' := [(6, _), (5, _), (0, _), (1, _), (2, _), (3, _), (4, _)]) dL_law_1799 (by decide) rfl ?_
  refine j_goto (tgt := 2228) dL_law_1801 (by decide) ?_
  refine j_widen (kc' := kc + 200) (ks' := ks + 6000) (by omega) (by omega) ?_
  exact j_lo2 (KK _ _ LS2) (z_q1 rfl (z_q1 rfl (z_q1 rfl (z_q1 rfl (z_q1 rfl z_q0)))))
set_option maxRecDepth 100000 in
set_option maxHeartbeats 4000000 in
theorem lc_34 (hl : l.stackTraces = false) {w : z_W} {x i kc ks : Nat} {kn : Int32} (LS : z_LS x kn w) (hi6 : i + 6 ≤ z_sn G) (hsn : z_sn G ≤ 3072) (hkc : kc + 200 ≤ 793551) (hks : ks + 6000 ≤ 6715452) (KK : ∀ (kn9 : Int32) (w9 : z_W), z_LS x kn9 w9 → z_J G l mL_law z_SL 2228 (z_lol x i) [] w9 (kc + 200) (ks + 6000)) : z_J G l mL_law z_SL 1804 (z_lol x i) [] w kc ks := by
  show z_J G l mL_law _ 1804 [(0, _), (1, _), (2, _), (3, _), (4, _)] [] _ _ _
  refine j_aload_n dL_law_1804 rfl rfl ?_
  obtain ⟨fs206, gs206⟩ := LS.rc
  refine j_callV (q := (RX8, TX8, 9)) dL_law_1805 kX8_forgetCounts lL_280 inX8_forgetCounts seX8_forgetCounts gs206 rfl (p_forgetCounts hl w _ LS.1) (Nat.le_of_ble_eq_true rfl) ⟨(by show _ ≤ 793551; omega), (by show _ ≤ 6715452; omega)⟩ rfl (Nat.le_of_ble_eq_true rfl) rfl rfl (fun _ _ h => h.elim) ?_
  rintro _ w1 ⟨⟨x1, rfl⟩, hW1, hh1⟩
  have LS1 := LS.cls hW1 hh1
  refine j_pop dL_law_1808 rfl ?_
  refine j_aload_n dL_law_1809 rfl rfl ?_
  obtain ⟨-, ⟨s207, hs207, hk207⟩, -⟩ := id LS1
  refine j_callV (q := (RX11, TX11, 8)) dL_law_1810 kX11_forgetCounts lL_284 inX11_forgetCounts seX11_forgetCounts hs207.m rfl (cm_forgetCounts hl w1 _ hs207) (Nat.le_of_ble_eq_true rfl) ⟨(by show _ ≤ 793551; omega), (by show _ ≤ 6715452; omega)⟩ rfl (Nat.le_of_ble_eq_true rfl) rfl rfl (fun _ _ h => h.elim) ?_
  rintro _ w2 ⟨r2, s2x, rfl, fm2, h2, h2k⟩
  have LS2 := LS1.mod1 fm2 h2 (congrArg Prod.fst h2k) hk207
  refine j_pop dL_law_1813 rfl ?_
  refine j_goto (tgt := 2228) dL_law_1814 (by decide) ?_
  refine j_widen (kc' := kc + 200) (ks' := ks + 6000) (by omega) (by omega) ?_
  exact j_lo2 (KK _ _ LS2) (z_q1 rfl (z_q1 rfl (z_q1 rfl (z_q1 rfl (z_q1 rfl z_q0)))))
set_option maxRecDepth 100000 in
set_option maxHeartbeats 4000000 in
theorem lc_35 (hl : l.stackTraces = false) {w : z_W} {x i kc ks : Nat} {kn : Int32} (LS : z_LS x kn w) (hi6 : i + 6 ≤ z_sn G) (hsn : z_sn G ≤ 3072) (hkc : kc + 200 ≤ 793551) (hks : ks + 6000 ≤ 6715452) (KK : ∀ (kn9 : Int32) (w9 : z_W), z_LS x kn9 w9 → z_J G l mL_law z_SL 2228 (z_lol x i) [] w9 (kc + 200) (ks + 6000)) : z_J G l mL_law z_SL 1817 (z_lol x i) [] w kc ks := by
  show z_J G l mL_law _ 1817 [(0, _), (1, _), (2, _), (3, _), (4, _)] [] _ _ _
  refine j_aload_n dL_law_1817 rfl rfl ?_
  refine j_aload_n dL_law_1818 rfl rfl ?_
  refine j_iload dL_law_1819 rfl ?_
  refine j_iconst (v := 1) dL_law_1821 (by decide) ?_
  refine j_iadd dL_law_1822 ?_
  refine j_top (congrArg Value.int (show nI i + (1 : Int32) = nI (i + 1) from nI_add i 1)) ?_
  refine j_sld dL_law_1823 (vp_in_nI (by omega) (by omega)) ?_
  intro xs208
  refine j_aload_n dL_law_1824 rfl rfl ?_
  refine j_iload dL_law_1825 rfl ?_
  refine j_iconst (v := 2) dL_law_1827 (by decide) ?_
  refine j_iadd dL_law_1828 ?_
  refine j_top (congrArg Value.int (show nI i + (2 : Int32) = nI (i + 2) from nI_add i 2)) ?_
  refine j_sld dL_law_1829 (vp_in_nI (by omega) (by omega)) ?_
  intro xs209
  refine j_aload_n dL_law_1830 rfl rfl ?_
  refine j_callSW dL_law_1831 kL_get lL_285 stL_get (lw_get hl w _ _ LS _ _) (Nat.le_of_ble_eq_true rfl) ⟨(by show _ ≤ 793551; omega), (by show _ ≤ 6715452; omega)⟩ rfl (Nat.le_of_ble_eq_true rfl) rfl rfl (fun _ _ h => h.elim) ?_
  rintro _ w1 ⟨⟨r1, rfl⟩, LS1⟩
  refine j_istore (lo' := [(5, _), (0, _), (1, _), (2, _), (3, _), (4, _)]) dL_law_1834 (by decide) rfl ?_
  refine j_aload_n dL_law_1836 rfl rfl ?_
  refine j_aload_n dL_law_1837 rfl rfl ?_
  refine j_iload dL_law_1838 rfl ?_
  refine j_iconst (v := 1) dL_law_1840 (by decide) ?_
  refine j_iadd dL_law_1841 ?_
  refine j_top (congrArg Value.int (show nI i + (1 : Int32) = nI (i + 1) from nI_add i 1)) ?_
  refine j_sld dL_law_1842 (vp_in_nI (by omega) (by omega)) ?_
  intro xs210
  refine j_aload_n dL_law_1843 rfl rfl ?_
  refine j_iload dL_law_1844 rfl ?_
  refine j_iconst (v := 2) dL_law_1846 (by decide) ?_
  refine j_iadd dL_law_1847 ?_
  refine j_top (congrArg Value.int (show nI i + (2 : Int32) = nI (i + 2) from nI_add i 2)) ?_
  refine j_sld dL_law_1848 (vp_in_nI (by omega) (by omega)) ?_
  intro xs211
  obtain ⟨-, ⟨s212, hs212, hk212⟩, -⟩ := id LS1
  refine j_callV (q := (RX11, TX11, 8)) dL_law_1849 kX11_get lL_287 inX11_get seX11_get hs212.m rfl (cm_get hl w1 _ _ _ hs212) (Nat.le_of_ble_eq_true rfl) ⟨(by show _ ≤ 793551; omega), (by show _ ≤ 6715452; omega)⟩ rfl (Nat.le_of_ble_eq_true rfl) rfl rfl (fun _ _ h => h.elim) ?_
  rintro _ w2 ⟨r2, s2x, rfl, fm2, h2, h2k⟩
  have LS2 := LS1.mod1 fm2 h2 (congrArg Prod.fst h2k) hk212
  refine j_istore (lo' := [(6, _), (5, _), (0, _), (1, _), (2, _), (3, _), (4, _)]) dL_law_1852 (by decide) rfl ?_
  refine j_goto (tgt := 2228) dL_law_1854 (by decide) ?_
  refine j_widen (kc' := kc + 200) (ks' := ks + 6000) (by omega) (by omega) ?_
  exact j_lo2 (KK _ _ LS2) (z_q1 rfl (z_q1 rfl (z_q1 rfl (z_q1 rfl (z_q1 rfl z_q0)))))
set_option maxRecDepth 100000 in
set_option maxHeartbeats 4000000 in
theorem lc_36 (hl : l.stackTraces = false) {w : z_W} {x i kc ks : Nat} {kn : Int32} (LS : z_LS x kn w) (hi6 : i + 6 ≤ z_sn G) (hsn : z_sn G ≤ 3072) (hkc : kc + 200 ≤ 793551) (hks : ks + 6000 ≤ 6715452) (KK : ∀ (kn9 : Int32) (w9 : z_W), z_LS x kn9 w9 → z_J G l mL_law z_SL 2228 (z_lol x i) [] w9 (kc + 200) (ks + 6000)) : z_J G l mL_law z_SL 1857 (z_lol x i) [] w kc ks := by
  show z_J G l mL_law _ 1857 [(0, _), (1, _), (2, _), (3, _), (4, _)] [] _ _ _
  refine j_aload_n dL_law_1857 rfl rfl ?_
  refine j_aload_n dL_law_1858 rfl rfl ?_
  refine j_iload dL_law_1859 rfl ?_
  refine j_iconst (v := 1) dL_law_1861 (by decide) ?_
  refine j_iadd dL_law_1862 ?_
  refine j_top (congrArg Value.int (show nI i + (1 : Int32) = nI (i + 1) from nI_add i 1)) ?_
  refine j_sld dL_law_1863 (vp_in_nI (by omega) (by omega)) ?_
  intro xs213
  refine j_aload_n dL_law_1864 rfl rfl ?_
  refine j_iload dL_law_1865 rfl ?_
  refine j_iconst (v := 2) dL_law_1867 (by decide) ?_
  refine j_iadd dL_law_1868 ?_
  refine j_top (congrArg Value.int (show nI i + (2 : Int32) = nI (i + 2) from nI_add i 2)) ?_
  refine j_sld dL_law_1869 (vp_in_nI (by omega) (by omega)) ?_
  intro xs214
  refine j_aload_n dL_law_1870 rfl rfl ?_
  refine j_iload dL_law_1871 rfl ?_
  refine j_iconst (v := 3) dL_law_1873 (by decide) ?_
  refine j_iadd dL_law_1874 ?_
  refine j_top (congrArg Value.int (show nI i + (3 : Int32) = nI (i + 3) from nI_add i 3)) ?_
  refine j_sld dL_law_1875 (vp_in_nI (by omega) (by omega)) ?_
  intro xs215
  refine j_aload_n dL_law_1876 rfl rfl ?_
  refine j_callSW dL_law_1877 kL_getOr lL_288 stL_getOr (lw_getOr hl w _ _ LS _ _ _) (Nat.le_of_ble_eq_true rfl) ⟨(by show _ ≤ 793551; omega), (by show _ ≤ 6715452; omega)⟩ rfl (Nat.le_of_ble_eq_true rfl) rfl rfl (fun _ _ h => h.elim) ?_
  rintro _ w1 ⟨⟨r1, rfl⟩, LS1⟩
  refine j_istore (lo' := [(5, _), (0, _), (1, _), (2, _), (3, _), (4, _)]) dL_law_1880 (by decide) rfl ?_
  refine j_aload_n dL_law_1882 rfl rfl ?_
  refine j_aload_n dL_law_1883 rfl rfl ?_
  refine j_iload dL_law_1884 rfl ?_
  refine j_iconst (v := 1) dL_law_1886 (by decide) ?_
  refine j_iadd dL_law_1887 ?_
  refine j_top (congrArg Value.int (show nI i + (1 : Int32) = nI (i + 1) from nI_add i 1)) ?_
  refine j_sld dL_law_1888 (vp_in_nI (by omega) (by omega)) ?_
  intro xs216
  refine j_aload_n dL_law_1889 rfl rfl ?_
  refine j_iload dL_law_1890 rfl ?_
  refine j_iconst (v := 2) dL_law_1892 (by decide) ?_
  refine j_iadd dL_law_1893 ?_
  refine j_top (congrArg Value.int (show nI i + (2 : Int32) = nI (i + 2) from nI_add i 2)) ?_
  refine j_sld dL_law_1894 (vp_in_nI (by omega) (by omega)) ?_
  intro xs217
  refine j_aload_n dL_law_1895 rfl rfl ?_
  refine j_iload dL_law_1896 rfl ?_
  refine j_iconst (v := 3) dL_law_1898 (by decide) ?_
  refine j_iadd dL_law_1899 ?_
  refine j_top (congrArg Value.int (show nI i + (3 : Int32) = nI (i + 3) from nI_add i 3)) ?_
  refine j_sld dL_law_1900 (vp_in_nI (by omega) (by omega)) ?_
  intro xs218
  obtain ⟨-, ⟨s219, hs219, hk219⟩, -⟩ := id LS1
  refine j_callV (q := (RX11, TX11, 8)) dL_law_1901 kX11_getOr lL_290 inX11_getOr seX11_getOr hs219.m rfl (cm_getOr hl w1 _ _ _ _ hs219) (Nat.le_of_ble_eq_true rfl) ⟨(by show _ ≤ 793551; omega), (by show _ ≤ 6715452; omega)⟩ rfl (Nat.le_of_ble_eq_true rfl) rfl rfl (fun _ _ h => h.elim) ?_
  rintro _ w2 ⟨r2, s2x, rfl, fm2, h2, h2k⟩
  have LS2 := LS1.mod1 fm2 h2 (congrArg Prod.fst h2k) hk219
  refine j_istore (lo' := [(6, _), (5, _), (0, _), (1, _), (2, _), (3, _), (4, _)]) dL_law_1904 (by decide) rfl ?_
  refine j_goto (tgt := 2228) dL_law_1906 (by decide) ?_
  refine j_widen (kc' := kc + 200) (ks' := ks + 6000) (by omega) (by omega) ?_
  exact j_lo2 (KK _ _ LS2) (z_q1 rfl (z_q1 rfl (z_q1 rfl (z_q1 rfl (z_q1 rfl z_q0)))))
set_option maxRecDepth 100000 in
set_option maxHeartbeats 4000000 in
theorem lc_37 (hl : l.stackTraces = false) {w : z_W} {x i kc ks : Nat} {kn : Int32} (LS : z_LS x kn w) (hi6 : i + 6 ≤ z_sn G) (hsn : z_sn G ≤ 3072) (hkc : kc + 200 ≤ 793551) (hks : ks + 6000 ≤ 6715452) (KK : ∀ (kn9 : Int32) (w9 : z_W), z_LS x kn9 w9 → z_J G l mL_law z_SL 2228 (z_lol x i) [] w9 (kc + 200) (ks + 6000)) : z_J G l mL_law z_SL 1909 (z_lol x i) [] w kc ks := by
  show z_J G l mL_law _ 1909 [(0, _), (1, _), (2, _), (3, _), (4, _)] [] _ _ _
  refine j_aload_n dL_law_1909 rfl rfl ?_
  refine j_aload_n dL_law_1910 rfl rfl ?_
  refine j_iload dL_law_1911 rfl ?_
  refine j_iconst (v := 1) dL_law_1913 (by decide) ?_
  refine j_iadd dL_law_1914 ?_
  refine j_top (congrArg Value.int (show nI i + (1 : Int32) = nI (i + 1) from nI_add i 1)) ?_
  refine j_sld dL_law_1915 (vp_in_nI (by omega) (by omega)) ?_
  intro xs220
  refine j_aload_n dL_law_1916 rfl rfl ?_
  refine j_iload dL_law_1917 rfl ?_
  refine j_iconst (v := 2) dL_law_1919 (by decide) ?_
  refine j_iadd dL_law_1920 ?_
  refine j_top (congrArg Value.int (show nI i + (2 : Int32) = nI (i + 2) from nI_add i 2)) ?_
  refine j_sld dL_law_1921 (vp_in_nI (by omega) (by omega)) ?_
  intro xs221
  refine j_aload_n dL_law_1922 rfl rfl ?_
  refine j_callSW dL_law_1923 kL_has lL_291 stL_has (lw_has hl w _ _ LS _ _) (Nat.le_of_ble_eq_true rfl) ⟨(by show _ ≤ 793551; omega), (by show _ ≤ 6715452; omega)⟩ rfl (Nat.le_of_ble_eq_true rfl) rfl rfl (fun _ _ h => h.elim) ?_
  rintro _ w1 ⟨⟨r1, rfl⟩, LS1⟩
  refine j_istore (lo' := [(5, _), (0, _), (1, _), (2, _), (3, _), (4, _)]) dL_law_1926 (by decide) rfl ?_
  refine j_aload_n dL_law_1928 rfl rfl ?_
  refine j_aload_n dL_law_1929 rfl rfl ?_
  refine j_iload dL_law_1930 rfl ?_
  refine j_iconst (v := 1) dL_law_1932 (by decide) ?_
  refine j_iadd dL_law_1933 ?_
  refine j_top (congrArg Value.int (show nI i + (1 : Int32) = nI (i + 1) from nI_add i 1)) ?_
  refine j_sld dL_law_1934 (vp_in_nI (by omega) (by omega)) ?_
  intro xs222
  refine j_aload_n dL_law_1935 rfl rfl ?_
  refine j_iload dL_law_1936 rfl ?_
  refine j_iconst (v := 2) dL_law_1938 (by decide) ?_
  refine j_iadd dL_law_1939 ?_
  refine j_top (congrArg Value.int (show nI i + (2 : Int32) = nI (i + 2) from nI_add i 2)) ?_
  refine j_sld dL_law_1940 (vp_in_nI (by omega) (by omega)) ?_
  intro xs223
  obtain ⟨-, ⟨s224, hs224, hk224⟩, -⟩ := id LS1
  refine j_callV (q := (RX11, TX11, 8)) dL_law_1941 kX11_has lL_293 inX11_has seX11_has hs224.m rfl (cm_has hl w1 _ _ _ hs224) (Nat.le_of_ble_eq_true rfl) ⟨(by show _ ≤ 793551; omega), (by show _ ≤ 6715452; omega)⟩ rfl (Nat.le_of_ble_eq_true rfl) rfl rfl (fun _ _ h => h.elim) ?_
  rintro _ w2 ⟨r2, s2x, rfl, fm2, h2, h2k⟩
  have LS2 := LS1.mod1 fm2 h2 (congrArg Prod.fst h2k) hk224
  refine j_istore (lo' := [(6, _), (5, _), (0, _), (1, _), (2, _), (3, _), (4, _)]) dL_law_1944 (by decide) rfl ?_
  refine j_goto (tgt := 2228) dL_law_1946 (by decide) ?_
  refine j_widen (kc' := kc + 200) (ks' := ks + 6000) (by omega) (by omega) ?_
  exact j_lo2 (KK _ _ LS2) (z_q1 rfl (z_q1 rfl (z_q1 rfl (z_q1 rfl (z_q1 rfl z_q0)))))
set_option maxRecDepth 100000 in
set_option maxHeartbeats 4000000 in
theorem lc_38 (hl : l.stackTraces = false) {w : z_W} {x i kc ks : Nat} {kn : Int32} (LS : z_LS x kn w) (hi6 : i + 6 ≤ z_sn G) (hsn : z_sn G ≤ 3072) (hkc : kc + 200 ≤ 793551) (hks : ks + 6000 ≤ 6715452) (KK : ∀ (kn9 : Int32) (w9 : z_W), z_LS x kn9 w9 → z_J G l mL_law z_SL 2228 (z_lol x i) [] w9 (kc + 200) (ks + 6000)) : z_J G l mL_law z_SL 1949 (z_lol x i) [] w kc ks := by
  show z_J G l mL_law _ 1949 [(0, _), (1, _), (2, _), (3, _), (4, _)] [] _ _ _
  refine j_aload_n dL_law_1949 rfl rfl ?_
  refine j_aload_n dL_law_1950 rfl rfl ?_
  refine j_iload dL_law_1951 rfl ?_
  refine j_iconst (v := 1) dL_law_1953 (by decide) ?_
  refine j_iadd dL_law_1954 ?_
  refine j_top (congrArg Value.int (show nI i + (1 : Int32) = nI (i + 1) from nI_add i 1)) ?_
  refine j_sld dL_law_1955 (vp_in_nI (by omega) (by omega)) ?_
  intro xs225
  refine j_aload_n dL_law_1956 rfl rfl ?_
  refine j_callSW dL_law_1957 kL_size lL_294 stL_size (lw_size hl w _ _ LS _) (Nat.le_of_ble_eq_true rfl) ⟨(by show _ ≤ 793551; omega), (by show _ ≤ 6715452; omega)⟩ rfl (Nat.le_of_ble_eq_true rfl) rfl rfl (fun _ _ h => h.elim) ?_
  rintro _ w1 ⟨⟨r1, rfl⟩, LS1⟩
  refine j_istore (lo' := [(5, _), (0, _), (1, _), (2, _), (3, _), (4, _)]) dL_law_1960 (by decide) rfl ?_
  refine j_aload_n dL_law_1962 rfl rfl ?_
  refine j_aload_n dL_law_1963 rfl rfl ?_
  refine j_iload dL_law_1964 rfl ?_
  refine j_iconst (v := 1) dL_law_1966 (by decide) ?_
  refine j_iadd dL_law_1967 ?_
  refine j_top (congrArg Value.int (show nI i + (1 : Int32) = nI (i + 1) from nI_add i 1)) ?_
  refine j_sld dL_law_1968 (vp_in_nI (by omega) (by omega)) ?_
  intro xs226
  obtain ⟨-, ⟨s227, hs227, hk227⟩, -⟩ := id LS1
  refine j_callV (q := (RX11, TX11, 8)) dL_law_1969 kX11_size lL_296 inX11_size seX11_size hs227.m rfl (cm_size hl w1 _ _ hs227) (Nat.le_of_ble_eq_true rfl) ⟨(by show _ ≤ 793551; omega), (by show _ ≤ 6715452; omega)⟩ rfl (Nat.le_of_ble_eq_true rfl) rfl rfl (fun _ _ h => h.elim) ?_
  rintro _ w2 ⟨r2, s2x, rfl, fm2, h2, h2k⟩
  have LS2 := LS1.mod1 fm2 h2 (congrArg Prod.fst h2k) hk227
  refine j_istore (lo' := [(6, _), (5, _), (0, _), (1, _), (2, _), (3, _), (4, _)]) dL_law_1972 (by decide) rfl ?_
  refine j_goto (tgt := 2228) dL_law_1974 (by decide) ?_
  refine j_widen (kc' := kc + 200) (ks' := ks + 6000) (by omega) (by omega) ?_
  exact j_lo2 (KK _ _ LS2) (z_q1 rfl (z_q1 rfl (z_q1 rfl (z_q1 rfl (z_q1 rfl z_q0)))))
set_option maxRecDepth 100000 in
set_option maxHeartbeats 4000000 in
theorem lc_39 (hl : l.stackTraces = false) {w : z_W} {x i kc ks : Nat} {kn : Int32} (LS : z_LS x kn w) (hi6 : i + 6 ≤ z_sn G) (hsn : z_sn G ≤ 3072) (hkc : kc + 200 ≤ 793551) (hks : ks + 6000 ≤ 6715452) (KK : ∀ (kn9 : Int32) (w9 : z_W), z_LS x kn9 w9 → z_J G l mL_law z_SL 2228 (z_lol x i) [] w9 (kc + 200) (ks + 6000)) : z_J G l mL_law z_SL 1977 (z_lol x i) [] w kc ks := by
  show z_J G l mL_law _ 1977 [(0, _), (1, _), (2, _), (3, _), (4, _)] [] _ _ _
  refine j_aload_n dL_law_1977 rfl rfl ?_
  refine j_aload_n dL_law_1978 rfl rfl ?_
  refine j_iload dL_law_1979 rfl ?_
  refine j_iconst (v := 1) dL_law_1981 (by decide) ?_
  refine j_iadd dL_law_1982 ?_
  refine j_top (congrArg Value.int (show nI i + (1 : Int32) = nI (i + 1) from nI_add i 1)) ?_
  refine j_sld dL_law_1983 (vp_in_nI (by omega) (by omega)) ?_
  intro xs228
  refine j_aload_n dL_law_1984 rfl rfl ?_
  refine j_callSW dL_law_1985 kL_text lL_297 stL_text (lw_text hl w _ _ LS _) (Nat.le_of_ble_eq_true rfl) ⟨(by show _ ≤ 793551; omega), (by show _ ≤ 6715452; omega)⟩ rfl (Nat.le_of_ble_eq_true rfl) rfl rfl (fun _ _ h => h.elim) ?_
  rintro _ w1 ⟨⟨r1, rfl⟩, LS1⟩
  refine j_istore (lo' := [(5, _), (0, _), (1, _), (2, _), (3, _), (4, _)]) dL_law_1988 (by decide) rfl ?_
  refine j_aload_n dL_law_1990 rfl rfl ?_
  refine j_aload_n dL_law_1991 rfl rfl ?_
  refine j_iload dL_law_1992 rfl ?_
  refine j_iconst (v := 1) dL_law_1994 (by decide) ?_
  refine j_iadd dL_law_1995 ?_
  refine j_top (congrArg Value.int (show nI i + (1 : Int32) = nI (i + 1) from nI_add i 1)) ?_
  refine j_sld dL_law_1996 (vp_in_nI (by omega) (by omega)) ?_
  intro xs229
  obtain ⟨-, ⟨s230, hs230, hk230⟩, -⟩ := id LS1
  refine j_callV (q := (RX11, TX11, 8)) dL_law_1997 kX11_text lL_299 inX11_text seX11_text hs230.m rfl (cm_text hl w1 _ _ hs230) (Nat.le_of_ble_eq_true rfl) ⟨(by show _ ≤ 793551; omega), (by show _ ≤ 6715452; omega)⟩ rfl (Nat.le_of_ble_eq_true rfl) rfl rfl (fun _ _ h => h.elim) ?_
  rintro _ w2 ⟨r2, s2x, rfl, hir2, fm2, h2, h2k⟩
  have LS2 := LS1.mod1 fm2 h2 (congrArg Prod.fst h2k) hk230
  refine j_astore (lo' := [(6, _), (5, _), (0, _), (1, _), (2, _), (3, _), (4, _)]) dL_law_2000 hir2 (by decide) rfl ?_
  refine j_goto (tgt := 2228) dL_law_2002 (by decide) ?_
  refine j_widen (kc' := kc + 200) (ks' := ks + 6000) (by omega) (by omega) ?_
  exact j_lo2 (KK _ _ LS2) (z_q1 rfl (z_q1 rfl (z_q1 rfl (z_q1 rfl (z_q1 rfl z_q0)))))
set_option maxRecDepth 100000 in
set_option maxHeartbeats 4000000 in
theorem lc_40 (hl : l.stackTraces = false) {w : z_W} {x i kc ks : Nat} {kn : Int32} (LS : z_LS x kn w) (hi6 : i + 6 ≤ z_sn G) (hsn : z_sn G ≤ 3072) (hkc : kc + 200 ≤ 793551) (hks : ks + 6000 ≤ 6715452) (KK : ∀ (kn9 : Int32) (w9 : z_W), z_LS x kn9 w9 → z_J G l mL_law z_SL 2228 (z_lol x i) [] w9 (kc + 200) (ks + 6000)) : z_J G l mL_law z_SL 2005 (z_lol x i) [] w kc ks := by
  show z_J G l mL_law _ 2005 [(0, _), (1, _), (2, _), (3, _), (4, _)] [] _ _ _
  refine j_aload_n dL_law_2005 rfl rfl ?_
  refine j_aload_n dL_law_2006 rfl rfl ?_
  refine j_iload dL_law_2007 rfl ?_
  refine j_iconst (v := 1) dL_law_2009 (by decide) ?_
  refine j_iadd dL_law_2010 ?_
  refine j_top (congrArg Value.int (show nI i + (1 : Int32) = nI (i + 1) from nI_add i 1)) ?_
  refine j_sld dL_law_2011 (vp_in_nI (by omega) (by omega)) ?_
  intro xs231
  refine j_aload_n dL_law_2012 rfl rfl ?_
  refine j_iload dL_law_2013 rfl ?_
  refine j_iconst (v := 2) dL_law_2015 (by decide) ?_
  refine j_iadd dL_law_2016 ?_
  refine j_top (congrArg Value.int (show nI i + (2 : Int32) = nI (i + 2) from nI_add i 2)) ?_
  refine j_sld dL_law_2017 (vp_in_nI (by omega) (by omega)) ?_
  intro xs232
  refine j_aload_n dL_law_2018 rfl rfl ?_
  refine j_callSW dL_law_2019 kL_areLike lL_300 stL_areLike (lw_areLike hl w _ _ LS _ _) (Nat.le_of_ble_eq_true rfl) ⟨(by show _ ≤ 793551; omega), (by show _ ≤ 6715452; omega)⟩ rfl (Nat.le_of_ble_eq_true rfl) rfl rfl (fun _ _ h => h.elim) ?_
  rintro _ w1 ⟨⟨r1, rfl⟩, LS1⟩
  refine j_istore (lo' := [(5, _), (0, _), (1, _), (2, _), (3, _), (4, _)]) dL_law_2022 (by decide) rfl ?_
  refine j_aload_n dL_law_2024 rfl rfl ?_
  refine j_aload_n dL_law_2025 rfl rfl ?_
  refine j_iload dL_law_2026 rfl ?_
  refine j_iconst (v := 1) dL_law_2028 (by decide) ?_
  refine j_iadd dL_law_2029 ?_
  refine j_top (congrArg Value.int (show nI i + (1 : Int32) = nI (i + 1) from nI_add i 1)) ?_
  refine j_sld dL_law_2030 (vp_in_nI (by omega) (by omega)) ?_
  intro xs233
  refine j_aload_n dL_law_2031 rfl rfl ?_
  refine j_iload dL_law_2032 rfl ?_
  refine j_iconst (v := 2) dL_law_2034 (by decide) ?_
  refine j_iadd dL_law_2035 ?_
  refine j_top (congrArg Value.int (show nI i + (2 : Int32) = nI (i + 2) from nI_add i 2)) ?_
  refine j_sld dL_law_2036 (vp_in_nI (by omega) (by omega)) ?_
  intro xs234
  obtain ⟨-, ⟨s235, hs235, hk235⟩, -⟩ := id LS1
  refine j_callV (q := (RX11, TX11, 8)) dL_law_2037 kX11_areLike lL_302 inX11_areLike seX11_areLike hs235.m rfl (cm_areLike hl w1 _ _ _ hs235) (Nat.le_of_ble_eq_true rfl) ⟨(by show _ ≤ 793551; omega), (by show _ ≤ 6715452; omega)⟩ rfl (Nat.le_of_ble_eq_true rfl) rfl rfl (fun _ _ h => h.elim) ?_
  rintro _ w2 ⟨r2, s2x, rfl, fm2, h2, h2k⟩
  have LS2 := LS1.mod1 fm2 h2 (congrArg Prod.fst h2k) hk235
  refine j_istore (lo' := [(6, _), (5, _), (0, _), (1, _), (2, _), (3, _), (4, _)]) dL_law_2040 (by decide) rfl ?_
  refine j_goto (tgt := 2228) dL_law_2042 (by decide) ?_
  refine j_widen (kc' := kc + 200) (ks' := ks + 6000) (by omega) (by omega) ?_
  exact j_lo2 (KK _ _ LS2) (z_q1 rfl (z_q1 rfl (z_q1 rfl (z_q1 rfl (z_q1 rfl z_q0)))))
set_option maxRecDepth 100000 in
set_option maxHeartbeats 4000000 in
theorem lc_41 (hl : l.stackTraces = false) {w : z_W} {x i kc ks : Nat} {kn : Int32} (LS : z_LS x kn w) (hi6 : i + 6 ≤ z_sn G) (hsn : z_sn G ≤ 3072) (hkc : kc + 200 ≤ 793551) (hks : ks + 6000 ≤ 6715452) (KK : ∀ (kn9 : Int32) (w9 : z_W), z_LS x kn9 w9 → z_J G l mL_law z_SL 2228 (z_lol x i) [] w9 (kc + 200) (ks + 6000)) : z_J G l mL_law z_SL 2045 (z_lol x i) [] w kc ks := by
  show z_J G l mL_law _ 2045 [(0, _), (1, _), (2, _), (3, _), (4, _)] [] _ _ _
  refine j_aload_n dL_law_2045 rfl rfl ?_
  refine j_aload_n dL_law_2046 rfl rfl ?_
  refine j_iload dL_law_2047 rfl ?_
  refine j_iconst (v := 1) dL_law_2049 (by decide) ?_
  refine j_iadd dL_law_2050 ?_
  refine j_top (congrArg Value.int (show nI i + (1 : Int32) = nI (i + 1) from nI_add i 1)) ?_
  refine j_sld dL_law_2051 (vp_in_nI (by omega) (by omega)) ?_
  intro xs236
  refine j_aload_n dL_law_2052 rfl rfl ?_
  refine j_iload dL_law_2053 rfl ?_
  refine j_iconst (v := 2) dL_law_2055 (by decide) ?_
  refine j_iadd dL_law_2056 ?_
  refine j_top (congrArg Value.int (show nI i + (2 : Int32) = nI (i + 2) from nI_add i 2)) ?_
  refine j_sld dL_law_2057 (vp_in_nI (by omega) (by omega)) ?_
  intro xs237
  refine j_aload_n dL_law_2058 rfl rfl ?_
  refine j_iload dL_law_2059 rfl ?_
  refine j_iconst (v := 3) dL_law_2061 (by decide) ?_
  refine j_iadd dL_law_2062 ?_
  refine j_top (congrArg Value.int (show nI i + (3 : Int32) = nI (i + 3) from nI_add i 3)) ?_
  refine j_sld dL_law_2063 (vp_in_nI (by omega) (by omega)) ?_
  intro xs238
  refine j_aload_n dL_law_2064 rfl rfl ?_
  refine j_iload dL_law_2065 rfl ?_
  refine j_iconst (v := 4) dL_law_2067 (by decide) ?_
  refine j_iadd dL_law_2068 ?_
  refine j_top (congrArg Value.int (show nI i + (4 : Int32) = nI (i + 4) from nI_add i 4)) ?_
  refine j_sld dL_law_2069 (vp_in_nI (by omega) (by omega)) ?_
  intro xs239
  refine j_aload_n dL_law_2070 rfl rfl ?_
  refine j_callSW dL_law_2071 kL_given lL_303 stL_given (lw_given hl w _ _ LS _ _ _ _) (Nat.le_of_ble_eq_true rfl) ⟨(by show _ ≤ 793551; omega), (by show _ ≤ 6715452; omega)⟩ rfl (Nat.le_of_ble_eq_true rfl) rfl rfl (fun _ _ h => h.elim) ?_
  rintro _ w1 ⟨⟨r1, rfl⟩, LS1⟩
  refine j_istore (lo' := [(5, _), (0, _), (1, _), (2, _), (3, _), (4, _)]) dL_law_2074 (by decide) rfl ?_
  refine j_aload_n dL_law_2076 rfl rfl ?_
  refine j_aload_n dL_law_2077 rfl rfl ?_
  refine j_iload dL_law_2078 rfl ?_
  refine j_iconst (v := 1) dL_law_2080 (by decide) ?_
  refine j_iadd dL_law_2081 ?_
  refine j_top (congrArg Value.int (show nI i + (1 : Int32) = nI (i + 1) from nI_add i 1)) ?_
  refine j_sld dL_law_2082 (vp_in_nI (by omega) (by omega)) ?_
  intro xs240
  refine j_aload_n dL_law_2083 rfl rfl ?_
  refine j_iload dL_law_2084 rfl ?_
  refine j_iconst (v := 2) dL_law_2086 (by decide) ?_
  refine j_iadd dL_law_2087 ?_
  refine j_top (congrArg Value.int (show nI i + (2 : Int32) = nI (i + 2) from nI_add i 2)) ?_
  refine j_sld dL_law_2088 (vp_in_nI (by omega) (by omega)) ?_
  intro xs241
  refine j_aload_n dL_law_2089 rfl rfl ?_
  refine j_iload dL_law_2090 rfl ?_
  refine j_iconst (v := 3) dL_law_2092 (by decide) ?_
  refine j_iadd dL_law_2093 ?_
  refine j_top (congrArg Value.int (show nI i + (3 : Int32) = nI (i + 3) from nI_add i 3)) ?_
  refine j_sld dL_law_2094 (vp_in_nI (by omega) (by omega)) ?_
  intro xs242
  refine j_aload_n dL_law_2095 rfl rfl ?_
  refine j_iload dL_law_2096 rfl ?_
  refine j_iconst (v := 4) dL_law_2098 (by decide) ?_
  refine j_iadd dL_law_2099 ?_
  refine j_top (congrArg Value.int (show nI i + (4 : Int32) = nI (i + 4) from nI_add i 4)) ?_
  refine j_sld dL_law_2100 (vp_in_nI (by omega) (by omega)) ?_
  intro xs243
  obtain ⟨-, ⟨s244, hs244, hk244⟩, -⟩ := id LS1
  refine j_callV (q := (RX11, TX11, 8)) dL_law_2101 kX11_given lL_305 inX11_given seX11_given hs244.m rfl (cm_given hl w1 _ _ _ _ _ hs244) (Nat.le_of_ble_eq_true rfl) ⟨(by show _ ≤ 793551; omega), (by show _ ≤ 6715452; omega)⟩ rfl (Nat.le_of_ble_eq_true rfl) rfl rfl (fun _ _ h => h.elim) ?_
  rintro _ w2 ⟨r2, s2x, rfl, fm2, h2, h2k⟩
  have LS2 := LS1.mod1 fm2 h2 (congrArg Prod.fst h2k) hk244
  refine j_istore (lo' := [(6, _), (5, _), (0, _), (1, _), (2, _), (3, _), (4, _)]) dL_law_2104 (by decide) rfl ?_
  refine j_goto (tgt := 2228) dL_law_2106 (by decide) ?_
  refine j_widen (kc' := kc + 200) (ks' := ks + 6000) (by omega) (by omega) ?_
  exact j_lo2 (KK _ _ LS2) (z_q1 rfl (z_q1 rfl (z_q1 rfl (z_q1 rfl (z_q1 rfl z_q0)))))
set_option maxRecDepth 100000 in
set_option maxHeartbeats 4000000 in
theorem lc_42 (hl : l.stackTraces = false) {w : z_W} {x i kc ks : Nat} {kn : Int32} (LS : z_LS x kn w) (hi6 : i + 6 ≤ z_sn G) (hsn : z_sn G ≤ 3072) (hkc : kc + 200 ≤ 793551) (hks : ks + 6000 ≤ 6715452) (KK : ∀ (kn9 : Int32) (w9 : z_W), z_LS x kn9 w9 → z_J G l mL_law z_SL 2228 (z_lol x i) [] w9 (kc + 200) (ks + 6000)) : z_J G l mL_law z_SL 2109 (z_lol x i) [] w kc ks := by
  show z_J G l mL_law _ 2109 [(0, _), (1, _), (2, _), (3, _), (4, _)] [] _ _ _
  refine j_aload_n dL_law_2109 rfl rfl ?_
  refine j_aload_n dL_law_2110 rfl rfl ?_
  refine j_iload dL_law_2111 rfl ?_
  refine j_iconst (v := 1) dL_law_2113 (by decide) ?_
  refine j_iadd dL_law_2114 ?_
  refine j_top (congrArg Value.int (show nI i + (1 : Int32) = nI (i + 1) from nI_add i 1)) ?_
  refine j_sld dL_law_2115 (vp_in_nI (by omega) (by omega)) ?_
  intro xs245
  refine j_aload_n dL_law_2116 rfl rfl ?_
  refine j_iload dL_law_2117 rfl ?_
  refine j_iconst (v := 2) dL_law_2119 (by decide) ?_
  refine j_iadd dL_law_2120 ?_
  refine j_top (congrArg Value.int (show nI i + (2 : Int32) = nI (i + 2) from nI_add i 2)) ?_
  refine j_sld dL_law_2121 (vp_in_nI (by omega) (by omega)) ?_
  intro xs246
  refine j_aload_n dL_law_2122 rfl rfl ?_
  refine j_iload dL_law_2123 rfl ?_
  refine j_iconst (v := 3) dL_law_2125 (by decide) ?_
  refine j_iadd dL_law_2126 ?_
  refine j_top (congrArg Value.int (show nI i + (3 : Int32) = nI (i + 3) from nI_add i 3)) ?_
  refine j_sld dL_law_2127 (vp_in_nI (by omega) (by omega)) ?_
  intro xs247
  refine j_aload_n dL_law_2128 rfl rfl ?_
  refine j_callSW dL_law_2129 kL_tested lL_306 stL_tested (lw_tested hl w _ _ LS _ _ _) (Nat.le_of_ble_eq_true rfl) ⟨(by show _ ≤ 793551; omega), (by show _ ≤ 6715452; omega)⟩ rfl (Nat.le_of_ble_eq_true rfl) rfl rfl (fun _ _ h => h.elim) ?_
  rintro _ w1 ⟨⟨r1, rfl⟩, LS1⟩
  refine j_istore (lo' := [(5, _), (0, _), (1, _), (2, _), (3, _), (4, _)]) dL_law_2132 (by decide) rfl ?_
  refine j_aload_n dL_law_2134 rfl rfl ?_
  refine j_aload_n dL_law_2135 rfl rfl ?_
  refine j_iload dL_law_2136 rfl ?_
  refine j_iconst (v := 1) dL_law_2138 (by decide) ?_
  refine j_iadd dL_law_2139 ?_
  refine j_top (congrArg Value.int (show nI i + (1 : Int32) = nI (i + 1) from nI_add i 1)) ?_
  refine j_sld dL_law_2140 (vp_in_nI (by omega) (by omega)) ?_
  intro xs248
  refine j_aload_n dL_law_2141 rfl rfl ?_
  refine j_iload dL_law_2142 rfl ?_
  refine j_iconst (v := 2) dL_law_2144 (by decide) ?_
  refine j_iadd dL_law_2145 ?_
  refine j_top (congrArg Value.int (show nI i + (2 : Int32) = nI (i + 2) from nI_add i 2)) ?_
  refine j_sld dL_law_2146 (vp_in_nI (by omega) (by omega)) ?_
  intro xs249
  refine j_aload_n dL_law_2147 rfl rfl ?_
  refine j_iload dL_law_2148 rfl ?_
  refine j_iconst (v := 3) dL_law_2150 (by decide) ?_
  refine j_iadd dL_law_2151 ?_
  refine j_top (congrArg Value.int (show nI i + (3 : Int32) = nI (i + 3) from nI_add i 3)) ?_
  refine j_sld dL_law_2152 (vp_in_nI (by omega) (by omega)) ?_
  intro xs250
  obtain ⟨-, ⟨s251, hs251, hk251⟩, -⟩ := id LS1
  refine j_callV (q := (RX11, TX11, 8)) dL_law_2153 kX11_tested lL_308 inX11_tested seX11_tested hs251.m rfl (cm_tested hl w1 _ _ _ _ hs251) (Nat.le_of_ble_eq_true rfl) ⟨(by show _ ≤ 793551; omega), (by show _ ≤ 6715452; omega)⟩ rfl (Nat.le_of_ble_eq_true rfl) rfl rfl (fun _ _ h => h.elim) ?_
  rintro _ w2 ⟨r2, s2x, rfl, fm2, h2, h2k⟩
  have LS2 := LS1.mod1 fm2 h2 (congrArg Prod.fst h2k) hk251
  refine j_istore (lo' := [(6, _), (5, _), (0, _), (1, _), (2, _), (3, _), (4, _)]) dL_law_2156 (by decide) rfl ?_
  refine j_goto (tgt := 2228) dL_law_2158 (by decide) ?_
  refine j_widen (kc' := kc + 200) (ks' := ks + 6000) (by omega) (by omega) ?_
  exact j_lo2 (KK _ _ LS2) (z_q1 rfl (z_q1 rfl (z_q1 rfl (z_q1 rfl (z_q1 rfl z_q0)))))
set_option maxRecDepth 100000 in
set_option maxHeartbeats 4000000 in
theorem lc_43 (hl : l.stackTraces = false) {w : z_W} {x i kc ks : Nat} {kn : Int32} (LS : z_LS x kn w) (hi6 : i + 6 ≤ z_sn G) (hsn : z_sn G ≤ 3072) (hkc : kc + 200 ≤ 793551) (hks : ks + 6000 ≤ 6715452) (KK : ∀ (kn9 : Int32) (w9 : z_W), z_LS x kn9 w9 → z_J G l mL_law z_SL 2228 (z_lol x i) [] w9 (kc + 200) (ks + 6000)) : z_J G l mL_law z_SL 2161 (z_lol x i) [] w kc ks := by
  show z_J G l mL_law _ 2161 [(0, _), (1, _), (2, _), (3, _), (4, _)] [] _ _ _
  refine j_aload_n dL_law_2161 rfl rfl ?_
  obtain ⟨fs252, gs252⟩ := LS.rc
  refine j_callV (q := (RX8, TX8, 9)) dL_law_2162 kX8_knock lL_309 inX8_knock seX8_knock gs252 rfl (p_knock hl w _ LS.1) (Nat.le_of_ble_eq_true rfl) ⟨(by show _ ≤ 793551; omega), (by show _ ≤ 6715452; omega)⟩ rfl (Nat.le_of_ble_eq_true rfl) rfl rfl (fun _ _ h => h.elim) ?_
  rintro _ w1 ⟨rfl, hW1, hh1⟩
  have LS1 := LS.clsk hW1 hh1
  refine j_aload_n dL_law_2165 rfl rfl ?_
  obtain ⟨-, ⟨s253, hs253, hk253⟩, -⟩ := id LS1
  refine j_callV (q := (RX11, TX11, 8)) dL_law_2166 kX11_knock lL_312 inX11_knock seX11_knock hs253.m rfl (cm_knock hl w1 _ hs253) (Nat.le_of_ble_eq_true rfl) ⟨(by show _ ≤ 793551; omega), (by show _ ≤ 6715452; omega)⟩ rfl (Nat.le_of_ble_eq_true rfl) rfl rfl (fun _ _ h => h.elim) ?_
  rintro _ w2 ⟨rfl, fm2, h2⟩
  have LS2 : z_LS x (kn + 1) w2 := LS1.modk hk253 fm2 h2
  refine j_icmp_eq (tgt := 2228) dL_law_2169 (by decide) (fun c_2169_11 => ?_) (fun c_2169_11 => ?_)
  · refine j_widen (kc' := kc + 200) (ks' := ks + 6000) (by omega) (by omega) ?_
    exact j_lo2 (KK _ _ LS2) (z_q1 rfl (z_q1 rfl (z_q1 rfl (z_q1 rfl (z_q1 rfl z_q0)))))
  · exact absurd (by rw [hk253]) c_2169_11
set_option maxRecDepth 100000 in
set_option maxHeartbeats 4000000 in
theorem lc_44 (hl : l.stackTraces = false) {w : z_W} {x i kc ks : Nat} {kn : Int32} (LS : z_LS x kn w) (hi6 : i + 6 ≤ z_sn G) (hsn : z_sn G ≤ 3072) (hkc : kc + 200 ≤ 793551) (hks : ks + 6000 ≤ 6715452) (KK : ∀ (kn9 : Int32) (w9 : z_W), z_LS x kn9 w9 → z_J G l mL_law z_SL 2228 (z_lol x i) [] w9 (kc + 200) (ks + 6000)) : z_J G l mL_law z_SL 2174 (z_lol x i) [] w kc ks := by
  show z_J G l mL_law _ 2174 [(0, _), (1, _), (2, _), (3, _), (4, _)] [] _ _ _
  refine j_aload_n dL_law_2174 rfl rfl ?_
  refine j_aload_n dL_law_2175 rfl rfl ?_
  refine j_iload dL_law_2176 rfl ?_
  refine j_iconst (v := 1) dL_law_2178 (by decide) ?_
  refine j_iadd dL_law_2179 ?_
  refine j_top (congrArg Value.int (show nI i + (1 : Int32) = nI (i + 1) from nI_add i 1)) ?_
  refine j_sld dL_law_2180 (vp_in_nI (by omega) (by omega)) ?_
  intro xs254
  refine j_aload_n dL_law_2181 rfl rfl ?_
  refine j_callSW dL_law_2182 kL_house lL_313 stL_house (lw_house hl w _ _ LS _) (Nat.le_of_ble_eq_true rfl) ⟨(by show _ ≤ 793551; omega), (by show _ ≤ 6715452; omega)⟩ rfl (Nat.le_of_ble_eq_true rfl) rfl rfl (fun _ _ h => h.elim) ?_
  rintro _ w1 ⟨⟨r1, rfl⟩, LS1⟩
  refine j_istore (lo' := [(5, _), (0, _), (1, _), (2, _), (3, _), (4, _)]) dL_law_2185 (by decide) rfl ?_
  refine j_aload_n dL_law_2187 rfl rfl ?_
  refine j_aload_n dL_law_2188 rfl rfl ?_
  refine j_iload dL_law_2189 rfl ?_
  refine j_iconst (v := 1) dL_law_2191 (by decide) ?_
  refine j_iadd dL_law_2192 ?_
  refine j_top (congrArg Value.int (show nI i + (1 : Int32) = nI (i + 1) from nI_add i 1)) ?_
  refine j_sld dL_law_2193 (vp_in_nI (by omega) (by omega)) ?_
  intro xs255
  obtain ⟨-, ⟨s256, hs256, hk256⟩, -⟩ := id LS1
  refine j_callV (q := (RX11, TX11, 8)) dL_law_2194 kX11_house lL_315 inX11_house seX11_house hs256.m rfl (cm_house hl w1 _ _ hs256) (Nat.le_of_ble_eq_true rfl) ⟨(by show _ ≤ 793551; omega), (by show _ ≤ 6715452; omega)⟩ rfl (Nat.le_of_ble_eq_true rfl) rfl rfl (fun _ _ h => h.elim) ?_
  rintro _ w2 ⟨r2, s2x, rfl, fm2, h2, h2k⟩
  have LS2 := LS1.mod1 fm2 h2 (congrArg Prod.fst h2k) hk256
  refine j_istore (lo' := [(6, _), (5, _), (0, _), (1, _), (2, _), (3, _), (4, _)]) dL_law_2197 (by decide) rfl ?_
  refine j_goto (tgt := 2228) dL_law_2199 (by decide) ?_
  refine j_widen (kc' := kc + 200) (ks' := ks + 6000) (by omega) (by omega) ?_
  exact j_lo2 (KK _ _ LS2) (z_q1 rfl (z_q1 rfl (z_q1 rfl (z_q1 rfl (z_q1 rfl z_q0)))))
set_option maxRecDepth 100000 in
set_option maxHeartbeats 4000000 in
theorem lc_45 (hl : l.stackTraces = false) {w : z_W} {x i kc ks : Nat} {kn : Int32} (LS : z_LS x kn w) (hi6 : i + 6 ≤ z_sn G) (hsn : z_sn G ≤ 3072) (hkc : kc + 200 ≤ 793551) (hks : ks + 6000 ≤ 6715452) (KK : ∀ (kn9 : Int32) (w9 : z_W), z_LS x kn9 w9 → z_J G l mL_law z_SL 2228 (z_lol x i) [] w9 (kc + 200) (ks + 6000)) : z_J G l mL_law z_SL 2202 (z_lol x i) [] w kc ks := by
  show z_J G l mL_law _ 2202 [(0, _), (1, _), (2, _), (3, _), (4, _)] [] _ _ _
  refine j_aload_n dL_law_2202 rfl rfl ?_
  obtain ⟨fs257, gs257⟩ := LS.rc
  refine j_callV (q := (RX8, TX8, 9)) dL_law_2203 kX8_isSound lL_316 inX8_isSound seX8_isSound gs257 rfl (p_isSound hl w _ LS.1) (Nat.le_of_ble_eq_true rfl) ⟨(by show _ ≤ 793551; omega), (by show _ ≤ 6715452; omega)⟩ rfl (Nat.le_of_ble_eq_true rfl) rfl rfl (fun _ _ h => h.elim) ?_
  rintro _ w1 ⟨⟨x1, rfl⟩, hW1, hh1⟩
  have LS1 := LS.cls hW1 hh1
  refine j_pop dL_law_2206 rfl ?_
  refine j_aload_n dL_law_2207 rfl rfl ?_
  obtain ⟨-, ⟨s258, hs258, hk258⟩, -⟩ := id LS1
  refine j_callV (q := (RX11, TX11, 8)) dL_law_2208 kX11_isSound lL_320 inX11_isSound seX11_isSound hs258.m rfl (cm_isSound hl w1 _ hs258) (Nat.le_of_ble_eq_true rfl) ⟨(by show _ ≤ 793551; omega), (by show _ ≤ 6715452; omega)⟩ rfl (Nat.le_of_ble_eq_true rfl) rfl rfl (fun _ _ h => h.elim) ?_
  rintro _ w2 ⟨r2, s2x, rfl, fm2, h2, h2k⟩
  have LS2 := LS1.mod1 fm2 h2 (congrArg Prod.fst h2k) hk258
  refine j_pop dL_law_2211 rfl ?_
  refine j_goto (tgt := 2228) dL_law_2212 (by decide) ?_
  refine j_widen (kc' := kc + 200) (ks' := ks + 6000) (by omega) (by omega) ?_
  exact j_lo2 (KK _ _ LS2) (z_q1 rfl (z_q1 rfl (z_q1 rfl (z_q1 rfl (z_q1 rfl z_q0)))))
set_option maxRecDepth 100000 in
set_option maxHeartbeats 4000000 in
theorem lc_46 (hl : l.stackTraces = false) {w : z_W} {x i kc ks : Nat} {kn : Int32} (LS : z_LS x kn w) (hi6 : i + 6 ≤ z_sn G) (hsn : z_sn G ≤ 3072) (hkc : kc + 200 ≤ 793551) (hks : ks + 6000 ≤ 6715452) (KK : ∀ (kn9 : Int32) (w9 : z_W), z_LS x kn9 w9 → z_J G l mL_law z_SL 2228 (z_lol x i) [] w9 (kc + 200) (ks + 6000)) : z_J G l mL_law z_SL 2215 (z_lol x i) [] w kc ks := by
  show z_J G l mL_law _ 2215 [(0, _), (1, _), (2, _), (3, _), (4, _)] [] _ _ _
  refine j_aload_n dL_law_2215 rfl rfl ?_
  obtain ⟨fs259, gs259⟩ := LS.rc
  refine j_callV (q := (RX8, TX8, 9)) dL_law_2216 kX8_digest lL_321 inX8_digest seX8_digest gs259 rfl (p_digest hl w _ LS.1 LS.fn) (Nat.le_of_ble_eq_true rfl) ⟨(by show _ ≤ 793551; omega), (by show _ ≤ 6715452; omega)⟩ rfl (Nat.le_of_ble_eq_true rfl) rfl rfl (fun _ _ h => h.elim) ?_
  rintro _ w1 ⟨⟨x1, rfl⟩, hW1, hh1⟩
  have LS1 := LS.cls hW1 hh1
  refine j_pop2 dL_law_2219 rfl ?_
  refine j_aload_n dL_law_2220 rfl rfl ?_
  obtain ⟨-, ⟨s260, hs260, hk260⟩, -⟩ := id LS1
  refine j_callV (q := (RX11, TX11, 8)) dL_law_2221 kX11_digest lL_325 inX11_digest seX11_digest hs260.m rfl (cm_digest hl w1 _ hs260) (Nat.le_of_ble_eq_true rfl) ⟨(by show _ ≤ 793551; omega), (by show _ ≤ 6715452; omega)⟩ rfl (Nat.le_of_ble_eq_true rfl) rfl rfl (fun _ _ h => h.elim) ?_
  rintro _ w2 ⟨r2, s2x, rfl, fm2, h2, h2k⟩
  have LS2 := LS1.mod1 fm2 h2 (congrArg Prod.fst h2k) hk260
  refine j_pop2 dL_law_2224 rfl ?_
  refine j_goto (tgt := 2228) dL_law_2225 (by decide) ?_
  refine j_widen (kc' := kc + 200) (ks' := ks + 6000) (by omega) (by omega) ?_
  exact j_lo2 (KK _ _ LS2) (z_q1 rfl (z_q1 rfl (z_q1 rfl (z_q1 rfl (z_q1 rfl z_q0)))))
end ZLaw
