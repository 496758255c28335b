section ZDy
variable {G : z_G} {l : Launch}
set_option maxRecDepth 100000 in
set_option maxHeartbeats 8000000 in
theorem cg_joinedE (hl : l.stackTraces = false) (w : z_W) (a N : Nat) (f : Nat → Int32) (B : List Int32) (ha : a < 1000) (hN : N ≤ 12) (hf : z_fn w) (hr : z_row N (nI B.length) f B) (ga : z_g w a = some (.inl (0, N, fun j => .int (f j)))) : z_Con G l mX8_joined 18 24 800 w [.ref a, .int (nI B.length)] (fun v w9 => ∃ r, v = some (.ref r) ∧ z_lf w w9 ∧ z_tx w9 57 r (sp_jl B)) (fun _ _ => False) := by
  have hln := hr.2.1
  refine z_body hl (by decide) rfl (Nat.le_of_ble_eq_true rfl) ?_
  show z_J G l mX8_joined _ 0 [(0, _), (1, _)] [] _ 0 0
  obtain ⟨x1, hx1a, hx1b, hx1c⟩ := z_fresh (56) (by decide) hf
  have n_a_x1 := z_neF hx1c ga
  refine j_new (N := 4) (w' := _) (n := x1) dX8_joined_0 nX8_360 rfl (z_alW hx1c hx1a) (Nat.le_of_ble_eq_true rfl) (Nat.le_of_ble_eq_true rfl) ?_
  refine j_seal hx1a ?_
  intro w1 u1
  have g1_a := (u1.2.1 _ n_a_x1).trans ga
  have g1_x1 := u1.1
  have hf1 := u1.2.2.2 hf
  refine j_dup dX8_joined_3 rfl ?_
  refine j_callI dX8_joined_4 kJ4_init_da8c8 rfl lX8_362 inJ4_init_da8c8 rfl (sb_ini hl w1 56 x1 hx1a hx1b (by decide) hf1 g1_x1) (Nat.le_of_ble_eq_true rfl) ⟨(by show _ ≤ 24; omega), (by show _ ≤ 800; omega)⟩ rfl (Nat.le_of_ble_eq_true rfl) rfl rfl (fun _ _ h => h.elim) ?_
  rintro _ w2 ⟨rfl, fw2, hs2⟩
  have lf2 := fw2.lf (by decide)
  have g2_a := lf2.g ha g1_a
  have hf2 := lf2.2.2 hf1
  refine j_astore_n (lo' := [(2, _), (0, _), (1, _)]) dX8_joined_7 rfl (by decide) rfl ?_
  refine j_iconst (v := 0) dX8_joined_8 (by decide) ?_
  refine j_istore_n (lo' := [(3, _), (2, _), (0, _), (1, _)]) dX8_joined_9 (by decide) rfl ?_
  have loop10 : ∀ (n9 : Nat) (w3 : z_W) (k bn bN : Nat), (z_lf w w3) → (z_fn w3) → (k ≤ N) → (N < k + n9) → (z_g w3 a = some (.inl (0, N, fun j => .int (f j)))) → (z_sb w3 56 x1 bn bN) → (bn ≤ 12 * k) → (bN ≤ 304) → (16 ≤ bN) → (bn = sp_jl (B.take k)) → (k ≤ B.length) → z_J G l mX8_joined (18, 24, 800, w, (fun v w9 => ∃ r, v = some (.ref r) ∧ z_lf w w9 ∧ z_tx w9 57 r (sp_jl B)), (fun _ _ => False)) 10 [(0, .ref a), (1, .int (nI B.length)), (2, .ref x1), (3, .int (nI k))] [] w3 (1 + bN / 16) (2 * bN) := by
    intro n9
    induction n9 with
    | zero => intro w3 k bn bN hlf10 hfn10 hj hf9 ga hsb hbn hbN hbM hjl hkB; exact absurd hf9 (by omega)
    | succ n9 ih =>
      intro w3 k bn bN hlf10 hfn10 hj hf9 ga hsb hbn hbN hbM hjl hkB
      refine j_iload_n dX8_joined_10 rfl ?_
      refine j_iload_n dX8_joined_11 rfl ?_
      refine j_icmp_ge (tgt := 46) dX8_joined_12 (by decide) (fun c_12_27 => ?_) (fun c_12_27 => ?_)
      · have hb12 : B.length ≤ k := (nI_leI (a := B.length) (b := k) (by omega) (by omega)).mp c_12_27
        refine j_aload_n dX8_joined_46 rfl rfl ?_
        have hnN := hsb.nN
        obtain ⟨fs48, gs48⟩ := hsb.cell
        refine j_callV (q := (RJ4, TJ4, 4)) dX8_joined_47 kJ4_toString_0e30d lX8_369 inJ4_toString_0e30d seJ4_toString_0e30d gs48 rfl (sb_toS hl w3 57 56 x1 (bn) (bN) hsb (by decide) (by decide) hfn10) (Nat.le_of_ble_eq_true rfl) ⟨(by show _ ≤ 24; omega), (by show _ ≤ 800; omega)⟩ rfl (Nat.le_of_ble_eq_true rfl) rfl rfl (fun _ _ h => h.elim) ?_
        rintro _ w4 ⟨r4, rfl, fw4, ht4⟩
        have lf4 := fw4.lf (by decide)
        have g4_a := lf4.g ha ga
        have hf4 := lf4.2.2 hfn10
        refine j_aret dX8_joined_50 rfl (Or.inl ⟨_, rfl⟩) rfl ?_ (by show _ ≤ 24; omega) (by show _ ≤ 800; omega)
        have e9 : bn = sp_jl B := by rw [hjl, List.take_of_length_le (by omega)]
        rw [← e9]
        exact ⟨_, rfl, (hlf10.tr lf4), ht4⟩
      · have hb12 : k < B.length := Nat.not_le.mp (fun z => c_12_27 ((nI_leI (a := B.length) (b := k) (by omega) (by omega)).mpr z))
        refine j_iload_n dX8_joined_15 rfl ?_
        refine j_aload_n dX8_joined_16 rfl rfl ?_
        refine j_alen dX8_joined_17 ga rfl rfl ?_
        refine j_icmp_ge (tgt := 46) dX8_joined_18 (by decide) (fun c_18_45 => ?_) (fun c_18_45 => ?_)
        · have hb18 : N ≤ k := (nI_leI (a := N) (b := k) (by omega) (by omega)).mp c_18_45
          refine j_aload_n dX8_joined_46 rfl rfl ?_
          have hnN := hsb.nN
          obtain ⟨fs49, gs49⟩ := hsb.cell
          refine j_callV (q := (RJ4, TJ4, 4)) dX8_joined_47 kJ4_toString_0e30d lX8_369 inJ4_toString_0e30d seJ4_toString_0e30d gs49 rfl (sb_toS hl w3 57 56 x1 (bn) (bN) hsb (by decide) (by decide) hfn10) (Nat.le_of_ble_eq_true rfl) ⟨(by show _ ≤ 24; omega), (by show _ ≤ 800; omega)⟩ rfl (Nat.le_of_ble_eq_true rfl) rfl rfl (fun _ _ h => h.elim) ?_
          rintro _ w5 ⟨r5, rfl, fw5, ht5⟩
          have lf5 := fw5.lf (by decide)
          have g5_a := lf5.g ha ga
          have hf5 := lf5.2.2 hfn10
          refine j_aret dX8_joined_50 rfl (Or.inl ⟨_, rfl⟩) rfl ?_ (by show _ ≤ 24; omega) (by show _ ≤ 800; omega)
          have e9 : bn = sp_jl B := by rw [hjl, List.take_of_length_le (by omega)]
          rw [← e9]
          exact ⟨_, rfl, (hlf10.tr lf5), ht5⟩
        · have hb18 : k < N := Nat.not_le.mp (fun z => c_18_45 ((nI_leI (a := N) (b := k) (by omega) (by omega)).mpr z))
          refine j_iload_n dX8_joined_21 rfl ?_
          refine j_if_le (tgt := 32) dX8_joined_22 (by decide) (fun c_22_61 => ?_) (fun c_22_61 => ?_)
          · have hb22 : k ≤ 0 := (nI_leI (a := k) (b := 0) (by omega) (by omega)).mp c_22_61
            refine j_aload_n dX8_joined_32 rfl rfl ?_
            refine j_aload_n dX8_joined_33 rfl rfl ?_
            refine j_iload_n dX8_joined_34 rfl ?_
            refine j_ldN (k := k) dX8_joined_35 ga (by omega) (by omega) ?_
            have hzs50 := z_sz_in (f k)
            have hnN51 := hsb.nN
            have hle51 := z_gr_le (N := bN) (m := (bn + z_sz (f k)))
            have hmx51 := z_gr_mx (N := bN) (m := (bn + z_sz (f k))) (M := 144) (by omega) (by omega)
            obtain ⟨fs52, gs52⟩ := hsb.cell
            refine j_callV (q := (RJ4, TJ4, 4)) dX8_joined_36 kJ4_append_bf812 lX8_366 inJ4_append_bf812 seJ4_append_bf812 gs52 rfl (sb_apI hl w3 56 x1 (bn) (bN) (f k) hsb (by omega) (by omega) (by decide) hfn10) (Nat.le_of_ble_eq_true rfl) ⟨(by show _ ≤ 24; omega), (by show _ ≤ 800; omega)⟩ rfl (Nat.le_of_ble_eq_true rfl) rfl rfl (fun _ _ h => h.elim) ?_
            rintro _ w6 ⟨rfl, fw6, hs6⟩
            have lf6 := fw6.lf (by decide)
            have g6_a := lf6.g ha ga
            have hf6 := lf6.2.2 hfn10
            refine j_pop dX8_joined_39 rfl ?_
            refine j_iinc (lo' := [(3, _), (0, _), (1, _), (2, _)]) dX8_joined_40 rfl (z_inc _) (by decide) rfl ?_
            refine j_goto (tgt := 10) dX8_joined_43 (by decide) ?_
            refine j_widen (kc' := 1 + (z_gr (bN) (bn + z_sz (f k))) / 16) (ks' := 2 * (z_gr (bN) (bn + z_sz (f k)))) (by omega) (by omega) ?_
            exact j_lo2 (ih w6 (k + 1) (bn + z_sz (f k)) (z_gr (bN) (bn + z_sz (f k))) (hlf10.tr lf6) hf6 (by omega) (by omega) g6_a hs6 (by omega) (by omega) (by omega) (by rw [hr.tk (by omega), sp_jl_s, ← hjl, List.length_take]; split <;> omega) (by omega)) (z_q1 rfl (z_q1 rfl (z_q1 rfl (z_q1 rfl z_q0))))
          · have hb22 : 0 < k := Nat.not_le.mp (fun z => c_22_61 ((nI_leI (a := k) (b := 0) (by omega) (by omega)).mpr z))
            refine j_aload_n dX8_joined_25 rfl rfl ?_
            refine j_bipush (v := 32) dX8_joined_26 (by decide) ?_
            have hnN53 := hsb.nN
            have hle53 := z_gr_le (N := bN) (m := (bn + 1))
            have hmx53 := z_gr_mx (N := bN) (m := (bn + 1)) (M := 144) (by omega) (by omega)
            obtain ⟨fs54, gs54⟩ := hsb.cell
            refine j_callV (q := (RJ4, TJ4, 4)) dX8_joined_28 kJ4_append_cf468 lX8_363 inJ4_append_cf468 seJ4_append_cf468 gs54 rfl (sb_apC hl w3 56 x1 (bn) (bN) (32) hsb (by omega) (by omega) (by decide) hfn10 (by decide)) (Nat.le_of_ble_eq_true rfl) ⟨(by show _ ≤ 24; omega), (by show _ ≤ 800; omega)⟩ rfl (Nat.le_of_ble_eq_true rfl) rfl rfl (fun _ _ h => h.elim) ?_
            rintro _ w7 ⟨rfl, fw7, hs7⟩
            have lf7 := fw7.lf (by decide)
            have g7_a := lf7.g ha ga
            have hf7 := lf7.2.2 hfn10
            refine j_pop dX8_joined_31 rfl ?_
            refine j_aload_n dX8_joined_32 rfl rfl ?_
            refine j_aload_n dX8_joined_33 rfl rfl ?_
            refine j_iload_n dX8_joined_34 rfl ?_
            refine j_ldN (k := k) dX8_joined_35 g7_a (by omega) (by omega) ?_
            have hzs55 := z_sz_in (f k)
            have hnN56 := hs7.nN
            have hle56 := z_gr_le (N := (z_gr (bN) (bn + 1))) (m := ((bn + 1) + z_sz (f k)))
            have hmx56 := z_gr_mx (N := (z_gr (bN) (bn + 1))) (m := ((bn + 1) + z_sz (f k))) (M := 144) (by omega) (by omega)
            obtain ⟨fs57, gs57⟩ := hs7.cell
            refine j_callV (q := (RJ4, TJ4, 4)) dX8_joined_36 kJ4_append_bf812 lX8_366 inJ4_append_bf812 seJ4_append_bf812 gs57 rfl (sb_apI hl w7 56 x1 ((bn + 1)) ((z_gr (bN) (bn + 1))) (f k) hs7 (by omega) (by omega) (by decide) hf7) (Nat.le_of_ble_eq_true rfl) ⟨(by show _ ≤ 24; omega), (by show _ ≤ 800; omega)⟩ rfl (Nat.le_of_ble_eq_true rfl) rfl rfl (fun _ _ h => h.elim) ?_
            rintro _ w8 ⟨rfl, fw8, hs8⟩
            have lf8 := fw8.lf (by decide)
            have g8_a := lf8.g ha g7_a
            have hf8 := lf8.2.2 hf7
            refine j_pop dX8_joined_39 rfl ?_
            refine j_iinc (lo' := [(3, _), (0, _), (1, _), (2, _)]) dX8_joined_40 rfl (z_inc _) (by decide) rfl ?_
            refine j_goto (tgt := 10) dX8_joined_43 (by decide) ?_
            refine j_widen (kc' := 1 + (z_gr ((z_gr (bN) (bn + 1))) ((bn + 1) + z_sz (f k))) / 16) (ks' := 2 * (z_gr ((z_gr (bN) (bn + 1))) ((bn + 1) + z_sz (f k)))) (by omega) (by omega) ?_
            exact j_lo2 (ih w8 (k + 1) ((bn + 1) + z_sz (f k)) (z_gr ((z_gr (bN) (bn + 1))) ((bn + 1) + z_sz (f k))) ((hlf10.tr lf7).tr lf8) hf8 (by omega) (by omega) g8_a hs8 (by omega) (by omega) (by omega) (by rw [hr.tk (by omega), sp_jl_s, ← hjl, List.length_take]; split <;> omega) (by omega)) (z_q1 rfl (z_q1 rfl (z_q1 rfl (z_q1 rfl z_q0))))
  refine j_widen (kc' := 1 + 16 / 16) (ks' := 2 * 16) (by omega) (by omega) ?_
  exact j_lo2 (loop10 (N + 1) w2 0 0 16 (((u1.fw hx1a hx1b).lf (by decide)).tr lf2) hf2 (by omega) (by omega) g2_a hs2 (by omega) (by omega) (by omega) rfl (by omega)) (z_q1 rfl (z_q1 rfl (z_q1 rfl (z_q1 rfl z_q0))))
set_option maxRecDepth 100000 in
set_option maxHeartbeats 8000000 in
theorem cg_recentE (hl : l.stackTraces = false) (w : z_W) (h a : Nat) (E : sp_H) (f : Nat → Int32) (hh : h < 1000) (ha : a < 1000) (hf : z_fn w) (he : z_row 10 (nI E.2.length) f E.2) (gh : z_g w h = some (.inr (5, [.ref a, .int (nI E.2.length), .int E.1.2.1, .int E.1.2.2.1, .int E.1.2.2.2, .int E.1.1]))) (ga : z_g w a = some (.inl (0, 10, fun j => .int (f j)))) : z_Con G l mX0_recent 19 24 800 w [.ref h] (fun v w9 => ∃ r, v = some (.ref r) ∧ z_lf w w9 ∧ z_tx w9 57 r (sp_jl E.2)) (fun _ _ => False) := by
  refine z_body hl (by decide) rfl (Nat.le_of_ble_eq_true rfl) ?_
  show z_J G l mX0_recent _ 0 [(0, _)] [] _ 0 0
  refine j_aload_n dX0_recent_0 rfl rfl ?_
  refine j_getf dX0_recent_1 fX0_9 gh rfl ?_
  refine j_aload_n dX0_recent_4 rfl rfl ?_
  refine j_getf dX0_recent_5 fX0_32 gh rfl ?_
  refine j_callSN dX0_recent_8 kX8_joined lX0_38 stX8_joined (cg_joinedE hl w a 10 f E.2 ha (by decide) hf he ga) (Nat.le_of_ble_eq_true rfl) ⟨(by show _ ≤ 24; omega), (by show _ ≤ 800; omega)⟩ rfl (Nat.le_of_ble_eq_true rfl) rfl rfl (fun _ _ h => h.elim) ?_
  rintro _ w1 ⟨r1, rfl, lf1, ht1⟩
  have g1_h := lf1.g hh gh
  have g1_a := lf1.g ha ga
  have hf1 := lf1.2.2 hf
  refine j_aret dX0_recent_11 rfl (Or.inl ⟨_, rfl⟩) rfl ?_ (by show _ ≤ 24; omega) (by show _ ≤ 800; omega)
  exact ⟨_, rfl, lf1, ht1⟩
set_option maxRecDepth 100000 in
set_option maxHeartbeats 8000000 in
theorem cg_mixedHE (hl : l.stackTraces = false) (w : z_W) (d0 : Int64) (h a : Nat) (E : sp_H) (f : Nat → Int32) (hh : h < 1000) (ha : a < 1000) (hf : z_fn w) (he : z_row 10 (nI E.2.length) f E.2) (gh : z_g w h = some (.inr (5, [.ref a, .int (nI E.2.length), .int E.1.2.1, .int E.1.2.2.1, .int E.1.2.2.2, .int E.1.1]))) (ga : z_g w a = some (.inl (0, 10, fun j => .int (f j)))) (hnd : [h, a].Nodup) : z_Con G l mX8_mixedHearer 20 24 800 w [.long d0, .ref h] (fun v w9 => v = some (.long (sp_mxl d0 (sp_hel E))) ∧ z_lf w w9) (fun _ _ => False) := by
  refine z_body hl (by decide) rfl (Nat.le_of_ble_eq_true rfl) ?_
  show z_J G l mX8_mixedHearer _ 0 [(0, _), (2, _)] [] _ 0 0
  refine j_lload_n dX8_mixedHearer_0 rfl ?_
  refine j_lstore_n (lo' := [(3, _), (0, _), (2, _)]) dX8_mixedHearer_1 (by decide) rfl ?_
  refine j_iconst (v := 0) dX8_mixedHearer_2 (by decide) ?_
  refine j_istore (lo' := [(5, _), (3, _), (0, _), (2, _)]) dX8_mixedHearer_3 (by decide) rfl ?_
  have loop5 : ∀ (n9 : Nat) (w1 : z_W) (k : Nat) (d : Int64), (z_lf w w1) → (z_fn w1) → (k ≤ 4) → (4 < k + n9) → (z_g w1 h = some (.inr (5, [.ref a, .int (nI E.2.length), .int E.1.2.1, .int E.1.2.2.1, .int E.1.2.2.2, .int E.1.1]))) → (z_g w1 a = some (.inl (0, 10, fun j => .int (f j)))) → (d = sp_mxl d0 ((List.range k).map (fun i => sp_tel E (nI i)))) → z_J G l mX8_mixedHearer (20, 24, 800, w, (fun v w9 => v = some (.long (sp_mxl d0 (sp_hel E))) ∧ z_lf w w9), (fun _ _ => False)) 5 [(2, .ref h), (3, .long d), (5, .int (nI k))] [] w1 (0) (0) := by
    intro n9
    induction n9 with
    | zero => intro w1 k d hlf5 hfn5 hj hf9 gh ga hd; exact absurd hf9 (by omega)
    | succ n9 ih =>
      intro w1 k d hlf5 hfn5 hj hf9 gh ga hd
      refine j_iload dX8_mixedHearer_5 rfl ?_
      refine j_iconst (v := 3) dX8_mixedHearer_7 (by decide) ?_
      refine j_icmp_gt (tgt := 28) dX8_mixedHearer_8 (by decide) (fun c_8_14 => ?_) (fun c_8_14 => ?_)
      · have hb8 : 3 < k := (nI_ltI (a := 3) (b := k) (by omega) (by omega)).mp c_8_14
        refine j_lload_n dX8_mixedHearer_28 rfl ?_
        refine j_aload_n dX8_mixedHearer_29 rfl rfl ?_
        refine j_callV (q := (RX0, TX0, 6)) dX8_mixedHearer_30 kX0_recent lX8_190 inX0_recent seX0_recent gh rfl (cg_recentE hl w1 h a E f hh ha hfn5 he gh ga) (Nat.le_of_ble_eq_true rfl) ⟨(by show _ ≤ 24; omega), (by show _ ≤ 800; omega)⟩ rfl (Nat.le_of_ble_eq_true rfl) rfl rfl (fun _ _ h => h.elim) ?_
        rintro _ w2 ⟨r2, rfl, lf2, ht2⟩
        have g2_h := lf2.g hh gh
        have g2_a := lf2.g ha ga
        have hf2 := lf2.2.2 hfn5
        obtain ⟨fs58, gs58⟩ := ht2.cell
        refine j_callV (q := (RJ0, TJ0, 4)) dX8_mixedHearer_33 kJ0_length_8abf5 lX8_355 inJ0_length_8abf5 (z_w 781 ((lwg_4 16).trans rfl) (by decide +kernel)) gs58 rfl (tx_len hl w2 57 r2 _ ht2) (Nat.le_of_ble_eq_true rfl) ⟨(by show _ ≤ 24; omega), (by show _ ≤ 800; omega)⟩ rfl (Nat.le_of_ble_eq_true rfl) rfl rfl (fun _ _ h => h.elim) ?_
        rintro _ _ ⟨rfl, hw59⟩
        refine j_w w2 hw59 ?_
        refine j_callS dX8_mixedHearer_36 kX8_mixed lX8_277 stX8_mixed (c_X8_mixed_e hl w2 _ _) (Nat.le_of_ble_eq_true rfl) ⟨(by show _ ≤ 24; omega), (by show _ ≤ 800; omega)⟩ rfl (Nat.le_of_ble_eq_true rfl) rfl rfl (fun _ _ h => h.elim) ?_
        rintro _ _ ⟨rfl, hw60⟩
        refine j_w w2 hw60 ?_
        refine j_lret dX8_mixedHearer_39 rfl ?_ (by show _ ≤ 24; omega) (by show _ ≤ 800; omega)
        refine ⟨congrArg (fun z => some (Value.long z)) ?_, (hlf5.tr lf2)⟩
        rw [hd, show k = 4 by omega]
        exact sp_mxl_s.symm
      · have hb8 : ¬ 3 < k := fun z => c_8_14 ((nI_ltI (a := 3) (b := k) (by omega) (by omega)).mpr z)
        refine j_lload_n dX8_mixedHearer_11 rfl ?_
        refine j_aload_n dX8_mixedHearer_12 rfl rfl ?_
        refine j_iload dX8_mixedHearer_13 rfl ?_
        refine j_callV (q := (RX0, TX0, 6)) dX8_mixedHearer_15 kX0_tells lX8_187 inX0_tells seX0_tells gh rfl (z_rof [h, a] (z_thc gh (z_thc ga rfl)) hnd (Nat.le_of_ble_eq_true rfl) (c_X0_tells_e hl E f (nI k)) (Qv := fun v => v = some (.int (sp_tel E (nI k)))) (fun v L q => q)) (Nat.le_of_ble_eq_true rfl) ⟨(by show _ ≤ 24; omega), (by show _ ≤ 800; omega)⟩ rfl (Nat.le_of_ble_eq_true rfl) rfl rfl (fun _ _ h => h.elim) ?_
        rintro _ _ ⟨⟨v61, rfl, rfl⟩, hw61⟩
        refine j_w w1 hw61 ?_
        refine j_callS dX8_mixedHearer_18 kX8_mixed lX8_277 stX8_mixed (c_X8_mixed_e hl w1 _ _) (Nat.le_of_ble_eq_true rfl) ⟨(by show _ ≤ 24; omega), (by show _ ≤ 800; omega)⟩ rfl (Nat.le_of_ble_eq_true rfl) rfl rfl (fun _ _ h => h.elim) ?_
        rintro _ _ ⟨rfl, hw62⟩
        refine j_w w1 hw62 ?_
        refine j_lstore_n (lo' := [(3, _), (2, _), (5, _)]) dX8_mixedHearer_21 (by decide) rfl ?_
        refine j_iinc (lo' := [(5, _), (3, _), (2, _)]) dX8_mixedHearer_22 rfl (z_inc _) (by decide) rfl ?_
        refine j_goto (tgt := 5) dX8_mixedHearer_25 (by decide) ?_
        refine j_widen (kc' := 0) (ks' := 0) (by omega) (by omega) ?_
        exact j_lo2 (ih w1 (k + 1) _ hlf5 hfn5 (by omega) (by omega) gh ga (by rw [hd, sp_rg, sp_mxl_s])) (z_q1 rfl (z_q1 rfl (z_q1 rfl z_q0)))
  refine j_widen (kc' := 0) (ks' := 0) (by omega) (by omega) ?_
  exact j_lo2 (loop5 5 w 0 _ z_lf.rf hf (by omega) (by omega) gh ga sp_mxl_nil.symm) (z_q1 rfl (z_q1 rfl (z_q1 rfl z_q0)))
set_option maxRecDepth 100000 in
set_option maxHeartbeats 8000000 in
theorem cg_houseE (hl : l.stackTraces = false) (w : z_W) (S : sp_S) (fa : Nat → Int32) (fb : Nat → Int32) (mt : Int32) (ft : Nat → Int32) (ct : Nat → Int32) (f0 : Nat → Int32) (g0 : Nat → Int32) (f1 : Nat → Int32) (g1 : Nat → Int32) (c1 : Nat → Int32) (f2 : Nat → Int32) (g2 : Nat → Int32) (c2 : Nat → Int32) (f3 : Nat → Int32) (g3 : Nat → Int32) (c3 : Nat → Int32) (m3 : Int32) (f4 : Nat → Int32) (g4 : Nat → Int32) (c4 : Nat → Int32) (m4 : Int32) (f5 : Nat → Int32) (g5 : Nat → Int32) (c5 : Nat → Int32) (m5 : Int32) (ef0 : Nat → Int32) (ef1 : Nat → Int32) (p : Int32) (h1 : w.1 = (z_cw S.1.1 S.1.2 (nI (sp_R S 0).length) (sp_F S 0) fa (sp_C S 0) (nI (sp_R S 1).length) (sp_F S 1) fb (sp_C S 1) mt false ft ct f0 g0 (sp_C S 2) (nI (sp_T S 0).length) 0 f1 g1 c1 (nI (sp_T S 1).length) 0 f2 g2 c2 (nI (sp_T S 2).length) 1 f3 g3 c3 m3 0 f4 g4 c4 m4 0 f5 g5 c5 m5 1 (nI (sp_E S 0).2.length) (sp_E S 0).1.2.1 (sp_E S 0).1.2.2.1 (sp_E S 0).1.2.2.2 (sp_E S 0).1.1 ef0 (nI (sp_E S 1).2.length) (sp_E S 1).1.2.1 (sp_E S 1).1.2.2.1 (sp_E S 1).1.2.2.2 (sp_E S 1).1.1 ef1 [])) (hpp : 0 ≤ p ∧ p ≤ 4) : z_Con G l mX8_house 20 0 0 w [.ref 0, .int p] (fun v w9 => v = some (.int (sp_hse S p)) ∧ w9 = w) (fun _ _ => False) := by
  refine z_body hl (by decide) rfl (Nat.le_of_ble_eq_true rfl) ?_
  show z_J G l mX8_house _ 0 [(0, _), (1, _)] [] _ 0 0
  refine j_iload_n dX8_house_0 rfl ?_
  refine j_iconst (v := 0) dX8_house_1 (by decide) ?_
  refine j_iconst (v := 4) dX8_house_2 (by decide) ?_
  refine j_callS dX8_house_3 kX8_checkRange lX8_72 stX8_checkRange (cg_range hl w _ _ _ hpp) (Nat.le_of_ble_eq_true rfl) ⟨(by show _ ≤ 0; omega), (by show _ ≤ 0; omega)⟩ rfl (Nat.le_of_ble_eq_true rfl) rfl rfl (fun _ _ h => h.elim) ?_
  rintro _ _ ⟨rfl, hw63⟩
  refine j_w w hw63 ?_
  refine j_iload_n dX8_house_6 rfl ?_
  rcases z_sw4 p with rfl | rfl | rfl | rfl | hp
  · refine j_tsIn (tgt := 36) dX8_house_7 (by decide) (by decide) rfl (by decide) ?_
    refine j_aload_n dX8_house_36 rfl rfl ?_
    refine j_callV (q := (RX8, TX8, 9)) dX8_house_37 kX8_valuesOfRows lX8_247 inX8_valuesOfRows seX8_valuesOfRows (z_g1 h1 (by decide) rfl) rfl (z_liftro (Qv := fun v => v = some (.int (nI (0 + (sp_R S 0).length + (sp_R S 1).length)))) (Xv := fun _ => False) 51 h1 rfl (by decide) z_cwR rfl (z_CFX (X := fun _ _ => False) (c_X8_valuesOfRows_e hl S fa fb mt ft ct f0 g0 f1 g1 c1 f2 g2 c2 f3 g3 c3 m3 f4 g4 c4 m4 f5 g5 c5 m5 ef0 ef1)) (fun v L q => q) (fun v q => by cases q; rfl) (fun E L q => q.elim)) (Nat.le_of_ble_eq_true rfl) ⟨(by show _ ≤ 0; omega), (by show _ ≤ 0; omega)⟩ rfl (Nat.le_of_ble_eq_true rfl) rfl rfl (fun _ _ h => h.1.elim) ?_
    rintro _ _ ⟨rfl, hw64⟩
    refine j_w w hw64 ?_
    refine j_iret dX8_house_40 rfl rfl ?_ (by show _ ≤ 0; omega) (by show _ ≤ 0; omega)
    first | exact ⟨congrArg (fun z => some (Value.int z)) (by rw [Nat.zero_add, ← nI_add]; rfl), rfl⟩ | exact ⟨congrArg (fun z => some (Value.int z)) (by rw [Nat.zero_add, ← nI_add, ← nI_add]; rfl), rfl⟩ | exact ⟨congrArg (fun z => some (Value.int z)) (by rw [Int32.zero_add]; rfl), rfl⟩ | exact ⟨rfl, rfl⟩ | exact ⟨congrArg (fun z => some (Value.int z)) (by rw [sp_hse4 hp] <;> rfl), rfl⟩
  · refine j_tsIn (tgt := 41) dX8_house_7 (by decide) (by decide) rfl (by decide) ?_
    refine j_aload_n dX8_house_41 rfl rfl ?_
    refine j_callV (q := (RX8, TX8, 9)) dX8_house_42 kX8_pairsOfTables lX8_250 inX8_pairsOfTables seX8_pairsOfTables (z_g1 h1 (by decide) rfl) rfl (z_liftro (Qv := fun v => v = some (.int (nI (0 + (sp_T S 0).length + (sp_T S 1).length + (sp_T S 2).length)))) (Xv := fun _ => False) 51 h1 rfl (by decide) z_cwR rfl (z_CFX (X := fun _ _ => False) (c_X8_pairsOfTables_e hl S fa fb mt ft ct f0 g0 f1 g1 c1 f2 g2 c2 f3 g3 c3 m3 f4 g4 c4 m4 f5 g5 c5 m5 ef0 ef1)) (fun v L q => q) (fun v q => by cases q; rfl) (fun E L q => q.elim)) (Nat.le_of_ble_eq_true rfl) ⟨(by show _ ≤ 0; omega), (by show _ ≤ 0; omega)⟩ rfl (Nat.le_of_ble_eq_true rfl) rfl rfl (fun _ _ h => h.1.elim) ?_
    rintro _ _ ⟨rfl, hw65⟩
    refine j_w w hw65 ?_
    refine j_iret dX8_house_45 rfl rfl ?_ (by show _ ≤ 0; omega) (by show _ ≤ 0; omega)
    first | exact ⟨congrArg (fun z => some (Value.int z)) (by rw [Nat.zero_add, ← nI_add]; rfl), rfl⟩ | exact ⟨congrArg (fun z => some (Value.int z)) (by rw [Nat.zero_add, ← nI_add, ← nI_add]; rfl), rfl⟩ | exact ⟨congrArg (fun z => some (Value.int z)) (by rw [Int32.zero_add]; rfl), rfl⟩ | exact ⟨rfl, rfl⟩ | exact ⟨congrArg (fun z => some (Value.int z)) (by rw [sp_hse4 hp] <;> rfl), rfl⟩
  · refine j_tsIn (tgt := 46) dX8_house_7 (by decide) (by decide) rfl (by decide) ?_
    refine j_aload_n dX8_house_46 rfl rfl ?_
    refine j_callV (q := (RX8, TX8, 9)) dX8_house_47 kX8_numbersHeard lX8_253 inX8_numbersHeard seX8_numbersHeard (z_g1 h1 (by decide) rfl) rfl (z_liftro (Qv := fun v => v = some (.int (0 + (sp_E S 0).1.2.1 + (sp_E S 1).1.2.1))) (Xv := fun _ => False) 51 h1 rfl (by decide) z_cwR rfl (z_CFX (X := fun _ _ => False) (c_X8_numbersHeard_e hl S fa fb mt ft ct f0 g0 f1 g1 c1 f2 g2 c2 f3 g3 c3 m3 f4 g4 c4 m4 f5 g5 c5 m5 ef0 ef1)) (fun v L q => q) (fun v q => by cases q; rfl) (fun E L q => q.elim)) (Nat.le_of_ble_eq_true rfl) ⟨(by show _ ≤ 0; omega), (by show _ ≤ 0; omega)⟩ rfl (Nat.le_of_ble_eq_true rfl) rfl rfl (fun _ _ h => h.1.elim) ?_
    rintro _ _ ⟨rfl, hw66⟩
    refine j_w w hw66 ?_
    refine j_iret dX8_house_50 rfl rfl ?_ (by show _ ≤ 0; omega) (by show _ ≤ 0; omega)
    first | exact ⟨congrArg (fun z => some (Value.int z)) (by rw [Nat.zero_add, ← nI_add]; rfl), rfl⟩ | exact ⟨congrArg (fun z => some (Value.int z)) (by rw [Nat.zero_add, ← nI_add, ← nI_add]; rfl), rfl⟩ | exact ⟨congrArg (fun z => some (Value.int z)) (by rw [Int32.zero_add]; rfl), rfl⟩ | exact ⟨rfl, rfl⟩ | exact ⟨congrArg (fun z => some (Value.int z)) (by rw [sp_hse4 hp] <;> rfl), rfl⟩
  · refine j_tsIn (tgt := 51) dX8_house_7 (by decide) (by decide) rfl (by decide) ?_
    refine j_aload_n dX8_house_51 rfl rfl ?_
    refine j_getf dX8_house_52 fX8_256 (z_g1 h1 (by decide) rfl) rfl ?_
    refine j_iret dX8_house_55 rfl rfl ?_ (by show _ ≤ 0; omega) (by show _ ≤ 0; omega)
    first | exact ⟨congrArg (fun z => some (Value.int z)) (by rw [Nat.zero_add, ← nI_add]; rfl), rfl⟩ | exact ⟨congrArg (fun z => some (Value.int z)) (by rw [Nat.zero_add, ← nI_add, ← nI_add]; rfl), rfl⟩ | exact ⟨congrArg (fun z => some (Value.int z)) (by rw [Int32.zero_add]; rfl), rfl⟩ | exact ⟨rfl, rfl⟩ | exact ⟨congrArg (fun z => some (Value.int z)) (by rw [sp_hse4 hp] <;> rfl), rfl⟩
  · refine j_tsOut (tgt := 56) dX8_house_7 hp (by decide) ?_
    refine j_aload_n dX8_house_56 rfl rfl ?_
    refine j_getf dX8_house_57 fX8_244 (z_g1 h1 (by decide) rfl) rfl ?_
    refine j_iret dX8_house_60 rfl rfl ?_ (by show _ ≤ 0; omega) (by show _ ≤ 0; omega)
    first | exact ⟨congrArg (fun z => some (Value.int z)) (by rw [Nat.zero_add, ← nI_add]; rfl), rfl⟩ | exact ⟨congrArg (fun z => some (Value.int z)) (by rw [Nat.zero_add, ← nI_add, ← nI_add]; rfl), rfl⟩ | exact ⟨congrArg (fun z => some (Value.int z)) (by rw [Int32.zero_add]; rfl), rfl⟩ | exact ⟨rfl, rfl⟩ | exact ⟨congrArg (fun z => some (Value.int z)) (by rw [sp_hse4 hp] <;> rfl), rfl⟩
set_option maxRecDepth 100000 in
set_option maxHeartbeats 16000000 in
theorem px_digest (hl : l.stackTraces = false) (w : z_W) (S : sp_S) (hW : sp_CW S w.1) (hf : z_fn w) : z_Con G l mX8_digest 24 60 1660 w [.ref 0] (fun v w9 => v = some (.long (sp_dg S)) ∧ sp_CW S w9.1 ∧ z_hi w w9) (fun _ _ => False) := by
  obtain ⟨fa, fb, mt, ft, ct, f0, g0, f1, g1, c1, f2, g2, c2, f3, g3, c3, m3, f4, g4, c4, m4, f5, g5, c5, m5, ef0, ef1, hra, hrb, ht0, ht1, ht2, he0, he1, hzm3, hzm4, hzm5, h1⟩ := id hW
  refine z_body hl (by decide) rfl (Nat.le_of_ble_eq_true rfl) ?_
  show z_J G l mX8_digest _ 0 [(0, _)] [] _ 0 0
  refine j_ldc2 dX8_digest_0 kcX8_272 ?_
  refine j_lstore_n (lo' := [(1, _), (0, _)]) dX8_digest_3 (by decide) rfl ?_
  refine j_iconst (v := 0) dX8_digest_4 (by decide) ?_
  refine j_istore_n (lo' := [(3, _), (1, _), (0, _)]) dX8_digest_5 (by decide) rfl ?_
  have loop6 : ∀ (n1 : Nat) (w1 : z_W) (k : Nat) (d : Int64), (z_lf w w1) → (z_fn w1) → (k ≤ 5) → (5 < k + n1) → (d = sp_mxl 7774 ((List.range k).map (sp_hsv S))) → z_J G l mX8_digest (24, 60, 1660, w, (fun v w9 => v = some (.long (sp_dg S)) ∧ sp_CW S w9.1 ∧ z_hi w w9), (fun _ _ => False)) 6 [(0, .ref 0), (1, .long d), (3, .int (nI k))] [] w1 (0) (0) := by
    intro n1
    induction n1 with
    | zero => intro w1 k d hlf6 hfn6 ha1 hb1 hd1; exact absurd hb1 (by omega)
    | succ n1 i1 =>
      intro w1 k d hlf6 hfn6 ha1 hb1 hd1
      refine j_iload_n dX8_digest_6 rfl ?_
      refine j_iconst (v := 4) dX8_digest_7 (by decide) ?_
      refine j_icmp_gt (tgt := 27) dX8_digest_8 (by decide) (fun c_8_14 => ?_) (fun c_8_14 => ?_)
      · have hb8 : 4 < k := (nI_ltI (a := 4) (b := k) (by omega) (by omega)).mp c_8_14
        refine j_aload_n dX8_digest_27 rfl rfl ?_
        refine j_getf dX8_digest_28 fX8_10 (z_g1 (hlf6.1.trans h1) (by decide) rfl) rfl ?_
        refine j_astore_n (lo' := [(3, _), (0, _), (1, _)]) dX8_digest_31 rfl (by decide) rfl ?_
        refine j_aload_n dX8_digest_32 rfl rfl ?_
        refine j_alen dX8_digest_33 (z_g1 (hlf6.1.trans h1) (by decide) rfl) rfl rfl ?_
        refine j_istore (lo' := [(4, _), (3, _), (0, _), (1, _)]) dX8_digest_34 (by decide) rfl ?_
        refine j_iconst (v := 0) dX8_digest_36 (by decide) ?_
        refine j_istore (lo' := [(5, _), (4, _), (3, _), (0, _), (1, _)]) dX8_digest_37 (by decide) rfl ?_
        have loop39 : ∀ (n2 : Nat) (w2 : z_W) (k : Nat) (d : Int64), (z_lf w w2) → (z_fn w2) → (k ≤ 2) → (2 < k + n2) → (d = sp_mxl (sp_d1 S) (sp_rws S k)) → z_J G l mX8_digest (24, 60, 1660, w, (fun v w9 => v = some (.long (sp_dg S)) ∧ sp_CW S w9.1 ∧ z_hi w w9), (fun _ _ => False)) 39 [(0, .ref 0), (1, .long d), (3, .ref 1), (4, .int (nI 2)), (5, .int (nI k))] [] w2 (0) (0) := by
          intro n2
          induction n2 with
          | zero => intro w2 k d hlf39 hfn39 ha2 hb2 hd2; exact absurd hb2 (by omega)
          | succ n2 i2 =>
            intro w2 k d hlf39 hfn39 ha2 hb2 hd2
            refine j_iload dX8_digest_39 rfl ?_
            refine j_iload dX8_digest_41 rfl ?_
            refine j_icmp_ge (tgt := 65) dX8_digest_43 (by decide) (fun c_43_32 => ?_) (fun c_43_32 => ?_)
            · have hb43 : 2 ≤ k := (nI_leI (a := 2) (b := k) (by omega) (by omega)).mp c_43_32
              refine j_aload_n dX8_digest_65 rfl rfl ?_
              refine j_getf dX8_digest_66 fX8_25 (z_g1 (hlf39.1.trans h1) (by decide) rfl) rfl ?_
              refine j_astore_n (lo' := [(3, _), (0, _), (1, _), (4, _), (5, _)]) dX8_digest_69 rfl (by decide) rfl ?_
              refine j_aload_n dX8_digest_70 rfl rfl ?_
              refine j_alen dX8_digest_71 (z_g1 (hlf39.1.trans h1) (by decide) rfl) rfl rfl ?_
              refine j_istore (lo' := [(4, _), (3, _), (0, _), (1, _), (5, _)]) dX8_digest_72 (by decide) rfl ?_
              refine j_iconst (v := 0) dX8_digest_74 (by decide) ?_
              refine j_istore (lo' := [(5, _), (4, _), (3, _), (0, _), (1, _)]) dX8_digest_75 (by decide) rfl ?_
              have loop77 : ∀ (n3 : Nat) (w3 : z_W) (k : Nat) (d : Int64), (z_lf w w3) → (z_fn w3) → (k ≤ 3) → (3 < k + n3) → (d = sp_mxl (sp_d2 S) (sp_tbs S k)) → z_J G l mX8_digest (24, 60, 1660, w, (fun v w9 => v = some (.long (sp_dg S)) ∧ sp_CW S w9.1 ∧ z_hi w w9), (fun _ _ => False)) 77 [(0, .ref 0), (1, .long d), (3, .ref 15), (4, .int (nI 3)), (5, .int (nI k))] [] w3 (0) (0) := by
                intro n3
                induction n3 with
                | zero => intro w3 k d hlf77 hfn77 ha3 hb3 hd3; exact absurd hb3 (by omega)
                | succ n3 i3 =>
                  intro w3 k d hlf77 hfn77 ha3 hb3 hd3
                  refine j_iload dX8_digest_77 rfl ?_
                  refine j_iload dX8_digest_79 rfl ?_
                  refine j_icmp_ge (tgt := 103) dX8_digest_81 (by decide) (fun c_81_50 => ?_) (fun c_81_50 => ?_)
                  · have hb81 : 3 ≤ k := (nI_leI (a := 3) (b := k) (by omega) (by omega)).mp c_81_50
                    refine j_iconst (v := 0) dX8_digest_103 (by decide) ?_
                    refine j_istore_n (lo' := [(3, _), (0, _), (1, _), (4, _), (5, _)]) dX8_digest_104 (by decide) rfl ?_
                    have loop105 : ∀ (n4 : Nat) (w4 : z_W) (k : Nat) (d : Int64), (z_lf w w4) → (z_fn w4) → (k ≤ 7) → (7 < k + n4) → (d = sp_mxl (sp_d3 S) ((List.range k).map (sp_C S 2))) → z_J G l mX8_digest (24, 60, 1660, w, (fun v w9 => v = some (.long (sp_dg S)) ∧ sp_CW S w9.1 ∧ z_hi w w9), (fun _ _ => False)) 105 [(0, .ref 0), (1, .long d), (3, .int (nI k))] [] w4 (0) (0) := by
                      intro n4
                      induction n4 with
                      | zero => intro w4 k d hlf105 hfn105 ha4 hb4 hd4; exact absurd hb4 (by omega)
                      | succ n4 i4 =>
                        intro w4 k d hlf105 hfn105 ha4 hb4 hd4
                        refine j_iload_n dX8_digest_105 rfl ?_
                        refine j_bipush (v := 6) dX8_digest_106 (by decide) ?_
                        refine j_icmp_gt (tgt := 133) dX8_digest_108 (by decide) (fun c_108_62 => ?_) (fun c_108_62 => ?_)
                        · have hb108 : 6 < k := (nI_ltI (a := 6) (b := k) (by omega) (by omega)).mp c_108_62
                          refine j_aload_n dX8_digest_133 rfl rfl ?_
                          refine j_getf dX8_digest_134 fX8_32 (z_g1 (hlf105.1.trans h1) (by decide) rfl) rfl ?_
                          refine j_astore_n (lo' := [(3, _), (0, _), (1, _)]) dX8_digest_137 rfl (by decide) rfl ?_
                          refine j_aload_n dX8_digest_138 rfl rfl ?_
                          refine j_alen dX8_digest_139 (z_g1 (hlf105.1.trans h1) (by decide) rfl) rfl rfl ?_
                          refine j_istore (lo' := [(4, _), (3, _), (0, _), (1, _)]) dX8_digest_140 (by decide) rfl ?_
                          refine j_iconst (v := 0) dX8_digest_142 (by decide) ?_
                          refine j_istore (lo' := [(5, _), (4, _), (3, _), (0, _), (1, _)]) dX8_digest_143 (by decide) rfl ?_
                          have loop145 : ∀ (n5 : Nat) (w5 : z_W) (k : Nat) (d : Int64), (z_lf w w5) → (z_fn w5) → (k ≤ 2) → (2 < k + n5) → (d = sp_mxl (sp_d4 S) (sp_hes S k)) → z_J G l mX8_digest (24, 60, 1660, w, (fun v w9 => v = some (.long (sp_dg S)) ∧ sp_CW S w9.1 ∧ z_hi w w9), (fun _ _ => False)) 145 [(0, .ref 0), (1, .long d), (3, .ref 26), (4, .int (nI 2)), (5, .int (nI k))] [] w5 (24 * k) (800 * k) := by
                            intro n5
                            induction n5 with
                            | zero => intro w5 k d hlf145 hfn145 ha5 hb5 hd5; exact absurd hb5 (by omega)
                            | succ n5 i5 =>
                              intro w5 k d hlf145 hfn145 ha5 hb5 hd5
                              refine j_iload dX8_digest_145 rfl ?_
                              refine j_iload dX8_digest_147 rfl ?_
                              refine j_icmp_ge (tgt := 171) dX8_digest_149 (by decide) (fun c_149_80 => ?_) (fun c_149_80 => ?_)
                              · have hb149 : 2 ≤ k := (nI_leI (a := 2) (b := k) (by omega) (by omega)).mp c_149_80
                                refine j_lload_n dX8_digest_171 rfl ?_
                                refine j_aload_n dX8_digest_172 rfl rfl ?_
                                have hWs : sp_CW S w5.1 := by rw [hlf145.1]; exact hW
                                refine j_callV (q := (RX8, TX8, 9)) dX8_digest_173 kX8_isSound lX8_293 inX8_isSound seX8_isSound (z_g1 (hlf145.1.trans h1) (by decide) rfl) rfl (px_isSound hl w5 S hWs) (Nat.le_of_ble_eq_true rfl) ⟨(by show _ ≤ 60; omega), (by show _ ≤ 1660; omega)⟩ rfl (Nat.le_of_ble_eq_true rfl) rfl rfl (fun _ _ h => h.elim) ?_
                                rintro _ w6 ⟨rfl, hWn, hhi⟩
                                refine j_callS dX8_digest_176 kX8_oneIf lX8_83 stX8_oneIf (c_X8_oneIf_b hl w6 true) (Nat.le_of_ble_eq_true rfl) ⟨(by show _ ≤ 60; omega), (by show _ ≤ 1660; omega)⟩ rfl (Nat.le_of_ble_eq_true rfl) rfl rfl (fun _ _ h => h.elim) ?_
                                rintro _ _ ⟨rfl, hw67⟩
                                refine j_w w6 hw67 ?_
                                refine j_callS dX8_digest_179 kX8_mixed lX8_277 stX8_mixed (c_X8_mixed_e hl w6 _ _) (Nat.le_of_ble_eq_true rfl) ⟨(by show _ ≤ 60; omega), (by show _ ≤ 1660; omega)⟩ rfl (Nat.le_of_ble_eq_true rfl) rfl rfl (fun _ _ h => h.elim) ?_
                                rintro _ _ ⟨rfl, hw68⟩
                                refine j_w w6 hw68 ?_
                                refine j_lret dX8_digest_182 rfl ?_ (by show _ ≤ 60; omega) (by show _ ≤ 1660; omega)
                                refine ⟨congrArg (fun z => some (Value.long z)) ?_, hWn, hlf145.2.tr hhi⟩
                                have h9 : k = 2 := by omega
                                subst h9
                                rw [hd5]
                                exact sp_e5
                              · have hb149 : k < 2 := Nat.not_le.mp (fun z => c_149_80 ((nI_leI (a := 2) (b := k) (by omega) (by omega)).mpr z))
                                rcases (by omega : k = 0 ∨ k = 1) with rfl | rfl
                                · refine j_aload_n dX8_digest_152 rfl rfl ?_
                                  refine j_iload dX8_digest_153 rfl ?_
                                  refine j_aald (v := .ref 27) dX8_digest_155 (z_g1 (hlf145.1.trans h1) (by decide) rfl) rfl rfl (vp_in_nI (by decide) (by decide)) (by rw [show (nI 0).toNatClampNeg = 0 from z_cla (by decide)]; rfl) ?_
                                  refine j_astore (lo' := [(6, _), (0, _), (1, _), (3, _), (4, _), (5, _)]) dX8_digest_156 rfl (by decide) rfl ?_
                                  refine j_lload_n dX8_digest_158 rfl ?_
                                  refine j_aload dX8_digest_159 rfl rfl ?_
                                  refine j_callS dX8_digest_161 kX8_mixedHearer lX8_289 stX8_mixedHearer (cg_mixedHE hl w5 d 27 28 (sp_E S 0) ef0 (by decide) (by decide) hfn145 he0 (z_g1 (hlf145.1.trans h1) (by decide) rfl) (z_g1 (hlf145.1.trans h1) (by decide) rfl) (by decide)) (Nat.le_of_ble_eq_true rfl) ⟨(by show _ ≤ 60; omega), (by show _ ≤ 1660; omega)⟩ rfl (Nat.le_of_ble_eq_true rfl) rfl rfl (fun _ _ h => h.elim) ?_
                                  rintro _ w7 ⟨rfl, lf7⟩
                                  have hf7 := lf7.2.2 hfn145
                                  have h1_7 := (lf7.1).trans (hlf145.1.trans h1)
                                  refine j_lstore_n (lo' := [(1, _), (6, _), (0, _), (3, _), (4, _), (5, _)]) dX8_digest_164 (by decide) rfl ?_
                                  refine j_iinc (lo' := [(5, _), (1, _), (6, _), (0, _), (3, _), (4, _)]) dX8_digest_165 rfl (z_inc _) (by decide) rfl ?_
                                  refine j_goto (tgt := 145) dX8_digest_168 (by decide) ?_
                                  refine j_widen (kc' := 24 * (0 + 1)) (ks' := 800 * (0 + 1)) (by omega) (by omega) ?_
                                  exact j_lo2 (i5 w7 (0 + 1) _ (hlf145.tr lf7) hf7 (by omega) (by omega) (by rw [hd5]; exact sp_mxl_app.symm)) (z_q1 rfl (z_q1 rfl (z_q1 rfl (z_q1 rfl (z_q1 rfl z_q0)))))
                                · refine j_aload_n dX8_digest_152 rfl rfl ?_
                                  refine j_iload dX8_digest_153 rfl ?_
                                  refine j_aald (v := .ref 29) dX8_digest_155 (z_g1 (hlf145.1.trans h1) (by decide) rfl) rfl rfl (vp_in_nI (by decide) (by decide)) (by rw [show (nI 1).toNatClampNeg = 1 from z_cla (by decide)]; rfl) ?_
                                  refine j_astore (lo' := [(6, _), (0, _), (1, _), (3, _), (4, _), (5, _)]) dX8_digest_156 rfl (by decide) rfl ?_
                                  refine j_lload_n dX8_digest_158 rfl ?_
                                  refine j_aload dX8_digest_159 rfl rfl ?_
                                  refine j_callS dX8_digest_161 kX8_mixedHearer lX8_289 stX8_mixedHearer (cg_mixedHE hl w5 d 29 30 (sp_E S 1) ef1 (by decide) (by decide) hfn145 he1 (z_g1 (hlf145.1.trans h1) (by decide) rfl) (z_g1 (hlf145.1.trans h1) (by decide) rfl) (by decide)) (Nat.le_of_ble_eq_true rfl) ⟨(by show _ ≤ 60; omega), (by show _ ≤ 1660; omega)⟩ rfl (Nat.le_of_ble_eq_true rfl) rfl rfl (fun _ _ h => h.elim) ?_
                                  rintro _ w8 ⟨rfl, lf8⟩
                                  have hf8 := lf8.2.2 hfn145
                                  have h1_8 := (lf8.1).trans (hlf145.1.trans h1)
                                  refine j_lstore_n (lo' := [(1, _), (6, _), (0, _), (3, _), (4, _), (5, _)]) dX8_digest_164 (by decide) rfl ?_
                                  refine j_iinc (lo' := [(5, _), (1, _), (6, _), (0, _), (3, _), (4, _)]) dX8_digest_165 rfl (z_inc _) (by decide) rfl ?_
                                  refine j_goto (tgt := 145) dX8_digest_168 (by decide) ?_
                                  refine j_widen (kc' := 24 * (1 + 1)) (ks' := 800 * (1 + 1)) (by omega) (by omega) ?_
                                  exact j_lo2 (i5 w8 (1 + 1) _ (hlf145.tr lf8) hf8 (by omega) (by omega) (by rw [hd5]; exact sp_mxl_app.symm)) (z_q1 rfl (z_q1 rfl (z_q1 rfl (z_q1 rfl (z_q1 rfl z_q0)))))
                          refine j_widen (kc' := 24 * 0) (ks' := 800 * 0) (by omega) (by omega) ?_
                          exact j_lo2 (loop145 3 w4 0 _ hlf105 hfn105 (by omega) (by omega) (by have h9 : k = 7 := (by omega); subst h9; exact hd4.trans sp_e4)) (z_q1 rfl (z_q1 rfl (z_q1 rfl (z_q1 rfl (z_q1 rfl z_q0)))))
                        · have hb108 : ¬ 6 < k := fun z => c_108_62 ((nI_ltI (a := 6) (b := k) (by omega) (by omega)).mpr z)
                          refine j_lload_n dX8_digest_111 rfl ?_
                          refine j_aload_n dX8_digest_112 rfl rfl ?_
                          refine j_getf dX8_digest_113 fX8_21 (z_g1 (hlf105.1.trans h1) (by decide) rfl) rfl ?_
                          refine j_getf dX8_digest_116 fX8_223 (z_g1 (hlf105.1.trans h1) (by decide) rfl) rfl ?_
                          refine j_iload_n dX8_digest_119 rfl ?_
                          refine j_callV (q := (RX6, TX6, 1)) dX8_digest_120 kX6_of lX8_218 inX6_of seX6_of (z_g1 (hlf105.1.trans h1) (by decide) rfl) rfl (z_rof [13, 14] (z_thc (z_g1 (hlf105.1.trans h1) (by decide) rfl) (z_thc (z_g1 (hlf105.1.trans h1) (by decide) rfl) rfl)) (by decide) (Nat.le_of_ble_eq_true rfl) (c_X6_of_e hl (sp_C S 2) k (by omega)) (Qv := fun v => v = some (.int (sp_C S 2 k))) (fun v L q => q)) (Nat.le_of_ble_eq_true rfl) ⟨(by show _ ≤ 60; omega), (by show _ ≤ 1660; omega)⟩ rfl (Nat.le_of_ble_eq_true rfl) rfl rfl (fun _ _ h => h.elim) ?_
                          rintro _ _ ⟨⟨v69, rfl, rfl⟩, hw69⟩
                          refine j_w w4 hw69 ?_
                          refine j_callS dX8_digest_123 kX8_mixed lX8_277 stX8_mixed (c_X8_mixed_e hl w4 _ _) (Nat.le_of_ble_eq_true rfl) ⟨(by show _ ≤ 60; omega), (by show _ ≤ 1660; omega)⟩ rfl (Nat.le_of_ble_eq_true rfl) rfl rfl (fun _ _ h => h.elim) ?_
                          rintro _ _ ⟨rfl, hw70⟩
                          refine j_w w4 hw70 ?_
                          refine j_lstore_n (lo' := [(1, _), (0, _), (3, _)]) dX8_digest_126 (by decide) rfl ?_
                          refine j_iinc (lo' := [(3, _), (1, _), (0, _)]) dX8_digest_127 rfl (z_inc _) (by decide) rfl ?_
                          refine j_goto (tgt := 105) dX8_digest_130 (by decide) ?_
                          refine j_widen (kc' := 0) (ks' := 0) (by omega) (by omega) ?_
                          exact j_lo2 (i4 w4 (k + 1) _ hlf105 hfn105 (by omega) (by omega) (by rw [hd4, sp_rg, sp_mxl_s])) (z_q1 rfl (z_q1 rfl (z_q1 rfl z_q0)))
                    refine j_widen (kc' := 0) (ks' := 0) (by omega) (by omega) ?_
                    exact j_lo2 (loop105 8 w3 0 _ hlf77 hfn77 (by omega) (by omega) (by have h9 : k = 3 := (by omega); subst h9; exact hd3.trans sp_e3)) (z_q1 rfl (z_q1 rfl (z_q1 rfl z_q0)))
                  · have hb81 : k < 3 := Nat.not_le.mp (fun z => c_81_50 ((nI_leI (a := 3) (b := k) (by omega) (by omega)).mpr z))
                    rcases (by omega : k = 0 ∨ k = 1 ∨ k = 2) with rfl | rfl | rfl
                    · refine j_aload_n dX8_digest_84 rfl rfl ?_
                      refine j_iload dX8_digest_85 rfl ?_
                      refine j_aald (v := .ref 10) dX8_digest_87 (z_g1 (hlf77.1.trans h1) (by decide) rfl) rfl rfl (vp_in_nI (by decide) (by decide)) (by rw [show (nI 0).toNatClampNeg = 0 from z_cla (by decide)]; rfl) ?_
                      refine j_astore (lo' := [(6, _), (0, _), (1, _), (3, _), (4, _), (5, _)]) dX8_digest_88 rfl (by decide) rfl ?_
                      refine j_lload_n dX8_digest_90 rfl ?_
                      refine j_aload dX8_digest_91 rfl rfl ?_
                      refine j_callS dX8_digest_93 kX8_mixedTable lX8_285 stX8_mixedTable (z_rof [10, 11, 12, 13, 14] (z_thc (z_g1 (hlf77.1.trans h1) (by decide) rfl) (z_thc (z_g1 (hlf77.1.trans h1) (by decide) rfl) (z_thc (z_g1 (hlf77.1.trans h1) (by decide) rfl) (z_thc (z_g1 (hlf77.1.trans h1) (by decide) rfl) (z_thc (z_g1 (hlf77.1.trans h1) (by decide) rfl) rfl))))) (by decide) (Nat.le_of_ble_eq_true rfl) (c_X8_mixedTable_e hl false f0 g0 (sp_C S 2) (sp_T S 0) d ht0) (Qv := fun v => v = some (.long (sp_mxl d (nI (sp_T S 0).length :: sp_tbl (sp_T S 0))))) (fun v L q => q)) (Nat.le_of_ble_eq_true rfl) ⟨(by show _ ≤ 60; omega), (by show _ ≤ 1660; omega)⟩ rfl (Nat.le_of_ble_eq_true rfl) rfl rfl (fun _ _ h => h.elim) ?_
                      rintro _ _ ⟨⟨v71, rfl, rfl⟩, hw71⟩
                      refine j_w w3 hw71 ?_
                      refine j_lstore_n (lo' := [(1, _), (6, _), (0, _), (3, _), (4, _), (5, _)]) dX8_digest_96 (by decide) rfl ?_
                      refine j_iinc (lo' := [(5, _), (1, _), (6, _), (0, _), (3, _), (4, _)]) dX8_digest_97 rfl (z_inc _) (by decide) rfl ?_
                      refine j_goto (tgt := 77) dX8_digest_100 (by decide) ?_
                      refine j_widen (kc' := 0) (ks' := 0) (by omega) (by omega) ?_
                      exact j_lo2 (i3 w3 (0 + 1) _ hlf77 hfn77 (by omega) (by omega) (by rw [hd3]; exact sp_mxl_app.symm)) (z_q1 rfl (z_q1 rfl (z_q1 rfl (z_q1 rfl (z_q1 rfl z_q0)))))
                    · refine j_aload_n dX8_digest_84 rfl rfl ?_
                      refine j_iload dX8_digest_85 rfl ?_
                      refine j_aald (v := .ref 16) dX8_digest_87 (z_g1 (hlf77.1.trans h1) (by decide) rfl) rfl rfl (vp_in_nI (by decide) (by decide)) (by rw [show (nI 1).toNatClampNeg = 1 from z_cla (by decide)]; rfl) ?_
                      refine j_astore (lo' := [(6, _), (0, _), (1, _), (3, _), (4, _), (5, _)]) dX8_digest_88 rfl (by decide) rfl ?_
                      refine j_lload_n dX8_digest_90 rfl ?_
                      refine j_aload dX8_digest_91 rfl rfl ?_
                      refine j_callS dX8_digest_93 kX8_mixedTable lX8_285 stX8_mixedTable (z_rof [16, 17, 18, 19, 20] (z_thc (z_g1 (hlf77.1.trans h1) (by decide) rfl) (z_thc (z_g1 (hlf77.1.trans h1) (by decide) rfl) (z_thc (z_g1 (hlf77.1.trans h1) (by decide) rfl) (z_thc (z_g1 (hlf77.1.trans h1) (by decide) rfl) (z_thc (z_g1 (hlf77.1.trans h1) (by decide) rfl) rfl))))) (by decide) (Nat.le_of_ble_eq_true rfl) (c_X8_mixedTable_e hl false f1 g1 c1 (sp_T S 1) d ht1) (Qv := fun v => v = some (.long (sp_mxl d (nI (sp_T S 1).length :: sp_tbl (sp_T S 1))))) (fun v L q => q)) (Nat.le_of_ble_eq_true rfl) ⟨(by show _ ≤ 60; omega), (by show _ ≤ 1660; omega)⟩ rfl (Nat.le_of_ble_eq_true rfl) rfl rfl (fun _ _ h => h.elim) ?_
                      rintro _ _ ⟨⟨v72, rfl, rfl⟩, hw72⟩
                      refine j_w w3 hw72 ?_
                      refine j_lstore_n (lo' := [(1, _), (6, _), (0, _), (3, _), (4, _), (5, _)]) dX8_digest_96 (by decide) rfl ?_
                      refine j_iinc (lo' := [(5, _), (1, _), (6, _), (0, _), (3, _), (4, _)]) dX8_digest_97 rfl (z_inc _) (by decide) rfl ?_
                      refine j_goto (tgt := 77) dX8_digest_100 (by decide) ?_
                      refine j_widen (kc' := 0) (ks' := 0) (by omega) (by omega) ?_
                      exact j_lo2 (i3 w3 (1 + 1) _ hlf77 hfn77 (by omega) (by omega) (by rw [hd3]; exact sp_mxl_app.symm)) (z_q1 rfl (z_q1 rfl (z_q1 rfl (z_q1 rfl (z_q1 rfl z_q0)))))
                    · refine j_aload_n dX8_digest_84 rfl rfl ?_
                      refine j_iload dX8_digest_85 rfl ?_
                      refine j_aald (v := .ref 21) dX8_digest_87 (z_g1 (hlf77.1.trans h1) (by decide) rfl) rfl rfl (vp_in_nI (by decide) (by decide)) (by rw [show (nI 2).toNatClampNeg = 2 from z_cla (by decide)]; rfl) ?_
                      refine j_astore (lo' := [(6, _), (0, _), (1, _), (3, _), (4, _), (5, _)]) dX8_digest_88 rfl (by decide) rfl ?_
                      refine j_lload_n dX8_digest_90 rfl ?_
                      refine j_aload dX8_digest_91 rfl rfl ?_
                      refine j_callS dX8_digest_93 kX8_mixedTable lX8_285 stX8_mixedTable (z_rof [21, 22, 23, 24, 25] (z_thc (z_g1 (hlf77.1.trans h1) (by decide) rfl) (z_thc (z_g1 (hlf77.1.trans h1) (by decide) rfl) (z_thc (z_g1 (hlf77.1.trans h1) (by decide) rfl) (z_thc (z_g1 (hlf77.1.trans h1) (by decide) rfl) (z_thc (z_g1 (hlf77.1.trans h1) (by decide) rfl) rfl))))) (by decide) (Nat.le_of_ble_eq_true rfl) (c_X8_mixedTable_e hl true f2 g2 c2 (sp_T S 2) d ht2) (Qv := fun v => v = some (.long (sp_mxl d (nI (sp_T S 2).length :: sp_tbl (sp_T S 2))))) (fun v L q => q)) (Nat.le_of_ble_eq_true rfl) ⟨(by show _ ≤ 60; omega), (by show _ ≤ 1660; omega)⟩ rfl (Nat.le_of_ble_eq_true rfl) rfl rfl (fun _ _ h => h.elim) ?_
                      rintro _ _ ⟨⟨v73, rfl, rfl⟩, hw73⟩
                      refine j_w w3 hw73 ?_
                      refine j_lstore_n (lo' := [(1, _), (6, _), (0, _), (3, _), (4, _), (5, _)]) dX8_digest_96 (by decide) rfl ?_
                      refine j_iinc (lo' := [(5, _), (1, _), (6, _), (0, _), (3, _), (4, _)]) dX8_digest_97 rfl (z_inc _) (by decide) rfl ?_
                      refine j_goto (tgt := 77) dX8_digest_100 (by decide) ?_
                      refine j_widen (kc' := 0) (ks' := 0) (by omega) (by omega) ?_
                      exact j_lo2 (i3 w3 (2 + 1) _ hlf77 hfn77 (by omega) (by omega) (by rw [hd3]; exact sp_mxl_app.symm)) (z_q1 rfl (z_q1 rfl (z_q1 rfl (z_q1 rfl (z_q1 rfl z_q0)))))
              refine j_widen (kc' := 0) (ks' := 0) (by omega) (by omega) ?_
              exact j_lo2 (loop77 4 w2 0 _ hlf39 hfn39 (by omega) (by omega) (by have h9 : k = 2 := (by omega); subst h9; exact hd2.trans sp_e2)) (z_q1 rfl (z_q1 rfl (z_q1 rfl (z_q1 rfl (z_q1 rfl z_q0)))))
            · have hb43 : k < 2 := Nat.not_le.mp (fun z => c_43_32 ((nI_leI (a := 2) (b := k) (by omega) (by omega)).mpr z))
              rcases (by omega : k = 0 ∨ k = 1) with rfl | rfl
              · refine j_aload_n dX8_digest_46 rfl rfl ?_
                refine j_iload dX8_digest_47 rfl ?_
                refine j_aald (v := .ref 2) dX8_digest_49 (z_g1 (hlf39.1.trans h1) (by decide) rfl) rfl rfl (vp_in_nI (by decide) (by decide)) (by rw [show (nI 0).toNatClampNeg = 0 from z_cla (by decide)]; rfl) ?_
                refine j_astore (lo' := [(6, _), (0, _), (1, _), (3, _), (4, _), (5, _)]) dX8_digest_50 rfl (by decide) rfl ?_
                refine j_lload_n dX8_digest_52 rfl ?_
                refine j_aload dX8_digest_53 rfl rfl ?_
                refine j_callS dX8_digest_55 kX8_mixedRow lX8_281 stX8_mixedRow (z_rof [2, 3, 4, 5] (z_thc (z_g1 (hlf39.1.trans h1) (by decide) rfl) (z_thc (z_g1 (hlf39.1.trans h1) (by decide) rfl) (z_thc (z_g1 (hlf39.1.trans h1) (by decide) rfl) (z_thc (z_g1 (hlf39.1.trans h1) (by decide) rfl) rfl)))) (by decide) (Nat.le_of_ble_eq_true rfl) (c_X8_mixedRow_e hl (sp_F S 0) fa (sp_C S 0) (sp_R S 0) _ d hra rfl) (Qv := fun v => v = some (.long (sp_mxl d (sp_rwl (sp_R S 0) (sp_F S 0) (sp_C S 0))))) (fun v L q => q)) (Nat.le_of_ble_eq_true rfl) ⟨(by show _ ≤ 60; omega), (by show _ ≤ 1660; omega)⟩ rfl (Nat.le_of_ble_eq_true rfl) rfl rfl (fun _ _ h => h.elim) ?_
                rintro _ _ ⟨⟨v74, rfl, rfl⟩, hw74⟩
                refine j_w w2 hw74 ?_
                refine j_lstore_n (lo' := [(1, _), (6, _), (0, _), (3, _), (4, _), (5, _)]) dX8_digest_58 (by decide) rfl ?_
                refine j_iinc (lo' := [(5, _), (1, _), (6, _), (0, _), (3, _), (4, _)]) dX8_digest_59 rfl (z_inc _) (by decide) rfl ?_
                refine j_goto (tgt := 39) dX8_digest_62 (by decide) ?_
                refine j_widen (kc' := 0) (ks' := 0) (by omega) (by omega) ?_
                exact j_lo2 (i2 w2 (0 + 1) _ hlf39 hfn39 (by omega) (by omega) (by rw [hd2]; exact sp_mxl_app.symm)) (z_q1 rfl (z_q1 rfl (z_q1 rfl (z_q1 rfl (z_q1 rfl z_q0)))))
              · refine j_aload_n dX8_digest_46 rfl rfl ?_
                refine j_iload dX8_digest_47 rfl ?_
                refine j_aald (v := .ref 6) dX8_digest_49 (z_g1 (hlf39.1.trans h1) (by decide) rfl) rfl rfl (vp_in_nI (by decide) (by decide)) (by rw [show (nI 1).toNatClampNeg = 1 from z_cla (by decide)]; rfl) ?_
                refine j_astore (lo' := [(6, _), (0, _), (1, _), (3, _), (4, _), (5, _)]) dX8_digest_50 rfl (by decide) rfl ?_
                refine j_lload_n dX8_digest_52 rfl ?_
                refine j_aload dX8_digest_53 rfl rfl ?_
                refine j_callS dX8_digest_55 kX8_mixedRow lX8_281 stX8_mixedRow (z_rof [6, 7, 8, 9] (z_thc (z_g1 (hlf39.1.trans h1) (by decide) rfl) (z_thc (z_g1 (hlf39.1.trans h1) (by decide) rfl) (z_thc (z_g1 (hlf39.1.trans h1) (by decide) rfl) (z_thc (z_g1 (hlf39.1.trans h1) (by decide) rfl) rfl)))) (by decide) (Nat.le_of_ble_eq_true rfl) (c_X8_mixedRow_e hl (sp_F S 1) fb (sp_C S 1) (sp_R S 1) _ d hrb rfl) (Qv := fun v => v = some (.long (sp_mxl d (sp_rwl (sp_R S 1) (sp_F S 1) (sp_C S 1))))) (fun v L q => q)) (Nat.le_of_ble_eq_true rfl) ⟨(by show _ ≤ 60; omega), (by show _ ≤ 1660; omega)⟩ rfl (Nat.le_of_ble_eq_true rfl) rfl rfl (fun _ _ h => h.elim) ?_
                rintro _ _ ⟨⟨v75, rfl, rfl⟩, hw75⟩
                refine j_w w2 hw75 ?_
                refine j_lstore_n (lo' := [(1, _), (6, _), (0, _), (3, _), (4, _), (5, _)]) dX8_digest_58 (by decide) rfl ?_
                refine j_iinc (lo' := [(5, _), (1, _), (6, _), (0, _), (3, _), (4, _)]) dX8_digest_59 rfl (z_inc _) (by decide) rfl ?_
                refine j_goto (tgt := 39) dX8_digest_62 (by decide) ?_
                refine j_widen (kc' := 0) (ks' := 0) (by omega) (by omega) ?_
                exact j_lo2 (i2 w2 (1 + 1) _ hlf39 hfn39 (by omega) (by omega) (by rw [hd2]; exact sp_mxl_app.symm)) (z_q1 rfl (z_q1 rfl (z_q1 rfl (z_q1 rfl (z_q1 rfl z_q0)))))
        refine j_widen (kc' := 0) (ks' := 0) (by omega) (by omega) ?_
        exact j_lo2 (loop39 3 w1 0 _ hlf6 hfn6 (by omega) (by omega) (by have h9 : k = 5 := (by omega); subst h9; exact hd1.trans sp_e1)) (z_q1 rfl (z_q1 rfl (z_q1 rfl (z_q1 rfl (z_q1 rfl z_q0)))))
      · have hb8 : ¬ 4 < k := fun z => c_8_14 ((nI_ltI (a := 4) (b := k) (by omega) (by omega)).mpr z)
        refine j_lload_n dX8_digest_11 rfl ?_
        refine j_aload_n dX8_digest_12 rfl rfl ?_
        refine j_iload_n dX8_digest_13 rfl ?_
        refine j_callV (q := (RX8, TX8, 9)) dX8_digest_14 kX8_house lX8_274 inX8_house seX8_house (z_g1 (hlf6.1.trans h1) (by decide) rfl) rfl (cg_houseE hl w1 S fa fb mt ft ct f0 g0 f1 g1 c1 f2 g2 c2 f3 g3 c3 m3 f4 g4 c4 m4 f5 g5 c5 m5 ef0 ef1 _ (hlf6.1.trans h1) ⟨(nI_leI (a := 0) (b := k) (by omega) (by omega)).mpr (Nat.zero_le _), (nI_leI (a := k) (b := 4) (by omega) (by omega)).mpr (by omega)⟩) (Nat.le_of_ble_eq_true rfl) ⟨(by show _ ≤ 60; omega), (by show _ ≤ 1660; omega)⟩ rfl (Nat.le_of_ble_eq_true rfl) rfl rfl (fun _ _ h => h.elim) ?_
        rintro _ _ ⟨rfl, hw76⟩
        refine j_w w1 hw76 ?_
        refine j_callS dX8_digest_17 kX8_mixed lX8_277 stX8_mixed (c_X8_mixed_e hl w1 _ _) (Nat.le_of_ble_eq_true rfl) ⟨(by show _ ≤ 60; omega), (by show _ ≤ 1660; omega)⟩ rfl (Nat.le_of_ble_eq_true rfl) rfl rfl (fun _ _ h => h.elim) ?_
        rintro _ _ ⟨rfl, hw77⟩
        refine j_w w1 hw77 ?_
        refine j_lstore_n (lo' := [(1, _), (0, _), (3, _)]) dX8_digest_20 (by decide) rfl ?_
        refine j_iinc (lo' := [(3, _), (1, _), (0, _)]) dX8_digest_21 rfl (z_inc _) (by decide) rfl ?_
        refine j_goto (tgt := 6) dX8_digest_24 (by decide) ?_
        refine j_widen (kc' := 0) (ks' := 0) (by omega) (by omega) ?_
        exact j_lo2 (i1 w1 (k + 1) _ hlf6 hfn6 (by omega) (by omega) (by rw [hd1, sp_rg, sp_mxl_s] <;> rfl)) (z_q1 rfl (z_q1 rfl (z_q1 rfl z_q0)))
  refine j_widen (kc' := 0) (ks' := 0) (by omega) (by omega) ?_
  exact j_lo2 (loop6 6 w 0 _ z_lf.rf hf (by omega) (by omega) sp_mxl_nil.symm) (z_q1 rfl (z_q1 rfl (z_q1 rfl z_q0)))
theorem ky_digest (hl : l.stackTraces = false) {x : Nat} {C S : sp_S} {n9 : Int64} (w : z_W) (LT : z_LX x C S n9 w) : z_Con G l mX11_digest 24 56 1349 w [.ref 1000] (fun v w9 => v = some (.long (sp_dg S)) ∧ z_LX x C S n9 w9) (fun _ _ => False) := by
  obtain ⟨-, ⟨s, hs, hR, ok⟩, -⟩ := id LT
  refine z_weak (cy_digest hl w S s hs hR ok) (fun v w9 q => ?_) (fun _ _ h => h)
  obtain ⟨s9, hv, fm, h9, R9⟩ := q
  exact ⟨hv, LT.mod fm h9 R9 ok⟩
end ZDy
