section ZMs11
variable {G : z_G} {l : Launch}
set_option maxRecDepth 100000 in
set_option maxHeartbeats 16000000 in
theorem cm_digest (hl : l.stackTraces = false) (w : z_W) (s : z_Z)  (h : z_mst w s)  : z_Con G l mX11_digest 24 56 1349 w [.ref 1000] (fun v w9 => ∃ (r : Int64) (s9 : z_Z), v = some (.long r) ∧ z_fm 59 w w9 ∧ z_mst w9 s9 ∧ z_key s9 = z_key s) (fun _ _ => False) := by
  have ke0 : z_key s = z_key s := rfl
  refine z_body hl (by decide) rfl (Nat.le_of_ble_eq_true rfl) ?_
  show z_J G l mX11_digest _ 0 [(0, _)] [] _ 0 0
  refine j_aload_n dX11_digest_0 rfl rfl ?_
  refine j_iconst (v := 0) dX11_digest_1 (by decide) ?_
  refine j_put (w' := _) dX11_digest_2 fX11_48 tX11_0 h.m ⟨rfl, rfl⟩ rfl ?_
  refine j_seal (by omega) ?_
  intro w1 u1
  have fw1 := u1.fw (ρ := 40) (by omega) (by omega)
  have h1 := h.up40 fw1 u1.1
  have ke1 := z_ke h1 ke0 rfl
  refine j_ldc2 dX11_digest_5 kcX11_245 ?_
  refine j_lstore_n (lo' := [(1, _), (0, _)]) dX11_digest_8 (by decide) rfl ?_
  refine j_iconst (v := 0) dX11_digest_9 (by decide) ?_
  refine j_istore_n (lo' := [(3, _), (1, _), (0, _)]) dX11_digest_10 (by decide) rfl ?_
  have loop11 : ∀ (n1 : Nat) (w2 : z_W) (s1 : z_Z) (q : Nat) (d : Int64), (z_mst w2 s1) → (z_fm 59 w w2) → (z_key s1 = z_key s) → (q ≤ 5) → (5 < q + n1) → z_J G l mX11_digest (24, 56, 1349, w, (fun v w9 => ∃ (r : Int64) (s9 : z_Z), v = some (.long r) ∧ z_fm 59 w w9 ∧ z_mst w9 s9 ∧ z_key s9 = z_key s), (fun _ _ => False)) 11 [(0, .ref 1000), (1, .long d), (3, .int (nI q))] [] w2 (2 * q) (9 * q) := by
    intro n1
    induction n1 with
    | zero => intro w2 s1 q d hm_s1 hfm_s1 hke_s1 h1a h1b; exact absurd h1b (by omega)
    | succ n1 ih1 =>
      intro w2 s1 q d hm_s1 hfm_s1 hke_s1 h1a h1b
      refine j_iload_n dX11_digest_11 rfl ?_
      refine j_iconst (v := 5) dX11_digest_12 (by decide) ?_
      refine j_icmp_ge (tgt := 33) dX11_digest_13 (by decide) (fun c_13_22 => ?_) (fun c_13_22 => ?_)
      · have hb13 : 5 ≤ q := (nI_leI (a := 5) (b := q) (by omega) (by omega)).mp c_13_22
        refine j_iconst (v := 0) dX11_digest_33 (by decide) ?_
        refine j_istore_n (lo' := [(3, _), (0, _), (1, _)]) dX11_digest_34 (by decide) rfl ?_
        have loop35 : ∀ (n2 : Nat) (w3 : z_W) (s2 : z_Z) (ro : Nat) (d : Int64), (z_mst w3 s2) → (z_fm 59 w w3) → (z_key s2 = z_key s) → (ro ≤ 2) → (2 < ro + n2) → z_J G l mX11_digest (24, 56, 1349, w, (fun v w9 => ∃ (r : Int64) (s9 : z_Z), v = some (.long r) ∧ z_fm 59 w w9 ∧ z_mst w9 s9 ∧ z_key s9 = z_key s), (fun _ _ => False)) 35 [(0, .ref 1000), (1, .long d), (3, .int (nI ro))] [] w3 (10 + ro) (45 + 4 * ro) := by
          intro n2
          induction n2 with
          | zero => intro w3 s2 ro d hm_s2 hfm_s2 hke_s2 h2a h2b; exact absurd h2b (by omega)
          | succ n2 ih2 =>
            intro w3 s2 ro d hm_s2 hfm_s2 hke_s2 h2a h2b
            refine j_iload_n dX11_digest_35 rfl ?_
            refine j_iconst (v := 2) dX11_digest_36 (by decide) ?_
            refine j_icmp_ge (tgt := 163) dX11_digest_37 (by decide) (fun c_37_34 => ?_) (fun c_37_34 => ?_)
            · have hb37 : 2 ≤ ro := (nI_leI (a := 2) (b := ro) (by omega) (by omega)).mp c_37_34
              refine j_aload_n dX11_digest_163 rfl rfl ?_
              refine j_getf dX11_digest_164 fX11_34 hm_s2.m rfl ?_
              obtain ⟨lv987, -, lg987⟩ := z_li.cell hm_s2.tabs
              refine j_callV (q := (RJx4a65c, TJx4a65c, 3)) dX11_digest_167 kJx4a65c_iterator_32c93 lX11_162 inJx4a65c_iterator_32c93 seJx4a65c_iterator_32c93 lg987 rfl (cl_iter hl w3 58 (47) _ _ _ hm_s2.tabs (by decide) (by omega) hm_s2.fn) (Nat.le_of_ble_eq_true rfl) ⟨(by show _ ≤ 56; omega), (by show _ ≤ 1349; omega)⟩ rfl (Nat.le_of_ble_eq_true rfl) rfl rfl (fun _ _ h => h.elim) ?_
              rintro _ w4 ⟨it986, rfl, fw4, hita986, hitb986, hitc986, la986, git986⟩
              have hita986 : 1000 ≤ it986 := hita986
              have hitb986 : it986 % 64 = 58 := hitb986
              have fm4 := fw4.fm (q := 59) (by omega)
              have h4 := hm_s2.gar fw4 (by omega)
              have ke4 := z_ke h4 hke_s2 rfl
              refine j_astore_n (lo' := [(3, _), (0, _), (1, _)]) dX11_digest_170 rfl (by decide) rfl ?_
              have loop171 : ∀ (n5 : Nat) (w5 : z_W) (s5 : z_Z) (ta : Nat) (d : Int64) (la : Int32), (z_mst w5 s5) → (z_fm 59 w w5) → (z_key s5 = z_key s) → (ta ≤ 3) → (3 < ta + n5) → (z_g w5 it986 = some (.inr (3, [.int (nI ta), .int la, .int (z_qt s5), .ref 1007]))) → z_J G l mX11_digest (24, 56, 1349, w, (fun v w9 => ∃ (r : Int64) (s9 : z_Z), v = some (.long r) ∧ z_fm 59 w w9 ∧ z_mst w9 s9 ∧ z_key s9 = z_key s), (fun _ _ => False)) 171 [(0, .ref 1000), (1, .long d), (3, .ref it986)] [] w5 (13 + ta) (57 + 4 * ta) := by
                intro n5
                induction n5 with
                | zero => intro w5 s5 ta d la hm_s5 hfm_s5 hke_s5 h5a h5b h5d; exact absurd h5b (by omega)
                | succ n5 ih5 =>
                  intro w5 s5 ta d la hm_s5 hfm_s5 hke_s5 h5a h5b h5d
                  refine j_aload_n dX11_digest_171 rfl rfl ?_
                  refine j_callF (x := ⟨"java/util/Iterator", "hasNext", "()Z"⟩) (q := (RJx35411, TJx35411, 4)) dX11_digest_172 kJx35411_hasNext_aae02 ⟨(z_w 1765 ((lwg_8 40).trans (by decide +kernel)) (by decide +kernel)), (z_w 1769 ((lwg_8 44).trans (by decide +kernel)) (by decide +kernel)), inJx35411_hasNext_aae02, ⟨by decide, by decide⟩, rfl, fun U h => h.2.1⟩ h5d rfl (cl_hasN hl w5 _ (47) _ (ta) _ _ hm_s5.tabs ⟨_, h5d⟩ (by show _ ≤ 3; omega)) (Nat.le_of_ble_eq_true rfl) ⟨(by show _ ≤ 56; omega), (by show _ ≤ 1349; omega)⟩ rfl (Nat.le_of_ble_eq_true rfl) rfl ?_
                  rintro _ _ ⟨⟨x988, rfl, hz988, hp988⟩, hw988⟩
                  refine j_w w5 hw988 ?_
                  refine j_if_eq (tgt := 255) dX11_digest_177 (by decide) (fun c_177_57 => ?_) (fun c_177_57 => ?_)
                  · have hk177 : ta = 3 := (hz988 c_177_57)
                    refine j_iconst (v := 0) dX11_digest_255 (by decide) ?_
                    refine j_istore_n (lo' := [(3, _), (0, _), (1, _)]) dX11_digest_256 (by decide) rfl ?_
                    have loop257 : ∀ (n7 : Nat) (w6 : z_W) (s7 : z_Z) (q : Nat) (d : Int64), (z_mst w6 s7) → (z_fm 59 w w6) → (z_key s7 = z_key s) → (q ≤ 7) → (7 < q + n7) → z_J G l mX11_digest (24, 56, 1349, w, (fun v w9 => ∃ (r : Int64) (s9 : z_Z), v = some (.long r) ∧ z_fm 59 w w9 ∧ z_mst w9 s9 ∧ z_key s9 = z_key s), (fun _ _ => False)) 257 [(0, .ref 1000), (1, .long d), (3, .int (nI q))] [] w6 (16) (69) := by
                      intro n7
                      induction n7 with
                      | zero => intro w6 s7 q d hm_s7 hfm_s7 hke_s7 h7a h7b; exact absurd h7b (by omega)
                      | succ n7 ih7 =>
                        intro w6 s7 q d hm_s7 hfm_s7 hke_s7 h7a h7b
                        refine j_iload_n dX11_digest_257 rfl ?_
                        refine j_bipush (v := 7) dX11_digest_258 (by decide) ?_
                        refine j_icmp_ge (tgt := 283) dX11_digest_260 (by decide) (fun c_260_69 => ?_) (fun c_260_69 => ?_)
                        · have hb260 : 7 ≤ q := (nI_leI (a := 7) (b := q) (by omega) (by omega)).mp c_260_69
                          refine j_iconst (v := 0) dX11_digest_283 (by decide) ?_
                          refine j_istore_n (lo' := [(3, _), (0, _), (1, _)]) dX11_digest_284 (by decide) rfl ?_
                          have loop285 : ∀ (n8 : Nat) (w7 : z_W) (s8 : z_Z) (he : Nat) (d : Int64), (z_mst w7 s8) → (z_fm 59 w w7) → (z_key s8 = z_key s) → (he ≤ 2) → (2 < he + n8) → z_J G l mX11_digest (24, 56, 1349, w, (fun v w9 => ∃ (r : Int64) (s9 : z_Z), v = some (.long r) ∧ z_fm 59 w w9 ∧ z_mst w9 s9 ∧ z_key s9 = z_key s), (fun _ _ => False)) 285 [(0, .ref 1000), (1, .long d), (3, .int (nI he))] [] w7 (16 + 20 * he) (69 + 640 * he) := by
                            intro n8
                            induction n8 with
                            | zero => intro w7 s8 he d hm_s8 hfm_s8 hke_s8 h8a h8b; exact absurd h8b (by omega)
                            | succ n8 ih8 =>
                              intro w7 s8 he d hm_s8 hfm_s8 hke_s8 h8a h8b
                              refine j_iload_n dX11_digest_285 rfl ?_
                              refine j_iconst (v := 2) dX11_digest_286 (by decide) ?_
                              refine j_icmp_ge (tgt := 342) dX11_digest_287 (by decide) (fun c_287_81 => ?_) (fun c_287_81 => ?_)
                              · have hb287 : 2 ≤ he := (nI_leI (a := 2) (b := he) (by omega) (by omega)).mp c_287_81
                                refine j_lload_n dX11_digest_342 rfl ?_
                                refine j_aload_n dX11_digest_343 rfl rfl ?_
                                refine j_callV (q := (RX11, TX11, 8)) dX11_digest_344 kX11_isTrue lX11_240 inX11_isTrue seX11_isTrue hm_s8.m rfl (cm_isTrue hl w7 _ hm_s8) (Nat.le_of_ble_eq_true rfl) ⟨(by show _ ≤ 56; omega), (by show _ ≤ 1349; omega)⟩ rfl (Nat.le_of_ble_eq_true rfl) rfl rfl (fun _ _ h => h.elim) ?_
                                rintro _ _ ⟨⟨r989, rfl, hnrX⟩, hw989⟩
                                refine j_w w7 hw989 ?_
                                refine j_callS dX11_digest_347 kX11_one lX11_68 stX11_one (cm_oneA hl w7 _) (Nat.le_of_ble_eq_true rfl) ⟨(by show _ ≤ 56; omega), (by show _ ≤ 1349; omega)⟩ rfl (Nat.le_of_ble_eq_true rfl) rfl rfl (fun _ _ h => h.elim) ?_
                                rintro _ _ ⟨⟨r990, rfl⟩, hw990⟩
                                refine j_w w7 hw990 ?_
                                refine j_i2l dX11_digest_350 ?_
                                refine j_callS dX11_digest_351 kX11_add lX11_247 stX11_add (cm_add hl w7 _ _) (Nat.le_of_ble_eq_true rfl) ⟨(by show _ ≤ 56; omega), (by show _ ≤ 1349; omega)⟩ rfl (Nat.le_of_ble_eq_true rfl) rfl rfl (fun _ _ h => h.elim) ?_
                                rintro _ _ ⟨⟨r991, rfl⟩, hw991⟩
                                refine j_w w7 hw991 ?_
                                refine j_lret dX11_digest_354 rfl ?_ (by show _ ≤ 56; omega) (by show _ ≤ 1349; omega)
                                exact ⟨_, _, rfl, hfm_s8, hm_s8, hke_s8⟩
                              · have hb287 : he < 2 := Nat.not_le.mp (fun z => c_287_81 ((nI_leI (a := 2) (b := he) (by omega) (by omega)).mpr z))
                                refine j_iconst (v := 0) dX11_digest_290 (by decide) ?_
                                refine j_istore (lo' := [(4, _), (0, _), (1, _), (3, _)]) dX11_digest_291 (by decide) rfl ?_
                                have loop293 : ∀ (n9 : Nat) (w8 : z_W) (s9 : z_Z) (q : Nat) (d : Int64), (z_mst w8 s9) → (z_fm 59 w w8) → (z_key s9 = z_key s) → (q ≤ 4) → (4 < q + n9) → z_J G l mX11_digest (24, 56, 1349, w, (fun v w9 => ∃ (r : Int64) (s9 : z_Z), v = some (.long r) ∧ z_fm 59 w w9 ∧ z_mst w9 s9 ∧ z_key s9 = z_key s), (fun _ _ => False)) 293 [(0, .ref 1000), (1, .long d), (3, .int (nI he)), (4, .int (nI q))] [] w8 (16 + 20 * he) (69 + 640 * he) := by
                                  intro n9
                                  induction n9 with
                                  | zero => intro w8 s9 q d hm_s9 hfm_s9 hke_s9 h9a h9b; exact absurd h9b (by omega)
                                  | succ n9 ih9 =>
                                    intro w8 s9 q d hm_s9 hfm_s9 hke_s9 h9a h9b
                                    refine j_iload dX11_digest_293 rfl ?_
                                    refine j_iconst (v := 4) dX11_digest_295 (by decide) ?_
                                    refine j_icmp_ge (tgt := 318) dX11_digest_296 (by decide) (fun c_296_108 => ?_) (fun c_296_108 => ?_)
                                    · have hb296 : 4 ≤ q := (nI_leI (a := 4) (b := q) (by omega) (by omega)).mp c_296_108
                                      refine j_lload_n dX11_digest_318 rfl ?_
                                      refine j_aload_n dX11_digest_319 rfl rfl ?_
                                      refine j_getf dX11_digest_320 fX11_40 hm_s9.m rfl ?_
                                      refine j_iload_n dX11_digest_323 rfl ?_
                                      obtain ⟨fz992, gz992, hz992⟩ := hm_s9.hs
                                      refine j_aald (v := .ref (1009 + he)) dX11_digest_324 gz992 rfl rfl (vp_in_nI (by omega) (by omega)) (by rw [z_cla (by omega)]; exact hz992 _ (by omega)) ?_
                                      refine j_callVN (q := (RX10, TX10, 5)) dX11_digest_325 kX10_text lX11_210 inX10_text seX10_text (hm_s9.hd (i := he) (by omega)) rfl (cm_textH hl w8 _ (he) hm_s9 (by omega)) (Nat.le_of_ble_eq_true rfl) ⟨(by show _ ≤ 56; omega), (by show _ ≤ 1349; omega)⟩ rfl (Nat.le_of_ble_eq_true rfl) rfl rfl (fun _ _ h => h.elim) ?_
                                      rintro _ w9 ⟨r9, m9, s9, rfl, fm9, h9, hk9, ht9⟩
                                      have ke9 := z_ke h9 hke_s9 hk9
                                      obtain ⟨fs993, gs993⟩ := ht9.cell
                                      refine j_callV (q := (RJ0, TJ0, 4)) dX11_digest_328 kJ0_length_8abf5 lX11_250 inJ0_length_8abf5 (z_w 781 ((lwg_4 16).trans (by decide +kernel)) (by decide +kernel)) gs993 rfl (tx_len hl w9 57 r9 _ ht9) (Nat.le_of_ble_eq_true rfl) ⟨(by show _ ≤ 56; omega), (by show _ ≤ 1349; omega)⟩ rfl (Nat.le_of_ble_eq_true rfl) rfl rfl (fun _ _ h => h.elim) ?_
                                      rintro _ _ ⟨rfl, hw993⟩
                                      refine j_w w9 hw993 ?_
                                      refine j_i2l dX11_digest_331 ?_
                                      refine j_callS dX11_digest_332 kX11_add lX11_247 stX11_add (cm_add hl w9 _ _) (Nat.le_of_ble_eq_true rfl) ⟨(by show _ ≤ 56; omega), (by show _ ≤ 1349; omega)⟩ rfl (Nat.le_of_ble_eq_true rfl) rfl rfl (fun _ _ h => h.elim) ?_
                                      rintro _ _ ⟨⟨r994, rfl⟩, hw994⟩
                                      refine j_w w9 hw994 ?_
                                      refine j_lstore_n (lo' := [(1, _), (0, _), (3, _), (4, _)]) dX11_digest_335 (by decide) rfl ?_
                                      refine j_iinc (lo' := [(3, _), (1, _), (0, _), (4, _)]) dX11_digest_336 rfl (z_inc _) (by decide) rfl ?_
                                      refine j_goto (tgt := 285) dX11_digest_339 (by decide) ?_
                                      refine j_widen (kc' := 16 + 20 * (he + 1)) (ks' := 69 + 640 * (he + 1)) (by omega) (by omega) ?_
                                      exact j_lo2 (ih8 w9 _ (he + 1) _ h9 (hfm_s9.tr (fm9.le (q' := 59) (by decide))) ke9 (by omega) (by omega)) (z_q1 rfl (z_q1 rfl (z_q1 rfl z_q0)))
                                    · have hb296 : q < 4 := Nat.not_le.mp (fun z => c_296_108 ((nI_leI (a := 4) (b := q) (by omega) (by omega)).mpr z))
                                      refine j_lload_n dX11_digest_299 rfl ?_
                                      refine j_aload_n dX11_digest_300 rfl rfl ?_
                                      refine j_iload_n dX11_digest_301 rfl ?_
                                      refine j_iload dX11_digest_302 rfl ?_
                                      refine j_callV (q := (RX11, TX11, 8)) dX11_digest_304 kX11_heardTold lX11_205 inX11_heardTold seX11_heardTold hm_s9.m rfl (cm_heardTold hl w8 _ _ _ hm_s9 (by omega)) (Nat.le_of_ble_eq_true rfl) ⟨(by show _ ≤ 56; omega), (by show _ ≤ 1349; omega)⟩ rfl (Nat.le_of_ble_eq_true rfl) rfl rfl (fun _ _ h => h.elim) ?_
                                      rintro _ _ ⟨⟨r995, rfl⟩, hw995⟩
                                      refine j_w w8 hw995 ?_
                                      refine j_i2l dX11_digest_307 ?_
                                      refine j_callS dX11_digest_308 kX11_add lX11_247 stX11_add (cm_add hl w8 _ _) (Nat.le_of_ble_eq_true rfl) ⟨(by show _ ≤ 56; omega), (by show _ ≤ 1349; omega)⟩ rfl (Nat.le_of_ble_eq_true rfl) rfl rfl (fun _ _ h => h.elim) ?_
                                      rintro _ _ ⟨⟨r996, rfl⟩, hw996⟩
                                      refine j_w w8 hw996 ?_
                                      refine j_lstore_n (lo' := [(1, _), (0, _), (3, _), (4, _)]) dX11_digest_311 (by decide) rfl ?_
                                      refine j_iinc (lo' := [(4, _), (1, _), (0, _), (3, _)]) dX11_digest_312 rfl (z_inc _) (by decide) rfl ?_
                                      refine j_goto (tgt := 293) dX11_digest_315 (by decide) ?_
                                      refine j_widen (kc' := 16 + 20 * he) (ks' := 69 + 640 * he) (by omega) (by omega) ?_
                                      exact j_lo2 (ih9 w8 _ (q + 1) _ hm_s9 hfm_s9 hke_s9 (by omega) (by omega)) (z_q1 rfl (z_q1 rfl (z_q1 rfl (z_q1 rfl z_q0))))
                                refine j_widen (kc' := 16 + 20 * he) (ks' := 69 + 640 * he) (by omega) (by omega) ?_
                                exact j_lo2 (loop293 (5) w7 _ 0 _ hm_s8 hfm_s8 hke_s8 (by omega) (by omega)) (z_q1 rfl (z_q1 rfl (z_q1 rfl (z_q1 rfl z_q0))))
                          refine j_widen (kc' := 16 + 20 * 0) (ks' := 69 + 640 * 0) (by omega) (by omega) ?_
                          exact j_lo2 (loop285 (3) w6 _ 0 _ hm_s7 hfm_s7 hke_s7 (by omega) (by omega)) (z_q1 rfl (z_q1 rfl (z_q1 rfl z_q0)))
                        · have hb260 : q < 7 := Nat.not_le.mp (fun z => c_260_69 ((nI_leI (a := 7) (b := q) (by omega) (by omega)).mpr z))
                          refine j_lload_n dX11_digest_263 rfl ?_
                          refine j_aload_n dX11_digest_264 rfl rfl ?_
                          refine j_getf dX11_digest_265 fX11_31 hm_s7.m rfl ?_
                          refine j_iconst (v := 2) dX11_digest_268 (by decide) ?_
                          obtain ⟨fz997, gz997, hz997⟩ := hm_s7.co
                          refine j_aald (v := .ref (1004 + 2)) dX11_digest_269 gz997 rfl rfl (vp_in_nI (n := 2) (by decide) (by decide)) (by rw [show (2 : Int32).toNatClampNeg = 2 by decide]; exact hz997 _ (by decide)) ?_
                          refine j_iload_n dX11_digest_270 rfl ?_
                          refine j_ld dX11_digest_271 (hm_s7.cn (i := 2) (by decide)) (vp_in_nI (by omega) (by omega)) ?_
                          refine j_i2l dX11_digest_272 ?_
                          refine j_callS dX11_digest_273 kX11_add lX11_247 stX11_add (cm_add hl w6 _ _) (Nat.le_of_ble_eq_true rfl) ⟨(by show _ ≤ 56; omega), (by show _ ≤ 1349; omega)⟩ rfl (Nat.le_of_ble_eq_true rfl) rfl rfl (fun _ _ h => h.elim) ?_
                          rintro _ _ ⟨⟨r999, rfl⟩, hw999⟩
                          refine j_w w6 hw999 ?_
                          refine j_lstore_n (lo' := [(1, _), (0, _), (3, _)]) dX11_digest_276 (by decide) rfl ?_
                          refine j_iinc (lo' := [(3, _), (1, _), (0, _)]) dX11_digest_277 rfl (z_inc _) (by decide) rfl ?_
                          refine j_goto (tgt := 257) dX11_digest_280 (by decide) ?_
                          refine j_widen (kc' := 16) (ks' := 69) (by omega) (by omega) ?_
                          exact j_lo2 (ih7 w6 _ (q + 1) _ hm_s7 hfm_s7 hke_s7 (by omega) (by omega)) (z_q1 rfl (z_q1 rfl (z_q1 rfl z_q0)))
                    refine j_widen (kc' := 16) (ks' := 69) (by omega) (by omega) ?_
                    exact j_lo2 (loop257 (8) w5 _ 0 _ hm_s5 hfm_s5 hke_s5 (by omega) (by omega)) (z_q1 rfl (z_q1 rfl (z_q1 rfl z_q0)))
                  · have hk177 : ta < 3 := (hp988 c_177_57)
                    refine j_aload_n dX11_digest_180 rfl rfl ?_
                    refine j_callF (x := ⟨"java/util/Iterator", "next", "()Ljava/lang/Object;"⟩) (q := (RJx35411, TJx35411, 4)) dX11_digest_181 kJx35411_next_0502b ⟨(z_w 1775 ((lwg_8 50).trans (by decide +kernel)) (by decide +kernel)), (z_w 1778 ((lwg_8 53).trans (by decide +kernel)) (by decide +kernel)), inJx35411_next_0502b, ⟨by decide, by decide⟩, rfl, fun U h => h.2.2.1⟩ h5d rfl (cl_next hl w5 58 it986 (47) _ (ta) _ _ _ hm_s5.tabs ⟨_, h5d⟩ (z_thr3 (t := ta) (by omega)) hita986 hitb986 (by omega)) (Nat.le_of_ble_eq_true rfl) ⟨(by show _ ≤ 56; omega), (by show _ ≤ 1349; omega)⟩ rfl (Nat.le_of_ble_eq_true rfl) rfl ?_
                    rintro _ w10 ⟨rfl, fw10, la10, git10⟩
                    have fm10 := fw10.fm (q := 59) (by omega)
                    have h10 := hm_s5.gar fw10 (by omega)
                    have ke10 := z_ke h10 hke_s5 rfl
                    refine j_castS dX11_digest_186 (z_w 1341 ((lwg_6 96).trans (by decide +kernel)) (by decide +kernel)) (z_li.is (h10.tb (t := ta) (by omega))) ?_
                    refine j_astore (lo' := [(4, _), (0, _), (1, _), (3, _)]) dX11_digest_189 rfl (by decide) rfl ?_
                    refine j_lload_n dX11_digest_191 rfl ?_
                    refine j_aload dX11_digest_192 rfl rfl ?_
                    obtain ⟨lv1002, -, lg1002⟩ := z_li.cell (h10.tb (t := ta) (by omega))
                    refine j_callV (q := (RJx4a65c, TJx4a65c, 3)) dX11_digest_194 kJx4a65c_size_8abf5 lX11_86 inJx4a65c_size_8abf5 seJx4a65c_size_8abf5 lg1002 rfl (cl_sizeR hl w10 _ _ _ _ (h10.tb (t := ta) (by omega))) (Nat.le_of_ble_eq_true rfl) ⟨(by show _ ≤ 56; omega), (by show _ ≤ 1349; omega)⟩ rfl (Nat.le_of_ble_eq_true rfl) rfl rfl (fun _ _ h => h.elim) ?_
                    rintro _ _ ⟨⟨n1003, rfl, hn1003⟩, hw1003⟩
                    refine j_w w10 hw1003 ?_
                    have hn1003 : n1003 = (z_qp s5 (ta)).2.length := hn1003
                    have hz1003 : (z_qp s5 (ta)).2.length ≤ 20 := (h10.pr (t := ta) (by omega)).len
                    refine j_i2l dX11_digest_197 ?_
                    refine j_callS dX11_digest_198 kX11_add lX11_247 stX11_add (cm_add hl w10 _ _) (Nat.le_of_ble_eq_true rfl) ⟨(by show _ ≤ 56; omega), (by show _ ≤ 1349; omega)⟩ rfl (Nat.le_of_ble_eq_true rfl) rfl rfl (fun _ _ h => h.elim) ?_
                    rintro _ _ ⟨⟨r1004, rfl⟩, hw1004⟩
                    refine j_w w10 hw1004 ?_
                    refine j_lstore_n (lo' := [(1, _), (4, _), (0, _), (3, _)]) dX11_digest_201 (by decide) rfl ?_
                    refine j_aload dX11_digest_202 rfl rfl ?_
                    obtain ⟨lv1006, -, lg1006⟩ := z_li.cell (h10.tb (t := ta) (by omega))
                    refine j_callV (q := (RJx4a65c, TJx4a65c, 3)) dX11_digest_204 kJx4a65c_iterator_32c93 lX11_162 inJx4a65c_iterator_32c93 seJx4a65c_iterator_32c93 lg1006 rfl (cl_iter hl w10 57 (51 + ta) _ _ _ (h10.tb (t := ta) (by omega)) (by decide) (by omega) h10.fn) (Nat.le_of_ble_eq_true rfl) ⟨(by show _ ≤ 56; omega), (by show _ ≤ 1349; omega)⟩ rfl (Nat.le_of_ble_eq_true rfl) rfl rfl (fun _ _ h => h.elim) ?_
                    rintro _ w11 ⟨it1005, rfl, fw11, hita1005, hitb1005, hitc1005, la1005, git1005⟩
                    have hita1005 : 1000 ≤ it1005 := hita1005
                    have hitb1005 : it1005 % 64 = 57 := hitb1005
                    have n_it986_it1005 := z_neF hitc1005 git10
                    have g11_it986 := fw11.g (Or.inr (by omega)) git10
                    have fm11 := fw11.fm (q := 59) (by omega)
                    have h11 := h10.gar fw11 (by omega)
                    have ke11 := z_ke h11 ke10 rfl
                    refine j_astore (lo' := [(5, _), (1, _), (4, _), (0, _), (3, _)]) dX11_digest_207 rfl (by decide) rfl ?_
                    have loop209 : ∀ (n6 : Nat) (w12 : z_W) (s6 : z_Z) (k : Nat) (d : Int64) (la lb : Int32), (z_mst w12 s6) → (z_fm 59 w w12) → (z_key s6 = z_key s) → (k ≤ 20) → (20 < k + n6) → (k ≤ (z_qp s6 ta).2.length) → (z_g w12 it1005 = some (.inr (3, [.int (nI k), .int la, .int (z_qp s6 ta).1, .ref (1011 + ta)]))) → (z_g w12 it986 = some (.inr (3, [.int (nI (ta + 1)), .int lb, .int (z_qt s6), .ref 1007]))) → z_J G l mX11_digest (24, 56, 1349, w, (fun v w9 => ∃ (r : Int64) (s9 : z_Z), v = some (.long r) ∧ z_fm 59 w w9 ∧ z_mst w9 s9 ∧ z_key s9 = z_key s), (fun _ _ => False)) 209 [(0, .ref 1000), (1, .long d), (3, .ref it986), (5, .ref it1005)] [] w12 (14 + ta) (61 + 4 * ta) := by
                      intro n6
                      induction n6 with
                      | zero => intro w12 s6 k d la lb hm_s6 hfm_s6 hke_s6 h6a h6b h6c h6d h6e; exact absurd h6b (by omega)
                      | succ n6 ih6 =>
                        intro w12 s6 k d la lb hm_s6 hfm_s6 hke_s6 h6a h6b h6c h6d h6e
                        refine j_aload dX11_digest_209 rfl rfl ?_
                        refine j_callF (x := ⟨"java/util/Iterator", "hasNext", "()Z"⟩) (q := (RJx35411, TJx35411, 4)) dX11_digest_211 kJx35411_hasNext_aae02 ⟨(z_w 1765 ((lwg_8 40).trans (by decide +kernel)) (by decide +kernel)), (z_w 1769 ((lwg_8 44).trans (by decide +kernel)) (by decide +kernel)), inJx35411_hasNext_aae02, ⟨by decide, by decide⟩, rfl, fun U h => h.2.1⟩ h6d rfl (cl_hasN hl w12 _ (51 + ta) _ (k) _ _ (hm_s6.tb (t := ta) (by omega)) ⟨_, h6d⟩ (by rw [z_rs_len]; omega)) (Nat.le_of_ble_eq_true rfl) ⟨(by show _ ≤ 56; omega), (by show _ ≤ 1349; omega)⟩ rfl (Nat.le_of_ble_eq_true rfl) rfl ?_
                        rintro _ _ ⟨⟨x1007, rfl, hz1007, hp1007⟩, hw1007⟩
                        refine j_w w12 hw1007 ?_
                        refine j_if_eq (tgt := 252) dX11_digest_216 (by decide) (fun c_216_217 => ?_) (fun c_216_217 => ?_)
                        · have hk216 : k = (z_qp s6 (ta)).2.length := (z_rs_len ▸ hz1007 c_216_217)
                          refine j_goto (tgt := 171) dX11_digest_252 (by decide) ?_
                          refine j_widen (kc' := 13 + (ta + 1)) (ks' := 57 + 4 * (ta + 1)) (by omega) (by omega) ?_
                          exact j_lo2 (ih5 w12 _ (ta + 1) _ _ hm_s6 hfm_s6 hke_s6 (by omega) (by omega) h6e) (z_q1 rfl (z_q1 rfl (z_q1 rfl z_q0)))
                        · have hk216 : k < (z_qp s6 (ta)).2.length := (z_rs_len ▸ hp1007 c_216_217)
                          have hzk216 : (z_qp s6 (ta)).2.length ≤ 20 := (hm_s6.pr (t := ta) (by omega)).len
                          refine j_aload dX11_digest_219 rfl rfl ?_
                          obtain ⟨p1008, hp1008, hq1008, hk1008⟩ := z_rs_ex (P := (z_qp s6 (ta)).2) (k := k) (by omega)
                          refine j_callF (x := ⟨"java/util/Iterator", "next", "()Ljava/lang/Object;"⟩) (q := (RJx35411, TJx35411, 4)) dX11_digest_221 kJx35411_next_0502b ⟨(z_w 1775 ((lwg_8 50).trans (by decide +kernel)) (by decide +kernel)), (z_w 1778 ((lwg_8 53).trans (by decide +kernel)) (by decide +kernel)), inJx35411_next_0502b, ⟨by decide, by decide⟩, rfl, fun U h => h.2.2.1⟩ h6d rfl (cl_next hl w12 57 it1005 (51 + ta) _ (k) _ _ _ (hm_s6.tb (t := ta) (by omega)) ⟨_, h6d⟩ hq1008 hita1005 hitb1005 (by omega)) (Nat.le_of_ble_eq_true rfl) ⟨(by show _ ≤ 56; omega), (by show _ ≤ 1349; omega)⟩ rfl (Nat.le_of_ble_eq_true rfl) rfl ?_
                          rintro _ w13 ⟨rfl, fw13, la13, git13⟩
                          have g13_it986 := fw13.g (Or.inr (by omega)) h6e
                          have fm13 := fw13.fm (q := 59) (by omega)
                          have h13 := hm_s6.gar fw13 (by omega)
                          have ke13 := z_ke h13 hke_s6 rfl
                          refine j_castS dX11_digest_226 (z_w 1663 ((lwg_7 178).trans (by decide +kernel)) (by decide +kernel)) (z_isA ((h13.pr (t := ta) (by omega)).1 p1008 hp1008).2) ?_
                          refine j_astore (lo' := [(6, _), (0, _), (1, _), (3, _), (5, _)]) dX11_digest_229 rfl (by decide) rfl ?_
                          refine j_lload_n dX11_digest_231 rfl ?_
                          refine j_aload dX11_digest_232 rfl rfl ?_
                          refine j_iconst (v := 0) dX11_digest_234 (by decide) ?_
                          refine j_ld dX11_digest_235 ((h13.pr (t := ta) (by omega)).1 p1008 hp1008).2 (vp_in_nI (n := 0) (by decide) (by decide)) ?_
                          refine j_i2l dX11_digest_236 ?_
                          refine j_callS dX11_digest_237 kX11_add lX11_247 stX11_add (cm_add hl w13 _ _) (Nat.le_of_ble_eq_true rfl) ⟨(by show _ ≤ 56; omega), (by show _ ≤ 1349; omega)⟩ rfl (Nat.le_of_ble_eq_true rfl) rfl rfl (fun _ _ h => h.elim) ?_
                          rintro _ _ ⟨⟨r1011, rfl⟩, hw1011⟩
                          refine j_w w13 hw1011 ?_
                          refine j_aload dX11_digest_240 rfl rfl ?_
                          refine j_iconst (v := 1) dX11_digest_242 (by decide) ?_
                          refine j_ld dX11_digest_243 ((h13.pr (t := ta) (by omega)).1 p1008 hp1008).2 (vp_in_nI (n := 1) (by decide) (by decide)) ?_
                          refine j_i2l dX11_digest_244 ?_
                          refine j_callS dX11_digest_245 kX11_add lX11_247 stX11_add (cm_add hl w13 _ _) (Nat.le_of_ble_eq_true rfl) ⟨(by show _ ≤ 56; omega), (by show _ ≤ 1349; omega)⟩ rfl (Nat.le_of_ble_eq_true rfl) rfl rfl (fun _ _ h => h.elim) ?_
                          rintro _ _ ⟨⟨r1013, rfl⟩, hw1013⟩
                          refine j_w w13 hw1013 ?_
                          refine j_lstore_n (lo' := [(1, _), (6, _), (0, _), (3, _), (5, _)]) dX11_digest_248 (by decide) rfl ?_
                          refine j_goto (tgt := 209) dX11_digest_249 (by decide) ?_
                          refine j_widen (kc' := 14 + ta) (ks' := 61 + 4 * ta) (by omega) (by omega) ?_
                          exact j_lo2 (ih6 w13 _ (k + 1) _ _ _ h13 (hfm_s6.tr fm13) ke13 (by omega) (by omega) (by first | omega | (show _ ≤ (z_qp s6 ta).2.length; omega)) git13 g13_it986) (z_q1 rfl (z_q1 rfl (z_q1 rfl (z_q1 rfl z_q0))))
                    refine j_widen (kc' := 14 + ta) (ks' := 61 + 4 * ta) (by omega) (by omega) ?_
                    exact j_lo2 (loop209 (21) w11 _ 0 _ _ _ h11 ((hfm_s5.tr fm10).tr fm11) ke11 (by omega) (by omega) (Nat.zero_le _) git1005 g11_it986) (z_q1 rfl (z_q1 rfl (z_q1 rfl (z_q1 rfl z_q0))))
              refine j_widen (kc' := 13 + 0) (ks' := 57 + 4 * 0) (by omega) (by omega) ?_
              exact j_lo2 (loop171 (4) w4 _ 0 _ _ h4 (hfm_s2.tr fm4) ke4 (by omega) (by omega) git986) (z_q1 rfl (z_q1 rfl (z_q1 rfl z_q0)))
            · have hb37 : ro < 2 := Nat.not_le.mp (fun z => c_37_34 ((nI_leI (a := 2) (b := ro) (by omega) (by omega)).mpr z))
              refine j_lload_n dX11_digest_40 rfl ?_
              refine j_aload_n dX11_digest_41 rfl rfl ?_
              refine j_getf dX11_digest_42 fX11_21 hm_s2.m rfl ?_
              refine j_iload_n dX11_digest_45 rfl ?_
              obtain ⟨lv1015, -, lg1015⟩ := z_li.cell hm_s2.rows
              refine j_callV (q := (RJx4a65c, TJx4a65c, 3)) dX11_digest_46 kJx4a65c_get_915e3 lX11_82 inJx4a65c_get_915e3 seJx4a65c_get_915e3 lg1015 rfl (cl_get hl w3 41 1001 _ _ (ro) _ hm_s2.rows (z_two2 (i := ro) (by omega))) (Nat.le_of_ble_eq_true rfl) ⟨(by show _ ≤ 56; omega), (by show _ ≤ 1349; omega)⟩ rfl (Nat.le_of_ble_eq_true rfl) rfl rfl (fun _ _ h => h.elim) ?_
              rintro _ _ ⟨rfl, hw1016⟩
              refine j_w w3 hw1016 ?_
              refine j_castS dX11_digest_49 (z_w 1341 ((lwg_6 96).trans (by decide +kernel)) (by decide +kernel)) (z_li.is (hm_s2.rw (i := ro) (by omega)).1) ?_
              obtain ⟨lv1018, -, lg1018⟩ := z_li.cell (hm_s2.rw (i := ro) (by omega)).1
              refine j_callV (q := (RJx4a65c, TJx4a65c, 3)) dX11_digest_52 kJx4a65c_size_8abf5 lX11_86 inJx4a65c_size_8abf5 seJx4a65c_size_8abf5 lg1018 rfl (cl_sizeB hl w3 _ _ _ _ (hm_s2.rw (i := ro) (by omega)).1) (Nat.le_of_ble_eq_true rfl) ⟨(by show _ ≤ 56; omega), (by show _ ≤ 1349; omega)⟩ rfl (Nat.le_of_ble_eq_true rfl) rfl rfl (fun _ _ h => h.elim) ?_
              rintro _ _ ⟨⟨n1019, rfl, hn1019⟩, hw1019⟩
              refine j_w w3 hw1019 ?_
              have hn1019 : n1019 = (z_qw s2 (ro)).2.length := hn1019
              have hz1019 : (z_qw s2 (ro)).2.length ≤ 12 := (hm_s2.rw (i := ro) (by omega)).2
              refine j_i2l dX11_digest_55 ?_
              refine j_callS dX11_digest_56 kX11_add lX11_247 stX11_add (cm_add hl w3 _ _) (Nat.le_of_ble_eq_true rfl) ⟨(by show _ ≤ 56; omega), (by show _ ≤ 1349; omega)⟩ rfl (Nat.le_of_ble_eq_true rfl) rfl rfl (fun _ _ h => h.elim) ?_
              rintro _ _ ⟨⟨r1020, rfl⟩, hw1020⟩
              refine j_w w3 hw1020 ?_
              refine j_lstore_n (lo' := [(1, _), (0, _), (3, _)]) dX11_digest_59 (by decide) rfl ?_
              refine j_aload_n dX11_digest_60 rfl rfl ?_
              refine j_getf dX11_digest_61 fX11_21 hm_s2.m rfl ?_
              refine j_iload_n dX11_digest_64 rfl ?_
              obtain ⟨lv1022, -, lg1022⟩ := z_li.cell hm_s2.rows
              refine j_callV (q := (RJx4a65c, TJx4a65c, 3)) dX11_digest_65 kJx4a65c_get_915e3 lX11_82 inJx4a65c_get_915e3 seJx4a65c_get_915e3 lg1022 rfl (cl_get hl w3 41 1001 _ _ (ro) _ hm_s2.rows (z_two2 (i := ro) (by omega))) (Nat.le_of_ble_eq_true rfl) ⟨(by show _ ≤ 56; omega), (by show _ ≤ 1349; omega)⟩ rfl (Nat.le_of_ble_eq_true rfl) rfl rfl (fun _ _ h => h.elim) ?_
              rintro _ _ ⟨rfl, hw1023⟩
              refine j_w w3 hw1023 ?_
              refine j_castS dX11_digest_68 (z_w 1341 ((lwg_6 96).trans (by decide +kernel)) (by decide +kernel)) (z_li.is (hm_s2.rw (i := ro) (by omega)).1) ?_
              obtain ⟨lv1026, -, lg1026⟩ := z_li.cell (hm_s2.rw (i := ro) (by omega)).1
              refine j_callV (q := (RJx4a65c, TJx4a65c, 3)) dX11_digest_71 kJx4a65c_iterator_32c93 lX11_162 inJx4a65c_iterator_32c93 seJx4a65c_iterator_32c93 lg1026 rfl (cl_iter hl w3 58 (11 + ro) _ _ _ (hm_s2.rw (i := ro) (by omega)).1 (by decide) (by omega) hm_s2.fn) (Nat.le_of_ble_eq_true rfl) ⟨(by show _ ≤ 56; omega), (by show _ ≤ 1349; omega)⟩ rfl (Nat.le_of_ble_eq_true rfl) rfl rfl (fun _ _ h => h.elim) ?_
              rintro _ w14 ⟨it1025, rfl, fw14, hita1025, hitb1025, hitc1025, la1025, git1025⟩
              have hita1025 : 1000 ≤ it1025 := hita1025
              have hitb1025 : it1025 % 64 = 58 := hitb1025
              have fm14 := fw14.fm (q := 59) (by omega)
              have h14 := hm_s2.gar fw14 (by omega)
              have ke14 := z_ke h14 hke_s2 rfl
              refine j_astore (lo' := [(4, _), (1, _), (0, _), (3, _)]) dX11_digest_74 rfl (by decide) rfl ?_
              have loop76 : ∀ (n3 : Nat) (w15 : z_W) (s3 : z_Z) (k : Nat) (d : Int64) (la : Int32), (z_mst w15 s3) → (z_fm 59 w w15) → (z_key s3 = z_key s) → (k ≤ 12) → (12 < k + n3) → (k ≤ (z_qw s3 ro).2.length) → (z_g w15 it1025 = some (.inr (3, [.int (nI k), .int la, .int (z_qw s3 ro).1, .ref ((z_qr s3).2 ro)]))) → z_J G l mX11_digest (24, 56, 1349, w, (fun v w9 => ∃ (r : Int64) (s9 : z_Z), v = some (.long r) ∧ z_fm 59 w w9 ∧ z_mst w9 s9 ∧ z_key s9 = z_key s), (fun _ _ => False)) 76 [(0, .ref 1000), (1, .long d), (3, .int (nI ro)), (4, .ref it1025)] [] w15 (11 + ro) (49 + 4 * ro) := by
                intro n3
                induction n3 with
                | zero => intro w15 s3 k d la hm_s3 hfm_s3 hke_s3 h3a h3b h3c h3d; exact absurd h3b (by omega)
                | succ n3 ih3 =>
                  intro w15 s3 k d la hm_s3 hfm_s3 hke_s3 h3a h3b h3c h3d
                  refine j_aload dX11_digest_76 rfl rfl ?_
                  refine j_callF (x := ⟨"java/util/Iterator", "hasNext", "()Z"⟩) (q := (RJx35411, TJx35411, 4)) dX11_digest_78 kJx35411_hasNext_aae02 ⟨(z_w 1765 ((lwg_8 40).trans (by decide +kernel)) (by decide +kernel)), (z_w 1769 ((lwg_8 44).trans (by decide +kernel)) (by decide +kernel)), inJx35411_hasNext_aae02, ⟨by decide, by decide⟩, rfl, fun U h => h.2.1⟩ h3d rfl (cl_hasN hl w15 _ (11 + ro) _ (k) _ _ (hm_s3.rw (i := ro) (by omega)).1 ⟨_, h3d⟩ (by rw [z_bx_len]; omega)) (Nat.le_of_ble_eq_true rfl) ⟨(by show _ ≤ 56; omega), (by show _ ≤ 1349; omega)⟩ rfl (Nat.le_of_ble_eq_true rfl) rfl ?_
                  rintro _ _ ⟨⟨x1027, rfl, hz1027, hp1027⟩, hw1027⟩
                  refine j_w w15 hw1027 ?_
                  refine j_if_eq (tgt := 112) dX11_digest_83 (by decide) (fun c_83_305 => ?_) (fun c_83_305 => ?_)
                  · have hk83 : k = (z_qw s3 (ro)).2.length := (z_bx_len ▸ hz1027 c_83_305)
                    refine j_lload_n dX11_digest_112 rfl ?_
                    refine j_aload_n dX11_digest_113 rfl rfl ?_
                    refine j_getf dX11_digest_114 fX11_25 hm_s3.m rfl ?_
                    refine j_iload_n dX11_digest_117 rfl ?_
                    refine j_zald dX11_digest_118 hm_s3.fx (vp_in_nI (by omega) (by omega)) rfl ?_
                    refine j_callS dX11_digest_119 kX11_one lX11_68 stX11_one (cm_oneA hl w15 _) (Nat.le_of_ble_eq_true rfl) ⟨(by show _ ≤ 56; omega), (by show _ ≤ 1349; omega)⟩ rfl (Nat.le_of_ble_eq_true rfl) rfl rfl (fun _ _ h => h.elim) ?_
                    rintro _ _ ⟨⟨r1029, rfl⟩, hw1029⟩
                    refine j_w w15 hw1029 ?_
                    refine j_i2l dX11_digest_122 ?_
                    refine j_callS dX11_digest_123 kX11_add lX11_247 stX11_add (cm_add hl w15 _ _) (Nat.le_of_ble_eq_true rfl) ⟨(by show _ ≤ 56; omega), (by show _ ≤ 1349; omega)⟩ rfl (Nat.le_of_ble_eq_true rfl) rfl rfl (fun _ _ h => h.elim) ?_
                    rintro _ _ ⟨⟨r1030, rfl⟩, hw1030⟩
                    refine j_w w15 hw1030 ?_
                    refine j_lstore_n (lo' := [(1, _), (0, _), (3, _), (4, _)]) dX11_digest_126 (by decide) rfl ?_
                    refine j_iconst (v := 0) dX11_digest_127 (by decide) ?_
                    refine j_istore (lo' := [(4, _), (1, _), (0, _), (3, _)]) dX11_digest_128 (by decide) rfl ?_
                    have loop130 : ∀ (n4 : Nat) (w16 : z_W) (s4 : z_Z) (q : Nat) (d : Int64), (z_mst w16 s4) → (z_fm 59 w w16) → (z_key s4 = z_key s) → (q ≤ 5) → (5 < q + n4) → z_J G l mX11_digest (24, 56, 1349, w, (fun v w9 => ∃ (r : Int64) (s9 : z_Z), v = some (.long r) ∧ z_fm 59 w w9 ∧ z_mst w9 s9 ∧ z_key s9 = z_key s), (fun _ _ => False)) 130 [(0, .ref 1000), (1, .long d), (3, .int (nI ro)), (4, .int (nI q))] [] w16 (11 + ro) (49 + 4 * ro) := by
                      intro n4
                      induction n4 with
                      | zero => intro w16 s4 q d hm_s4 hfm_s4 hke_s4 h4a h4b; exact absurd h4b (by omega)
                      | succ n4 ih4 =>
                        intro w16 s4 q d hm_s4 hfm_s4 hke_s4 h4a h4b
                        refine j_iload dX11_digest_130 rfl ?_
                        refine j_iconst (v := 5) dX11_digest_132 (by decide) ?_
                        refine j_icmp_ge (tgt := 157) dX11_digest_133 (by decide) (fun c_133_330 => ?_) (fun c_133_330 => ?_)
                        · have hb133 : 5 ≤ q := (nI_leI (a := 5) (b := q) (by omega) (by omega)).mp c_133_330
                          refine j_iinc (lo' := [(3, _), (0, _), (1, _), (4, _)]) dX11_digest_157 rfl (z_inc _) (by decide) rfl ?_
                          refine j_goto (tgt := 35) dX11_digest_160 (by decide) ?_
                          refine j_widen (kc' := 10 + (ro + 1)) (ks' := 45 + 4 * (ro + 1)) (by omega) (by omega) ?_
                          exact j_lo2 (ih2 w16 _ (ro + 1) _ hm_s4 hfm_s4 hke_s4 (by omega) (by omega)) (z_q1 rfl (z_q1 rfl (z_q1 rfl z_q0)))
                        · have hb133 : q < 5 := Nat.not_le.mp (fun z => c_133_330 ((nI_leI (a := 5) (b := q) (by omega) (by omega)).mpr z))
                          refine j_lload_n dX11_digest_136 rfl ?_
                          refine j_aload_n dX11_digest_137 rfl rfl ?_
                          refine j_getf dX11_digest_138 fX11_31 hm_s4.m rfl ?_
                          refine j_iload_n dX11_digest_141 rfl ?_
                          obtain ⟨fz1031, gz1031, hz1031⟩ := hm_s4.co
                          refine j_aald (v := .ref (1004 + ro)) dX11_digest_142 gz1031 rfl rfl (vp_in_nI (by omega) (by omega)) (by rw [z_cla (by omega)]; exact hz1031 _ (by omega)) ?_
                          refine j_iload dX11_digest_143 rfl ?_
                          refine j_ld dX11_digest_145 (hm_s4.cn (i := ro) (by omega)) (vp_in_nI (by omega) (by omega)) ?_
                          refine j_i2l dX11_digest_146 ?_
                          refine j_callS dX11_digest_147 kX11_add lX11_247 stX11_add (cm_add hl w16 _ _) (Nat.le_of_ble_eq_true rfl) ⟨(by show _ ≤ 56; omega), (by show _ ≤ 1349; omega)⟩ rfl (Nat.le_of_ble_eq_true rfl) rfl rfl (fun _ _ h => h.elim) ?_
                          rintro _ _ ⟨⟨r1033, rfl⟩, hw1033⟩
                          refine j_w w16 hw1033 ?_
                          refine j_lstore_n (lo' := [(1, _), (0, _), (3, _), (4, _)]) dX11_digest_150 (by decide) rfl ?_
                          refine j_iinc (lo' := [(4, _), (1, _), (0, _), (3, _)]) dX11_digest_151 rfl (z_inc _) (by decide) rfl ?_
                          refine j_goto (tgt := 130) dX11_digest_154 (by decide) ?_
                          refine j_widen (kc' := 11 + ro) (ks' := 49 + 4 * ro) (by omega) (by omega) ?_
                          exact j_lo2 (ih4 w16 _ (q + 1) _ hm_s4 hfm_s4 hke_s4 (by omega) (by omega)) (z_q1 rfl (z_q1 rfl (z_q1 rfl (z_q1 rfl z_q0))))
                    refine j_widen (kc' := 11 + ro) (ks' := 49 + 4 * ro) (by omega) (by omega) ?_
                    exact j_lo2 (loop130 (6) w15 _ 0 _ hm_s3 hfm_s3 hke_s3 (by omega) (by omega)) (z_q1 rfl (z_q1 rfl (z_q1 rfl (z_q1 rfl z_q0))))
                  · have hk83 : k < (z_qw s3 (ro)).2.length := (z_bx_len ▸ hp1027 c_83_305)
                    have hzk83 : (z_qw s3 (ro)).2.length ≤ 12 := (hm_s3.rw (i := ro) (by omega)).2
                    refine j_aload dX11_digest_86 rfl rfl ?_
                    refine j_callF (x := ⟨"java/util/Iterator", "next", "()Ljava/lang/Object;"⟩) (q := (RJx35411, TJx35411, 4)) dX11_digest_88 kJx35411_next_0502b ⟨(z_w 1775 ((lwg_8 50).trans (by decide +kernel)) (by decide +kernel)), (z_w 1778 ((lwg_8 53).trans (by decide +kernel)) (by decide +kernel)), inJx35411_next_0502b, ⟨by decide, by decide⟩, rfl, fun U h => h.2.2.1⟩ h3d rfl (cl_next hl w15 58 it1025 (11 + ro) _ (k) _ _ _ (hm_s3.rw (i := ro) (by omega)).1 ⟨_, h3d⟩ (z_bx_get (B := (z_qw s3 (ro)).2) (by omega)) hita1025 hitb1025 (by omega)) (Nat.le_of_ble_eq_true rfl) ⟨(by show _ ≤ 56; omega), (by show _ ≤ 1349; omega)⟩ rfl (Nat.le_of_ble_eq_true rfl) rfl ?_
                    rintro _ w17 ⟨rfl, fw17, la17, git17⟩
                    have fm17 := fw17.fm (q := 59) (by omega)
                    have h17 := hm_s3.gar fw17 (by omega)
                    have ke17 := z_ke h17 hke_s3 rfl
                    refine j_castS dX11_digest_93 (z_w 1567 ((lwg_7 82).trans (by decide +kernel)) (by decide +kernel)) rfl ?_
                    refine j_callVB (v0 := .float _) (C := "java/lang/Integer") dX11_digest_96 kJ6_intValue_8abf5 lX11_99 inJ6_intValue_8abf5 seJ6_intValue_8abf5 rfl (c_J6_intValue_8abf5 hl w17 _) (Nat.le_of_ble_eq_true rfl) ⟨(by show _ ≤ 56; omega), (by show _ ≤ 1349; omega)⟩ rfl (Nat.le_of_ble_eq_true rfl) rfl rfl (fun _ _ h => h.elim) ?_
                    rintro _ _ ⟨rfl, hw1036⟩
                    refine j_w w17 hw1036 ?_
                    refine j_istore (lo' := [(5, _), (0, _), (1, _), (3, _), (4, _)]) dX11_digest_99 (by decide) rfl ?_
                    refine j_lload_n dX11_digest_101 rfl ?_
                    refine j_iload dX11_digest_102 rfl ?_
                    refine j_i2l dX11_digest_104 ?_
                    refine j_callS dX11_digest_105 kX11_add lX11_247 stX11_add (cm_add hl w17 _ _) (Nat.le_of_ble_eq_true rfl) ⟨(by show _ ≤ 56; omega), (by show _ ≤ 1349; omega)⟩ rfl (Nat.le_of_ble_eq_true rfl) rfl rfl (fun _ _ h => h.elim) ?_
                    rintro _ _ ⟨⟨r1037, rfl⟩, hw1037⟩
                    refine j_w w17 hw1037 ?_
                    refine j_lstore_n (lo' := [(1, _), (5, _), (0, _), (3, _), (4, _)]) dX11_digest_108 (by decide) rfl ?_
                    refine j_goto (tgt := 76) dX11_digest_109 (by decide) ?_
                    refine j_widen (kc' := 11 + ro) (ks' := 49 + 4 * ro) (by omega) (by omega) ?_
                    exact j_lo2 (ih3 w17 _ (k + 1) _ _ h17 (hfm_s3.tr fm17) ke17 (by omega) (by omega) (by first | omega | (show _ ≤ (z_qw s3 ro).2.length; omega)) git17) (z_q1 rfl (z_q1 rfl (z_q1 rfl (z_q1 rfl z_q0))))
              refine j_widen (kc' := 11 + ro) (ks' := 49 + 4 * ro) (by omega) (by omega) ?_
              exact j_lo2 (loop76 (13) w14 _ 0 _ _ h14 (hfm_s2.tr fm14) ke14 (by omega) (by omega) (Nat.zero_le _) git1025) (z_q1 rfl (z_q1 rfl (z_q1 rfl (z_q1 rfl z_q0))))
        refine j_widen (kc' := 10 + 0) (ks' := 45 + 4 * 0) (by omega) (by omega) ?_
        exact j_lo2 (loop35 (3) w2 _ 0 _ hm_s1 hfm_s1 hke_s1 (by omega) (by omega)) (z_q1 rfl (z_q1 rfl (z_q1 rfl z_q0)))
      · have hb13 : q < 5 := Nat.not_le.mp (fun z => c_13_22 ((nI_leI (a := 5) (b := q) (by omega) (by omega)).mpr z))
        refine j_lload_n dX11_digest_16 rfl ?_
        refine j_aload_n dX11_digest_17 rfl rfl ?_
        refine j_iload_n dX11_digest_18 rfl ?_
        refine j_callV (q := (RX11, TX11, 8)) dX11_digest_19 kX11_houseTold lX11_237 inX11_houseTold seX11_houseTold hm_s1.m rfl (cm_houseTold hl w2 _ (q) hm_s1 (by omega)) (Nat.le_of_ble_eq_true rfl) ⟨(by show _ ≤ 56; omega), (by show _ ≤ 1349; omega)⟩ rfl (Nat.le_of_ble_eq_true rfl) rfl rfl (fun _ _ h => h.elim) ?_
        rintro _ w18 ⟨r18, s18, rfl, fm18, h18, hk18⟩
        have ke18 := z_ke h18 hke_s1 hk18
        refine j_i2l dX11_digest_22 ?_
        refine j_callS dX11_digest_23 kX11_add lX11_247 stX11_add (cm_add hl w18 _ _) (Nat.le_of_ble_eq_true rfl) ⟨(by show _ ≤ 56; omega), (by show _ ≤ 1349; omega)⟩ rfl (Nat.le_of_ble_eq_true rfl) rfl rfl (fun _ _ h => h.elim) ?_
        rintro _ _ ⟨⟨r1038, rfl⟩, hw1038⟩
        refine j_w w18 hw1038 ?_
        refine j_lstore_n (lo' := [(1, _), (0, _), (3, _)]) dX11_digest_26 (by decide) rfl ?_
        refine j_iinc (lo' := [(3, _), (1, _), (0, _)]) dX11_digest_27 rfl (z_inc _) (by decide) rfl ?_
        refine j_goto (tgt := 11) dX11_digest_30 (by decide) ?_
        refine j_widen (kc' := 2 * (q + 1)) (ks' := 9 * (q + 1)) (by omega) (by omega) ?_
        exact j_lo2 (ih1 w18 _ (q + 1) _ h18 (hfm_s1.tr (fm18.le (q' := 59) (by decide))) ke18 (by omega) (by omega)) (z_q1 rfl (z_q1 rfl (z_q1 rfl z_q0)))
  refine j_widen (kc' := 2 * 0) (ks' := 9 * 0) (by omega) (by omega) ?_
  exact j_lo2 (loop11 (6) w1 _ 0 _ h1 (fw1.fm (q := 59) (by omega)) ke1 (by omega) (by omega)) (z_q1 rfl (z_q1 rfl (z_q1 rfl z_q0)))
end ZMs11
