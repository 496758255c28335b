section ZCg
variable {G : z_G} {l : Launch}
theorem z_thc {w : z_W} {th ns : List Nat} {n : Nat} {e : z_E} {es : List z_E} (h : z_g w n = some (z_re th e)) (t : ns.map (z_g w) = es.map (fun e => some (z_re th e))) : (n :: ns).map (z_g w) = (e :: es).map (fun e => some (z_re th e)) := by rw [List.map_cons, List.map_cons, h, t]
theorem z_liftro {y : z_M} {rk mc ms : Nat} {L0 : List z_E} {av : List Value} {Q : Option Value → List z_E → Prop} {X : String → List z_E → Prop} {Qv : Option Value → Prop} {Xv : String → Prop} {w : z_W} (N : Nat) (h1 : w.1 = L0) (hN : L0.length = N) (hN2 : N ≤ 1000) (hc : L0.map (z_re (List.range N)) = L0) (hav : av.map (z_rn (List.range N)) = av) (h : z_CX G l y rk mc ms L0 av Q X) (hQ : ∀ v L', Q v L' → Qv v ∧ L' = L0) (hQv : ∀ v, Qv v → v.map (z_rn (List.range N)) = v) (hX : ∀ E L', X E L' → Xv E ∧ L' = L0) : z_Con G l y rk mc ms w av (fun v w9 => Qv v ∧ w9 = w) (fun E w9 => Xv E ∧ w9 = w) := by
  obtain ⟨L, P⟩ := w
  have h1 : L = L0 := h1
  subst h1
  refine z_weak (z_lift N hN hN2 hc hav h (fun v L' q => ?_) (fun E L' q => ?_)) (fun v w' q => ?_) (fun E w' q => ?_)
  · obtain ⟨q1, rfl⟩ := hQ v L' q
    exact ⟨hN, hc, hQv v q1⟩
  · obtain ⟨q1, rfl⟩ := hX E L' q
    exact ⟨hN, hc⟩
  · obtain ⟨q1, q2⟩ := q
    obtain ⟨q3, q4⟩ := hQ v _ q1
    exact ⟨q3, Prod.ext q4 q2⟩
  · obtain ⟨q1, q2⟩ := q
    obtain ⟨q3, q4⟩ := hX E _ q1
    exact ⟨q3, Prod.ext q4 q2⟩
theorem z_m20lt {m : Int32} {k : Nat} (hm : z_m20 m) (h : ¬ m ≤ nI k) (hk : k < 2147483648) : k < 20 := by
  have h2 : ¬ m.toInt ≤ (nI k).toInt := fun z => h (Int32.le_iff_toInt_le.mpr z)
  rw [nI_toInt hk] at h2
  unfold z_m20 at hm
  omega
set_option maxRecDepth 100000 in
set_option maxHeartbeats 8000000 in
theorem cg_joined (hl : l.stackTraces = false) (w : z_W) (a N : Nat) (f : Nat → Int32) (m : Int32) (ha : a < 1000) (hN : N ≤ 12) (hf : z_fn w) (ga : z_g w a = some (.inl (0, N, fun j => .int (f j)))) : z_Con G l mX8_joined 18 24 800 w [.ref a, .int m] (fun v w9 => ∃ r n, v = some (.ref r) ∧ z_lf w w9 ∧ z_tx w9 57 r n) (fun _ _ => False) := by
  refine z_body hl (by decide) rfl (Nat.le_of_ble_eq_true rfl) ?_
  show z_J G l mX8_joined _ 0 [(0, _), (1, _)] [] _ 0 0
  obtain ⟨x1, hx1a, hx1b, hx1c⟩ := z_fresh (56) (by decide) hf
  have n_a_x1 := z_neF hx1c ga
  refine j_new (N := 4) (w' := _) (n := x1) dX8_joined_0 nX8_360 rfl (z_alW hx1c hx1a) (Nat.le_of_ble_eq_true rfl) (Nat.le_of_ble_eq_true rfl) ?_
  refine j_seal hx1a ?_
  intro w1 u1
  have g1_a := (u1.2.1 _ n_a_x1).trans ga
  have g1_x1 := u1.1
  have hf1 := u1.2.2.2 hf
  refine j_dup dX8_joined_3 rfl ?_
  refine j_callI dX8_joined_4 kJ4_init_da8c8 rfl lX8_362 inJ4_init_da8c8 rfl (sb_ini hl w1 56 x1 hx1a hx1b (by decide) hf1 g1_x1) (Nat.le_of_ble_eq_true rfl) ⟨(by show _ ≤ 24; omega), (by show _ ≤ 800; omega)⟩ rfl (Nat.le_of_ble_eq_true rfl) rfl rfl (fun _ _ h => h.elim) ?_
  rintro _ w2 ⟨rfl, fw2, hs2⟩
  have lf2 := fw2.lf (by decide)
  have g2_a := lf2.g ha g1_a
  have hf2 := lf2.2.2 hf1
  refine j_astore_n (lo' := [(2, _), (0, _), (1, _)]) dX8_joined_7 rfl (by decide) rfl ?_
  refine j_iconst (v := 0) dX8_joined_8 (by decide) ?_
  refine j_istore_n (lo' := [(3, _), (2, _), (0, _), (1, _)]) dX8_joined_9 (by decide) rfl ?_
  have loop10 : ∀ (n9 : Nat) (w3 : z_W) (k bn bN : Nat), (z_lf w w3) → (z_fn w3) → (k ≤ N) → (N < k + n9) → (z_g w3 a = some (.inl (0, N, fun j => .int (f j)))) → (z_sb w3 56 x1 bn bN) → (bn ≤ 12 * k) → (bN ≤ 304) → (16 ≤ bN) → z_J G l mX8_joined (18, 24, 800, w, (fun v w9 => ∃ r n, v = some (.ref r) ∧ z_lf w w9 ∧ z_tx w9 57 r n), (fun _ _ => False)) 10 [(0, .ref a), (1, .int m), (2, .ref x1), (3, .int (nI k))] [] w3 (1 + bN / 16) (2 * bN) := by
    intro n9
    induction n9 with
    | zero => intro w3 k bn bN hlf10 hfn10 hj hf9 ga hsb hbn hbN hbM; exact absurd hf9 (by omega)
    | succ n9 ih =>
      intro w3 k bn bN hlf10 hfn10 hj hf9 ga hsb hbn hbN hbM
      refine j_iload_n dX8_joined_10 rfl ?_
      refine j_iload_n dX8_joined_11 rfl ?_
      refine j_icmp_ge (tgt := 46) dX8_joined_12 (by decide) (fun c_12_27 => ?_) (fun c_12_27 => ?_)
      · refine j_aload_n dX8_joined_46 rfl rfl ?_
        have hnN := hsb.nN
        obtain ⟨fs1, gs1⟩ := hsb.cell
        refine j_callV (q := (RJ4, TJ4, 4)) dX8_joined_47 kJ4_toString_0e30d lX8_369 inJ4_toString_0e30d seJ4_toString_0e30d gs1 rfl (sb_toS hl w3 57 56 x1 (bn) (bN) hsb (by decide) (by decide) hfn10) (Nat.le_of_ble_eq_true rfl) ⟨(by show _ ≤ 24; omega), (by show _ ≤ 800; omega)⟩ rfl (Nat.le_of_ble_eq_true rfl) rfl rfl (fun _ _ h => h.elim) ?_
        rintro _ w4 ⟨r4, rfl, fw4, ht4⟩
        have lf4 := fw4.lf (by decide)
        have g4_a := lf4.g ha ga
        have hf4 := lf4.2.2 hfn10
        refine j_aret dX8_joined_50 rfl (Or.inl ⟨_, rfl⟩) rfl ?_ (by show _ ≤ 24; omega) (by show _ ≤ 800; omega)
        exact ⟨_, _, rfl, (hlf10.tr lf4), ht4⟩
      · refine j_iload_n dX8_joined_15 rfl ?_
        refine j_aload_n dX8_joined_16 rfl rfl ?_
        refine j_alen dX8_joined_17 ga rfl rfl ?_
        refine j_icmp_ge (tgt := 46) dX8_joined_18 (by decide) (fun c_18_41 => ?_) (fun c_18_41 => ?_)
        · have hb18 : N ≤ k := (nI_leI (a := N) (b := k) (by omega) (by omega)).mp c_18_41
          refine j_aload_n dX8_joined_46 rfl rfl ?_
          have hnN := hsb.nN
          obtain ⟨fs2, gs2⟩ := hsb.cell
          refine j_callV (q := (RJ4, TJ4, 4)) dX8_joined_47 kJ4_toString_0e30d lX8_369 inJ4_toString_0e30d seJ4_toString_0e30d gs2 rfl (sb_toS hl w3 57 56 x1 (bn) (bN) hsb (by decide) (by decide) hfn10) (Nat.le_of_ble_eq_true rfl) ⟨(by show _ ≤ 24; omega), (by show _ ≤ 800; omega)⟩ rfl (Nat.le_of_ble_eq_true rfl) rfl rfl (fun _ _ h => h.elim) ?_
          rintro _ w5 ⟨r5, rfl, fw5, ht5⟩
          have lf5 := fw5.lf (by decide)
          have g5_a := lf5.g ha ga
          have hf5 := lf5.2.2 hfn10
          refine j_aret dX8_joined_50 rfl (Or.inl ⟨_, rfl⟩) rfl ?_ (by show _ ≤ 24; omega) (by show _ ≤ 800; omega)
          exact ⟨_, _, rfl, (hlf10.tr lf5), ht5⟩
        · have hb18 : k < N := Nat.not_le.mp (fun z => c_18_41 ((nI_leI (a := N) (b := k) (by omega) (by omega)).mpr z))
          refine j_iload_n dX8_joined_21 rfl ?_
          refine j_if_le (tgt := 32) dX8_joined_22 (by decide) (fun c_22_55 => ?_) (fun c_22_55 => ?_)
          · have hb22 : k ≤ 0 := (nI_leI (a := k) (b := 0) (by omega) (by omega)).mp c_22_55
            refine j_aload_n dX8_joined_32 rfl rfl ?_
            refine j_aload_n dX8_joined_33 rfl rfl ?_
            refine j_iload_n dX8_joined_34 rfl ?_
            refine j_ld dX8_joined_35 ga (vp_in_nI (by omega) (by omega)) ?_
            refine j_gen ?_
            intro xv3
            have hzs4 := z_sz_in xv3
            have hnN5 := hsb.nN
            have hle5 := z_gr_le (N := bN) (m := (bn + z_sz xv3))
            have hmx5 := z_gr_mx (N := bN) (m := (bn + z_sz xv3)) (M := 144) (by omega) (by omega)
            obtain ⟨fs6, gs6⟩ := hsb.cell
            refine j_callV (q := (RJ4, TJ4, 4)) dX8_joined_36 kJ4_append_bf812 lX8_366 inJ4_append_bf812 seJ4_append_bf812 gs6 rfl (sb_apI hl w3 56 x1 (bn) (bN) xv3 hsb (by omega) (by omega) (by decide) hfn10) (Nat.le_of_ble_eq_true rfl) ⟨(by show _ ≤ 24; omega), (by show _ ≤ 800; omega)⟩ rfl (Nat.le_of_ble_eq_true rfl) rfl rfl (fun _ _ h => h.elim) ?_
            rintro _ w6 ⟨rfl, fw6, hs6⟩
            have lf6 := fw6.lf (by decide)
            have g6_a := lf6.g ha ga
            have hf6 := lf6.2.2 hfn10
            refine j_pop dX8_joined_39 rfl ?_
            refine j_iinc (lo' := [(3, _), (0, _), (1, _), (2, _)]) dX8_joined_40 rfl (z_inc _) (by decide) rfl ?_
            refine j_goto (tgt := 10) dX8_joined_43 (by decide) ?_
            refine j_widen (kc' := 1 + (z_gr (bN) (bn + z_sz xv3)) / 16) (ks' := 2 * (z_gr (bN) (bn + z_sz xv3))) (by omega) (by omega) ?_
            exact j_lo2 (ih w6 (k + 1) (bn + z_sz xv3) (z_gr (bN) (bn + z_sz xv3)) (hlf10.tr lf6) hf6 (by omega) (by omega) g6_a hs6 (by omega) (by omega) (by omega)) (z_q1 rfl (z_q1 rfl (z_q1 rfl (z_q1 rfl z_q0))))
          · have hb22 : 0 < k := Nat.not_le.mp (fun z => c_22_55 ((nI_leI (a := k) (b := 0) (by omega) (by omega)).mpr z))
            refine j_aload_n dX8_joined_25 rfl rfl ?_
            refine j_bipush (v := 32) dX8_joined_26 (by decide) ?_
            have hnN7 := hsb.nN
            have hle7 := z_gr_le (N := bN) (m := (bn + 1))
            have hmx7 := z_gr_mx (N := bN) (m := (bn + 1)) (M := 144) (by omega) (by omega)
            obtain ⟨fs8, gs8⟩ := hsb.cell
            refine j_callV (q := (RJ4, TJ4, 4)) dX8_joined_28 kJ4_append_cf468 lX8_363 inJ4_append_cf468 seJ4_append_cf468 gs8 rfl (sb_apC hl w3 56 x1 (bn) (bN) (32) hsb (by omega) (by omega) (by decide) hfn10 (by decide)) (Nat.le_of_ble_eq_true rfl) ⟨(by show _ ≤ 24; omega), (by show _ ≤ 800; omega)⟩ rfl (Nat.le_of_ble_eq_true rfl) rfl rfl (fun _ _ h => h.elim) ?_
            rintro _ w7 ⟨rfl, fw7, hs7⟩
            have lf7 := fw7.lf (by decide)
            have g7_a := lf7.g ha ga
            have hf7 := lf7.2.2 hfn10
            refine j_pop dX8_joined_31 rfl ?_
            refine j_aload_n dX8_joined_32 rfl rfl ?_
            refine j_aload_n dX8_joined_33 rfl rfl ?_
            refine j_iload_n dX8_joined_34 rfl ?_
            refine j_ld dX8_joined_35 g7_a (vp_in_nI (by omega) (by omega)) ?_
            refine j_gen ?_
            intro xv9
            have hzs10 := z_sz_in xv9
            have hnN11 := hs7.nN
            have hle11 := z_gr_le (N := (z_gr (bN) (bn + 1))) (m := ((bn + 1) + z_sz xv9))
            have hmx11 := z_gr_mx (N := (z_gr (bN) (bn + 1))) (m := ((bn + 1) + z_sz xv9)) (M := 144) (by omega) (by omega)
            obtain ⟨fs12, gs12⟩ := hs7.cell
            refine j_callV (q := (RJ4, TJ4, 4)) dX8_joined_36 kJ4_append_bf812 lX8_366 inJ4_append_bf812 seJ4_append_bf812 gs12 rfl (sb_apI hl w7 56 x1 ((bn + 1)) ((z_gr (bN) (bn + 1))) xv9 hs7 (by omega) (by omega) (by decide) hf7) (Nat.le_of_ble_eq_true rfl) ⟨(by show _ ≤ 24; omega), (by show _ ≤ 800; omega)⟩ rfl (Nat.le_of_ble_eq_true rfl) rfl rfl (fun _ _ h => h.elim) ?_
            rintro _ w8 ⟨rfl, fw8, hs8⟩
            have lf8 := fw8.lf (by decide)
            have g8_a := lf8.g ha g7_a
            have hf8 := lf8.2.2 hf7
            refine j_pop dX8_joined_39 rfl ?_
            refine j_iinc (lo' := [(3, _), (0, _), (1, _), (2, _)]) dX8_joined_40 rfl (z_inc _) (by decide) rfl ?_
            refine j_goto (tgt := 10) dX8_joined_43 (by decide) ?_
            refine j_widen (kc' := 1 + (z_gr ((z_gr (bN) (bn + 1))) ((bn + 1) + z_sz xv9)) / 16) (ks' := 2 * (z_gr ((z_gr (bN) (bn + 1))) ((bn + 1) + z_sz xv9))) (by omega) (by omega) ?_
            exact j_lo2 (ih w8 (k + 1) ((bn + 1) + z_sz xv9) (z_gr ((z_gr (bN) (bn + 1))) ((bn + 1) + z_sz xv9)) ((hlf10.tr lf7).tr lf8) hf8 (by omega) (by omega) g8_a hs8 (by omega) (by omega) (by omega)) (z_q1 rfl (z_q1 rfl (z_q1 rfl (z_q1 rfl z_q0))))
  refine j_widen (kc' := 1 + 16 / 16) (ks' := 2 * 16) (by omega) (by omega) ?_
  exact j_lo2 (loop10 (N + 1) w2 0 0 16 (((u1.fw hx1a hx1b).lf (by decide)).tr lf2) hf2 (by omega) (by omega) g2_a hs2 (by omega) (by omega) (by omega)) (z_q1 rfl (z_q1 rfl (z_q1 rfl (z_q1 rfl z_q0))))
set_option maxRecDepth 100000 in
set_option maxHeartbeats 8000000 in
theorem cg_recent (hl : l.stackTraces = false) (w : z_W) (h a : Nat) (k1 k2 k3 k4 k5 : Int32) (f : Nat → Int32) (hh : h < 1000) (ha : a < 1000) (hf : z_fn w) (gh : z_g w h = some (.inr (5, [.ref a, .int k1, .int k2, .int k3, .int k4, .int k5]))) (ga : z_g w a = some (.inl (0, 10, fun j => .int (f j)))) : z_Con G l mX0_recent 19 24 800 w [.ref h] (fun v w9 => ∃ r n, v = some (.ref r) ∧ z_lf w w9 ∧ z_tx w9 57 r n) (fun _ _ => False) := by
  refine z_body hl (by decide) rfl (Nat.le_of_ble_eq_true rfl) ?_
  show z_J G l mX0_recent _ 0 [(0, _)] [] _ 0 0
  refine j_aload_n dX0_recent_0 rfl rfl ?_
  refine j_getf dX0_recent_1 fX0_9 gh rfl ?_
  refine j_aload_n dX0_recent_4 rfl rfl ?_
  refine j_getf dX0_recent_5 fX0_32 gh rfl ?_
  refine j_callSN dX0_recent_8 kX8_joined lX0_38 stX8_joined (cg_joined hl w a 10 f _ ha (by decide) hf ga) (Nat.le_of_ble_eq_true rfl) ⟨(by show _ ≤ 24; omega), (by show _ ≤ 800; omega)⟩ rfl (Nat.le_of_ble_eq_true rfl) rfl rfl (fun _ _ h => h.elim) ?_
  rintro _ w1 ⟨r1, n1, rfl, lf1, ht1⟩
  have g1_h := lf1.g hh gh
  have g1_a := lf1.g ha ga
  have hf1 := lf1.2.2 hf
  refine j_aret dX0_recent_11 rfl (Or.inl ⟨_, rfl⟩) rfl ?_ (by show _ ≤ 24; omega) (by show _ ≤ 800; omega)
  exact ⟨_, _, rfl, lf1, ht1⟩
set_option maxRecDepth 100000 in
set_option maxHeartbeats 8000000 in
theorem cg_pairs (hl : l.stackTraces = false) (w : z_W) (a0 a1 a2 a3 a4 : Nat) (f g c : Nat → Int32) (m so : Int32) (l0 : a0 < 1000) (l1 : a1 < 1000) (l2 : a2 < 1000) (l3 : a3 < 1000) (l4 : a4 < 1000) (hnd : [a0, a1, a2, a3, a4].Nodup) (hm : z_m20 m) (hf : z_fn w) (g0 : z_g w a0 = some (.inr (9, [.int so, .ref a1, .ref a2, .ref a3, .int m]))) (g1 : z_g w a1 = some (z_ia 20 f)) (g2 : z_g w a2 = some (z_ia 20 g)) (g3 : z_g w a3 = some (.inr (11, [.ref a4]))) (g4 : z_g w a4 = some (z_ia 7 c)) : z_Con G l mX4_pairs 18 66 2450 w [.ref a0] (fun v w9 => ∃ r n, v = some (.ref r) ∧ z_lf w w9 ∧ z_tx w9 57 r n) (fun _ _ => False) := by
  refine z_body hl (by decide) rfl (Nat.le_of_ble_eq_true rfl) ?_
  show z_J G l mX4_pairs _ 0 [(0, _)] [] _ 0 0
  obtain ⟨x1, hx1a, hx1b, hx1c⟩ := z_fresh (56) (by decide) hf
  have n_a0_x1 := z_neF hx1c g0
  have n_a1_x1 := z_neF hx1c g1
  have n_a2_x1 := z_neF hx1c g2
  have n_a3_x1 := z_neF hx1c g3
  have n_a4_x1 := z_neF hx1c g4
  refine j_new (N := 4) (w' := _) (n := x1) dX4_pairs_0 nX4_73 rfl (z_alW hx1c hx1a) (Nat.le_of_ble_eq_true rfl) (Nat.le_of_ble_eq_true rfl) ?_
  refine j_seal hx1a ?_
  intro w1 u1
  have g1_a0 := (u1.2.1 _ n_a0_x1).trans g0
  have g1_a1 := (u1.2.1 _ n_a1_x1).trans g1
  have g1_a2 := (u1.2.1 _ n_a2_x1).trans g2
  have g1_a3 := (u1.2.1 _ n_a3_x1).trans g3
  have g1_a4 := (u1.2.1 _ n_a4_x1).trans g4
  have g1_x1 := u1.1
  have hf1 := u1.2.2.2 hf
  refine j_dup dX4_pairs_3 rfl ?_
  refine j_callI dX4_pairs_4 kJ4_init_da8c8 rfl lX4_75 inJ4_init_da8c8 rfl (sb_ini hl w1 56 x1 hx1a hx1b (by decide) hf1 g1_x1) (Nat.le_of_ble_eq_true rfl) ⟨(by show _ ≤ 66; omega), (by show _ ≤ 2450; omega)⟩ rfl (Nat.le_of_ble_eq_true rfl) rfl rfl (fun _ _ h => h.elim) ?_
  rintro _ w2 ⟨rfl, fw2, hs2⟩
  have lf2 := fw2.lf (by decide)
  have g2_a0 := lf2.g l0 g1_a0
  have g2_a1 := lf2.g l1 g1_a1
  have g2_a2 := lf2.g l2 g1_a2
  have g2_a3 := lf2.g l3 g1_a3
  have g2_a4 := lf2.g l4 g1_a4
  have hf2 := lf2.2.2 hf1
  refine j_astore_n (lo' := [(1, _), (0, _)]) dX4_pairs_7 rfl (by decide) rfl ?_
  refine j_iconst (v := 0) dX4_pairs_8 (by decide) ?_
  refine j_istore_n (lo' := [(2, _), (1, _), (0, _)]) dX4_pairs_9 (by decide) rfl ?_
  have loop10 : ∀ (n9 : Nat) (w3 : z_W) (k bn bN : Nat), (z_lf w w3) → (z_fn w3) → (k ≤ 20) → (20 < k + n9) → (z_g w3 a0 = some (.inr (9, [.int so, .ref a1, .ref a2, .ref a3, .int m]))) → (z_g w3 a1 = some (z_ia 20 f)) → (z_g w3 a2 = some (z_ia 20 g)) → (z_g w3 a3 = some (.inr (11, [.ref a4]))) → (z_g w3 a4 = some (z_ia 7 c)) → (z_sb w3 56 x1 bn bN) → (bn ≤ 24 * k) → (bN ≤ 976) → (16 ≤ bN) → z_J G l mX4_pairs (18, 66, 2450, w, (fun v w9 => ∃ r n, v = some (.ref r) ∧ z_lf w w9 ∧ z_tx w9 57 r n), (fun _ _ => False)) 10 [(0, .ref a0), (1, .ref x1), (2, .int (nI k))] [] w3 (1 + bN / 16) (2 * bN) := by
    intro n9
    induction n9 with
    | zero => intro w3 k bn bN hlf10 hfn10 hj hf9 g0 g1 g2 g3 g4 hsb hbn hbN hbM; exact absurd hf9 (by omega)
    | succ n9 ih =>
      intro w3 k bn bN hlf10 hfn10 hj hf9 g0 g1 g2 g3 g4 hsb hbn hbN hbM
      refine j_iload_n dX4_pairs_10 rfl ?_
      refine j_aload_n dX4_pairs_11 rfl rfl ?_
      refine j_getf dX4_pairs_12 fX4_29 g0 rfl ?_
      refine j_icmp_ge (tgt := 60) dX4_pairs_15 (by decide) (fun c_15_40 => ?_) (fun c_15_40 => ?_)
      · refine j_aload_n dX4_pairs_60 rfl rfl ?_
        have hnN := hsb.nN
        obtain ⟨fs13, gs13⟩ := hsb.cell
        refine j_callV (q := (RJ4, TJ4, 4)) dX4_pairs_61 kJ4_toString_0e30d lX4_86 inJ4_toString_0e30d seJ4_toString_0e30d gs13 rfl (sb_toS hl w3 57 56 x1 (bn) (bN) hsb (by decide) (by decide) hfn10) (Nat.le_of_ble_eq_true rfl) ⟨(by show _ ≤ 66; omega), (by show _ ≤ 2450; omega)⟩ rfl (Nat.le_of_ble_eq_true rfl) rfl rfl (fun _ _ h => h.elim) ?_
        rintro _ w4 ⟨r4, rfl, fw4, ht4⟩
        have lf4 := fw4.lf (by decide)
        have g4_a0 := lf4.g l0 g0
        have g4_a1 := lf4.g l1 g1
        have g4_a2 := lf4.g l2 g2
        have g4_a3 := lf4.g l3 g3
        have g4_a4 := lf4.g l4 g4
        have hf4 := lf4.2.2 hfn10
        refine j_aret dX4_pairs_64 rfl (Or.inl ⟨_, rfl⟩) rfl ?_ (by show _ ≤ 66; omega) (by show _ ≤ 2450; omega)
        exact ⟨_, _, rfl, (hlf10.tr lf4), ht4⟩
      · have hk20 := z_m20lt hm c_15_40 (by omega)
        refine j_iload_n dX4_pairs_18 rfl ?_
        refine j_if_le (tgt := 29) dX4_pairs_19 (by decide) (fun c_19_57 => ?_) (fun c_19_57 => ?_)
        · have hb19 : k ≤ 0 := (nI_leI (a := k) (b := 0) (by omega) (by omega)).mp c_19_57
          refine j_aload_n dX4_pairs_29 rfl rfl ?_
          refine j_iload_n dX4_pairs_30 rfl ?_
          refine j_callV (q := (RX4, TX4, 5)) dX4_pairs_31 kX4_keyAt lX4_80 inX4_keyAt seX4_keyAt g0 rfl (z_rof [a0, a1, a2, a3, a4] (z_thc g0 (z_thc g1 (z_thc g2 (z_thc g3 (z_thc g4 rfl))))) hnd (Nat.le_of_ble_eq_true rfl) (c_X4_keyAt hl f g c m so _) (Qv := fun v => ∃ x : Int32, v = some (.int x)) (fun v L q => by obtain ⟨x, q1, q2⟩ := q; exact ⟨⟨x, q1⟩, q2⟩)) (Nat.le_of_ble_eq_true rfl) ⟨(by show _ ≤ 66; omega), (by show _ ≤ 2450; omega)⟩ rfl (Nat.le_of_ble_eq_true rfl) rfl rfl (fun _ _ h => h.elim) ?_
          rintro _ _ ⟨⟨v14, ⟨x14, rfl⟩, rfl⟩, hw14⟩
          refine j_w w3 hw14 ?_
          refine j_istore_n (lo' := [(3, _), (0, _), (1, _), (2, _)]) dX4_pairs_34 (by decide) rfl ?_
          refine j_aload_n dX4_pairs_35 rfl rfl ?_
          refine j_iload_n dX4_pairs_36 rfl ?_
          have hzs15 := z_sz_in x14
          have hnN16 := hsb.nN
          have hle16 := z_gr_le (N := bN) (m := (bn + z_sz x14))
          have hmx16 := z_gr_mx (N := bN) (m := (bn + z_sz x14)) (M := 480) (by omega) (by omega)
          obtain ⟨fs17, gs17⟩ := hsb.cell
          refine j_callV (q := (RJ4, TJ4, 4)) dX4_pairs_37 kJ4_append_bf812 lX4_83 inJ4_append_bf812 seJ4_append_bf812 gs17 rfl (sb_apI hl w3 56 x1 (bn) (bN) x14 hsb (by omega) (by omega) (by decide) hfn10) (Nat.le_of_ble_eq_true rfl) ⟨(by show _ ≤ 66; omega), (by show _ ≤ 2450; omega)⟩ rfl (Nat.le_of_ble_eq_true rfl) rfl rfl (fun _ _ h => h.elim) ?_
          rintro _ w5 ⟨rfl, fw5, hs5⟩
          have lf5 := fw5.lf (by decide)
          have g5_a0 := lf5.g l0 g0
          have g5_a1 := lf5.g l1 g1
          have g5_a2 := lf5.g l2 g2
          have g5_a3 := lf5.g l3 g3
          have g5_a4 := lf5.g l4 g4
          have hf5 := lf5.2.2 hfn10
          refine j_bipush (v := 61) dX4_pairs_40 (by decide) ?_
          have hnN18 := hs5.nN
          have hle18 := z_gr_le (N := (z_gr (bN) (bn + z_sz x14))) (m := ((bn + z_sz x14) + 1))
          have hmx18 := z_gr_mx (N := (z_gr (bN) (bn + z_sz x14))) (m := ((bn + z_sz x14) + 1)) (M := 480) (by omega) (by omega)
          obtain ⟨fs19, gs19⟩ := hs5.cell
          refine j_callV (q := (RJ4, TJ4, 4)) dX4_pairs_42 kJ4_append_cf468 lX4_76 inJ4_append_cf468 seJ4_append_cf468 gs19 rfl (sb_apC hl w5 56 x1 ((bn + z_sz x14)) ((z_gr (bN) (bn + z_sz x14))) (61) hs5 (by omega) (by omega) (by decide) hf5 (by decide)) (Nat.le_of_ble_eq_true rfl) ⟨(by show _ ≤ 66; omega), (by show _ ≤ 2450; omega)⟩ rfl (Nat.le_of_ble_eq_true rfl) rfl rfl (fun _ _ h => h.elim) ?_
          rintro _ w6 ⟨rfl, fw6, hs6⟩
          have lf6 := fw6.lf (by decide)
          have g6_a0 := lf6.g l0 g5_a0
          have g6_a1 := lf6.g l1 g5_a1
          have g6_a2 := lf6.g l2 g5_a2
          have g6_a3 := lf6.g l3 g5_a3
          have g6_a4 := lf6.g l4 g5_a4
          have hf6 := lf6.2.2 hf5
          refine j_aload_n dX4_pairs_45 rfl rfl ?_
          refine j_iload_n dX4_pairs_46 rfl ?_
          refine j_callV (q := (RX4, TX4, 5)) dX4_pairs_47 kX4_look lX4_37 inX4_look seX4_look g6_a0 rfl (z_rof [a0, a1, a2, a3, a4] (z_thc g6_a0 (z_thc g6_a1 (z_thc g6_a2 (z_thc g6_a3 (z_thc g6_a4 rfl))))) hnd (Nat.le_of_ble_eq_true rfl) (c_X4_look hl f g c m so _) (Qv := fun v => ∃ x : Int32, v = some (.int x)) (fun v L q => by obtain ⟨x, q1, q2⟩ := q; exact ⟨⟨x, q1⟩, q2⟩)) (Nat.le_of_ble_eq_true rfl) ⟨(by show _ ≤ 66; omega), (by show _ ≤ 2450; omega)⟩ rfl (Nat.le_of_ble_eq_true rfl) rfl rfl (fun _ _ h => h.elim) ?_
          rintro _ _ ⟨⟨v20, ⟨x20, rfl⟩, rfl⟩, hw20⟩
          refine j_w w6 hw20 ?_
          have hzs21 := z_sz_in x20
          have hnN22 := hs6.nN
          have hle22 := z_gr_le (N := (z_gr ((z_gr (bN) (bn + z_sz x14))) ((bn + z_sz x14) + 1))) (m := (((bn + z_sz x14) + 1) + z_sz x20))
          have hmx22 := z_gr_mx (N := (z_gr ((z_gr (bN) (bn + z_sz x14))) ((bn + z_sz x14) + 1))) (m := (((bn + z_sz x14) + 1) + z_sz x20)) (M := 480) (by omega) (by omega)
          obtain ⟨fs23, gs23⟩ := hs6.cell
          refine j_callV (q := (RJ4, TJ4, 4)) dX4_pairs_50 kJ4_append_bf812 lX4_83 inJ4_append_bf812 seJ4_append_bf812 gs23 rfl (sb_apI hl w6 56 x1 (((bn + z_sz x14) + 1)) ((z_gr ((z_gr (bN) (bn + z_sz x14))) ((bn + z_sz x14) + 1))) x20 hs6 (by omega) (by omega) (by decide) hf6) (Nat.le_of_ble_eq_true rfl) ⟨(by show _ ≤ 66; omega), (by show _ ≤ 2450; omega)⟩ rfl (Nat.le_of_ble_eq_true rfl) rfl rfl (fun _ _ h => h.elim) ?_
          rintro _ w7 ⟨rfl, fw7, hs7⟩
          have lf7 := fw7.lf (by decide)
          have g7_a0 := lf7.g l0 g6_a0
          have g7_a1 := lf7.g l1 g6_a1
          have g7_a2 := lf7.g l2 g6_a2
          have g7_a3 := lf7.g l3 g6_a3
          have g7_a4 := lf7.g l4 g6_a4
          have hf7 := lf7.2.2 hf6
          refine j_pop dX4_pairs_53 rfl ?_
          refine j_iinc (lo' := [(2, _), (3, _), (0, _), (1, _)]) dX4_pairs_54 rfl (z_inc _) (by decide) rfl ?_
          refine j_goto (tgt := 10) dX4_pairs_57 (by decide) ?_
          refine j_widen (kc' := 1 + (z_gr ((z_gr ((z_gr (bN) (bn + z_sz x14))) ((bn + z_sz x14) + 1))) (((bn + z_sz x14) + 1) + z_sz x20)) / 16) (ks' := 2 * (z_gr ((z_gr ((z_gr (bN) (bn + z_sz x14))) ((bn + z_sz x14) + 1))) (((bn + z_sz x14) + 1) + z_sz x20))) (by omega) (by omega) ?_
          exact j_lo2 (ih w7 (k + 1) (((bn + z_sz x14) + 1) + z_sz x20) (z_gr ((z_gr ((z_gr (bN) (bn + z_sz x14))) ((bn + z_sz x14) + 1))) (((bn + z_sz x14) + 1) + z_sz x20)) (((hlf10.tr lf5).tr lf6).tr lf7) hf7 (by omega) (by omega) g7_a0 g7_a1 g7_a2 g7_a3 g7_a4 hs7 (by omega) (by omega) (by omega)) (z_q1 rfl (z_q1 rfl (z_q1 rfl z_q0)))
        · have hb19 : 0 < k := Nat.not_le.mp (fun z => c_19_57 ((nI_leI (a := k) (b := 0) (by omega) (by omega)).mpr z))
          refine j_aload_n dX4_pairs_22 rfl rfl ?_
          refine j_bipush (v := 32) dX4_pairs_23 (by decide) ?_
          have hnN24 := hsb.nN
          have hle24 := z_gr_le (N := bN) (m := (bn + 1))
          have hmx24 := z_gr_mx (N := bN) (m := (bn + 1)) (M := 480) (by omega) (by omega)
          obtain ⟨fs25, gs25⟩ := hsb.cell
          refine j_callV (q := (RJ4, TJ4, 4)) dX4_pairs_25 kJ4_append_cf468 lX4_76 inJ4_append_cf468 seJ4_append_cf468 gs25 rfl (sb_apC hl w3 56 x1 (bn) (bN) (32) hsb (by omega) (by omega) (by decide) hfn10 (by decide)) (Nat.le_of_ble_eq_true rfl) ⟨(by show _ ≤ 66; omega), (by show _ ≤ 2450; omega)⟩ rfl (Nat.le_of_ble_eq_true rfl) rfl rfl (fun _ _ h => h.elim) ?_
          rintro _ w8 ⟨rfl, fw8, hs8⟩
          have lf8 := fw8.lf (by decide)
          have g8_a0 := lf8.g l0 g0
          have g8_a1 := lf8.g l1 g1
          have g8_a2 := lf8.g l2 g2
          have g8_a3 := lf8.g l3 g3
          have g8_a4 := lf8.g l4 g4
          have hf8 := lf8.2.2 hfn10
          refine j_pop dX4_pairs_28 rfl ?_
          refine j_aload_n dX4_pairs_29 rfl rfl ?_
          refine j_iload_n dX4_pairs_30 rfl ?_
          refine j_callV (q := (RX4, TX4, 5)) dX4_pairs_31 kX4_keyAt lX4_80 inX4_keyAt seX4_keyAt g8_a0 rfl (z_rof [a0, a1, a2, a3, a4] (z_thc g8_a0 (z_thc g8_a1 (z_thc g8_a2 (z_thc g8_a3 (z_thc g8_a4 rfl))))) hnd (Nat.le_of_ble_eq_true rfl) (c_X4_keyAt hl f g c m so _) (Qv := fun v => ∃ x : Int32, v = some (.int x)) (fun v L q => by obtain ⟨x, q1, q2⟩ := q; exact ⟨⟨x, q1⟩, q2⟩)) (Nat.le_of_ble_eq_true rfl) ⟨(by show _ ≤ 66; omega), (by show _ ≤ 2450; omega)⟩ rfl (Nat.le_of_ble_eq_true rfl) rfl rfl (fun _ _ h => h.elim) ?_
          rintro _ _ ⟨⟨v26, ⟨x26, rfl⟩, rfl⟩, hw26⟩
          refine j_w w8 hw26 ?_
          refine j_istore_n (lo' := [(3, _), (0, _), (1, _), (2, _)]) dX4_pairs_34 (by decide) rfl ?_
          refine j_aload_n dX4_pairs_35 rfl rfl ?_
          refine j_iload_n dX4_pairs_36 rfl ?_
          have hzs27 := z_sz_in x26
          have hnN28 := hs8.nN
          have hle28 := z_gr_le (N := (z_gr (bN) (bn + 1))) (m := ((bn + 1) + z_sz x26))
          have hmx28 := z_gr_mx (N := (z_gr (bN) (bn + 1))) (m := ((bn + 1) + z_sz x26)) (M := 480) (by omega) (by omega)
          obtain ⟨fs29, gs29⟩ := hs8.cell
          refine j_callV (q := (RJ4, TJ4, 4)) dX4_pairs_37 kJ4_append_bf812 lX4_83 inJ4_append_bf812 seJ4_append_bf812 gs29 rfl (sb_apI hl w8 56 x1 ((bn + 1)) ((z_gr (bN) (bn + 1))) x26 hs8 (by omega) (by omega) (by decide) hf8) (Nat.le_of_ble_eq_true rfl) ⟨(by show _ ≤ 66; omega), (by show _ ≤ 2450; omega)⟩ rfl (Nat.le_of_ble_eq_true rfl) rfl rfl (fun _ _ h => h.elim) ?_
          rintro _ w9 ⟨rfl, fw9, hs9⟩
          have lf9 := fw9.lf (by decide)
          have g9_a0 := lf9.g l0 g8_a0
          have g9_a1 := lf9.g l1 g8_a1
          have g9_a2 := lf9.g l2 g8_a2
          have g9_a3 := lf9.g l3 g8_a3
          have g9_a4 := lf9.g l4 g8_a4
          have hf9 := lf9.2.2 hf8
          refine j_bipush (v := 61) dX4_pairs_40 (by decide) ?_
          have hnN30 := hs9.nN
          have hle30 := z_gr_le (N := (z_gr ((z_gr (bN) (bn + 1))) ((bn + 1) + z_sz x26))) (m := (((bn + 1) + z_sz x26) + 1))
          have hmx30 := z_gr_mx (N := (z_gr ((z_gr (bN) (bn + 1))) ((bn + 1) + z_sz x26))) (m := (((bn + 1) + z_sz x26) + 1)) (M := 480) (by omega) (by omega)
          obtain ⟨fs31, gs31⟩ := hs9.cell
          refine j_callV (q := (RJ4, TJ4, 4)) dX4_pairs_42 kJ4_append_cf468 lX4_76 inJ4_append_cf468 seJ4_append_cf468 gs31 rfl (sb_apC hl w9 56 x1 (((bn + 1) + z_sz x26)) ((z_gr ((z_gr (bN) (bn + 1))) ((bn + 1) + z_sz x26))) (61) hs9 (by omega) (by omega) (by decide) hf9 (by decide)) (Nat.le_of_ble_eq_true rfl) ⟨(by show _ ≤ 66; omega), (by show _ ≤ 2450; omega)⟩ rfl (Nat.le_of_ble_eq_true rfl) rfl rfl (fun _ _ h => h.elim) ?_
          rintro _ w10 ⟨rfl, fw10, hs10⟩
          have lf10 := fw10.lf (by decide)
          have g10_a0 := lf10.g l0 g9_a0
          have g10_a1 := lf10.g l1 g9_a1
          have g10_a2 := lf10.g l2 g9_a2
          have g10_a3 := lf10.g l3 g9_a3
          have g10_a4 := lf10.g l4 g9_a4
          have hf10 := lf10.2.2 hf9
          refine j_aload_n dX4_pairs_45 rfl rfl ?_
          refine j_iload_n dX4_pairs_46 rfl ?_
          refine j_callV (q := (RX4, TX4, 5)) dX4_pairs_47 kX4_look lX4_37 inX4_look seX4_look g10_a0 rfl (z_rof [a0, a1, a2, a3, a4] (z_thc g10_a0 (z_thc g10_a1 (z_thc g10_a2 (z_thc g10_a3 (z_thc g10_a4 rfl))))) hnd (Nat.le_of_ble_eq_true rfl) (c_X4_look hl f g c m so _) (Qv := fun v => ∃ x : Int32, v = some (.int x)) (fun v L q => by obtain ⟨x, q1, q2⟩ := q; exact ⟨⟨x, q1⟩, q2⟩)) (Nat.le_of_ble_eq_true rfl) ⟨(by show _ ≤ 66; omega), (by show _ ≤ 2450; omega)⟩ rfl (Nat.le_of_ble_eq_true rfl) rfl rfl (fun _ _ h => h.elim) ?_
          rintro _ _ ⟨⟨v32, ⟨x32, rfl⟩, rfl⟩, hw32⟩
          refine j_w w10 hw32 ?_
          have hzs33 := z_sz_in x32
          have hnN34 := hs10.nN
          have hle34 := z_gr_le (N := (z_gr ((z_gr ((z_gr (bN) (bn + 1))) ((bn + 1) + z_sz x26))) (((bn + 1) + z_sz x26) + 1))) (m := ((((bn + 1) + z_sz x26) + 1) + z_sz x32))
          have hmx34 := z_gr_mx (N := (z_gr ((z_gr ((z_gr (bN) (bn + 1))) ((bn + 1) + z_sz x26))) (((bn + 1) + z_sz x26) + 1))) (m := ((((bn + 1) + z_sz x26) + 1) + z_sz x32)) (M := 480) (by omega) (by omega)
          obtain ⟨fs35, gs35⟩ := hs10.cell
          refine j_callV (q := (RJ4, TJ4, 4)) dX4_pairs_50 kJ4_append_bf812 lX4_83 inJ4_append_bf812 seJ4_append_bf812 gs35 rfl (sb_apI hl w10 56 x1 ((((bn + 1) + z_sz x26) + 1)) ((z_gr ((z_gr ((z_gr (bN) (bn + 1))) ((bn + 1) + z_sz x26))) (((bn + 1) + z_sz x26) + 1))) x32 hs10 (by omega) (by omega) (by decide) hf10) (Nat.le_of_ble_eq_true rfl) ⟨(by show _ ≤ 66; omega), (by show _ ≤ 2450; omega)⟩ rfl (Nat.le_of_ble_eq_true rfl) rfl rfl (fun _ _ h => h.elim) ?_
          rintro _ w11 ⟨rfl, fw11, hs11⟩
          have lf11 := fw11.lf (by decide)
          have g11_a0 := lf11.g l0 g10_a0
          have g11_a1 := lf11.g l1 g10_a1
          have g11_a2 := lf11.g l2 g10_a2
          have g11_a3 := lf11.g l3 g10_a3
          have g11_a4 := lf11.g l4 g10_a4
          have hf11 := lf11.2.2 hf10
          refine j_pop dX4_pairs_53 rfl ?_
          refine j_iinc (lo' := [(2, _), (3, _), (0, _), (1, _)]) dX4_pairs_54 rfl (z_inc _) (by decide) rfl ?_
          refine j_goto (tgt := 10) dX4_pairs_57 (by decide) ?_
          refine j_widen (kc' := 1 + (z_gr ((z_gr ((z_gr ((z_gr (bN) (bn + 1))) ((bn + 1) + z_sz x26))) (((bn + 1) + z_sz x26) + 1))) ((((bn + 1) + z_sz x26) + 1) + z_sz x32)) / 16) (ks' := 2 * (z_gr ((z_gr ((z_gr ((z_gr (bN) (bn + 1))) ((bn + 1) + z_sz x26))) (((bn + 1) + z_sz x26) + 1))) ((((bn + 1) + z_sz x26) + 1) + z_sz x32))) (by omega) (by omega) ?_
          exact j_lo2 (ih w11 (k + 1) ((((bn + 1) + z_sz x26) + 1) + z_sz x32) (z_gr ((z_gr ((z_gr ((z_gr (bN) (bn + 1))) ((bn + 1) + z_sz x26))) (((bn + 1) + z_sz x26) + 1))) ((((bn + 1) + z_sz x26) + 1) + z_sz x32)) ((((hlf10.tr lf8).tr lf9).tr lf10).tr lf11) hf11 (by omega) (by omega) g11_a0 g11_a1 g11_a2 g11_a3 g11_a4 hs11 (by omega) (by omega) (by omega)) (z_q1 rfl (z_q1 rfl (z_q1 rfl z_q0)))
  refine j_widen (kc' := 1 + 16 / 16) (ks' := 2 * 16) (by omega) (by omega) ?_
  exact j_lo2 (loop10 21 w2 0 0 16 (((u1.fw hx1a hx1b).lf (by decide)).tr lf2) hf2 (by omega) (by omega) g2_a0 g2_a1 g2_a2 g2_a3 g2_a4 hs2 (by omega) (by omega) (by omega)) (z_q1 rfl (z_q1 rfl (z_q1 rfl z_q0)))
set_option maxRecDepth 100000 in
set_option maxHeartbeats 8000000 in
theorem cg_range (hl : l.stackTraces = false) (w : z_W) (a b c : Int32) (hab : b ≤ a ∧ a ≤ c) : z_Con G l mX8_checkRange 10 0 0 w [.int a, .int b, .int c] (fun v w9 => v = none ∧ w9 = w) (fun _ _ => False) := by
  refine z_body hl (by decide) rfl (Nat.le_of_ble_eq_true rfl) ?_
  show z_J G l mX8_checkRange _ 0 [(0, _), (1, _), (2, _)] [] _ 0 0
  refine j_iload_n dX8_checkRange_0 rfl ?_
  refine j_iload_n dX8_checkRange_1 rfl ?_
  refine j_icmp_lt (tgt := 10) dX8_checkRange_2 (by decide) (fun c_2_4 => ?_) (fun c_2_4 => ?_)
  · exact absurd hab.1 (Int32.not_le.mpr c_2_4)
  · refine j_iload_n dX8_checkRange_5 rfl ?_
    refine j_iload_n dX8_checkRange_6 rfl ?_
    refine j_icmp_le (tgt := 21) dX8_checkRange_7 (by decide) (fun c_7_8 => ?_) (fun c_7_8 => ?_)
    · refine j_vret dX8_checkRange_21 rfl ?_ (by show _ ≤ 0; omega) (by show _ ≤ 0; omega)
      exact ⟨rfl, rfl⟩
    · exact absurd hab.2 c_7_8
set_option maxRecDepth 100000 in
set_option maxHeartbeats 8000000 in
theorem cg_house (hl : l.stackTraces = false) (w : z_W) (rf : Int32) (kn : Int32) (ma : Int32) (xa : Bool) (fa : Nat → Int32) (ca : Nat → Int32) (mb : Int32) (xb : Bool) (fb : Nat → Int32) (cb : Nat → Int32) (mt : Int32) (xt : Bool) (ft : Nat → Int32) (ct : Nat → Int32) (f0 : Nat → Int32) (g0 : Nat → Int32) (c0 : Nat → Int32) (m0 : Int32) (s0 : Int32) (f1 : Nat → Int32) (g1 : Nat → Int32) (c1 : Nat → Int32) (m1 : Int32) (s1 : Int32) (f2 : Nat → Int32) (g2 : Nat → Int32) (c2 : Nat → Int32) (m2 : Int32) (s2 : Int32) (f3 : Nat → Int32) (g3 : Nat → Int32) (c3 : Nat → Int32) (m3 : Int32) (s3 : Int32) (f4 : Nat → Int32) (g4 : Nat → Int32) (c4 : Nat → Int32) (m4 : Int32) (s4 : Int32) (f5 : Nat → Int32) (g5 : Nat → Int32) (c5 : Nat → Int32) (m5 : Int32) (s5 : Int32) (ek0 : Int32) (em0 : Int32) (es0 : Int32) (el0 : Int32) (b0 : Int32) (ef0 : Nat → Int32) (ek1 : Int32) (em1 : Int32) (es1 : Int32) (el1 : Int32) (b1 : Int32) (ef1 : Nat → Int32) (p : Int32) (e0 : z_m20 m0) (e1 : z_m20 m1) (e2 : z_m20 m2) (e3 : z_m20 m3) (e4 : z_m20 m4) (e5 : z_m20 m5) (h1 : w.1 = z_cw rf kn ma xa fa ca mb xb fb cb mt xt ft ct f0 g0 c0 m0 s0 f1 g1 c1 m1 s1 f2 g2 c2 m2 s2 f3 g3 c3 m3 s3 f4 g4 c4 m4 s4 f5 g5 c5 m5 s5 ek0 em0 es0 el0 b0 ef0 ek1 em1 es1 el1 b1 ef1 []) (hp : 0 ≤ p ∧ p ≤ 4) : z_Con G l mX8_house 20 0 0 w [.ref 0, .int p] (fun v w9 => (∃ x : Int32, v = some (.int x)) ∧ w9 = w) (fun _ _ => False) := by
  refine z_body hl (by decide) rfl (Nat.le_of_ble_eq_true rfl) ?_
  show z_J G l mX8_house _ 0 [(0, _), (1, _)] [] _ 0 0
  refine j_iload_n dX8_house_0 rfl ?_
  refine j_iconst (v := 0) dX8_house_1 (by decide) ?_
  refine j_iconst (v := 4) dX8_house_2 (by decide) ?_
  refine j_callS dX8_house_3 kX8_checkRange lX8_72 stX8_checkRange (cg_range hl w _ _ _ hp) (Nat.le_of_ble_eq_true rfl) ⟨(by show _ ≤ 0; omega), (by show _ ≤ 0; omega)⟩ rfl (Nat.le_of_ble_eq_true rfl) rfl rfl (fun _ _ h => h.elim) ?_
  rintro _ _ ⟨rfl, hw39⟩
  refine j_w w hw39 ?_
  refine j_iload_n dX8_house_6 rfl ?_
  rcases z_sw4 p with rfl | rfl | rfl | rfl | hp
  · refine j_tsIn (tgt := 36) dX8_house_7 (by decide) (by decide) rfl (by decide) ?_
    refine j_aload_n dX8_house_36 rfl rfl ?_
    refine j_callV (q := (RX8, TX8, 9)) dX8_house_37 kX8_valuesOfRows lX8_247 inX8_valuesOfRows seX8_valuesOfRows (z_g1 h1 (by decide) rfl) rfl (z_liftro (Qv := fun v => ∃ x : Int32, v = some (.int x)) (Xv := fun _ => False) 51 h1 rfl (by decide) z_cwR rfl (z_CFX (X := fun _ _ => False) (c_X8_valuesOfRows hl rf kn ma xa fa ca mb xb fb cb mt xt ft ct f0 g0 c0 m0 s0 f1 g1 c1 m1 s1 f2 g2 c2 m2 s2 f3 g3 c3 m3 s3 f4 g4 c4 m4 s4 f5 g5 c5 m5 s5 ek0 em0 es0 el0 b0 ef0 ek1 em1 es1 el1 b1 ef1)) (fun v L q => q) (fun v q => by obtain ⟨x, rfl⟩ := q; rfl) (fun E L q => q.elim)) (Nat.le_of_ble_eq_true rfl) ⟨(by show _ ≤ 0; omega), (by show _ ≤ 0; omega)⟩ rfl (Nat.le_of_ble_eq_true rfl) rfl rfl (fun _ _ h => h.1.elim) ?_
    rintro _ _ ⟨⟨x40, rfl⟩, hw40⟩
    refine j_w w hw40 ?_
    refine j_iret dX8_house_40 rfl rfl ?_ (by show _ ≤ 0; omega) (by show _ ≤ 0; omega)
    exact ⟨⟨_, rfl⟩, rfl⟩
  · refine j_tsIn (tgt := 41) dX8_house_7 (by decide) (by decide) rfl (by decide) ?_
    refine j_aload_n dX8_house_41 rfl rfl ?_
    refine j_callV (q := (RX8, TX8, 9)) dX8_house_42 kX8_pairsOfTables lX8_250 inX8_pairsOfTables seX8_pairsOfTables (z_g1 h1 (by decide) rfl) rfl (z_liftro (Qv := fun v => ∃ x : Int32, v = some (.int x)) (Xv := fun _ => False) 51 h1 rfl (by decide) z_cwR rfl (z_CFX (X := fun _ _ => False) (c_X8_pairsOfTables hl rf kn ma xa fa ca mb xb fb cb mt xt ft ct f0 g0 c0 m0 s0 f1 g1 c1 m1 s1 f2 g2 c2 m2 s2 f3 g3 c3 m3 s3 f4 g4 c4 m4 s4 f5 g5 c5 m5 s5 ek0 em0 es0 el0 b0 ef0 ek1 em1 es1 el1 b1 ef1)) (fun v L q => q) (fun v q => by obtain ⟨x, rfl⟩ := q; rfl) (fun E L q => q.elim)) (Nat.le_of_ble_eq_true rfl) ⟨(by show _ ≤ 0; omega), (by show _ ≤ 0; omega)⟩ rfl (Nat.le_of_ble_eq_true rfl) rfl rfl (fun _ _ h => h.1.elim) ?_
    rintro _ _ ⟨⟨x41, rfl⟩, hw41⟩
    refine j_w w hw41 ?_
    refine j_iret dX8_house_45 rfl rfl ?_ (by show _ ≤ 0; omega) (by show _ ≤ 0; omega)
    exact ⟨⟨_, rfl⟩, rfl⟩
  · refine j_tsIn (tgt := 46) dX8_house_7 (by decide) (by decide) rfl (by decide) ?_
    refine j_aload_n dX8_house_46 rfl rfl ?_
    refine j_callV (q := (RX8, TX8, 9)) dX8_house_47 kX8_numbersHeard lX8_253 inX8_numbersHeard seX8_numbersHeard (z_g1 h1 (by decide) rfl) rfl (z_liftro (Qv := fun v => ∃ x : Int32, v = some (.int x)) (Xv := fun _ => False) 51 h1 rfl (by decide) z_cwR rfl (z_CFX (X := fun _ _ => False) (c_X8_numbersHeard hl rf kn ma xa fa ca mb xb fb cb mt xt ft ct f0 g0 c0 m0 s0 f1 g1 c1 m1 s1 f2 g2 c2 m2 s2 f3 g3 c3 m3 s3 f4 g4 c4 m4 s4 f5 g5 c5 m5 s5 ek0 em0 es0 el0 b0 ef0 ek1 em1 es1 el1 b1 ef1)) (fun v L q => q) (fun v q => by obtain ⟨x, rfl⟩ := q; rfl) (fun E L q => q.elim)) (Nat.le_of_ble_eq_true rfl) ⟨(by show _ ≤ 0; omega), (by show _ ≤ 0; omega)⟩ rfl (Nat.le_of_ble_eq_true rfl) rfl rfl (fun _ _ h => h.1.elim) ?_
    rintro _ _ ⟨⟨x42, rfl⟩, hw42⟩
    refine j_w w hw42 ?_
    refine j_iret dX8_house_50 rfl rfl ?_ (by show _ ≤ 0; omega) (by show _ ≤ 0; omega)
    exact ⟨⟨_, rfl⟩, rfl⟩
  · refine j_tsIn (tgt := 51) dX8_house_7 (by decide) (by decide) rfl (by decide) ?_
    refine j_aload_n dX8_house_51 rfl rfl ?_
    refine j_getf dX8_house_52 fX8_256 (z_g1 h1 (by decide) rfl) rfl ?_
    refine j_iret dX8_house_55 rfl rfl ?_ (by show _ ≤ 0; omega) (by show _ ≤ 0; omega)
    exact ⟨⟨_, rfl⟩, rfl⟩
  · refine j_tsOut (tgt := 56) dX8_house_7 hp (by decide) ?_
    refine j_aload_n dX8_house_56 rfl rfl ?_
    refine j_getf dX8_house_57 fX8_244 (z_g1 h1 (by decide) rfl) rfl ?_
    refine j_iret dX8_house_60 rfl rfl ?_ (by show _ ≤ 0; omega) (by show _ ≤ 0; omega)
    exact ⟨⟨_, rfl⟩, rfl⟩
set_option maxRecDepth 100000 in
set_option maxHeartbeats 8000000 in
theorem cg_mixedH (hl : l.stackTraces = false) (w : z_W) (d0 : Int64) (h a : Nat) (k1 k2 k3 k4 k5 : Int32) (f : Nat → Int32) (hh : h < 1000) (ha : a < 1000) (hf : z_fn w) (gh : z_g w h = some (.inr (5, [.ref a, .int k1, .int k2, .int k3, .int k4, .int k5]))) (ga : z_g w a = some (.inl (0, 10, fun j => .int (f j)))) (hnd : [h, a].Nodup) : z_Con G l mX8_mixedHearer 20 24 800 w [.long d0, .ref h] (fun v w9 => (∃ x : Int64, v = some (.long x)) ∧ z_lf w w9) (fun _ _ => False) := by
  refine z_body hl (by decide) rfl (Nat.le_of_ble_eq_true rfl) ?_
  show z_J G l mX8_mixedHearer _ 0 [(0, _), (2, _)] [] _ 0 0
  refine j_lload_n dX8_mixedHearer_0 rfl ?_
  refine j_lstore_n (lo' := [(3, _), (0, _), (2, _)]) dX8_mixedHearer_1 (by decide) rfl ?_
  refine j_iconst (v := 0) dX8_mixedHearer_2 (by decide) ?_
  refine j_istore (lo' := [(5, _), (3, _), (0, _), (2, _)]) dX8_mixedHearer_3 (by decide) rfl ?_
  have loop5 : ∀ (n9 : Nat) (w1 : z_W) (k : Nat) (d : Int64), (z_lf w w1) → (z_fn w1) → (k ≤ 4) → (4 < k + n9) → (z_g w1 h = some (.inr (5, [.ref a, .int k1, .int k2, .int k3, .int k4, .int k5]))) → (z_g w1 a = some (.inl (0, 10, fun j => .int (f j)))) → z_J G l mX8_mixedHearer (20, 24, 800, w, (fun v w9 => (∃ x : Int64, v = some (.long x)) ∧ z_lf w w9), (fun _ _ => False)) 5 [(2, .ref h), (3, .long d), (5, .int (nI k))] [] w1 (0) (0) := by
    intro n9
    induction n9 with
    | zero => intro w1 k d hlf5 hfn5 hj hf9 gh ga; exact absurd hf9 (by omega)
    | succ n9 ih =>
      intro w1 k d hlf5 hfn5 hj hf9 gh ga
      refine j_iload dX8_mixedHearer_5 rfl ?_
      refine j_iconst (v := 3) dX8_mixedHearer_7 (by decide) ?_
      refine j_icmp_gt (tgt := 28) dX8_mixedHearer_8 (by decide) (fun c_8_14 => ?_) (fun c_8_14 => ?_)
      · have hb8 : 3 < k := (nI_ltI (a := 3) (b := k) (by omega) (by omega)).mp c_8_14
        refine j_lload_n dX8_mixedHearer_28 rfl ?_
        refine j_aload_n dX8_mixedHearer_29 rfl rfl ?_
        refine j_callV (q := (RX0, TX0, 6)) dX8_mixedHearer_30 kX0_recent lX8_190 inX0_recent seX0_recent gh rfl (cg_recent hl w1 h a k1 k2 k3 k4 k5 f hh ha hfn5 gh ga) (Nat.le_of_ble_eq_true rfl) ⟨(by show _ ≤ 24; omega), (by show _ ≤ 800; omega)⟩ rfl (Nat.le_of_ble_eq_true rfl) rfl rfl (fun _ _ h => h.elim) ?_
        rintro _ w2 ⟨r2, n2, rfl, lf2, ht2⟩
        have g2_h := lf2.g hh gh
        have g2_a := lf2.g ha ga
        have hf2 := lf2.2.2 hfn5
        obtain ⟨fs43, gs43⟩ := ht2.cell
        refine j_callV (q := (RJ0, TJ0, 4)) dX8_mixedHearer_33 kJ0_length_8abf5 lX8_355 inJ0_length_8abf5 (z_w 781 ((lwg_4 16).trans (by decide +kernel)) (by decide +kernel)) gs43 rfl (tx_len hl w2 57 r2 _ ht2) (Nat.le_of_ble_eq_true rfl) ⟨(by show _ ≤ 24; omega), (by show _ ≤ 800; omega)⟩ rfl (Nat.le_of_ble_eq_true rfl) rfl rfl (fun _ _ h => h.elim) ?_
        rintro _ _ ⟨rfl, hw44⟩
        refine j_w w2 hw44 ?_
        refine j_callS dX8_mixedHearer_36 kX8_mixed lX8_277 stX8_mixed (c_X8_mixed hl w2 _ _) (Nat.le_of_ble_eq_true rfl) ⟨(by show _ ≤ 24; omega), (by show _ ≤ 800; omega)⟩ rfl (Nat.le_of_ble_eq_true rfl) rfl rfl (fun _ _ h => h.elim) ?_
        rintro _ _ ⟨⟨x45, rfl⟩, hw45⟩
        refine j_w w2 hw45 ?_
        refine j_lret dX8_mixedHearer_39 rfl ?_ (by show _ ≤ 24; omega) (by show _ ≤ 800; omega)
        exact ⟨⟨_, rfl⟩, (hlf5.tr lf2)⟩
      · have hb8 : ¬ 3 < k := fun z => c_8_14 ((nI_ltI (a := 3) (b := k) (by omega) (by omega)).mpr z)
        refine j_lload_n dX8_mixedHearer_11 rfl ?_
        refine j_aload_n dX8_mixedHearer_12 rfl rfl ?_
        refine j_iload dX8_mixedHearer_13 rfl ?_
        refine j_callV (q := (RX0, TX0, 6)) dX8_mixedHearer_15 kX0_tells lX8_187 inX0_tells seX0_tells gh rfl (z_rof [h, a] (z_thc gh (z_thc ga rfl)) hnd (Nat.le_of_ble_eq_true rfl) (c_X0_tells hl k1 k2 k3 k4 k5 f _) (Qv := fun v => ∃ x : Int32, v = some (.int x)) (fun v L q => by obtain ⟨x, q1, q2⟩ := q; exact ⟨⟨x, q1⟩, q2⟩)) (Nat.le_of_ble_eq_true rfl) ⟨(by show _ ≤ 24; omega), (by show _ ≤ 800; omega)⟩ rfl (Nat.le_of_ble_eq_true rfl) rfl rfl (fun _ _ h => h.elim) ?_
        rintro _ _ ⟨⟨v46, ⟨x46, rfl⟩, rfl⟩, hw46⟩
        refine j_w w1 hw46 ?_
        refine j_callS dX8_mixedHearer_18 kX8_mixed lX8_277 stX8_mixed (c_X8_mixed hl w1 _ _) (Nat.le_of_ble_eq_true rfl) ⟨(by show _ ≤ 24; omega), (by show _ ≤ 800; omega)⟩ rfl (Nat.le_of_ble_eq_true rfl) rfl rfl (fun _ _ h => h.elim) ?_
        rintro _ _ ⟨⟨x47, rfl⟩, hw47⟩
        refine j_w w1 hw47 ?_
        refine j_lstore_n (lo' := [(3, _), (2, _), (5, _)]) dX8_mixedHearer_21 (by decide) rfl ?_
        refine j_iinc (lo' := [(5, _), (3, _), (2, _)]) dX8_mixedHearer_22 rfl (z_inc _) (by decide) rfl ?_
        refine j_goto (tgt := 5) dX8_mixedHearer_25 (by decide) ?_
        refine j_widen (kc' := 0) (ks' := 0) (by omega) (by omega) ?_
        exact j_lo2 (ih w1 (k + 1) _ hlf5 hfn5 (by omega) (by omega) gh ga) (z_q1 rfl (z_q1 rfl (z_q1 rfl z_q0)))
  refine j_widen (kc' := 0) (ks' := 0) (by omega) (by omega) ?_
  exact j_lo2 (loop5 5 w 0 _ z_lf.rf hf (by omega) (by omega) gh ga) (z_q1 rfl (z_q1 rfl (z_q1 rfl z_q0)))
end ZCg
