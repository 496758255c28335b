section ZL8
variable {G : z_G} {l : Launch}
set_option maxRecDepth 100000 in
set_option maxHeartbeats 8000000 in
theorem c_X8_isWalkCounted_2 (hl : l.stackTraces = false) (rf : Int32) (kn : Int32) (ma : Int32) (xa : Bool) (fa : Nat → Int32) (ca : Nat → Int32) (mb : Int32) (xb : Bool) (fb : Nat → Int32) (cb : Nat → Int32) (mt : Int32) (xt : Bool) (ft : Nat → Int32) (ct : Nat → Int32) (f0 : Nat → Int32) (g0 : Nat → Int32) (c0 : Nat → Int32) (m0 : Int32) (s0 : Int32) (f1 : Nat → Int32) (g1 : Nat → Int32) (c1 : Nat → Int32) (m1 : Int32) (s1 : Int32) (f2 : Nat → Int32) (g2 : Nat → Int32) (c2 : Nat → Int32) (m2 : Int32) (s2 : Int32) (f3 : Nat → Int32) (g3 : Nat → Int32) (c3 : Nat → Int32) (m3 : Int32) (s3 : Int32) (f4 : Nat → Int32) (g4 : Nat → Int32) (c4 : Nat → Int32) (m4 : Int32) (s4 : Int32) (f5 : Nat → Int32) (g5 : Nat → Int32) (c5 : Nat → Int32) (m5 : Int32) (s5 : Int32) (ek0 : Int32) (em0 : Int32) (es0 : Int32) (el0 : Int32) (b0 : Int32) (ef0 : Nat → Int32) (ek1 : Int32) (em1 : Int32) (es1 : Int32) (el1 : Int32) (b1 : Int32) (ef1 : Nat → Int32) : z_CF G l mX8_isWalkCounted 17 1 5 (z_cw rf kn ma xa fa ca mb xb fb cb mt xt ft ct f0 g0 c0 m0 s0 f1 g1 c1 m1 s1 f2 g2 c2 m2 s2 f3 g3 c3 m3 s3 f4 g4 c4 m4 s4 f5 g5 c5 m5 s5 ek0 em0 es0 el0 b0 ef0 ek1 em1 es1 el1 b1 ef1 []) [.ref 0, .ref 2] (fun v L => (∃ b : Bool, v = some (.int (z_bi b))) ∧ ∃ (mt' : Int32) (ft' ct' : Nat → Int32), L = (z_cw rf kn ma xa fa ca mb xb fb cb mt' xt ft' ct' f0 g0 c0 m0 s0 f1 g1 c1 m1 s1 f2 g2 c2 m2 s2 f3 g3 c3 m3 s3 f4 g4 c4 m4 s4 f5 g5 c5 m5 s5 ek0 em0 es0 el0 b0 ef0 ek1 em1 es1 el1 b1 ef1 [])) := by
  refine z_body hl (by decide) rfl (Nat.le_of_ble_eq_true rfl) ?_
  show z_J G l mX8_isWalkCounted (z_SF 17 1 5 (z_cw rf kn ma xa fa ca mb xb fb cb mt xt ft ct f0 g0 c0 m0 s0 f1 g1 c1 m1 s1 f2 g2 c2 m2 s2 f3 g3 c3 m3 s3 f4 g4 c4 m4 s4 f5 g5 c5 m5 s5 ek0 em0 es0 el0 b0 ef0 ek1 em1 es1 el1 b1 ef1 []) (fun v L => (∃ b : Bool, v = some (.int (z_bi b))) ∧ ∃ (mt' : Int32) (ft' ct' : Nat → Int32), L = (z_cw rf kn ma xa fa ca mb xb fb cb mt' xt ft' ct' f0 g0 c0 m0 s0 f1 g1 c1 m1 s1 f2 g2 c2 m2 s2 f3 g3 c3 m3 s3 f4 g4 c4 m4 s4 f5 g5 c5 m5 s5 ek0 em0 es0 el0 b0 ef0 ek1 em1 es1 el1 b1 ef1 []))) 0 [(0, _), (1, _)] [] _ 0 0
  refine j_aload_n dX8_isWalkCounted_0 rfl rfl ?_
  refine j_getf dX8_isWalkCounted_1 fX8_36 rfl rfl ?_
  refine j_aload_n dX8_isWalkCounted_4 rfl rfl ?_
  refine j_callV (q := (RX1, TX1, 4)) dX8_isWalkCounted_5 kX1_become lX8_123 inX1_become seX1_become rfl rfl (z_frame [31, 32, 33, 34, 2, 3, 4, 5] rfl (by decide) (Nat.le_of_ble_eq_true rfl) (c_X1_become hl _ _ _ _ _ _ _ _)) (Nat.le_of_ble_eq_true rfl) ⟨(Nat.le_of_ble_eq_true rfl), (Nat.le_of_ble_eq_true rfl)⟩ rfl (Nat.le_of_ble_eq_true rfl) rfl rfl (fun _ _ h => h.elim) ?_
  rintro _ _ ⟨_, _, ⟨rfl, _, rfl⟩, rfl, rfl⟩
  refine j_w (z_cw _ _ _ _ _ _ _ _ _ _ _ _ _ _ _ _ _ _ _ _ _ _ _ _ _ _ _ _ _ _ _ _ _ _ _ _ _ _ _ _ _ _ _ _ _ _ _ _ _ _ _ _ _ _ _ _ [], z_no) rfl ?_
  refine j_aload_n dX8_isWalkCounted_8 rfl rfl ?_
  refine j_getf dX8_isWalkCounted_9 fX8_36 rfl rfl ?_
  refine j_getf dX8_isWalkCounted_12 fX8_214 rfl rfl ?_
  refine j_callV (q := (RX6, TX6, 1)) dX8_isWalkCounted_15 kX6_startAnew lX8_224 inX6_startAnew seX6_startAnew rfl rfl (z_frame [33, 34] rfl (by decide) (Nat.le_of_ble_eq_true rfl) (c_X6_startAnew hl _)) (Nat.le_of_ble_eq_true rfl) ⟨(Nat.le_of_ble_eq_true rfl), (Nat.le_of_ble_eq_true rfl)⟩ rfl (Nat.le_of_ble_eq_true rfl) rfl rfl (fun _ _ h => h.elim) ?_
  rintro _ _ ⟨_, _, ⟨_, rfl, _, rfl⟩, rfl, rfl⟩
  refine j_w (z_cw _ _ _ _ _ _ _ _ _ _ _ _ _ _ _ _ _ _ _ _ _ _ _ _ _ _ _ _ _ _ _ _ _ _ _ _ _ _ _ _ _ _ _ _ _ _ _ _ _ _ _ _ _ _ _ _ [], z_no) rfl ?_
  refine j_pop dX8_isWalkCounted_18 rfl ?_
  refine j_new (w' := (z_cw _ _ _ _ _ _ _ _ _ _ _ _ _ _ _ _ _ _ _ _ _ _ _ _ _ _ _ _ _ _ _ _ _ _ _ _ _ _ _ _ _ _ _ _ _ _ _ _ _ _ _ _ _ _ _ _ [.inr (7, [_, _, _, _, _])], z_no)) (n := 51) dX8_isWalkCounted_19 nX8_91 rfl (z_al_l rfl rfl) (Nat.le_of_ble_eq_true rfl) (Nat.le_of_ble_eq_true rfl) ?_
  refine j_dup dX8_isWalkCounted_22 rfl ?_
  refine j_aload_n dX8_isWalkCounted_23 rfl rfl ?_
  refine j_getf dX8_isWalkCounted_24 fX8_36 rfl rfl ?_
  refine j_callI dX8_isWalkCounted_27 kX2_init rfl lX8_93 inX2_init rfl (z_frame [51, 31, 32, 33, 34] rfl (by decide) (Nat.le_of_ble_eq_true rfl) (c_X2_init hl _ _ _ _)) (Nat.le_of_ble_eq_true rfl) ⟨(Nat.le_of_ble_eq_true rfl), (Nat.le_of_ble_eq_true rfl)⟩ rfl (Nat.le_of_ble_eq_true rfl) rfl rfl (fun _ _ h => h.elim) ?_
  rintro _ _ ⟨_, _, ⟨rfl, _, rfl⟩, rfl, rfl⟩
  refine j_w (z_cw _ _ _ _ _ _ _ _ _ _ _ _ _ _ _ _ _ _ _ _ _ _ _ _ _ _ _ _ _ _ _ _ _ _ _ _ _ _ _ _ _ _ _ _ _ _ _ _ _ _ _ _ _ _ _ _ [.inr (7, [_, _, _, _, _])], z_no) rfl ?_
  refine j_astore_n (lo' := [(2, _), (0, _), (1, _)]) dX8_isWalkCounted_30 rfl (by decide) rfl ?_
  refine j_iconst (v := 0) dX8_isWalkCounted_31 (by decide) ?_
  refine j_istore_n (lo' := [(3, _), (2, _), (0, _), (1, _)]) dX8_isWalkCounted_32 (by decide) rfl ?_
  have loop : ∀ (n j : Nat) (mt' : Int32) (ft' ct' : Nat → Int32) (k' u' p' : Int32), j ≤ 1000 → 1000 < j + n → z_J G l mX8_isWalkCounted (z_SF 17 1 5 (z_cw rf kn ma xa fa ca mb xb fb cb mt xt ft ct f0 g0 c0 m0 s0 f1 g1 c1 m1 s1 f2 g2 c2 m2 s2 f3 g3 c3 m3 s3 f4 g4 c4 m4 s4 f5 g5 c5 m5 s5 ek0 em0 es0 el0 b0 ef0 ek1 em1 es1 el1 b1 ef1 []) (fun v L => (∃ b : Bool, v = some (.int (z_bi b))) ∧ ∃ (mt' : Int32) (ft' ct' : Nat → Int32), L = (z_cw rf kn ma xa fa ca mb xb fb cb mt' xt ft' ct' f0 g0 c0 m0 s0 f1 g1 c1 m1 s1 f2 g2 c2 m2 s2 f3 g3 c3 m3 s3 f4 g4 c4 m4 s4 f5 g5 c5 m5 s5 ek0 em0 es0 el0 b0 ef0 ek1 em1 es1 el1 b1 ef1 []))) 33 [(0, .ref 0), (1, .ref 2), (2, .ref 51), (3, .int (nI j))] [] ((z_cw rf kn ma xa fa ca mb xb fb cb mt' xt ft' ct' f0 g0 c0 m0 s0 f1 g1 c1 m1 s1 f2 g2 c2 m2 s2 f3 g3 c3 m3 s3 f4 g4 c4 m4 s4 f5 g5 c5 m5 s5 ek0 em0 es0 el0 b0 ef0 ek1 em1 es1 el1 b1 ef1 [.inr (7, [.ref 33, .int k', .int u', .ref 31, .int p'])]), z_no) 1 5 := by
    intro n
    induction n with
    | zero => intro j mt' ft' ct' k' u' p' h1 h2 ; exact absurd h2 (by omega)
    | succ n ih =>
      intro j mt' ft' ct' k' u' p' h1 h2
      refine j_iload_n dX8_isWalkCounted_33 rfl ?_
      refine j_sipush (v := 1000) dX8_isWalkCounted_34 (by decide) ?_
      refine j_icmp_ge (tgt := 58) dX8_isWalkCounted_37 (by decide) (fun c_37 => ?_) (fun c_37 => ?_)
      · refine j_aload_n dX8_isWalkCounted_58 rfl rfl ?_
        refine j_getf dX8_isWalkCounted_59 fX8_36 rfl rfl ?_
        refine j_getf dX8_isWalkCounted_62 fX8_214 rfl rfl ?_
        refine j_astore_n (lo' := [(3, _), (0, _), (1, _), (2, _)]) dX8_isWalkCounted_65 rfl (by decide) rfl ?_
        refine j_aload_n dX8_isWalkCounted_66 rfl rfl ?_
        refine j_iconst (v := 0) dX8_isWalkCounted_67 (by decide) ?_
        refine j_callV (q := (RX6, TX6, 1)) dX8_isWalkCounted_68 kX6_of lX8_218 inX6_of seX6_of rfl rfl (z_frame [33, 34] rfl (by decide) (Nat.le_of_ble_eq_true rfl) (c_X6_of hl _ _)) (Nat.le_of_ble_eq_true rfl) ⟨(Nat.le_of_ble_eq_true rfl), (Nat.le_of_ble_eq_true rfl)⟩ rfl (Nat.le_of_ble_eq_true rfl) rfl rfl (fun _ _ h => h.elim) ?_
        rintro _ _ ⟨_, _, ⟨_, rfl, rfl⟩, rfl, rfl⟩
        refine j_w (z_cw _ _ _ _ _ _ _ _ _ _ _ _ _ _ _ _ _ _ _ _ _ _ _ _ _ _ _ _ _ _ _ _ _ _ _ _ _ _ _ _ _ _ _ _ _ _ _ _ _ _ _ _ _ _ _ _ [.inr (7, [_, _, _, _, _])], z_no) rfl ?_
        refine j_iconst (v := 1) dX8_isWalkCounted_71 (by decide) ?_
        refine j_icmp_ne (tgt := 105) dX8_isWalkCounted_72 (by decide) (fun c_72 => ?_) (fun c_72 => ?_)
        · refine j_iconst (v := 0) dX8_isWalkCounted_105 (by decide) ?_
          refine j_lo (lo' := []) z_q0 ?_
          refine j_dropL (n := 51) rfl (Nat.le_of_ble_eq_true rfl) (Nat.le_of_ble_eq_true rfl) (Nat.le_of_ble_eq_true rfl) z_cwc rfl rfl ?_
          refine j_w (z_cw _ _ _ _ _ _ _ _ _ _ _ _ _ _ _ _ _ _ _ _ _ _ _ _ _ _ _ _ _ _ _ _ _ _ _ _ _ _ _ _ _ _ _ _ _ _ _ _ _ _ _ _ _ _ _ _ [], z_no) rfl ?_
          refine j_iret dX8_isWalkCounted_106 rfl rfl ?_ (Nat.le_of_ble_eq_true rfl) (Nat.le_of_ble_eq_true rfl)
          first | exact ⟨rfl, rfl, ⟨true, rfl⟩, _, _, _, rfl⟩ | exact ⟨rfl, rfl, ⟨false, rfl⟩, _, _, _, rfl⟩
        · refine j_aload_n dX8_isWalkCounted_75 rfl rfl ?_
          refine j_iconst (v := 2) dX8_isWalkCounted_76 (by decide) ?_
          refine j_callV (q := (RX6, TX6, 1)) dX8_isWalkCounted_77 kX6_of lX8_218 inX6_of seX6_of rfl rfl (z_frame [33, 34] rfl (by decide) (Nat.le_of_ble_eq_true rfl) (c_X6_of hl _ _)) (Nat.le_of_ble_eq_true rfl) ⟨(Nat.le_of_ble_eq_true rfl), (Nat.le_of_ble_eq_true rfl)⟩ rfl (Nat.le_of_ble_eq_true rfl) rfl rfl (fun _ _ h => h.elim) ?_
          rintro _ _ ⟨_, _, ⟨_, rfl, rfl⟩, rfl, rfl⟩
          refine j_w (z_cw _ _ _ _ _ _ _ _ _ _ _ _ _ _ _ _ _ _ _ _ _ _ _ _ _ _ _ _ _ _ _ _ _ _ _ _ _ _ _ _ _ _ _ _ _ _ _ _ _ _ _ _ _ _ _ _ [.inr (7, [_, _, _, _, _])], z_no) rfl ?_
          refine j_aload_n dX8_isWalkCounted_80 rfl rfl ?_
          refine j_getf dX8_isWalkCounted_81 fX8_68 rfl rfl ?_
          refine j_icmp_ne (tgt := 105) dX8_isWalkCounted_84 (by decide) (fun c_84 => ?_) (fun c_84 => ?_)
          · refine j_iconst (v := 0) dX8_isWalkCounted_105 (by decide) ?_
            refine j_lo (lo' := []) z_q0 ?_
            refine j_dropL (n := 51) rfl (Nat.le_of_ble_eq_true rfl) (Nat.le_of_ble_eq_true rfl) (Nat.le_of_ble_eq_true rfl) z_cwc rfl rfl ?_
            refine j_w (z_cw _ _ _ _ _ _ _ _ _ _ _ _ _ _ _ _ _ _ _ _ _ _ _ _ _ _ _ _ _ _ _ _ _ _ _ _ _ _ _ _ _ _ _ _ _ _ _ _ _ _ _ _ _ _ _ _ [], z_no) rfl ?_
            refine j_iret dX8_isWalkCounted_106 rfl rfl ?_ (Nat.le_of_ble_eq_true rfl) (Nat.le_of_ble_eq_true rfl)
            first | exact ⟨rfl, rfl, ⟨true, rfl⟩, _, _, _, rfl⟩ | exact ⟨rfl, rfl, ⟨false, rfl⟩, _, _, _, rfl⟩
          · refine j_aload_n dX8_isWalkCounted_87 rfl rfl ?_
            refine j_iconst (v := 1) dX8_isWalkCounted_88 (by decide) ?_
            refine j_callV (q := (RX6, TX6, 1)) dX8_isWalkCounted_89 kX6_of lX8_218 inX6_of seX6_of rfl rfl (z_frame [33, 34] rfl (by decide) (Nat.le_of_ble_eq_true rfl) (c_X6_of hl _ _)) (Nat.le_of_ble_eq_true rfl) ⟨(Nat.le_of_ble_eq_true rfl), (Nat.le_of_ble_eq_true rfl)⟩ rfl (Nat.le_of_ble_eq_true rfl) rfl rfl (fun _ _ h => h.elim) ?_
            rintro _ _ ⟨_, _, ⟨_, rfl, rfl⟩, rfl, rfl⟩
            refine j_w (z_cw _ _ _ _ _ _ _ _ _ _ _ _ _ _ _ _ _ _ _ _ _ _ _ _ _ _ _ _ _ _ _ _ _ _ _ _ _ _ _ _ _ _ _ _ _ _ _ _ _ _ _ _ _ _ _ _ [.inr (7, [_, _, _, _, _])], z_no) rfl ?_
            refine j_aload_n dX8_isWalkCounted_92 rfl rfl ?_
            refine j_getf dX8_isWalkCounted_93 fX8_68 rfl rfl ?_
            refine j_iconst (v := 1) dX8_isWalkCounted_96 (by decide) ?_
            refine j_iadd dX8_isWalkCounted_97 ?_
            refine j_icmp_ne (tgt := 105) dX8_isWalkCounted_98 (by decide) (fun c_98 => ?_) (fun c_98 => ?_)
            · refine j_iconst (v := 0) dX8_isWalkCounted_105 (by decide) ?_
              refine j_lo (lo' := []) z_q0 ?_
              refine j_dropL (n := 51) rfl (Nat.le_of_ble_eq_true rfl) (Nat.le_of_ble_eq_true rfl) (Nat.le_of_ble_eq_true rfl) z_cwc rfl rfl ?_
              refine j_w (z_cw _ _ _ _ _ _ _ _ _ _ _ _ _ _ _ _ _ _ _ _ _ _ _ _ _ _ _ _ _ _ _ _ _ _ _ _ _ _ _ _ _ _ _ _ _ _ _ _ _ _ _ _ _ _ _ _ [], z_no) rfl ?_
              refine j_iret dX8_isWalkCounted_106 rfl rfl ?_ (Nat.le_of_ble_eq_true rfl) (Nat.le_of_ble_eq_true rfl)
              first | exact ⟨rfl, rfl, ⟨true, rfl⟩, _, _, _, rfl⟩ | exact ⟨rfl, rfl, ⟨false, rfl⟩, _, _, _, rfl⟩
            · refine j_iconst (v := 1) dX8_isWalkCounted_101 (by decide) ?_
              refine j_goto (tgt := 106) dX8_isWalkCounted_102 (by decide) ?_
              refine j_lo (lo' := []) z_q0 ?_
              refine j_dropL (n := 51) rfl (Nat.le_of_ble_eq_true rfl) (Nat.le_of_ble_eq_true rfl) (Nat.le_of_ble_eq_true rfl) z_cwc rfl rfl ?_
              refine j_w (z_cw _ _ _ _ _ _ _ _ _ _ _ _ _ _ _ _ _ _ _ _ _ _ _ _ _ _ _ _ _ _ _ _ _ _ _ _ _ _ _ _ _ _ _ _ _ _ _ _ _ _ _ _ _ _ _ _ [], z_no) rfl ?_
              refine j_iret dX8_isWalkCounted_106 rfl rfl ?_ (Nat.le_of_ble_eq_true rfl) (Nat.le_of_ble_eq_true rfl)
              first | exact ⟨rfl, rfl, ⟨true, rfl⟩, _, _, _, rfl⟩ | exact ⟨rfl, rfl, ⟨false, rfl⟩, _, _, _, rfl⟩
      · have hj : j < 1000 := z_ltZ 1000 rfl c_37 (by omega) (by decide)
        refine j_aload_n dX8_isWalkCounted_40 rfl rfl ?_
        refine j_callU (q := (RX2, TX2, 5)) dX8_isWalkCounted_41 kX7_ask cuX8_320_X2 rfl rfl (z_frame [51, 31, 32, 33, 34] rfl (by decide) (Nat.le_of_ble_eq_true rfl) (c_X7_ask_X2 hl _ _ _ _ _ _ _)) (Nat.le_of_ble_eq_true rfl) ⟨(Nat.le_of_ble_eq_true rfl), (Nat.le_of_ble_eq_true rfl)⟩ rfl (Nat.le_of_ble_eq_true rfl) rfl rfl (fun _ _ h => h.elim) ?_
        rintro _ _ ⟨_, _, ⟨⟨b, rfl⟩, _, rfl⟩, rfl, rfl⟩
        refine j_w (z_cw _ _ _ _ _ _ _ _ _ _ _ _ _ _ _ _ _ _ _ _ _ _ _ _ _ _ _ _ _ _ _ _ _ _ _ _ _ _ _ _ _ _ _ _ _ _ _ _ _ _ _ _ _ _ _ _ [.inr (7, [_, _, _, _, _])], z_no) rfl ?_
        refine j_if_eq (tgt := 58) dX8_isWalkCounted_44 (by decide) (fun c_44 => ?_) (fun c_44 => ?_)
        · refine j_aload_n dX8_isWalkCounted_58 rfl rfl ?_
          refine j_getf dX8_isWalkCounted_59 fX8_36 rfl rfl ?_
          refine j_getf dX8_isWalkCounted_62 fX8_214 rfl rfl ?_
          refine j_astore_n (lo' := [(3, _), (0, _), (1, _), (2, _)]) dX8_isWalkCounted_65 rfl (by decide) rfl ?_
          refine j_aload_n dX8_isWalkCounted_66 rfl rfl ?_
          refine j_iconst (v := 0) dX8_isWalkCounted_67 (by decide) ?_
          refine j_callV (q := (RX6, TX6, 1)) dX8_isWalkCounted_68 kX6_of lX8_218 inX6_of seX6_of rfl rfl (z_frame [33, 34] rfl (by decide) (Nat.le_of_ble_eq_true rfl) (c_X6_of hl _ _)) (Nat.le_of_ble_eq_true rfl) ⟨(Nat.le_of_ble_eq_true rfl), (Nat.le_of_ble_eq_true rfl)⟩ rfl (Nat.le_of_ble_eq_true rfl) rfl rfl (fun _ _ h => h.elim) ?_
          rintro _ _ ⟨_, _, ⟨_, rfl, rfl⟩, rfl, rfl⟩
          refine j_w (z_cw _ _ _ _ _ _ _ _ _ _ _ _ _ _ _ _ _ _ _ _ _ _ _ _ _ _ _ _ _ _ _ _ _ _ _ _ _ _ _ _ _ _ _ _ _ _ _ _ _ _ _ _ _ _ _ _ [.inr (7, [_, _, _, _, _])], z_no) rfl ?_
          refine j_iconst (v := 1) dX8_isWalkCounted_71 (by decide) ?_
          refine j_icmp_ne (tgt := 105) dX8_isWalkCounted_72 (by decide) (fun c_72 => ?_) (fun c_72 => ?_)
          · refine j_iconst (v := 0) dX8_isWalkCounted_105 (by decide) ?_
            refine j_lo (lo' := []) z_q0 ?_
            refine j_dropL (n := 51) rfl (Nat.le_of_ble_eq_true rfl) (Nat.le_of_ble_eq_true rfl) (Nat.le_of_ble_eq_true rfl) z_cwc rfl rfl ?_
            refine j_w (z_cw _ _ _ _ _ _ _ _ _ _ _ _ _ _ _ _ _ _ _ _ _ _ _ _ _ _ _ _ _ _ _ _ _ _ _ _ _ _ _ _ _ _ _ _ _ _ _ _ _ _ _ _ _ _ _ _ [], z_no) rfl ?_
            refine j_iret dX8_isWalkCounted_106 rfl rfl ?_ (Nat.le_of_ble_eq_true rfl) (Nat.le_of_ble_eq_true rfl)
            first | exact ⟨rfl, rfl, ⟨true, rfl⟩, _, _, _, rfl⟩ | exact ⟨rfl, rfl, ⟨false, rfl⟩, _, _, _, rfl⟩
          · refine j_aload_n dX8_isWalkCounted_75 rfl rfl ?_
            refine j_iconst (v := 2) dX8_isWalkCounted_76 (by decide) ?_
            refine j_callV (q := (RX6, TX6, 1)) dX8_isWalkCounted_77 kX6_of lX8_218 inX6_of seX6_of rfl rfl (z_frame [33, 34] rfl (by decide) (Nat.le_of_ble_eq_true rfl) (c_X6_of hl _ _)) (Nat.le_of_ble_eq_true rfl) ⟨(Nat.le_of_ble_eq_true rfl), (Nat.le_of_ble_eq_true rfl)⟩ rfl (Nat.le_of_ble_eq_true rfl) rfl rfl (fun _ _ h => h.elim) ?_
            rintro _ _ ⟨_, _, ⟨_, rfl, rfl⟩, rfl, rfl⟩
            refine j_w (z_cw _ _ _ _ _ _ _ _ _ _ _ _ _ _ _ _ _ _ _ _ _ _ _ _ _ _ _ _ _ _ _ _ _ _ _ _ _ _ _ _ _ _ _ _ _ _ _ _ _ _ _ _ _ _ _ _ [.inr (7, [_, _, _, _, _])], z_no) rfl ?_
            refine j_aload_n dX8_isWalkCounted_80 rfl rfl ?_
            refine j_getf dX8_isWalkCounted_81 fX8_68 rfl rfl ?_
            refine j_icmp_ne (tgt := 105) dX8_isWalkCounted_84 (by decide) (fun c_84 => ?_) (fun c_84 => ?_)
            · refine j_iconst (v := 0) dX8_isWalkCounted_105 (by decide) ?_
              refine j_lo (lo' := []) z_q0 ?_
              refine j_dropL (n := 51) rfl (Nat.le_of_ble_eq_true rfl) (Nat.le_of_ble_eq_true rfl) (Nat.le_of_ble_eq_true rfl) z_cwc rfl rfl ?_
              refine j_w (z_cw _ _ _ _ _ _ _ _ _ _ _ _ _ _ _ _ _ _ _ _ _ _ _ _ _ _ _ _ _ _ _ _ _ _ _ _ _ _ _ _ _ _ _ _ _ _ _ _ _ _ _ _ _ _ _ _ [], z_no) rfl ?_
              refine j_iret dX8_isWalkCounted_106 rfl rfl ?_ (Nat.le_of_ble_eq_true rfl) (Nat.le_of_ble_eq_true rfl)
              first | exact ⟨rfl, rfl, ⟨true, rfl⟩, _, _, _, rfl⟩ | exact ⟨rfl, rfl, ⟨false, rfl⟩, _, _, _, rfl⟩
            · refine j_aload_n dX8_isWalkCounted_87 rfl rfl ?_
              refine j_iconst (v := 1) dX8_isWalkCounted_88 (by decide) ?_
              refine j_callV (q := (RX6, TX6, 1)) dX8_isWalkCounted_89 kX6_of lX8_218 inX6_of seX6_of rfl rfl (z_frame [33, 34] rfl (by decide) (Nat.le_of_ble_eq_true rfl) (c_X6_of hl _ _)) (Nat.le_of_ble_eq_true rfl) ⟨(Nat.le_of_ble_eq_true rfl), (Nat.le_of_ble_eq_true rfl)⟩ rfl (Nat.le_of_ble_eq_true rfl) rfl rfl (fun _ _ h => h.elim) ?_
              rintro _ _ ⟨_, _, ⟨_, rfl, rfl⟩, rfl, rfl⟩
              refine j_w (z_cw _ _ _ _ _ _ _ _ _ _ _ _ _ _ _ _ _ _ _ _ _ _ _ _ _ _ _ _ _ _ _ _ _ _ _ _ _ _ _ _ _ _ _ _ _ _ _ _ _ _ _ _ _ _ _ _ [.inr (7, [_, _, _, _, _])], z_no) rfl ?_
              refine j_aload_n dX8_isWalkCounted_92 rfl rfl ?_
              refine j_getf dX8_isWalkCounted_93 fX8_68 rfl rfl ?_
              refine j_iconst (v := 1) dX8_isWalkCounted_96 (by decide) ?_
              refine j_iadd dX8_isWalkCounted_97 ?_
              refine j_icmp_ne (tgt := 105) dX8_isWalkCounted_98 (by decide) (fun c_98 => ?_) (fun c_98 => ?_)
              · refine j_iconst (v := 0) dX8_isWalkCounted_105 (by decide) ?_
                refine j_lo (lo' := []) z_q0 ?_
                refine j_dropL (n := 51) rfl (Nat.le_of_ble_eq_true rfl) (Nat.le_of_ble_eq_true rfl) (Nat.le_of_ble_eq_true rfl) z_cwc rfl rfl ?_
                refine j_w (z_cw _ _ _ _ _ _ _ _ _ _ _ _ _ _ _ _ _ _ _ _ _ _ _ _ _ _ _ _ _ _ _ _ _ _ _ _ _ _ _ _ _ _ _ _ _ _ _ _ _ _ _ _ _ _ _ _ [], z_no) rfl ?_
                refine j_iret dX8_isWalkCounted_106 rfl rfl ?_ (Nat.le_of_ble_eq_true rfl) (Nat.le_of_ble_eq_true rfl)
                first | exact ⟨rfl, rfl, ⟨true, rfl⟩, _, _, _, rfl⟩ | exact ⟨rfl, rfl, ⟨false, rfl⟩, _, _, _, rfl⟩
              · refine j_iconst (v := 1) dX8_isWalkCounted_101 (by decide) ?_
                refine j_goto (tgt := 106) dX8_isWalkCounted_102 (by decide) ?_
                refine j_lo (lo' := []) z_q0 ?_
                refine j_dropL (n := 51) rfl (Nat.le_of_ble_eq_true rfl) (Nat.le_of_ble_eq_true rfl) (Nat.le_of_ble_eq_true rfl) z_cwc rfl rfl ?_
                refine j_w (z_cw _ _ _ _ _ _ _ _ _ _ _ _ _ _ _ _ _ _ _ _ _ _ _ _ _ _ _ _ _ _ _ _ _ _ _ _ _ _ _ _ _ _ _ _ _ _ _ _ _ _ _ _ _ _ _ _ [], z_no) rfl ?_
                refine j_iret dX8_isWalkCounted_106 rfl rfl ?_ (Nat.le_of_ble_eq_true rfl) (Nat.le_of_ble_eq_true rfl)
                first | exact ⟨rfl, rfl, ⟨true, rfl⟩, _, _, _, rfl⟩ | exact ⟨rfl, rfl, ⟨false, rfl⟩, _, _, _, rfl⟩
        · refine j_aload_n dX8_isWalkCounted_47 rfl rfl ?_
          refine j_callU (q := (RX2, TX2, 5)) dX8_isWalkCounted_48 kX7_give cuX8_315_X2 rfl rfl (z_frame [51, 31, 32, 33, 34] rfl (by decide) (Nat.le_of_ble_eq_true rfl) (c_X7_give_X2 hl _ _ _ _ _ _ _)) (Nat.le_of_ble_eq_true rfl) ⟨(Nat.le_of_ble_eq_true rfl), (Nat.le_of_ble_eq_true rfl)⟩ rfl (Nat.le_of_ble_eq_true rfl) rfl rfl (fun _ _ h => h.elim) ?_
          rintro _ _ ⟨_, _, ⟨_, rfl, _, _, _, _, rfl⟩, rfl, rfl⟩
          refine j_w (z_cw _ _ _ _ _ _ _ _ _ _ _ _ _ _ _ _ _ _ _ _ _ _ _ _ _ _ _ _ _ _ _ _ _ _ _ _ _ _ _ _ _ _ _ _ _ _ _ _ _ _ _ _ _ _ _ _ [.inr (7, [_, _, _, _, _])], z_no) rfl ?_
          refine j_pop dX8_isWalkCounted_51 rfl ?_
          refine j_iinc (lo' := [(3, _), (0, _), (1, _), (2, _)]) dX8_isWalkCounted_52 rfl (z_inc _) (by decide) rfl ?_
          refine j_goto (tgt := 33) dX8_isWalkCounted_55 (by decide) ?_
          exact j_lo2 (ih (j + 1) _ _ _ _ _ _ (by omega) (by omega) ) (z_q1 rfl (z_q1 rfl (z_q1 rfl (z_q1 rfl z_q0))))
  exact j_lo2 (loop (1000 + 1) 0 _ _ _ _ _ _ (by omega) (by omega) ) (z_q1 rfl (z_q1 rfl (z_q1 rfl (z_q1 rfl z_q0))))
set_option maxRecDepth 100000 in
set_option maxHeartbeats 8000000 in
theorem c_X8_isTakingPlain_2 (hl : l.stackTraces = false) (rf : Int32) (kn : Int32) (ma : Int32) (xa : Bool) (fa : Nat → Int32) (ca : Nat → Int32) (mb : Int32) (xb : Bool) (fb : Nat → Int32) (cb : Nat → Int32) (mt : Int32) (xt : Bool) (ft : Nat → Int32) (ct : Nat → Int32) (f0 : Nat → Int32) (g0 : Nat → Int32) (c0 : Nat → Int32) (m0 : Int32) (s0 : Int32) (f1 : Nat → Int32) (g1 : Nat → Int32) (c1 : Nat → Int32) (m1 : Int32) (s1 : Int32) (f2 : Nat → Int32) (g2 : Nat → Int32) (c2 : Nat → Int32) (m2 : Int32) (s2 : Int32) (f3 : Nat → Int32) (g3 : Nat → Int32) (c3 : Nat → Int32) (m3 : Int32) (s3 : Int32) (f4 : Nat → Int32) (g4 : Nat → Int32) (c4 : Nat → Int32) (m4 : Int32) (s4 : Int32) (f5 : Nat → Int32) (g5 : Nat → Int32) (c5 : Nat → Int32) (m5 : Int32) (s5 : Int32) (ek0 : Int32) (em0 : Int32) (es0 : Int32) (el0 : Int32) (b0 : Int32) (ef0 : Nat → Int32) (ek1 : Int32) (em1 : Int32) (es1 : Int32) (el1 : Int32) (b1 : Int32) (ef1 : Nat → Int32) : z_CF G l mX8_isTakingPlain 17 5 25 (z_cw rf kn ma xa fa ca mb xb fb cb mt xt ft ct f0 g0 c0 m0 s0 f1 g1 c1 m1 s1 f2 g2 c2 m2 s2 f3 g3 c3 m3 s3 f4 g4 c4 m4 s4 f5 g5 c5 m5 s5 ek0 em0 es0 el0 b0 ef0 ek1 em1 es1 el1 b1 ef1 []) [.ref 0, .ref 2] (fun v L => (∃ b : Bool, v = some (.int (z_bi b))) ∧ ∃ (mt' : Int32) (ft' ct' : Nat → Int32), L = (z_cw rf kn ma xa fa ca mb xb fb cb mt' xt ft' ct' f0 g0 c0 m0 s0 f1 g1 c1 m1 s1 f2 g2 c2 m2 s2 f3 g3 c3 m3 s3 f4 g4 c4 m4 s4 f5 g5 c5 m5 s5 ek0 em0 es0 el0 b0 ef0 ek1 em1 es1 el1 b1 ef1 [])) := by
  refine z_body hl (by decide) rfl (Nat.le_of_ble_eq_true rfl) ?_
  show z_J G l mX8_isTakingPlain (z_SF 17 5 25 (z_cw rf kn ma xa fa ca mb xb fb cb mt xt ft ct f0 g0 c0 m0 s0 f1 g1 c1 m1 s1 f2 g2 c2 m2 s2 f3 g3 c3 m3 s3 f4 g4 c4 m4 s4 f5 g5 c5 m5 s5 ek0 em0 es0 el0 b0 ef0 ek1 em1 es1 el1 b1 ef1 []) (fun v L => (∃ b : Bool, v = some (.int (z_bi b))) ∧ ∃ (mt' : Int32) (ft' ct' : Nat → Int32), L = (z_cw rf kn ma xa fa ca mb xb fb cb mt' xt ft' ct' f0 g0 c0 m0 s0 f1 g1 c1 m1 s1 f2 g2 c2 m2 s2 f3 g3 c3 m3 s3 f4 g4 c4 m4 s4 f5 g5 c5 m5 s5 ek0 em0 es0 el0 b0 ef0 ek1 em1 es1 el1 b1 ef1 []))) 0 [(0, _), (1, _)] [] _ 0 0
  refine j_iconst (v := 0) dX8_isTakingPlain_0 (by decide) ?_
  refine j_istore_n (lo' := [(2, _), (0, _), (1, _)]) dX8_isTakingPlain_1 (by decide) rfl ?_
  refine j_iload_n dX8_isTakingPlain_2 rfl ?_
  refine j_iconst (v := 4) dX8_isTakingPlain_3 (by decide) ?_
  refine j_icmp_gt (tgt := 52) dX8_isTakingPlain_4 (by decide) (fun c_4 => ?_) (fun c_4 => ?_)
  · exact absurd c_4 (by decide)
  · refine j_aload_n dX8_isTakingPlain_7 rfl rfl ?_
    refine j_getf dX8_isTakingPlain_8 fX8_36 rfl rfl ?_
    refine j_aload_n dX8_isTakingPlain_11 rfl rfl ?_
    refine j_callV (q := (RX1, TX1, 4)) dX8_isTakingPlain_12 kX1_become lX8_123 inX1_become seX1_become rfl rfl (z_frame [31, 32, 33, 34, 2, 3, 4, 5] rfl (by decide) (Nat.le_of_ble_eq_true rfl) (c_X1_become hl _ _ _ _ _ _ _ _)) (Nat.le_of_ble_eq_true rfl) ⟨(Nat.le_of_ble_eq_true rfl), (Nat.le_of_ble_eq_true rfl)⟩ rfl (Nat.le_of_ble_eq_true rfl) rfl rfl (fun _ _ h => h.elim) ?_
    rintro _ _ ⟨_, _, ⟨rfl, _, rfl⟩, rfl, rfl⟩
    refine j_w (z_cw _ _ _ _ _ _ _ _ _ _ _ _ _ _ _ _ _ _ _ _ _ _ _ _ _ _ _ _ _ _ _ _ _ _ _ _ _ _ _ _ _ _ _ _ _ _ _ _ _ _ _ _ _ _ _ _ [], z_no) rfl ?_
    refine j_new (w' := (z_cw _ _ _ _ _ _ _ _ _ _ _ _ _ _ _ _ _ _ _ _ _ _ _ _ _ _ _ _ _ _ _ _ _ _ _ _ _ _ _ _ _ _ _ _ _ _ _ _ _ _ _ _ _ _ _ _ [.inr (7, [_, _, _, _, _])], z_no)) (n := 51) dX8_isTakingPlain_15 nX8_91 rfl (z_al_l rfl rfl) (Nat.le_of_ble_eq_true rfl) (Nat.le_of_ble_eq_true rfl) ?_
    refine j_dup dX8_isTakingPlain_18 rfl ?_
    refine j_aload_n dX8_isTakingPlain_19 rfl rfl ?_
    refine j_getf dX8_isTakingPlain_20 fX8_36 rfl rfl ?_
    refine j_callI dX8_isTakingPlain_23 kX2_init rfl lX8_93 inX2_init rfl (z_frame [51, 31, 32, 33, 34] rfl (by decide) (Nat.le_of_ble_eq_true rfl) (c_X2_init hl _ _ _ _)) (Nat.le_of_ble_eq_true rfl) ⟨(Nat.le_of_ble_eq_true rfl), (Nat.le_of_ble_eq_true rfl)⟩ rfl (Nat.le_of_ble_eq_true rfl) rfl rfl (fun _ _ h => h.elim) ?_
    rintro _ _ ⟨_, _, ⟨rfl, _, rfl⟩, rfl, rfl⟩
    refine j_w (z_cw _ _ _ _ _ _ _ _ _ _ _ _ _ _ _ _ _ _ _ _ _ _ _ _ _ _ _ _ _ _ _ _ _ _ _ _ _ _ _ _ _ _ _ _ _ _ _ _ _ _ _ _ _ _ _ _ [.inr (7, [_, _, _, _, _])], z_no) rfl ?_
    refine j_iload_n dX8_isTakingPlain_26 rfl ?_
    refine j_iconst (v := 0) dX8_isTakingPlain_27 (by decide) ?_
    refine j_callS dX8_isTakingPlain_28 kX8_takeEach lX8_108 stX8_takeEach (z_frame [51, 31, 32, 33, 34] rfl (by decide) (Nat.le_of_ble_eq_true rfl) (c_X8_takeEach hl _ _ _ _ _ _ _ _ _)) (Nat.le_of_ble_eq_true rfl) ⟨(Nat.le_of_ble_eq_true rfl), (Nat.le_of_ble_eq_true rfl)⟩ rfl (Nat.le_of_ble_eq_true rfl) rfl rfl (fun _ _ h => h.elim) ?_
    rintro _ _ ⟨_, _, ⟨⟨_, rfl⟩, _, _, _, _, _, _, rfl⟩, rfl, rfl⟩
    refine j_w (z_cw _ _ _ _ _ _ _ _ _ _ _ _ _ _ _ _ _ _ _ _ _ _ _ _ _ _ _ _ _ _ _ _ _ _ _ _ _ _ _ _ _ _ _ _ _ _ _ _ _ _ _ _ _ _ _ _ [.inr (7, [_, _, _, _, _])], z_no) rfl ?_
    refine j_pop dX8_isTakingPlain_31 rfl ?_
    refine j_dropL (n := 51) rfl (Nat.le_of_ble_eq_true rfl) (Nat.le_of_ble_eq_true rfl) (Nat.le_of_ble_eq_true rfl) z_cwc rfl rfl ?_
    refine j_w (z_cw _ _ _ _ _ _ _ _ _ _ _ _ _ _ _ _ _ _ _ _ _ _ _ _ _ _ _ _ _ _ _ _ _ _ _ _ _ _ _ _ _ _ _ _ _ _ _ _ _ _ _ _ _ _ _ _ [], z_no) rfl ?_
    refine j_aload_n dX8_isTakingPlain_32 rfl rfl ?_
    refine j_getf dX8_isTakingPlain_33 fX8_36 rfl rfl ?_
    refine j_aload_n dX8_isTakingPlain_36 rfl rfl ?_
    refine j_iload_n dX8_isTakingPlain_37 rfl ?_
    refine j_callS dX8_isTakingPlain_38 kX8_isWhatIsLeft lX8_340 stX8_isWhatIsLeft (z_frame [31, 32, 33, 34, 2, 3, 4, 5] rfl (by decide) (Nat.le_of_ble_eq_true rfl) (c_X8_isWhatIsLeft hl _ _ _ _ _ _ _ _ _)) (Nat.le_of_ble_eq_true rfl) ⟨(Nat.le_of_ble_eq_true rfl), (Nat.le_of_ble_eq_true rfl)⟩ rfl (Nat.le_of_ble_eq_true rfl) rfl rfl (fun _ _ h => h.elim) ?_
    rintro _ _ ⟨_, _, ⟨⟨b, rfl⟩, rfl⟩, rfl, rfl⟩
    refine j_w (z_cw _ _ _ _ _ _ _ _ _ _ _ _ _ _ _ _ _ _ _ _ _ _ _ _ _ _ _ _ _ _ _ _ _ _ _ _ _ _ _ _ _ _ _ _ _ _ _ _ _ _ _ _ _ _ _ _ [], z_no) rfl ?_
    refine j_if_ne (tgt := 46) dX8_isTakingPlain_41 (by decide) (fun c_41 => ?_) (fun c_41 => ?_)
    · refine j_iinc (lo' := [(2, _), (0, _), (1, _)]) dX8_isTakingPlain_46 rfl rfl (by decide) rfl ?_
      refine j_goto (tgt := 2) dX8_isTakingPlain_49 (by decide) ?_
      refine j_iload_n dX8_isTakingPlain_2 rfl ?_
      refine j_iconst (v := 4) dX8_isTakingPlain_3 (by decide) ?_
      refine j_icmp_gt (tgt := 52) dX8_isTakingPlain_4 (by decide) (fun c_4 => ?_) (fun c_4 => ?_)
      · exact absurd c_4 (by decide)
      · refine j_aload_n dX8_isTakingPlain_7 rfl rfl ?_
        refine j_getf dX8_isTakingPlain_8 fX8_36 rfl rfl ?_
        refine j_aload_n dX8_isTakingPlain_11 rfl rfl ?_
        refine j_callV (q := (RX1, TX1, 4)) dX8_isTakingPlain_12 kX1_become lX8_123 inX1_become seX1_become rfl rfl (z_frame [31, 32, 33, 34, 2, 3, 4, 5] rfl (by decide) (Nat.le_of_ble_eq_true rfl) (c_X1_become hl _ _ _ _ _ _ _ _)) (Nat.le_of_ble_eq_true rfl) ⟨(Nat.le_of_ble_eq_true rfl), (Nat.le_of_ble_eq_true rfl)⟩ rfl (Nat.le_of_ble_eq_true rfl) rfl rfl (fun _ _ h => h.elim) ?_
        rintro _ _ ⟨_, _, ⟨rfl, _, rfl⟩, rfl, rfl⟩
        refine j_w (z_cw _ _ _ _ _ _ _ _ _ _ _ _ _ _ _ _ _ _ _ _ _ _ _ _ _ _ _ _ _ _ _ _ _ _ _ _ _ _ _ _ _ _ _ _ _ _ _ _ _ _ _ _ _ _ _ _ [], z_no) rfl ?_
        refine j_new (w' := (z_cw _ _ _ _ _ _ _ _ _ _ _ _ _ _ _ _ _ _ _ _ _ _ _ _ _ _ _ _ _ _ _ _ _ _ _ _ _ _ _ _ _ _ _ _ _ _ _ _ _ _ _ _ _ _ _ _ [.inr (7, [_, _, _, _, _])], z_no)) (n := 51) dX8_isTakingPlain_15 nX8_91 rfl (z_al_l rfl rfl) (Nat.le_of_ble_eq_true rfl) (Nat.le_of_ble_eq_true rfl) ?_
        refine j_dup dX8_isTakingPlain_18 rfl ?_
        refine j_aload_n dX8_isTakingPlain_19 rfl rfl ?_
        refine j_getf dX8_isTakingPlain_20 fX8_36 rfl rfl ?_
        refine j_callI dX8_isTakingPlain_23 kX2_init rfl lX8_93 inX2_init rfl (z_frame [51, 31, 32, 33, 34] rfl (by decide) (Nat.le_of_ble_eq_true rfl) (c_X2_init hl _ _ _ _)) (Nat.le_of_ble_eq_true rfl) ⟨(Nat.le_of_ble_eq_true rfl), (Nat.le_of_ble_eq_true rfl)⟩ rfl (Nat.le_of_ble_eq_true rfl) rfl rfl (fun _ _ h => h.elim) ?_
        rintro _ _ ⟨_, _, ⟨rfl, _, rfl⟩, rfl, rfl⟩
        refine j_w (z_cw _ _ _ _ _ _ _ _ _ _ _ _ _ _ _ _ _ _ _ _ _ _ _ _ _ _ _ _ _ _ _ _ _ _ _ _ _ _ _ _ _ _ _ _ _ _ _ _ _ _ _ _ _ _ _ _ [.inr (7, [_, _, _, _, _])], z_no) rfl ?_
        refine j_iload_n dX8_isTakingPlain_26 rfl ?_
        refine j_iconst (v := 0) dX8_isTakingPlain_27 (by decide) ?_
        refine j_callS dX8_isTakingPlain_28 kX8_takeEach lX8_108 stX8_takeEach (z_frame [51, 31, 32, 33, 34] rfl (by decide) (Nat.le_of_ble_eq_true rfl) (c_X8_takeEach hl _ _ _ _ _ _ _ _ _)) (Nat.le_of_ble_eq_true rfl) ⟨(Nat.le_of_ble_eq_true rfl), (Nat.le_of_ble_eq_true rfl)⟩ rfl (Nat.le_of_ble_eq_true rfl) rfl rfl (fun _ _ h => h.elim) ?_
        rintro _ _ ⟨_, _, ⟨⟨_, rfl⟩, _, _, _, _, _, _, rfl⟩, rfl, rfl⟩
        refine j_w (z_cw _ _ _ _ _ _ _ _ _ _ _ _ _ _ _ _ _ _ _ _ _ _ _ _ _ _ _ _ _ _ _ _ _ _ _ _ _ _ _ _ _ _ _ _ _ _ _ _ _ _ _ _ _ _ _ _ [.inr (7, [_, _, _, _, _])], z_no) rfl ?_
        refine j_pop dX8_isTakingPlain_31 rfl ?_
        refine j_dropL (n := 51) rfl (Nat.le_of_ble_eq_true rfl) (Nat.le_of_ble_eq_true rfl) (Nat.le_of_ble_eq_true rfl) z_cwc rfl rfl ?_
        refine j_w (z_cw _ _ _ _ _ _ _ _ _ _ _ _ _ _ _ _ _ _ _ _ _ _ _ _ _ _ _ _ _ _ _ _ _ _ _ _ _ _ _ _ _ _ _ _ _ _ _ _ _ _ _ _ _ _ _ _ [], z_no) rfl ?_
        refine j_aload_n dX8_isTakingPlain_32 rfl rfl ?_
        refine j_getf dX8_isTakingPlain_33 fX8_36 rfl rfl ?_
        refine j_aload_n dX8_isTakingPlain_36 rfl rfl ?_
        refine j_iload_n dX8_isTakingPlain_37 rfl ?_
        refine j_callS dX8_isTakingPlain_38 kX8_isWhatIsLeft lX8_340 stX8_isWhatIsLeft (z_frame [31, 32, 33, 34, 2, 3, 4, 5] rfl (by decide) (Nat.le_of_ble_eq_true rfl) (c_X8_isWhatIsLeft hl _ _ _ _ _ _ _ _ _)) (Nat.le_of_ble_eq_true rfl) ⟨(Nat.le_of_ble_eq_true rfl), (Nat.le_of_ble_eq_true rfl)⟩ rfl (Nat.le_of_ble_eq_true rfl) rfl rfl (fun _ _ h => h.elim) ?_
        rintro _ _ ⟨_, _, ⟨⟨b, rfl⟩, rfl⟩, rfl, rfl⟩
        refine j_w (z_cw _ _ _ _ _ _ _ _ _ _ _ _ _ _ _ _ _ _ _ _ _ _ _ _ _ _ _ _ _ _ _ _ _ _ _ _ _ _ _ _ _ _ _ _ _ _ _ _ _ _ _ _ _ _ _ _ [], z_no) rfl ?_
        refine j_if_ne (tgt := 46) dX8_isTakingPlain_41 (by decide) (fun c_41 => ?_) (fun c_41 => ?_)
        · refine j_iinc (lo' := [(2, _), (0, _), (1, _)]) dX8_isTakingPlain_46 rfl rfl (by decide) rfl ?_
          refine j_goto (tgt := 2) dX8_isTakingPlain_49 (by decide) ?_
          refine j_iload_n dX8_isTakingPlain_2 rfl ?_
          refine j_iconst (v := 4) dX8_isTakingPlain_3 (by decide) ?_
          refine j_icmp_gt (tgt := 52) dX8_isTakingPlain_4 (by decide) (fun c_4 => ?_) (fun c_4 => ?_)
          · exact absurd c_4 (by decide)
          · refine j_aload_n dX8_isTakingPlain_7 rfl rfl ?_
            refine j_getf dX8_isTakingPlain_8 fX8_36 rfl rfl ?_
            refine j_aload_n dX8_isTakingPlain_11 rfl rfl ?_
            refine j_callV (q := (RX1, TX1, 4)) dX8_isTakingPlain_12 kX1_become lX8_123 inX1_become seX1_become rfl rfl (z_frame [31, 32, 33, 34, 2, 3, 4, 5] rfl (by decide) (Nat.le_of_ble_eq_true rfl) (c_X1_become hl _ _ _ _ _ _ _ _)) (Nat.le_of_ble_eq_true rfl) ⟨(Nat.le_of_ble_eq_true rfl), (Nat.le_of_ble_eq_true rfl)⟩ rfl (Nat.le_of_ble_eq_true rfl) rfl rfl (fun _ _ h => h.elim) ?_
            rintro _ _ ⟨_, _, ⟨rfl, _, rfl⟩, rfl, rfl⟩
            refine j_w (z_cw _ _ _ _ _ _ _ _ _ _ _ _ _ _ _ _ _ _ _ _ _ _ _ _ _ _ _ _ _ _ _ _ _ _ _ _ _ _ _ _ _ _ _ _ _ _ _ _ _ _ _ _ _ _ _ _ [], z_no) rfl ?_
            refine j_new (w' := (z_cw _ _ _ _ _ _ _ _ _ _ _ _ _ _ _ _ _ _ _ _ _ _ _ _ _ _ _ _ _ _ _ _ _ _ _ _ _ _ _ _ _ _ _ _ _ _ _ _ _ _ _ _ _ _ _ _ [.inr (7, [_, _, _, _, _])], z_no)) (n := 51) dX8_isTakingPlain_15 nX8_91 rfl (z_al_l rfl rfl) (Nat.le_of_ble_eq_true rfl) (Nat.le_of_ble_eq_true rfl) ?_
            refine j_dup dX8_isTakingPlain_18 rfl ?_
            refine j_aload_n dX8_isTakingPlain_19 rfl rfl ?_
            refine j_getf dX8_isTakingPlain_20 fX8_36 rfl rfl ?_
            refine j_callI dX8_isTakingPlain_23 kX2_init rfl lX8_93 inX2_init rfl (z_frame [51, 31, 32, 33, 34] rfl (by decide) (Nat.le_of_ble_eq_true rfl) (c_X2_init hl _ _ _ _)) (Nat.le_of_ble_eq_true rfl) ⟨(Nat.le_of_ble_eq_true rfl), (Nat.le_of_ble_eq_true rfl)⟩ rfl (Nat.le_of_ble_eq_true rfl) rfl rfl (fun _ _ h => h.elim) ?_
            rintro _ _ ⟨_, _, ⟨rfl, _, rfl⟩, rfl, rfl⟩
            refine j_w (z_cw _ _ _ _ _ _ _ _ _ _ _ _ _ _ _ _ _ _ _ _ _ _ _ _ _ _ _ _ _ _ _ _ _ _ _ _ _ _ _ _ _ _ _ _ _ _ _ _ _ _ _ _ _ _ _ _ [.inr (7, [_, _, _, _, _])], z_no) rfl ?_
            refine j_iload_n dX8_isTakingPlain_26 rfl ?_
            refine j_iconst (v := 0) dX8_isTakingPlain_27 (by decide) ?_
            refine j_callS dX8_isTakingPlain_28 kX8_takeEach lX8_108 stX8_takeEach (z_frame [51, 31, 32, 33, 34] rfl (by decide) (Nat.le_of_ble_eq_true rfl) (c_X8_takeEach hl _ _ _ _ _ _ _ _ _)) (Nat.le_of_ble_eq_true rfl) ⟨(Nat.le_of_ble_eq_true rfl), (Nat.le_of_ble_eq_true rfl)⟩ rfl (Nat.le_of_ble_eq_true rfl) rfl rfl (fun _ _ h => h.elim) ?_
            rintro _ _ ⟨_, _, ⟨⟨_, rfl⟩, _, _, _, _, _, _, rfl⟩, rfl, rfl⟩
            refine j_w (z_cw _ _ _ _ _ _ _ _ _ _ _ _ _ _ _ _ _ _ _ _ _ _ _ _ _ _ _ _ _ _ _ _ _ _ _ _ _ _ _ _ _ _ _ _ _ _ _ _ _ _ _ _ _ _ _ _ [.inr (7, [_, _, _, _, _])], z_no) rfl ?_
            refine j_pop dX8_isTakingPlain_31 rfl ?_
            refine j_dropL (n := 51) rfl (Nat.le_of_ble_eq_true rfl) (Nat.le_of_ble_eq_true rfl) (Nat.le_of_ble_eq_true rfl) z_cwc rfl rfl ?_
            refine j_w (z_cw _ _ _ _ _ _ _ _ _ _ _ _ _ _ _ _ _ _ _ _ _ _ _ _ _ _ _ _ _ _ _ _ _ _ _ _ _ _ _ _ _ _ _ _ _ _ _ _ _ _ _ _ _ _ _ _ [], z_no) rfl ?_
            refine j_aload_n dX8_isTakingPlain_32 rfl rfl ?_
            refine j_getf dX8_isTakingPlain_33 fX8_36 rfl rfl ?_
            refine j_aload_n dX8_isTakingPlain_36 rfl rfl ?_
            refine j_iload_n dX8_isTakingPlain_37 rfl ?_
            refine j_callS dX8_isTakingPlain_38 kX8_isWhatIsLeft lX8_340 stX8_isWhatIsLeft (z_frame [31, 32, 33, 34, 2, 3, 4, 5] rfl (by decide) (Nat.le_of_ble_eq_true rfl) (c_X8_isWhatIsLeft hl _ _ _ _ _ _ _ _ _)) (Nat.le_of_ble_eq_true rfl) ⟨(Nat.le_of_ble_eq_true rfl), (Nat.le_of_ble_eq_true rfl)⟩ rfl (Nat.le_of_ble_eq_true rfl) rfl rfl (fun _ _ h => h.elim) ?_
            rintro _ _ ⟨_, _, ⟨⟨b, rfl⟩, rfl⟩, rfl, rfl⟩
            refine j_w (z_cw _ _ _ _ _ _ _ _ _ _ _ _ _ _ _ _ _ _ _ _ _ _ _ _ _ _ _ _ _ _ _ _ _ _ _ _ _ _ _ _ _ _ _ _ _ _ _ _ _ _ _ _ _ _ _ _ [], z_no) rfl ?_
            refine j_if_ne (tgt := 46) dX8_isTakingPlain_41 (by decide) (fun c_41 => ?_) (fun c_41 => ?_)
            · refine j_iinc (lo' := [(2, _), (0, _), (1, _)]) dX8_isTakingPlain_46 rfl rfl (by decide) rfl ?_
              refine j_goto (tgt := 2) dX8_isTakingPlain_49 (by decide) ?_
              refine j_iload_n dX8_isTakingPlain_2 rfl ?_
              refine j_iconst (v := 4) dX8_isTakingPlain_3 (by decide) ?_
              refine j_icmp_gt (tgt := 52) dX8_isTakingPlain_4 (by decide) (fun c_4 => ?_) (fun c_4 => ?_)
              · exact absurd c_4 (by decide)
              · refine j_aload_n dX8_isTakingPlain_7 rfl rfl ?_
                refine j_getf dX8_isTakingPlain_8 fX8_36 rfl rfl ?_
                refine j_aload_n dX8_isTakingPlain_11 rfl rfl ?_
                refine j_callV (q := (RX1, TX1, 4)) dX8_isTakingPlain_12 kX1_become lX8_123 inX1_become seX1_become rfl rfl (z_frame [31, 32, 33, 34, 2, 3, 4, 5] rfl (by decide) (Nat.le_of_ble_eq_true rfl) (c_X1_become hl _ _ _ _ _ _ _ _)) (Nat.le_of_ble_eq_true rfl) ⟨(Nat.le_of_ble_eq_true rfl), (Nat.le_of_ble_eq_true rfl)⟩ rfl (Nat.le_of_ble_eq_true rfl) rfl rfl (fun _ _ h => h.elim) ?_
                rintro _ _ ⟨_, _, ⟨rfl, _, rfl⟩, rfl, rfl⟩
                refine j_w (z_cw _ _ _ _ _ _ _ _ _ _ _ _ _ _ _ _ _ _ _ _ _ _ _ _ _ _ _ _ _ _ _ _ _ _ _ _ _ _ _ _ _ _ _ _ _ _ _ _ _ _ _ _ _ _ _ _ [], z_no) rfl ?_
                refine j_new (w' := (z_cw _ _ _ _ _ _ _ _ _ _ _ _ _ _ _ _ _ _ _ _ _ _ _ _ _ _ _ _ _ _ _ _ _ _ _ _ _ _ _ _ _ _ _ _ _ _ _ _ _ _ _ _ _ _ _ _ [.inr (7, [_, _, _, _, _])], z_no)) (n := 51) dX8_isTakingPlain_15 nX8_91 rfl (z_al_l rfl rfl) (Nat.le_of_ble_eq_true rfl) (Nat.le_of_ble_eq_true rfl) ?_
                refine j_dup dX8_isTakingPlain_18 rfl ?_
                refine j_aload_n dX8_isTakingPlain_19 rfl rfl ?_
                refine j_getf dX8_isTakingPlain_20 fX8_36 rfl rfl ?_
                refine j_callI dX8_isTakingPlain_23 kX2_init rfl lX8_93 inX2_init rfl (z_frame [51, 31, 32, 33, 34] rfl (by decide) (Nat.le_of_ble_eq_true rfl) (c_X2_init hl _ _ _ _)) (Nat.le_of_ble_eq_true rfl) ⟨(Nat.le_of_ble_eq_true rfl), (Nat.le_of_ble_eq_true rfl)⟩ rfl (Nat.le_of_ble_eq_true rfl) rfl rfl (fun _ _ h => h.elim) ?_
                rintro _ _ ⟨_, _, ⟨rfl, _, rfl⟩, rfl, rfl⟩
                refine j_w (z_cw _ _ _ _ _ _ _ _ _ _ _ _ _ _ _ _ _ _ _ _ _ _ _ _ _ _ _ _ _ _ _ _ _ _ _ _ _ _ _ _ _ _ _ _ _ _ _ _ _ _ _ _ _ _ _ _ [.inr (7, [_, _, _, _, _])], z_no) rfl ?_
                refine j_iload_n dX8_isTakingPlain_26 rfl ?_
                refine j_iconst (v := 0) dX8_isTakingPlain_27 (by decide) ?_
                refine j_callS dX8_isTakingPlain_28 kX8_takeEach lX8_108 stX8_takeEach (z_frame [51, 31, 32, 33, 34] rfl (by decide) (Nat.le_of_ble_eq_true rfl) (c_X8_takeEach hl _ _ _ _ _ _ _ _ _)) (Nat.le_of_ble_eq_true rfl) ⟨(Nat.le_of_ble_eq_true rfl), (Nat.le_of_ble_eq_true rfl)⟩ rfl (Nat.le_of_ble_eq_true rfl) rfl rfl (fun _ _ h => h.elim) ?_
                rintro _ _ ⟨_, _, ⟨⟨_, rfl⟩, _, _, _, _, _, _, rfl⟩, rfl, rfl⟩
                refine j_w (z_cw _ _ _ _ _ _ _ _ _ _ _ _ _ _ _ _ _ _ _ _ _ _ _ _ _ _ _ _ _ _ _ _ _ _ _ _ _ _ _ _ _ _ _ _ _ _ _ _ _ _ _ _ _ _ _ _ [.inr (7, [_, _, _, _, _])], z_no) rfl ?_
                refine j_pop dX8_isTakingPlain_31 rfl ?_
                refine j_dropL (n := 51) rfl (Nat.le_of_ble_eq_true rfl) (Nat.le_of_ble_eq_true rfl) (Nat.le_of_ble_eq_true rfl) z_cwc rfl rfl ?_
                refine j_w (z_cw _ _ _ _ _ _ _ _ _ _ _ _ _ _ _ _ _ _ _ _ _ _ _ _ _ _ _ _ _ _ _ _ _ _ _ _ _ _ _ _ _ _ _ _ _ _ _ _ _ _ _ _ _ _ _ _ [], z_no) rfl ?_
                refine j_aload_n dX8_isTakingPlain_32 rfl rfl ?_
                refine j_getf dX8_isTakingPlain_33 fX8_36 rfl rfl ?_
                refine j_aload_n dX8_isTakingPlain_36 rfl rfl ?_
                refine j_iload_n dX8_isTakingPlain_37 rfl ?_
                refine j_callS dX8_isTakingPlain_38 kX8_isWhatIsLeft lX8_340 stX8_isWhatIsLeft (z_frame [31, 32, 33, 34, 2, 3, 4, 5] rfl (by decide) (Nat.le_of_ble_eq_true rfl) (c_X8_isWhatIsLeft hl _ _ _ _ _ _ _ _ _)) (Nat.le_of_ble_eq_true rfl) ⟨(Nat.le_of_ble_eq_true rfl), (Nat.le_of_ble_eq_true rfl)⟩ rfl (Nat.le_of_ble_eq_true rfl) rfl rfl (fun _ _ h => h.elim) ?_
                rintro _ _ ⟨_, _, ⟨⟨b, rfl⟩, rfl⟩, rfl, rfl⟩
                refine j_w (z_cw _ _ _ _ _ _ _ _ _ _ _ _ _ _ _ _ _ _ _ _ _ _ _ _ _ _ _ _ _ _ _ _ _ _ _ _ _ _ _ _ _ _ _ _ _ _ _ _ _ _ _ _ _ _ _ _ [], z_no) rfl ?_
                refine j_if_ne (tgt := 46) dX8_isTakingPlain_41 (by decide) (fun c_41 => ?_) (fun c_41 => ?_)
                · refine j_iinc (lo' := [(2, _), (0, _), (1, _)]) dX8_isTakingPlain_46 rfl rfl (by decide) rfl ?_
                  refine j_goto (tgt := 2) dX8_isTakingPlain_49 (by decide) ?_
                  refine j_iload_n dX8_isTakingPlain_2 rfl ?_
                  refine j_iconst (v := 4) dX8_isTakingPlain_3 (by decide) ?_
                  refine j_icmp_gt (tgt := 52) dX8_isTakingPlain_4 (by decide) (fun c_4 => ?_) (fun c_4 => ?_)
                  · exact absurd c_4 (by decide)
                  · refine j_aload_n dX8_isTakingPlain_7 rfl rfl ?_
                    refine j_getf dX8_isTakingPlain_8 fX8_36 rfl rfl ?_
                    refine j_aload_n dX8_isTakingPlain_11 rfl rfl ?_
                    refine j_callV (q := (RX1, TX1, 4)) dX8_isTakingPlain_12 kX1_become lX8_123 inX1_become seX1_become rfl rfl (z_frame [31, 32, 33, 34, 2, 3, 4, 5] rfl (by decide) (Nat.le_of_ble_eq_true rfl) (c_X1_become hl _ _ _ _ _ _ _ _)) (Nat.le_of_ble_eq_true rfl) ⟨(Nat.le_of_ble_eq_true rfl), (Nat.le_of_ble_eq_true rfl)⟩ rfl (Nat.le_of_ble_eq_true rfl) rfl rfl (fun _ _ h => h.elim) ?_
                    rintro _ _ ⟨_, _, ⟨rfl, _, rfl⟩, rfl, rfl⟩
                    refine j_w (z_cw _ _ _ _ _ _ _ _ _ _ _ _ _ _ _ _ _ _ _ _ _ _ _ _ _ _ _ _ _ _ _ _ _ _ _ _ _ _ _ _ _ _ _ _ _ _ _ _ _ _ _ _ _ _ _ _ [], z_no) rfl ?_
                    refine j_new (w' := (z_cw _ _ _ _ _ _ _ _ _ _ _ _ _ _ _ _ _ _ _ _ _ _ _ _ _ _ _ _ _ _ _ _ _ _ _ _ _ _ _ _ _ _ _ _ _ _ _ _ _ _ _ _ _ _ _ _ [.inr (7, [_, _, _, _, _])], z_no)) (n := 51) dX8_isTakingPlain_15 nX8_91 rfl (z_al_l rfl rfl) (Nat.le_of_ble_eq_true rfl) (Nat.le_of_ble_eq_true rfl) ?_
                    refine j_dup dX8_isTakingPlain_18 rfl ?_
                    refine j_aload_n dX8_isTakingPlain_19 rfl rfl ?_
                    refine j_getf dX8_isTakingPlain_20 fX8_36 rfl rfl ?_
                    refine j_callI dX8_isTakingPlain_23 kX2_init rfl lX8_93 inX2_init rfl (z_frame [51, 31, 32, 33, 34] rfl (by decide) (Nat.le_of_ble_eq_true rfl) (c_X2_init hl _ _ _ _)) (Nat.le_of_ble_eq_true rfl) ⟨(Nat.le_of_ble_eq_true rfl), (Nat.le_of_ble_eq_true rfl)⟩ rfl (Nat.le_of_ble_eq_true rfl) rfl rfl (fun _ _ h => h.elim) ?_
                    rintro _ _ ⟨_, _, ⟨rfl, _, rfl⟩, rfl, rfl⟩
                    refine j_w (z_cw _ _ _ _ _ _ _ _ _ _ _ _ _ _ _ _ _ _ _ _ _ _ _ _ _ _ _ _ _ _ _ _ _ _ _ _ _ _ _ _ _ _ _ _ _ _ _ _ _ _ _ _ _ _ _ _ [.inr (7, [_, _, _, _, _])], z_no) rfl ?_
                    refine j_iload_n dX8_isTakingPlain_26 rfl ?_
                    refine j_iconst (v := 0) dX8_isTakingPlain_27 (by decide) ?_
                    refine j_callS dX8_isTakingPlain_28 kX8_takeEach lX8_108 stX8_takeEach (z_frame [51, 31, 32, 33, 34] rfl (by decide) (Nat.le_of_ble_eq_true rfl) (c_X8_takeEach hl _ _ _ _ _ _ _ _ _)) (Nat.le_of_ble_eq_true rfl) ⟨(Nat.le_of_ble_eq_true rfl), (Nat.le_of_ble_eq_true rfl)⟩ rfl (Nat.le_of_ble_eq_true rfl) rfl rfl (fun _ _ h => h.elim) ?_
                    rintro _ _ ⟨_, _, ⟨⟨_, rfl⟩, _, _, _, _, _, _, rfl⟩, rfl, rfl⟩
                    refine j_w (z_cw _ _ _ _ _ _ _ _ _ _ _ _ _ _ _ _ _ _ _ _ _ _ _ _ _ _ _ _ _ _ _ _ _ _ _ _ _ _ _ _ _ _ _ _ _ _ _ _ _ _ _ _ _ _ _ _ [.inr (7, [_, _, _, _, _])], z_no) rfl ?_
                    refine j_pop dX8_isTakingPlain_31 rfl ?_
                    refine j_dropL (n := 51) rfl (Nat.le_of_ble_eq_true rfl) (Nat.le_of_ble_eq_true rfl) (Nat.le_of_ble_eq_true rfl) z_cwc rfl rfl ?_
                    refine j_w (z_cw _ _ _ _ _ _ _ _ _ _ _ _ _ _ _ _ _ _ _ _ _ _ _ _ _ _ _ _ _ _ _ _ _ _ _ _ _ _ _ _ _ _ _ _ _ _ _ _ _ _ _ _ _ _ _ _ [], z_no) rfl ?_
                    refine j_aload_n dX8_isTakingPlain_32 rfl rfl ?_
                    refine j_getf dX8_isTakingPlain_33 fX8_36 rfl rfl ?_
                    refine j_aload_n dX8_isTakingPlain_36 rfl rfl ?_
                    refine j_iload_n dX8_isTakingPlain_37 rfl ?_
                    refine j_callS dX8_isTakingPlain_38 kX8_isWhatIsLeft lX8_340 stX8_isWhatIsLeft (z_frame [31, 32, 33, 34, 2, 3, 4, 5] rfl (by decide) (Nat.le_of_ble_eq_true rfl) (c_X8_isWhatIsLeft hl _ _ _ _ _ _ _ _ _)) (Nat.le_of_ble_eq_true rfl) ⟨(Nat.le_of_ble_eq_true rfl), (Nat.le_of_ble_eq_true rfl)⟩ rfl (Nat.le_of_ble_eq_true rfl) rfl rfl (fun _ _ h => h.elim) ?_
                    rintro _ _ ⟨_, _, ⟨⟨b, rfl⟩, rfl⟩, rfl, rfl⟩
                    refine j_w (z_cw _ _ _ _ _ _ _ _ _ _ _ _ _ _ _ _ _ _ _ _ _ _ _ _ _ _ _ _ _ _ _ _ _ _ _ _ _ _ _ _ _ _ _ _ _ _ _ _ _ _ _ _ _ _ _ _ [], z_no) rfl ?_
                    refine j_if_ne (tgt := 46) dX8_isTakingPlain_41 (by decide) (fun c_41 => ?_) (fun c_41 => ?_)
                    · refine j_iinc (lo' := [(2, _), (0, _), (1, _)]) dX8_isTakingPlain_46 rfl rfl (by decide) rfl ?_
                      refine j_goto (tgt := 2) dX8_isTakingPlain_49 (by decide) ?_
                      refine j_iload_n dX8_isTakingPlain_2 rfl ?_
                      refine j_iconst (v := 4) dX8_isTakingPlain_3 (by decide) ?_
                      refine j_icmp_gt (tgt := 52) dX8_isTakingPlain_4 (by decide) (fun c_4 => ?_) (fun c_4 => ?_)
                      · refine j_iconst (v := 1) dX8_isTakingPlain_52 (by decide) ?_
                        refine j_iret dX8_isTakingPlain_53 rfl rfl ?_ (Nat.le_of_ble_eq_true rfl) (Nat.le_of_ble_eq_true rfl)
                        first | exact ⟨rfl, rfl, ⟨true, rfl⟩, _, _, _, rfl⟩ | exact ⟨rfl, rfl, ⟨false, rfl⟩, _, _, _, rfl⟩
                      · exact absurd (by decide) c_4
                    · refine j_iconst (v := 0) dX8_isTakingPlain_44 (by decide) ?_
                      refine j_iret dX8_isTakingPlain_45 rfl rfl ?_ (Nat.le_of_ble_eq_true rfl) (Nat.le_of_ble_eq_true rfl)
                      first | exact ⟨rfl, rfl, ⟨true, rfl⟩, _, _, _, rfl⟩ | exact ⟨rfl, rfl, ⟨false, rfl⟩, _, _, _, rfl⟩
                · refine j_iconst (v := 0) dX8_isTakingPlain_44 (by decide) ?_
                  refine j_iret dX8_isTakingPlain_45 rfl rfl ?_ (Nat.le_of_ble_eq_true rfl) (Nat.le_of_ble_eq_true rfl)
                  first | exact ⟨rfl, rfl, ⟨true, rfl⟩, _, _, _, rfl⟩ | exact ⟨rfl, rfl, ⟨false, rfl⟩, _, _, _, rfl⟩
            · refine j_iconst (v := 0) dX8_isTakingPlain_44 (by decide) ?_
              refine j_iret dX8_isTakingPlain_45 rfl rfl ?_ (Nat.le_of_ble_eq_true rfl) (Nat.le_of_ble_eq_true rfl)
              first | exact ⟨rfl, rfl, ⟨true, rfl⟩, _, _, _, rfl⟩ | exact ⟨rfl, rfl, ⟨false, rfl⟩, _, _, _, rfl⟩
        · refine j_iconst (v := 0) dX8_isTakingPlain_44 (by decide) ?_
          refine j_iret dX8_isTakingPlain_45 rfl rfl ?_ (Nat.le_of_ble_eq_true rfl) (Nat.le_of_ble_eq_true rfl)
          first | exact ⟨rfl, rfl, ⟨true, rfl⟩, _, _, _, rfl⟩ | exact ⟨rfl, rfl, ⟨false, rfl⟩, _, _, _, rfl⟩
    · refine j_iconst (v := 0) dX8_isTakingPlain_44 (by decide) ?_
      refine j_iret dX8_isTakingPlain_45 rfl rfl ?_ (Nat.le_of_ble_eq_true rfl) (Nat.le_of_ble_eq_true rfl)
      first | exact ⟨rfl, rfl, ⟨true, rfl⟩, _, _, _, rfl⟩ | exact ⟨rfl, rfl, ⟨false, rfl⟩, _, _, _, rfl⟩
set_option maxRecDepth 100000 in
set_option maxHeartbeats 8000000 in
theorem c_X8_isWalkCounted_6 (hl : l.stackTraces = false) (rf : Int32) (kn : Int32) (ma : Int32) (xa : Bool) (fa : Nat → Int32) (ca : Nat → Int32) (mb : Int32) (xb : Bool) (fb : Nat → Int32) (cb : Nat → Int32) (mt : Int32) (xt : Bool) (ft : Nat → Int32) (ct : Nat → Int32) (f0 : Nat → Int32) (g0 : Nat → Int32) (c0 : Nat → Int32) (m0 : Int32) (s0 : Int32) (f1 : Nat → Int32) (g1 : Nat → Int32) (c1 : Nat → Int32) (m1 : Int32) (s1 : Int32) (f2 : Nat → Int32) (g2 : Nat → Int32) (c2 : Nat → Int32) (m2 : Int32) (s2 : Int32) (f3 : Nat → Int32) (g3 : Nat → Int32) (c3 : Nat → Int32) (m3 : Int32) (s3 : Int32) (f4 : Nat → Int32) (g4 : Nat → Int32) (c4 : Nat → Int32) (m4 : Int32) (s4 : Int32) (f5 : Nat → Int32) (g5 : Nat → Int32) (c5 : Nat → Int32) (m5 : Int32) (s5 : Int32) (ek0 : Int32) (em0 : Int32) (es0 : Int32) (el0 : Int32) (b0 : Int32) (ef0 : Nat → Int32) (ek1 : Int32) (em1 : Int32) (es1 : Int32) (el1 : Int32) (b1 : Int32) (ef1 : Nat → Int32) : z_CF G l mX8_isWalkCounted 17 1 5 (z_cw rf kn ma xa fa ca mb xb fb cb mt xt ft ct f0 g0 c0 m0 s0 f1 g1 c1 m1 s1 f2 g2 c2 m2 s2 f3 g3 c3 m3 s3 f4 g4 c4 m4 s4 f5 g5 c5 m5 s5 ek0 em0 es0 el0 b0 ef0 ek1 em1 es1 el1 b1 ef1 []) [.ref 0, .ref 6] (fun v L => (∃ b : Bool, v = some (.int (z_bi b))) ∧ ∃ (mt' : Int32) (ft' ct' : Nat → Int32), L = (z_cw rf kn ma xa fa ca mb xb fb cb mt' xt ft' ct' f0 g0 c0 m0 s0 f1 g1 c1 m1 s1 f2 g2 c2 m2 s2 f3 g3 c3 m3 s3 f4 g4 c4 m4 s4 f5 g5 c5 m5 s5 ek0 em0 es0 el0 b0 ef0 ek1 em1 es1 el1 b1 ef1 [])) := by
  refine z_body hl (by decide) rfl (Nat.le_of_ble_eq_true rfl) ?_
  show z_J G l mX8_isWalkCounted (z_SF 17 1 5 (z_cw rf kn ma xa fa ca mb xb fb cb mt xt ft ct f0 g0 c0 m0 s0 f1 g1 c1 m1 s1 f2 g2 c2 m2 s2 f3 g3 c3 m3 s3 f4 g4 c4 m4 s4 f5 g5 c5 m5 s5 ek0 em0 es0 el0 b0 ef0 ek1 em1 es1 el1 b1 ef1 []) (fun v L => (∃ b : Bool, v = some (.int (z_bi b))) ∧ ∃ (mt' : Int32) (ft' ct' : Nat → Int32), L = (z_cw rf kn ma xa fa ca mb xb fb cb mt' xt ft' ct' f0 g0 c0 m0 s0 f1 g1 c1 m1 s1 f2 g2 c2 m2 s2 f3 g3 c3 m3 s3 f4 g4 c4 m4 s4 f5 g5 c5 m5 s5 ek0 em0 es0 el0 b0 ef0 ek1 em1 es1 el1 b1 ef1 []))) 0 [(0, _), (1, _)] [] _ 0 0
  refine j_aload_n dX8_isWalkCounted_0 rfl rfl ?_
  refine j_getf dX8_isWalkCounted_1 fX8_36 rfl rfl ?_
  refine j_aload_n dX8_isWalkCounted_4 rfl rfl ?_
  refine j_callV (q := (RX1, TX1, 4)) dX8_isWalkCounted_5 kX1_become lX8_123 inX1_become seX1_become rfl rfl (z_frame [31, 32, 33, 34, 6, 7, 8, 9] rfl (by decide) (Nat.le_of_ble_eq_true rfl) (c_X1_become hl _ _ _ _ _ _ _ _)) (Nat.le_of_ble_eq_true rfl) ⟨(Nat.le_of_ble_eq_true rfl), (Nat.le_of_ble_eq_true rfl)⟩ rfl (Nat.le_of_ble_eq_true rfl) rfl rfl (fun _ _ h => h.elim) ?_
  rintro _ _ ⟨_, _, ⟨rfl, _, rfl⟩, rfl, rfl⟩
  refine j_w (z_cw _ _ _ _ _ _ _ _ _ _ _ _ _ _ _ _ _ _ _ _ _ _ _ _ _ _ _ _ _ _ _ _ _ _ _ _ _ _ _ _ _ _ _ _ _ _ _ _ _ _ _ _ _ _ _ _ [], z_no) rfl ?_
  refine j_aload_n dX8_isWalkCounted_8 rfl rfl ?_
  refine j_getf dX8_isWalkCounted_9 fX8_36 rfl rfl ?_
  refine j_getf dX8_isWalkCounted_12 fX8_214 rfl rfl ?_
  refine j_callV (q := (RX6, TX6, 1)) dX8_isWalkCounted_15 kX6_startAnew lX8_224 inX6_startAnew seX6_startAnew rfl rfl (z_frame [33, 34] rfl (by decide) (Nat.le_of_ble_eq_true rfl) (c_X6_startAnew hl _)) (Nat.le_of_ble_eq_true rfl) ⟨(Nat.le_of_ble_eq_true rfl), (Nat.le_of_ble_eq_true rfl)⟩ rfl (Nat.le_of_ble_eq_true rfl) rfl rfl (fun _ _ h => h.elim) ?_
  rintro _ _ ⟨_, _, ⟨_, rfl, _, rfl⟩, rfl, rfl⟩
  refine j_w (z_cw _ _ _ _ _ _ _ _ _ _ _ _ _ _ _ _ _ _ _ _ _ _ _ _ _ _ _ _ _ _ _ _ _ _ _ _ _ _ _ _ _ _ _ _ _ _ _ _ _ _ _ _ _ _ _ _ [], z_no) rfl ?_
  refine j_pop dX8_isWalkCounted_18 rfl ?_
  refine j_new (w' := (z_cw _ _ _ _ _ _ _ _ _ _ _ _ _ _ _ _ _ _ _ _ _ _ _ _ _ _ _ _ _ _ _ _ _ _ _ _ _ _ _ _ _ _ _ _ _ _ _ _ _ _ _ _ _ _ _ _ [.inr (7, [_, _, _, _, _])], z_no)) (n := 51) dX8_isWalkCounted_19 nX8_91 rfl (z_al_l rfl rfl) (Nat.le_of_ble_eq_true rfl) (Nat.le_of_ble_eq_true rfl) ?_
  refine j_dup dX8_isWalkCounted_22 rfl ?_
  refine j_aload_n dX8_isWalkCounted_23 rfl rfl ?_
  refine j_getf dX8_isWalkCounted_24 fX8_36 rfl rfl ?_
  refine j_callI dX8_isWalkCounted_27 kX2_init rfl lX8_93 inX2_init rfl (z_frame [51, 31, 32, 33, 34] rfl (by decide) (Nat.le_of_ble_eq_true rfl) (c_X2_init hl _ _ _ _)) (Nat.le_of_ble_eq_true rfl) ⟨(Nat.le_of_ble_eq_true rfl), (Nat.le_of_ble_eq_true rfl)⟩ rfl (Nat.le_of_ble_eq_true rfl) rfl rfl (fun _ _ h => h.elim) ?_
  rintro _ _ ⟨_, _, ⟨rfl, _, rfl⟩, rfl, rfl⟩
  refine j_w (z_cw _ _ _ _ _ _ _ _ _ _ _ _ _ _ _ _ _ _ _ _ _ _ _ _ _ _ _ _ _ _ _ _ _ _ _ _ _ _ _ _ _ _ _ _ _ _ _ _ _ _ _ _ _ _ _ _ [.inr (7, [_, _, _, _, _])], z_no) rfl ?_
  refine j_astore_n (lo' := [(2, _), (0, _), (1, _)]) dX8_isWalkCounted_30 rfl (by decide) rfl ?_
  refine j_iconst (v := 0) dX8_isWalkCounted_31 (by decide) ?_
  refine j_istore_n (lo' := [(3, _), (2, _), (0, _), (1, _)]) dX8_isWalkCounted_32 (by decide) rfl ?_
  have loop : ∀ (n j : Nat) (mt' : Int32) (ft' ct' : Nat → Int32) (k' u' p' : Int32), j ≤ 1000 → 1000 < j + n → z_J G l mX8_isWalkCounted (z_SF 17 1 5 (z_cw rf kn ma xa fa ca mb xb fb cb mt xt ft ct f0 g0 c0 m0 s0 f1 g1 c1 m1 s1 f2 g2 c2 m2 s2 f3 g3 c3 m3 s3 f4 g4 c4 m4 s4 f5 g5 c5 m5 s5 ek0 em0 es0 el0 b0 ef0 ek1 em1 es1 el1 b1 ef1 []) (fun v L => (∃ b : Bool, v = some (.int (z_bi b))) ∧ ∃ (mt' : Int32) (ft' ct' : Nat → Int32), L = (z_cw rf kn ma xa fa ca mb xb fb cb mt' xt ft' ct' f0 g0 c0 m0 s0 f1 g1 c1 m1 s1 f2 g2 c2 m2 s2 f3 g3 c3 m3 s3 f4 g4 c4 m4 s4 f5 g5 c5 m5 s5 ek0 em0 es0 el0 b0 ef0 ek1 em1 es1 el1 b1 ef1 []))) 33 [(0, .ref 0), (1, .ref 6), (2, .ref 51), (3, .int (nI j))] [] ((z_cw rf kn ma xa fa ca mb xb fb cb mt' xt ft' ct' f0 g0 c0 m0 s0 f1 g1 c1 m1 s1 f2 g2 c2 m2 s2 f3 g3 c3 m3 s3 f4 g4 c4 m4 s4 f5 g5 c5 m5 s5 ek0 em0 es0 el0 b0 ef0 ek1 em1 es1 el1 b1 ef1 [.inr (7, [.ref 33, .int k', .int u', .ref 31, .int p'])]), z_no) 1 5 := by
    intro n
    induction n with
    | zero => intro j mt' ft' ct' k' u' p' h1 h2 ; exact absurd h2 (by omega)
    | succ n ih =>
      intro j mt' ft' ct' k' u' p' h1 h2
      refine j_iload_n dX8_isWalkCounted_33 rfl ?_
      refine j_sipush (v := 1000) dX8_isWalkCounted_34 (by decide) ?_
      refine j_icmp_ge (tgt := 58) dX8_isWalkCounted_37 (by decide) (fun c_37 => ?_) (fun c_37 => ?_)
      · refine j_aload_n dX8_isWalkCounted_58 rfl rfl ?_
        refine j_getf dX8_isWalkCounted_59 fX8_36 rfl rfl ?_
        refine j_getf dX8_isWalkCounted_62 fX8_214 rfl rfl ?_
        refine j_astore_n (lo' := [(3, _), (0, _), (1, _), (2, _)]) dX8_isWalkCounted_65 rfl (by decide) rfl ?_
        refine j_aload_n dX8_isWalkCounted_66 rfl rfl ?_
        refine j_iconst (v := 0) dX8_isWalkCounted_67 (by decide) ?_
        refine j_callV (q := (RX6, TX6, 1)) dX8_isWalkCounted_68 kX6_of lX8_218 inX6_of seX6_of rfl rfl (z_frame [33, 34] rfl (by decide) (Nat.le_of_ble_eq_true rfl) (c_X6_of hl _ _)) (Nat.le_of_ble_eq_true rfl) ⟨(Nat.le_of_ble_eq_true rfl), (Nat.le_of_ble_eq_true rfl)⟩ rfl (Nat.le_of_ble_eq_true rfl) rfl rfl (fun _ _ h => h.elim) ?_
        rintro _ _ ⟨_, _, ⟨_, rfl, rfl⟩, rfl, rfl⟩
        refine j_w (z_cw _ _ _ _ _ _ _ _ _ _ _ _ _ _ _ _ _ _ _ _ _ _ _ _ _ _ _ _ _ _ _ _ _ _ _ _ _ _ _ _ _ _ _ _ _ _ _ _ _ _ _ _ _ _ _ _ [.inr (7, [_, _, _, _, _])], z_no) rfl ?_
        refine j_iconst (v := 1) dX8_isWalkCounted_71 (by decide) ?_
        refine j_icmp_ne (tgt := 105) dX8_isWalkCounted_72 (by decide) (fun c_72 => ?_) (fun c_72 => ?_)
        · refine j_iconst (v := 0) dX8_isWalkCounted_105 (by decide) ?_
          refine j_lo (lo' := []) z_q0 ?_
          refine j_dropL (n := 51) rfl (Nat.le_of_ble_eq_true rfl) (Nat.le_of_ble_eq_true rfl) (Nat.le_of_ble_eq_true rfl) z_cwc rfl rfl ?_
          refine j_w (z_cw _ _ _ _ _ _ _ _ _ _ _ _ _ _ _ _ _ _ _ _ _ _ _ _ _ _ _ _ _ _ _ _ _ _ _ _ _ _ _ _ _ _ _ _ _ _ _ _ _ _ _ _ _ _ _ _ [], z_no) rfl ?_
          refine j_iret dX8_isWalkCounted_106 rfl rfl ?_ (Nat.le_of_ble_eq_true rfl) (Nat.le_of_ble_eq_true rfl)
          first | exact ⟨rfl, rfl, ⟨true, rfl⟩, _, _, _, rfl⟩ | exact ⟨rfl, rfl, ⟨false, rfl⟩, _, _, _, rfl⟩
        · refine j_aload_n dX8_isWalkCounted_75 rfl rfl ?_
          refine j_iconst (v := 2) dX8_isWalkCounted_76 (by decide) ?_
          refine j_callV (q := (RX6, TX6, 1)) dX8_isWalkCounted_77 kX6_of lX8_218 inX6_of seX6_of rfl rfl (z_frame [33, 34] rfl (by decide) (Nat.le_of_ble_eq_true rfl) (c_X6_of hl _ _)) (Nat.le_of_ble_eq_true rfl) ⟨(Nat.le_of_ble_eq_true rfl), (Nat.le_of_ble_eq_true rfl)⟩ rfl (Nat.le_of_ble_eq_true rfl) rfl rfl (fun _ _ h => h.elim) ?_
          rintro _ _ ⟨_, _, ⟨_, rfl, rfl⟩, rfl, rfl⟩
          refine j_w (z_cw _ _ _ _ _ _ _ _ _ _ _ _ _ _ _ _ _ _ _ _ _ _ _ _ _ _ _ _ _ _ _ _ _ _ _ _ _ _ _ _ _ _ _ _ _ _ _ _ _ _ _ _ _ _ _ _ [.inr (7, [_, _, _, _, _])], z_no) rfl ?_
          refine j_aload_n dX8_isWalkCounted_80 rfl rfl ?_
          refine j_getf dX8_isWalkCounted_81 fX8_68 rfl rfl ?_
          refine j_icmp_ne (tgt := 105) dX8_isWalkCounted_84 (by decide) (fun c_84 => ?_) (fun c_84 => ?_)
          · refine j_iconst (v := 0) dX8_isWalkCounted_105 (by decide) ?_
            refine j_lo (lo' := []) z_q0 ?_
            refine j_dropL (n := 51) rfl (Nat.le_of_ble_eq_true rfl) (Nat.le_of_ble_eq_true rfl) (Nat.le_of_ble_eq_true rfl) z_cwc rfl rfl ?_
            refine j_w (z_cw _ _ _ _ _ _ _ _ _ _ _ _ _ _ _ _ _ _ _ _ _ _ _ _ _ _ _ _ _ _ _ _ _ _ _ _ _ _ _ _ _ _ _ _ _ _ _ _ _ _ _ _ _ _ _ _ [], z_no) rfl ?_
            refine j_iret dX8_isWalkCounted_106 rfl rfl ?_ (Nat.le_of_ble_eq_true rfl) (Nat.le_of_ble_eq_true rfl)
            first | exact ⟨rfl, rfl, ⟨true, rfl⟩, _, _, _, rfl⟩ | exact ⟨rfl, rfl, ⟨false, rfl⟩, _, _, _, rfl⟩
          · refine j_aload_n dX8_isWalkCounted_87 rfl rfl ?_
            refine j_iconst (v := 1) dX8_isWalkCounted_88 (by decide) ?_
            refine j_callV (q := (RX6, TX6, 1)) dX8_isWalkCounted_89 kX6_of lX8_218 inX6_of seX6_of rfl rfl (z_frame [33, 34] rfl (by decide) (Nat.le_of_ble_eq_true rfl) (c_X6_of hl _ _)) (Nat.le_of_ble_eq_true rfl) ⟨(Nat.le_of_ble_eq_true rfl), (Nat.le_of_ble_eq_true rfl)⟩ rfl (Nat.le_of_ble_eq_true rfl) rfl rfl (fun _ _ h => h.elim) ?_
            rintro _ _ ⟨_, _, ⟨_, rfl, rfl⟩, rfl, rfl⟩
            refine j_w (z_cw _ _ _ _ _ _ _ _ _ _ _ _ _ _ _ _ _ _ _ _ _ _ _ _ _ _ _ _ _ _ _ _ _ _ _ _ _ _ _ _ _ _ _ _ _ _ _ _ _ _ _ _ _ _ _ _ [.inr (7, [_, _, _, _, _])], z_no) rfl ?_
            refine j_aload_n dX8_isWalkCounted_92 rfl rfl ?_
            refine j_getf dX8_isWalkCounted_93 fX8_68 rfl rfl ?_
            refine j_iconst (v := 1) dX8_isWalkCounted_96 (by decide) ?_
            refine j_iadd dX8_isWalkCounted_97 ?_
            refine j_icmp_ne (tgt := 105) dX8_isWalkCounted_98 (by decide) (fun c_98 => ?_) (fun c_98 => ?_)
            · refine j_iconst (v := 0) dX8_isWalkCounted_105 (by decide) ?_
              refine j_lo (lo' := []) z_q0 ?_
              refine j_dropL (n := 51) rfl (Nat.le_of_ble_eq_true rfl) (Nat.le_of_ble_eq_true rfl) (Nat.le_of_ble_eq_true rfl) z_cwc rfl rfl ?_
              refine j_w (z_cw _ _ _ _ _ _ _ _ _ _ _ _ _ _ _ _ _ _ _ _ _ _ _ _ _ _ _ _ _ _ _ _ _ _ _ _ _ _ _ _ _ _ _ _ _ _ _ _ _ _ _ _ _ _ _ _ [], z_no) rfl ?_
              refine j_iret dX8_isWalkCounted_106 rfl rfl ?_ (Nat.le_of_ble_eq_true rfl) (Nat.le_of_ble_eq_true rfl)
              first | exact ⟨rfl, rfl, ⟨true, rfl⟩, _, _, _, rfl⟩ | exact ⟨rfl, rfl, ⟨false, rfl⟩, _, _, _, rfl⟩
            · refine j_iconst (v := 1) dX8_isWalkCounted_101 (by decide) ?_
              refine j_goto (tgt := 106) dX8_isWalkCounted_102 (by decide) ?_
              refine j_lo (lo' := []) z_q0 ?_
              refine j_dropL (n := 51) rfl (Nat.le_of_ble_eq_true rfl) (Nat.le_of_ble_eq_true rfl) (Nat.le_of_ble_eq_true rfl) z_cwc rfl rfl ?_
              refine j_w (z_cw _ _ _ _ _ _ _ _ _ _ _ _ _ _ _ _ _ _ _ _ _ _ _ _ _ _ _ _ _ _ _ _ _ _ _ _ _ _ _ _ _ _ _ _ _ _ _ _ _ _ _ _ _ _ _ _ [], z_no) rfl ?_
              refine j_iret dX8_isWalkCounted_106 rfl rfl ?_ (Nat.le_of_ble_eq_true rfl) (Nat.le_of_ble_eq_true rfl)
              first | exact ⟨rfl, rfl, ⟨true, rfl⟩, _, _, _, rfl⟩ | exact ⟨rfl, rfl, ⟨false, rfl⟩, _, _, _, rfl⟩
      · have hj : j < 1000 := z_ltZ 1000 rfl c_37 (by omega) (by decide)
        refine j_aload_n dX8_isWalkCounted_40 rfl rfl ?_
        refine j_callU (q := (RX2, TX2, 5)) dX8_isWalkCounted_41 kX7_ask cuX8_320_X2 rfl rfl (z_frame [51, 31, 32, 33, 34] rfl (by decide) (Nat.le_of_ble_eq_true rfl) (c_X7_ask_X2 hl _ _ _ _ _ _ _)) (Nat.le_of_ble_eq_true rfl) ⟨(Nat.le_of_ble_eq_true rfl), (Nat.le_of_ble_eq_true rfl)⟩ rfl (Nat.le_of_ble_eq_true rfl) rfl rfl (fun _ _ h => h.elim) ?_
        rintro _ _ ⟨_, _, ⟨⟨b, rfl⟩, _, rfl⟩, rfl, rfl⟩
        refine j_w (z_cw _ _ _ _ _ _ _ _ _ _ _ _ _ _ _ _ _ _ _ _ _ _ _ _ _ _ _ _ _ _ _ _ _ _ _ _ _ _ _ _ _ _ _ _ _ _ _ _ _ _ _ _ _ _ _ _ [.inr (7, [_, _, _, _, _])], z_no) rfl ?_
        refine j_if_eq (tgt := 58) dX8_isWalkCounted_44 (by decide) (fun c_44 => ?_) (fun c_44 => ?_)
        · refine j_aload_n dX8_isWalkCounted_58 rfl rfl ?_
          refine j_getf dX8_isWalkCounted_59 fX8_36 rfl rfl ?_
          refine j_getf dX8_isWalkCounted_62 fX8_214 rfl rfl ?_
          refine j_astore_n (lo' := [(3, _), (0, _), (1, _), (2, _)]) dX8_isWalkCounted_65 rfl (by decide) rfl ?_
          refine j_aload_n dX8_isWalkCounted_66 rfl rfl ?_
          refine j_iconst (v := 0) dX8_isWalkCounted_67 (by decide) ?_
          refine j_callV (q := (RX6, TX6, 1)) dX8_isWalkCounted_68 kX6_of lX8_218 inX6_of seX6_of rfl rfl (z_frame [33, 34] rfl (by decide) (Nat.le_of_ble_eq_true rfl) (c_X6_of hl _ _)) (Nat.le_of_ble_eq_true rfl) ⟨(Nat.le_of_ble_eq_true rfl), (Nat.le_of_ble_eq_true rfl)⟩ rfl (Nat.le_of_ble_eq_true rfl) rfl rfl (fun _ _ h => h.elim) ?_
          rintro _ _ ⟨_, _, ⟨_, rfl, rfl⟩, rfl, rfl⟩
          refine j_w (z_cw _ _ _ _ _ _ _ _ _ _ _ _ _ _ _ _ _ _ _ _ _ _ _ _ _ _ _ _ _ _ _ _ _ _ _ _ _ _ _ _ _ _ _ _ _ _ _ _ _ _ _ _ _ _ _ _ [.inr (7, [_, _, _, _, _])], z_no) rfl ?_
          refine j_iconst (v := 1) dX8_isWalkCounted_71 (by decide) ?_
          refine j_icmp_ne (tgt := 105) dX8_isWalkCounted_72 (by decide) (fun c_72 => ?_) (fun c_72 => ?_)
          · refine j_iconst (v := 0) dX8_isWalkCounted_105 (by decide) ?_
            refine j_lo (lo' := []) z_q0 ?_
            refine j_dropL (n := 51) rfl (Nat.le_of_ble_eq_true rfl) (Nat.le_of_ble_eq_true rfl) (Nat.le_of_ble_eq_true rfl) z_cwc rfl rfl ?_
            refine j_w (z_cw _ _ _ _ _ _ _ _ _ _ _ _ _ _ _ _ _ _ _ _ _ _ _ _ _ _ _ _ _ _ _ _ _ _ _ _ _ _ _ _ _ _ _ _ _ _ _ _ _ _ _ _ _ _ _ _ [], z_no) rfl ?_
            refine j_iret dX8_isWalkCounted_106 rfl rfl ?_ (Nat.le_of_ble_eq_true rfl) (Nat.le_of_ble_eq_true rfl)
            first | exact ⟨rfl, rfl, ⟨true, rfl⟩, _, _, _, rfl⟩ | exact ⟨rfl, rfl, ⟨false, rfl⟩, _, _, _, rfl⟩
          · refine j_aload_n dX8_isWalkCounted_75 rfl rfl ?_
            refine j_iconst (v := 2) dX8_isWalkCounted_76 (by decide) ?_
            refine j_callV (q := (RX6, TX6, 1)) dX8_isWalkCounted_77 kX6_of lX8_218 inX6_of seX6_of rfl rfl (z_frame [33, 34] rfl (by decide) (Nat.le_of_ble_eq_true rfl) (c_X6_of hl _ _)) (Nat.le_of_ble_eq_true rfl) ⟨(Nat.le_of_ble_eq_true rfl), (Nat.le_of_ble_eq_true rfl)⟩ rfl (Nat.le_of_ble_eq_true rfl) rfl rfl (fun _ _ h => h.elim) ?_
            rintro _ _ ⟨_, _, ⟨_, rfl, rfl⟩, rfl, rfl⟩
            refine j_w (z_cw _ _ _ _ _ _ _ _ _ _ _ _ _ _ _ _ _ _ _ _ _ _ _ _ _ _ _ _ _ _ _ _ _ _ _ _ _ _ _ _ _ _ _ _ _ _ _ _ _ _ _ _ _ _ _ _ [.inr (7, [_, _, _, _, _])], z_no) rfl ?_
            refine j_aload_n dX8_isWalkCounted_80 rfl rfl ?_
            refine j_getf dX8_isWalkCounted_81 fX8_68 rfl rfl ?_
            refine j_icmp_ne (tgt := 105) dX8_isWalkCounted_84 (by decide) (fun c_84 => ?_) (fun c_84 => ?_)
            · refine j_iconst (v := 0) dX8_isWalkCounted_105 (by decide) ?_
              refine j_lo (lo' := []) z_q0 ?_
              refine j_dropL (n := 51) rfl (Nat.le_of_ble_eq_true rfl) (Nat.le_of_ble_eq_true rfl) (Nat.le_of_ble_eq_true rfl) z_cwc rfl rfl ?_
              refine j_w (z_cw _ _ _ _ _ _ _ _ _ _ _ _ _ _ _ _ _ _ _ _ _ _ _ _ _ _ _ _ _ _ _ _ _ _ _ _ _ _ _ _ _ _ _ _ _ _ _ _ _ _ _ _ _ _ _ _ [], z_no) rfl ?_
              refine j_iret dX8_isWalkCounted_106 rfl rfl ?_ (Nat.le_of_ble_eq_true rfl) (Nat.le_of_ble_eq_true rfl)
              first | exact ⟨rfl, rfl, ⟨true, rfl⟩, _, _, _, rfl⟩ | exact ⟨rfl, rfl, ⟨false, rfl⟩, _, _, _, rfl⟩
            · refine j_aload_n dX8_isWalkCounted_87 rfl rfl ?_
              refine j_iconst (v := 1) dX8_isWalkCounted_88 (by decide) ?_
              refine j_callV (q := (RX6, TX6, 1)) dX8_isWalkCounted_89 kX6_of lX8_218 inX6_of seX6_of rfl rfl (z_frame [33, 34] rfl (by decide) (Nat.le_of_ble_eq_true rfl) (c_X6_of hl _ _)) (Nat.le_of_ble_eq_true rfl) ⟨(Nat.le_of_ble_eq_true rfl), (Nat.le_of_ble_eq_true rfl)⟩ rfl (Nat.le_of_ble_eq_true rfl) rfl rfl (fun _ _ h => h.elim) ?_
              rintro _ _ ⟨_, _, ⟨_, rfl, rfl⟩, rfl, rfl⟩
              refine j_w (z_cw _ _ _ _ _ _ _ _ _ _ _ _ _ _ _ _ _ _ _ _ _ _ _ _ _ _ _ _ _ _ _ _ _ _ _ _ _ _ _ _ _ _ _ _ _ _ _ _ _ _ _ _ _ _ _ _ [.inr (7, [_, _, _, _, _])], z_no) rfl ?_
              refine j_aload_n dX8_isWalkCounted_92 rfl rfl ?_
              refine j_getf dX8_isWalkCounted_93 fX8_68 rfl rfl ?_
              refine j_iconst (v := 1) dX8_isWalkCounted_96 (by decide) ?_
              refine j_iadd dX8_isWalkCounted_97 ?_
              refine j_icmp_ne (tgt := 105) dX8_isWalkCounted_98 (by decide) (fun c_98 => ?_) (fun c_98 => ?_)
              · refine j_iconst (v := 0) dX8_isWalkCounted_105 (by decide) ?_
                refine j_lo (lo' := []) z_q0 ?_
                refine j_dropL (n := 51) rfl (Nat.le_of_ble_eq_true rfl) (Nat.le_of_ble_eq_true rfl) (Nat.le_of_ble_eq_true rfl) z_cwc rfl rfl ?_
                refine j_w (z_cw _ _ _ _ _ _ _ _ _ _ _ _ _ _ _ _ _ _ _ _ _ _ _ _ _ _ _ _ _ _ _ _ _ _ _ _ _ _ _ _ _ _ _ _ _ _ _ _ _ _ _ _ _ _ _ _ [], z_no) rfl ?_
                refine j_iret dX8_isWalkCounted_106 rfl rfl ?_ (Nat.le_of_ble_eq_true rfl) (Nat.le_of_ble_eq_true rfl)
                first | exact ⟨rfl, rfl, ⟨true, rfl⟩, _, _, _, rfl⟩ | exact ⟨rfl, rfl, ⟨false, rfl⟩, _, _, _, rfl⟩
              · refine j_iconst (v := 1) dX8_isWalkCounted_101 (by decide) ?_
                refine j_goto (tgt := 106) dX8_isWalkCounted_102 (by decide) ?_
                refine j_lo (lo' := []) z_q0 ?_
                refine j_dropL (n := 51) rfl (Nat.le_of_ble_eq_true rfl) (Nat.le_of_ble_eq_true rfl) (Nat.le_of_ble_eq_true rfl) z_cwc rfl rfl ?_
                refine j_w (z_cw _ _ _ _ _ _ _ _ _ _ _ _ _ _ _ _ _ _ _ _ _ _ _ _ _ _ _ _ _ _ _ _ _ _ _ _ _ _ _ _ _ _ _ _ _ _ _ _ _ _ _ _ _ _ _ _ [], z_no) rfl ?_
                refine j_iret dX8_isWalkCounted_106 rfl rfl ?_ (Nat.le_of_ble_eq_true rfl) (Nat.le_of_ble_eq_true rfl)
                first | exact ⟨rfl, rfl, ⟨true, rfl⟩, _, _, _, rfl⟩ | exact ⟨rfl, rfl, ⟨false, rfl⟩, _, _, _, rfl⟩
        · refine j_aload_n dX8_isWalkCounted_47 rfl rfl ?_
          refine j_callU (q := (RX2, TX2, 5)) dX8_isWalkCounted_48 kX7_give cuX8_315_X2 rfl rfl (z_frame [51, 31, 32, 33, 34] rfl (by decide) (Nat.le_of_ble_eq_true rfl) (c_X7_give_X2 hl _ _ _ _ _ _ _)) (Nat.le_of_ble_eq_true rfl) ⟨(Nat.le_of_ble_eq_true rfl), (Nat.le_of_ble_eq_true rfl)⟩ rfl (Nat.le_of_ble_eq_true rfl) rfl rfl (fun _ _ h => h.elim) ?_
          rintro _ _ ⟨_, _, ⟨_, rfl, _, _, _, _, rfl⟩, rfl, rfl⟩
          refine j_w (z_cw _ _ _ _ _ _ _ _ _ _ _ _ _ _ _ _ _ _ _ _ _ _ _ _ _ _ _ _ _ _ _ _ _ _ _ _ _ _ _ _ _ _ _ _ _ _ _ _ _ _ _ _ _ _ _ _ [.inr (7, [_, _, _, _, _])], z_no) rfl ?_
          refine j_pop dX8_isWalkCounted_51 rfl ?_
          refine j_iinc (lo' := [(3, _), (0, _), (1, _), (2, _)]) dX8_isWalkCounted_52 rfl (z_inc _) (by decide) rfl ?_
          refine j_goto (tgt := 33) dX8_isWalkCounted_55 (by decide) ?_
          exact j_lo2 (ih (j + 1) _ _ _ _ _ _ (by omega) (by omega) ) (z_q1 rfl (z_q1 rfl (z_q1 rfl (z_q1 rfl z_q0))))
  exact j_lo2 (loop (1000 + 1) 0 _ _ _ _ _ _ (by omega) (by omega) ) (z_q1 rfl (z_q1 rfl (z_q1 rfl (z_q1 rfl z_q0))))
set_option maxRecDepth 100000 in
set_option maxHeartbeats 8000000 in
theorem c_X8_isTakingPlain_6 (hl : l.stackTraces = false) (rf : Int32) (kn : Int32) (ma : Int32) (xa : Bool) (fa : Nat → Int32) (ca : Nat → Int32) (mb : Int32) (xb : Bool) (fb : Nat → Int32) (cb : Nat → Int32) (mt : Int32) (xt : Bool) (ft : Nat → Int32) (ct : Nat → Int32) (f0 : Nat → Int32) (g0 : Nat → Int32) (c0 : Nat → Int32) (m0 : Int32) (s0 : Int32) (f1 : Nat → Int32) (g1 : Nat → Int32) (c1 : Nat → Int32) (m1 : Int32) (s1 : Int32) (f2 : Nat → Int32) (g2 : Nat → Int32) (c2 : Nat → Int32) (m2 : Int32) (s2 : Int32) (f3 : Nat → Int32) (g3 : Nat → Int32) (c3 : Nat → Int32) (m3 : Int32) (s3 : Int32) (f4 : Nat → Int32) (g4 : Nat → Int32) (c4 : Nat → Int32) (m4 : Int32) (s4 : Int32) (f5 : Nat → Int32) (g5 : Nat → Int32) (c5 : Nat → Int32) (m5 : Int32) (s5 : Int32) (ek0 : Int32) (em0 : Int32) (es0 : Int32) (el0 : Int32) (b0 : Int32) (ef0 : Nat → Int32) (ek1 : Int32) (em1 : Int32) (es1 : Int32) (el1 : Int32) (b1 : Int32) (ef1 : Nat → Int32) : z_CF G l mX8_isTakingPlain 17 5 25 (z_cw rf kn ma xa fa ca mb xb fb cb mt xt ft ct f0 g0 c0 m0 s0 f1 g1 c1 m1 s1 f2 g2 c2 m2 s2 f3 g3 c3 m3 s3 f4 g4 c4 m4 s4 f5 g5 c5 m5 s5 ek0 em0 es0 el0 b0 ef0 ek1 em1 es1 el1 b1 ef1 []) [.ref 0, .ref 6] (fun v L => (∃ b : Bool, v = some (.int (z_bi b))) ∧ ∃ (mt' : Int32) (ft' ct' : Nat → Int32), L = (z_cw rf kn ma xa fa ca mb xb fb cb mt' xt ft' ct' f0 g0 c0 m0 s0 f1 g1 c1 m1 s1 f2 g2 c2 m2 s2 f3 g3 c3 m3 s3 f4 g4 c4 m4 s4 f5 g5 c5 m5 s5 ek0 em0 es0 el0 b0 ef0 ek1 em1 es1 el1 b1 ef1 [])) := by
  refine z_body hl (by decide) rfl (Nat.le_of_ble_eq_true rfl) ?_
  show z_J G l mX8_isTakingPlain (z_SF 17 5 25 (z_cw rf kn ma xa fa ca mb xb fb cb mt xt ft ct f0 g0 c0 m0 s0 f1 g1 c1 m1 s1 f2 g2 c2 m2 s2 f3 g3 c3 m3 s3 f4 g4 c4 m4 s4 f5 g5 c5 m5 s5 ek0 em0 es0 el0 b0 ef0 ek1 em1 es1 el1 b1 ef1 []) (fun v L => (∃ b : Bool, v = some (.int (z_bi b))) ∧ ∃ (mt' : Int32) (ft' ct' : Nat → Int32), L = (z_cw rf kn ma xa fa ca mb xb fb cb mt' xt ft' ct' f0 g0 c0 m0 s0 f1 g1 c1 m1 s1 f2 g2 c2 m2 s2 f3 g3 c3 m3 s3 f4 g4 c4 m4 s4 f5 g5 c5 m5 s5 ek0 em0 es0 el0 b0 ef0 ek1 em1 es1 el1 b1 ef1 []))) 0 [(0, _), (1, _)] [] _ 0 0
  refine j_iconst (v := 0) dX8_isTakingPlain_0 (by decide) ?_
  refine j_istore_n (lo' := [(2, _), (0, _), (1, _)]) dX8_isTakingPlain_1 (by decide) rfl ?_
  refine j_iload_n dX8_isTakingPlain_2 rfl ?_
  refine j_iconst (v := 4) dX8_isTakingPlain_3 (by decide) ?_
  refine j_icmp_gt (tgt := 52) dX8_isTakingPlain_4 (by decide) (fun c_4 => ?_) (fun c_4 => ?_)
  · exact absurd c_4 (by decide)
  · refine j_aload_n dX8_isTakingPlain_7 rfl rfl ?_
    refine j_getf dX8_isTakingPlain_8 fX8_36 rfl rfl ?_
    refine j_aload_n dX8_isTakingPlain_11 rfl rfl ?_
    refine j_callV (q := (RX1, TX1, 4)) dX8_isTakingPlain_12 kX1_become lX8_123 inX1_become seX1_become rfl rfl (z_frame [31, 32, 33, 34, 6, 7, 8, 9] rfl (by decide) (Nat.le_of_ble_eq_true rfl) (c_X1_become hl _ _ _ _ _ _ _ _)) (Nat.le_of_ble_eq_true rfl) ⟨(Nat.le_of_ble_eq_true rfl), (Nat.le_of_ble_eq_true rfl)⟩ rfl (Nat.le_of_ble_eq_true rfl) rfl rfl (fun _ _ h => h.elim) ?_
    rintro _ _ ⟨_, _, ⟨rfl, _, rfl⟩, rfl, rfl⟩
    refine j_w (z_cw _ _ _ _ _ _ _ _ _ _ _ _ _ _ _ _ _ _ _ _ _ _ _ _ _ _ _ _ _ _ _ _ _ _ _ _ _ _ _ _ _ _ _ _ _ _ _ _ _ _ _ _ _ _ _ _ [], z_no) rfl ?_
    refine j_new (w' := (z_cw _ _ _ _ _ _ _ _ _ _ _ _ _ _ _ _ _ _ _ _ _ _ _ _ _ _ _ _ _ _ _ _ _ _ _ _ _ _ _ _ _ _ _ _ _ _ _ _ _ _ _ _ _ _ _ _ [.inr (7, [_, _, _, _, _])], z_no)) (n := 51) dX8_isTakingPlain_15 nX8_91 rfl (z_al_l rfl rfl) (Nat.le_of_ble_eq_true rfl) (Nat.le_of_ble_eq_true rfl) ?_
    refine j_dup dX8_isTakingPlain_18 rfl ?_
    refine j_aload_n dX8_isTakingPlain_19 rfl rfl ?_
    refine j_getf dX8_isTakingPlain_20 fX8_36 rfl rfl ?_
    refine j_callI dX8_isTakingPlain_23 kX2_init rfl lX8_93 inX2_init rfl (z_frame [51, 31, 32, 33, 34] rfl (by decide) (Nat.le_of_ble_eq_true rfl) (c_X2_init hl _ _ _ _)) (Nat.le_of_ble_eq_true rfl) ⟨(Nat.le_of_ble_eq_true rfl), (Nat.le_of_ble_eq_true rfl)⟩ rfl (Nat.le_of_ble_eq_true rfl) rfl rfl (fun _ _ h => h.elim) ?_
    rintro _ _ ⟨_, _, ⟨rfl, _, rfl⟩, rfl, rfl⟩
    refine j_w (z_cw _ _ _ _ _ _ _ _ _ _ _ _ _ _ _ _ _ _ _ _ _ _ _ _ _ _ _ _ _ _ _ _ _ _ _ _ _ _ _ _ _ _ _ _ _ _ _ _ _ _ _ _ _ _ _ _ [.inr (7, [_, _, _, _, _])], z_no) rfl ?_
    refine j_iload_n dX8_isTakingPlain_26 rfl ?_
    refine j_iconst (v := 0) dX8_isTakingPlain_27 (by decide) ?_
    refine j_callS dX8_isTakingPlain_28 kX8_takeEach lX8_108 stX8_takeEach (z_frame [51, 31, 32, 33, 34] rfl (by decide) (Nat.le_of_ble_eq_true rfl) (c_X8_takeEach hl _ _ _ _ _ _ _ _ _)) (Nat.le_of_ble_eq_true rfl) ⟨(Nat.le_of_ble_eq_true rfl), (Nat.le_of_ble_eq_true rfl)⟩ rfl (Nat.le_of_ble_eq_true rfl) rfl rfl (fun _ _ h => h.elim) ?_
    rintro _ _ ⟨_, _, ⟨⟨_, rfl⟩, _, _, _, _, _, _, rfl⟩, rfl, rfl⟩
    refine j_w (z_cw _ _ _ _ _ _ _ _ _ _ _ _ _ _ _ _ _ _ _ _ _ _ _ _ _ _ _ _ _ _ _ _ _ _ _ _ _ _ _ _ _ _ _ _ _ _ _ _ _ _ _ _ _ _ _ _ [.inr (7, [_, _, _, _, _])], z_no) rfl ?_
    refine j_pop dX8_isTakingPlain_31 rfl ?_
    refine j_dropL (n := 51) rfl (Nat.le_of_ble_eq_true rfl) (Nat.le_of_ble_eq_true rfl) (Nat.le_of_ble_eq_true rfl) z_cwc rfl rfl ?_
    refine j_w (z_cw _ _ _ _ _ _ _ _ _ _ _ _ _ _ _ _ _ _ _ _ _ _ _ _ _ _ _ _ _ _ _ _ _ _ _ _ _ _ _ _ _ _ _ _ _ _ _ _ _ _ _ _ _ _ _ _ [], z_no) rfl ?_
    refine j_aload_n dX8_isTakingPlain_32 rfl rfl ?_
    refine j_getf dX8_isTakingPlain_33 fX8_36 rfl rfl ?_
    refine j_aload_n dX8_isTakingPlain_36 rfl rfl ?_
    refine j_iload_n dX8_isTakingPlain_37 rfl ?_
    refine j_callS dX8_isTakingPlain_38 kX8_isWhatIsLeft lX8_340 stX8_isWhatIsLeft (z_frame [31, 32, 33, 34, 6, 7, 8, 9] rfl (by decide) (Nat.le_of_ble_eq_true rfl) (c_X8_isWhatIsLeft hl _ _ _ _ _ _ _ _ _)) (Nat.le_of_ble_eq_true rfl) ⟨(Nat.le_of_ble_eq_true rfl), (Nat.le_of_ble_eq_true rfl)⟩ rfl (Nat.le_of_ble_eq_true rfl) rfl rfl (fun _ _ h => h.elim) ?_
    rintro _ _ ⟨_, _, ⟨⟨b, rfl⟩, rfl⟩, rfl, rfl⟩
    refine j_w (z_cw _ _ _ _ _ _ _ _ _ _ _ _ _ _ _ _ _ _ _ _ _ _ _ _ _ _ _ _ _ _ _ _ _ _ _ _ _ _ _ _ _ _ _ _ _ _ _ _ _ _ _ _ _ _ _ _ [], z_no) rfl ?_
    refine j_if_ne (tgt := 46) dX8_isTakingPlain_41 (by decide) (fun c_41 => ?_) (fun c_41 => ?_)
    · refine j_iinc (lo' := [(2, _), (0, _), (1, _)]) dX8_isTakingPlain_46 rfl rfl (by decide) rfl ?_
      refine j_goto (tgt := 2) dX8_isTakingPlain_49 (by decide) ?_
      refine j_iload_n dX8_isTakingPlain_2 rfl ?_
      refine j_iconst (v := 4) dX8_isTakingPlain_3 (by decide) ?_
      refine j_icmp_gt (tgt := 52) dX8_isTakingPlain_4 (by decide) (fun c_4 => ?_) (fun c_4 => ?_)
      · exact absurd c_4 (by decide)
      · refine j_aload_n dX8_isTakingPlain_7 rfl rfl ?_
        refine j_getf dX8_isTakingPlain_8 fX8_36 rfl rfl ?_
        refine j_aload_n dX8_isTakingPlain_11 rfl rfl ?_
        refine j_callV (q := (RX1, TX1, 4)) dX8_isTakingPlain_12 kX1_become lX8_123 inX1_become seX1_become rfl rfl (z_frame [31, 32, 33, 34, 6, 7, 8, 9] rfl (by decide) (Nat.le_of_ble_eq_true rfl) (c_X1_become hl _ _ _ _ _ _ _ _)) (Nat.le_of_ble_eq_true rfl) ⟨(Nat.le_of_ble_eq_true rfl), (Nat.le_of_ble_eq_true rfl)⟩ rfl (Nat.le_of_ble_eq_true rfl) rfl rfl (fun _ _ h => h.elim) ?_
        rintro _ _ ⟨_, _, ⟨rfl, _, rfl⟩, rfl, rfl⟩
        refine j_w (z_cw _ _ _ _ _ _ _ _ _ _ _ _ _ _ _ _ _ _ _ _ _ _ _ _ _ _ _ _ _ _ _ _ _ _ _ _ _ _ _ _ _ _ _ _ _ _ _ _ _ _ _ _ _ _ _ _ [], z_no) rfl ?_
        refine j_new (w' := (z_cw _ _ _ _ _ _ _ _ _ _ _ _ _ _ _ _ _ _ _ _ _ _ _ _ _ _ _ _ _ _ _ _ _ _ _ _ _ _ _ _ _ _ _ _ _ _ _ _ _ _ _ _ _ _ _ _ [.inr (7, [_, _, _, _, _])], z_no)) (n := 51) dX8_isTakingPlain_15 nX8_91 rfl (z_al_l rfl rfl) (Nat.le_of_ble_eq_true rfl) (Nat.le_of_ble_eq_true rfl) ?_
        refine j_dup dX8_isTakingPlain_18 rfl ?_
        refine j_aload_n dX8_isTakingPlain_19 rfl rfl ?_
        refine j_getf dX8_isTakingPlain_20 fX8_36 rfl rfl ?_
        refine j_callI dX8_isTakingPlain_23 kX2_init rfl lX8_93 inX2_init rfl (z_frame [51, 31, 32, 33, 34] rfl (by decide) (Nat.le_of_ble_eq_true rfl) (c_X2_init hl _ _ _ _)) (Nat.le_of_ble_eq_true rfl) ⟨(Nat.le_of_ble_eq_true rfl), (Nat.le_of_ble_eq_true rfl)⟩ rfl (Nat.le_of_ble_eq_true rfl) rfl rfl (fun _ _ h => h.elim) ?_
        rintro _ _ ⟨_, _, ⟨rfl, _, rfl⟩, rfl, rfl⟩
        refine j_w (z_cw _ _ _ _ _ _ _ _ _ _ _ _ _ _ _ _ _ _ _ _ _ _ _ _ _ _ _ _ _ _ _ _ _ _ _ _ _ _ _ _ _ _ _ _ _ _ _ _ _ _ _ _ _ _ _ _ [.inr (7, [_, _, _, _, _])], z_no) rfl ?_
        refine j_iload_n dX8_isTakingPlain_26 rfl ?_
        refine j_iconst (v := 0) dX8_isTakingPlain_27 (by decide) ?_
        refine j_callS dX8_isTakingPlain_28 kX8_takeEach lX8_108 stX8_takeEach (z_frame [51, 31, 32, 33, 34] rfl (by decide) (Nat.le_of_ble_eq_true rfl) (c_X8_takeEach hl _ _ _ _ _ _ _ _ _)) (Nat.le_of_ble_eq_true rfl) ⟨(Nat.le_of_ble_eq_true rfl), (Nat.le_of_ble_eq_true rfl)⟩ rfl (Nat.le_of_ble_eq_true rfl) rfl rfl (fun _ _ h => h.elim) ?_
        rintro _ _ ⟨_, _, ⟨⟨_, rfl⟩, _, _, _, _, _, _, rfl⟩, rfl, rfl⟩
        refine j_w (z_cw _ _ _ _ _ _ _ _ _ _ _ _ _ _ _ _ _ _ _ _ _ _ _ _ _ _ _ _ _ _ _ _ _ _ _ _ _ _ _ _ _ _ _ _ _ _ _ _ _ _ _ _ _ _ _ _ [.inr (7, [_, _, _, _, _])], z_no) rfl ?_
        refine j_pop dX8_isTakingPlain_31 rfl ?_
        refine j_dropL (n := 51) rfl (Nat.le_of_ble_eq_true rfl) (Nat.le_of_ble_eq_true rfl) (Nat.le_of_ble_eq_true rfl) z_cwc rfl rfl ?_
        refine j_w (z_cw _ _ _ _ _ _ _ _ _ _ _ _ _ _ _ _ _ _ _ _ _ _ _ _ _ _ _ _ _ _ _ _ _ _ _ _ _ _ _ _ _ _ _ _ _ _ _ _ _ _ _ _ _ _ _ _ [], z_no) rfl ?_
        refine j_aload_n dX8_isTakingPlain_32 rfl rfl ?_
        refine j_getf dX8_isTakingPlain_33 fX8_36 rfl rfl ?_
        refine j_aload_n dX8_isTakingPlain_36 rfl rfl ?_
        refine j_iload_n dX8_isTakingPlain_37 rfl ?_
        refine j_callS dX8_isTakingPlain_38 kX8_isWhatIsLeft lX8_340 stX8_isWhatIsLeft (z_frame [31, 32, 33, 34, 6, 7, 8, 9] rfl (by decide) (Nat.le_of_ble_eq_true rfl) (c_X8_isWhatIsLeft hl _ _ _ _ _ _ _ _ _)) (Nat.le_of_ble_eq_true rfl) ⟨(Nat.le_of_ble_eq_true rfl), (Nat.le_of_ble_eq_true rfl)⟩ rfl (Nat.le_of_ble_eq_true rfl) rfl rfl (fun _ _ h => h.elim) ?_
        rintro _ _ ⟨_, _, ⟨⟨b, rfl⟩, rfl⟩, rfl, rfl⟩
        refine j_w (z_cw _ _ _ _ _ _ _ _ _ _ _ _ _ _ _ _ _ _ _ _ _ _ _ _ _ _ _ _ _ _ _ _ _ _ _ _ _ _ _ _ _ _ _ _ _ _ _ _ _ _ _ _ _ _ _ _ [], z_no) rfl ?_
        refine j_if_ne (tgt := 46) dX8_isTakingPlain_41 (by decide) (fun c_41 => ?_) (fun c_41 => ?_)
        · refine j_iinc (lo' := [(2, _), (0, _), (1, _)]) dX8_isTakingPlain_46 rfl rfl (by decide) rfl ?_
          refine j_goto (tgt := 2) dX8_isTakingPlain_49 (by decide) ?_
          refine j_iload_n dX8_isTakingPlain_2 rfl ?_
          refine j_iconst (v := 4) dX8_isTakingPlain_3 (by decide) ?_
          refine j_icmp_gt (tgt := 52) dX8_isTakingPlain_4 (by decide) (fun c_4 => ?_) (fun c_4 => ?_)
          · exact absurd c_4 (by decide)
          · refine j_aload_n dX8_isTakingPlain_7 rfl rfl ?_
            refine j_getf dX8_isTakingPlain_8 fX8_36 rfl rfl ?_
            refine j_aload_n dX8_isTakingPlain_11 rfl rfl ?_
            refine j_callV (q := (RX1, TX1, 4)) dX8_isTakingPlain_12 kX1_become lX8_123 inX1_become seX1_become rfl rfl (z_frame [31, 32, 33, 34, 6, 7, 8, 9] rfl (by decide) (Nat.le_of_ble_eq_true rfl) (c_X1_become hl _ _ _ _ _ _ _ _)) (Nat.le_of_ble_eq_true rfl) ⟨(Nat.le_of_ble_eq_true rfl), (Nat.le_of_ble_eq_true rfl)⟩ rfl (Nat.le_of_ble_eq_true rfl) rfl rfl (fun _ _ h => h.elim) ?_
            rintro _ _ ⟨_, _, ⟨rfl, _, rfl⟩, rfl, rfl⟩
            refine j_w (z_cw _ _ _ _ _ _ _ _ _ _ _ _ _ _ _ _ _ _ _ _ _ _ _ _ _ _ _ _ _ _ _ _ _ _ _ _ _ _ _ _ _ _ _ _ _ _ _ _ _ _ _ _ _ _ _ _ [], z_no) rfl ?_
            refine j_new (w' := (z_cw _ _ _ _ _ _ _ _ _ _ _ _ _ _ _ _ _ _ _ _ _ _ _ _ _ _ _ _ _ _ _ _ _ _ _ _ _ _ _ _ _ _ _ _ _ _ _ _ _ _ _ _ _ _ _ _ [.inr (7, [_, _, _, _, _])], z_no)) (n := 51) dX8_isTakingPlain_15 nX8_91 rfl (z_al_l rfl rfl) (Nat.le_of_ble_eq_true rfl) (Nat.le_of_ble_eq_true rfl) ?_
            refine j_dup dX8_isTakingPlain_18 rfl ?_
            refine j_aload_n dX8_isTakingPlain_19 rfl rfl ?_
            refine j_getf dX8_isTakingPlain_20 fX8_36 rfl rfl ?_
            refine j_callI dX8_isTakingPlain_23 kX2_init rfl lX8_93 inX2_init rfl (z_frame [51, 31, 32, 33, 34] rfl (by decide) (Nat.le_of_ble_eq_true rfl) (c_X2_init hl _ _ _ _)) (Nat.le_of_ble_eq_true rfl) ⟨(Nat.le_of_ble_eq_true rfl), (Nat.le_of_ble_eq_true rfl)⟩ rfl (Nat.le_of_ble_eq_true rfl) rfl rfl (fun _ _ h => h.elim) ?_
            rintro _ _ ⟨_, _, ⟨rfl, _, rfl⟩, rfl, rfl⟩
            refine j_w (z_cw _ _ _ _ _ _ _ _ _ _ _ _ _ _ _ _ _ _ _ _ _ _ _ _ _ _ _ _ _ _ _ _ _ _ _ _ _ _ _ _ _ _ _ _ _ _ _ _ _ _ _ _ _ _ _ _ [.inr (7, [_, _, _, _, _])], z_no) rfl ?_
            refine j_iload_n dX8_isTakingPlain_26 rfl ?_
            refine j_iconst (v := 0) dX8_isTakingPlain_27 (by decide) ?_
            refine j_callS dX8_isTakingPlain_28 kX8_takeEach lX8_108 stX8_takeEach (z_frame [51, 31, 32, 33, 34] rfl (by decide) (Nat.le_of_ble_eq_true rfl) (c_X8_takeEach hl _ _ _ _ _ _ _ _ _)) (Nat.le_of_ble_eq_true rfl) ⟨(Nat.le_of_ble_eq_true rfl), (Nat.le_of_ble_eq_true rfl)⟩ rfl (Nat.le_of_ble_eq_true rfl) rfl rfl (fun _ _ h => h.elim) ?_
            rintro _ _ ⟨_, _, ⟨⟨_, rfl⟩, _, _, _, _, _, _, rfl⟩, rfl, rfl⟩
            refine j_w (z_cw _ _ _ _ _ _ _ _ _ _ _ _ _ _ _ _ _ _ _ _ _ _ _ _ _ _ _ _ _ _ _ _ _ _ _ _ _ _ _ _ _ _ _ _ _ _ _ _ _ _ _ _ _ _ _ _ [.inr (7, [_, _, _, _, _])], z_no) rfl ?_
            refine j_pop dX8_isTakingPlain_31 rfl ?_
            refine j_dropL (n := 51) rfl (Nat.le_of_ble_eq_true rfl) (Nat.le_of_ble_eq_true rfl) (Nat.le_of_ble_eq_true rfl) z_cwc rfl rfl ?_
            refine j_w (z_cw _ _ _ _ _ _ _ _ _ _ _ _ _ _ _ _ _ _ _ _ _ _ _ _ _ _ _ _ _ _ _ _ _ _ _ _ _ _ _ _ _ _ _ _ _ _ _ _ _ _ _ _ _ _ _ _ [], z_no) rfl ?_
            refine j_aload_n dX8_isTakingPlain_32 rfl rfl ?_
            refine j_getf dX8_isTakingPlain_33 fX8_36 rfl rfl ?_
            refine j_aload_n dX8_isTakingPlain_36 rfl rfl ?_
            refine j_iload_n dX8_isTakingPlain_37 rfl ?_
            refine j_callS dX8_isTakingPlain_38 kX8_isWhatIsLeft lX8_340 stX8_isWhatIsLeft (z_frame [31, 32, 33, 34, 6, 7, 8, 9] rfl (by decide) (Nat.le_of_ble_eq_true rfl) (c_X8_isWhatIsLeft hl _ _ _ _ _ _ _ _ _)) (Nat.le_of_ble_eq_true rfl) ⟨(Nat.le_of_ble_eq_true rfl), (Nat.le_of_ble_eq_true rfl)⟩ rfl (Nat.le_of_ble_eq_true rfl) rfl rfl (fun _ _ h => h.elim) ?_
            rintro _ _ ⟨_, _, ⟨⟨b, rfl⟩, rfl⟩, rfl, rfl⟩
            refine j_w (z_cw _ _ _ _ _ _ _ _ _ _ _ _ _ _ _ _ _ _ _ _ _ _ _ _ _ _ _ _ _ _ _ _ _ _ _ _ _ _ _ _ _ _ _ _ _ _ _ _ _ _ _ _ _ _ _ _ [], z_no) rfl ?_
            refine j_if_ne (tgt := 46) dX8_isTakingPlain_41 (by decide) (fun c_41 => ?_) (fun c_41 => ?_)
            · refine j_iinc (lo' := [(2, _), (0, _), (1, _)]) dX8_isTakingPlain_46 rfl rfl (by decide) rfl ?_
              refine j_goto (tgt := 2) dX8_isTakingPlain_49 (by decide) ?_
              refine j_iload_n dX8_isTakingPlain_2 rfl ?_
              refine j_iconst (v := 4) dX8_isTakingPlain_3 (by decide) ?_
              refine j_icmp_gt (tgt := 52) dX8_isTakingPlain_4 (by decide) (fun c_4 => ?_) (fun c_4 => ?_)
              · exact absurd c_4 (by decide)
              · refine j_aload_n dX8_isTakingPlain_7 rfl rfl ?_
                refine j_getf dX8_isTakingPlain_8 fX8_36 rfl rfl ?_
                refine j_aload_n dX8_isTakingPlain_11 rfl rfl ?_
                refine j_callV (q := (RX1, TX1, 4)) dX8_isTakingPlain_12 kX1_become lX8_123 inX1_become seX1_become rfl rfl (z_frame [31, 32, 33, 34, 6, 7, 8, 9] rfl (by decide) (Nat.le_of_ble_eq_true rfl) (c_X1_become hl _ _ _ _ _ _ _ _)) (Nat.le_of_ble_eq_true rfl) ⟨(Nat.le_of_ble_eq_true rfl), (Nat.le_of_ble_eq_true rfl)⟩ rfl (Nat.le_of_ble_eq_true rfl) rfl rfl (fun _ _ h => h.elim) ?_
                rintro _ _ ⟨_, _, ⟨rfl, _, rfl⟩, rfl, rfl⟩
                refine j_w (z_cw _ _ _ _ _ _ _ _ _ _ _ _ _ _ _ _ _ _ _ _ _ _ _ _ _ _ _ _ _ _ _ _ _ _ _ _ _ _ _ _ _ _ _ _ _ _ _ _ _ _ _ _ _ _ _ _ [], z_no) rfl ?_
                refine j_new (w' := (z_cw _ _ _ _ _ _ _ _ _ _ _ _ _ _ _ _ _ _ _ _ _ _ _ _ _ _ _ _ _ _ _ _ _ _ _ _ _ _ _ _ _ _ _ _ _ _ _ _ _ _ _ _ _ _ _ _ [.inr (7, [_, _, _, _, _])], z_no)) (n := 51) dX8_isTakingPlain_15 nX8_91 rfl (z_al_l rfl rfl) (Nat.le_of_ble_eq_true rfl) (Nat.le_of_ble_eq_true rfl) ?_
                refine j_dup dX8_isTakingPlain_18 rfl ?_
                refine j_aload_n dX8_isTakingPlain_19 rfl rfl ?_
                refine j_getf dX8_isTakingPlain_20 fX8_36 rfl rfl ?_
                refine j_callI dX8_isTakingPlain_23 kX2_init rfl lX8_93 inX2_init rfl (z_frame [51, 31, 32, 33, 34] rfl (by decide) (Nat.le_of_ble_eq_true rfl) (c_X2_init hl _ _ _ _)) (Nat.le_of_ble_eq_true rfl) ⟨(Nat.le_of_ble_eq_true rfl), (Nat.le_of_ble_eq_true rfl)⟩ rfl (Nat.le_of_ble_eq_true rfl) rfl rfl (fun _ _ h => h.elim) ?_
                rintro _ _ ⟨_, _, ⟨rfl, _, rfl⟩, rfl, rfl⟩
                refine j_w (z_cw _ _ _ _ _ _ _ _ _ _ _ _ _ _ _ _ _ _ _ _ _ _ _ _ _ _ _ _ _ _ _ _ _ _ _ _ _ _ _ _ _ _ _ _ _ _ _ _ _ _ _ _ _ _ _ _ [.inr (7, [_, _, _, _, _])], z_no) rfl ?_
                refine j_iload_n dX8_isTakingPlain_26 rfl ?_
                refine j_iconst (v := 0) dX8_isTakingPlain_27 (by decide) ?_
                refine j_callS dX8_isTakingPlain_28 kX8_takeEach lX8_108 stX8_takeEach (z_frame [51, 31, 32, 33, 34] rfl (by decide) (Nat.le_of_ble_eq_true rfl) (c_X8_takeEach hl _ _ _ _ _ _ _ _ _)) (Nat.le_of_ble_eq_true rfl) ⟨(Nat.le_of_ble_eq_true rfl), (Nat.le_of_ble_eq_true rfl)⟩ rfl (Nat.le_of_ble_eq_true rfl) rfl rfl (fun _ _ h => h.elim) ?_
                rintro _ _ ⟨_, _, ⟨⟨_, rfl⟩, _, _, _, _, _, _, rfl⟩, rfl, rfl⟩
                refine j_w (z_cw _ _ _ _ _ _ _ _ _ _ _ _ _ _ _ _ _ _ _ _ _ _ _ _ _ _ _ _ _ _ _ _ _ _ _ _ _ _ _ _ _ _ _ _ _ _ _ _ _ _ _ _ _ _ _ _ [.inr (7, [_, _, _, _, _])], z_no) rfl ?_
                refine j_pop dX8_isTakingPlain_31 rfl ?_
                refine j_dropL (n := 51) rfl (Nat.le_of_ble_eq_true rfl) (Nat.le_of_ble_eq_true rfl) (Nat.le_of_ble_eq_true rfl) z_cwc rfl rfl ?_
                refine j_w (z_cw _ _ _ _ _ _ _ _ _ _ _ _ _ _ _ _ _ _ _ _ _ _ _ _ _ _ _ _ _ _ _ _ _ _ _ _ _ _ _ _ _ _ _ _ _ _ _ _ _ _ _ _ _ _ _ _ [], z_no) rfl ?_
                refine j_aload_n dX8_isTakingPlain_32 rfl rfl ?_
                refine j_getf dX8_isTakingPlain_33 fX8_36 rfl rfl ?_
                refine j_aload_n dX8_isTakingPlain_36 rfl rfl ?_
                refine j_iload_n dX8_isTakingPlain_37 rfl ?_
                refine j_callS dX8_isTakingPlain_38 kX8_isWhatIsLeft lX8_340 stX8_isWhatIsLeft (z_frame [31, 32, 33, 34, 6, 7, 8, 9] rfl (by decide) (Nat.le_of_ble_eq_true rfl) (c_X8_isWhatIsLeft hl _ _ _ _ _ _ _ _ _)) (Nat.le_of_ble_eq_true rfl) ⟨(Nat.le_of_ble_eq_true rfl), (Nat.le_of_ble_eq_true rfl)⟩ rfl (Nat.le_of_ble_eq_true rfl) rfl rfl (fun _ _ h => h.elim) ?_
                rintro _ _ ⟨_, _, ⟨⟨b, rfl⟩, rfl⟩, rfl, rfl⟩
                refine j_w (z_cw _ _ _ _ _ _ _ _ _ _ _ _ _ _ _ _ _ _ _ _ _ _ _ _ _ _ _ _ _ _ _ _ _ _ _ _ _ _ _ _ _ _ _ _ _ _ _ _ _ _ _ _ _ _ _ _ [], z_no) rfl ?_
                refine j_if_ne (tgt := 46) dX8_isTakingPlain_41 (by decide) (fun c_41 => ?_) (fun c_41 => ?_)
                · refine j_iinc (lo' := [(2, _), (0, _), (1, _)]) dX8_isTakingPlain_46 rfl rfl (by decide) rfl ?_
                  refine j_goto (tgt := 2) dX8_isTakingPlain_49 (by decide) ?_
                  refine j_iload_n dX8_isTakingPlain_2 rfl ?_
                  refine j_iconst (v := 4) dX8_isTakingPlain_3 (by decide) ?_
                  refine j_icmp_gt (tgt := 52) dX8_isTakingPlain_4 (by decide) (fun c_4 => ?_) (fun c_4 => ?_)
                  · exact absurd c_4 (by decide)
                  · refine j_aload_n dX8_isTakingPlain_7 rfl rfl ?_
                    refine j_getf dX8_isTakingPlain_8 fX8_36 rfl rfl ?_
                    refine j_aload_n dX8_isTakingPlain_11 rfl rfl ?_
                    refine j_callV (q := (RX1, TX1, 4)) dX8_isTakingPlain_12 kX1_become lX8_123 inX1_become seX1_become rfl rfl (z_frame [31, 32, 33, 34, 6, 7, 8, 9] rfl (by decide) (Nat.le_of_ble_eq_true rfl) (c_X1_become hl _ _ _ _ _ _ _ _)) (Nat.le_of_ble_eq_true rfl) ⟨(Nat.le_of_ble_eq_true rfl), (Nat.le_of_ble_eq_true rfl)⟩ rfl (Nat.le_of_ble_eq_true rfl) rfl rfl (fun _ _ h => h.elim) ?_
                    rintro _ _ ⟨_, _, ⟨rfl, _, rfl⟩, rfl, rfl⟩
                    refine j_w (z_cw _ _ _ _ _ _ _ _ _ _ _ _ _ _ _ _ _ _ _ _ _ _ _ _ _ _ _ _ _ _ _ _ _ _ _ _ _ _ _ _ _ _ _ _ _ _ _ _ _ _ _ _ _ _ _ _ [], z_no) rfl ?_
                    refine j_new (w' := (z_cw _ _ _ _ _ _ _ _ _ _ _ _ _ _ _ _ _ _ _ _ _ _ _ _ _ _ _ _ _ _ _ _ _ _ _ _ _ _ _ _ _ _ _ _ _ _ _ _ _ _ _ _ _ _ _ _ [.inr (7, [_, _, _, _, _])], z_no)) (n := 51) dX8_isTakingPlain_15 nX8_91 rfl (z_al_l rfl rfl) (Nat.le_of_ble_eq_true rfl) (Nat.le_of_ble_eq_true rfl) ?_
                    refine j_dup dX8_isTakingPlain_18 rfl ?_
                    refine j_aload_n dX8_isTakingPlain_19 rfl rfl ?_
                    refine j_getf dX8_isTakingPlain_20 fX8_36 rfl rfl ?_
                    refine j_callI dX8_isTakingPlain_23 kX2_init rfl lX8_93 inX2_init rfl (z_frame [51, 31, 32, 33, 34] rfl (by decide) (Nat.le_of_ble_eq_true rfl) (c_X2_init hl _ _ _ _)) (Nat.le_of_ble_eq_true rfl) ⟨(Nat.le_of_ble_eq_true rfl), (Nat.le_of_ble_eq_true rfl)⟩ rfl (Nat.le_of_ble_eq_true rfl) rfl rfl (fun _ _ h => h.elim) ?_
                    rintro _ _ ⟨_, _, ⟨rfl, _, rfl⟩, rfl, rfl⟩
                    refine j_w (z_cw _ _ _ _ _ _ _ _ _ _ _ _ _ _ _ _ _ _ _ _ _ _ _ _ _ _ _ _ _ _ _ _ _ _ _ _ _ _ _ _ _ _ _ _ _ _ _ _ _ _ _ _ _ _ _ _ [.inr (7, [_, _, _, _, _])], z_no) rfl ?_
                    refine j_iload_n dX8_isTakingPlain_26 rfl ?_
                    refine j_iconst (v := 0) dX8_isTakingPlain_27 (by decide) ?_
                    refine j_callS dX8_isTakingPlain_28 kX8_takeEach lX8_108 stX8_takeEach (z_frame [51, 31, 32, 33, 34] rfl (by decide) (Nat.le_of_ble_eq_true rfl) (c_X8_takeEach hl _ _ _ _ _ _ _ _ _)) (Nat.le_of_ble_eq_true rfl) ⟨(Nat.le_of_ble_eq_true rfl), (Nat.le_of_ble_eq_true rfl)⟩ rfl (Nat.le_of_ble_eq_true rfl) rfl rfl (fun _ _ h => h.elim) ?_
                    rintro _ _ ⟨_, _, ⟨⟨_, rfl⟩, _, _, _, _, _, _, rfl⟩, rfl, rfl⟩
                    refine j_w (z_cw _ _ _ _ _ _ _ _ _ _ _ _ _ _ _ _ _ _ _ _ _ _ _ _ _ _ _ _ _ _ _ _ _ _ _ _ _ _ _ _ _ _ _ _ _ _ _ _ _ _ _ _ _ _ _ _ [.inr (7, [_, _, _, _, _])], z_no) rfl ?_
                    refine j_pop dX8_isTakingPlain_31 rfl ?_
                    refine j_dropL (n := 51) rfl (Nat.le_of_ble_eq_true rfl) (Nat.le_of_ble_eq_true rfl) (Nat.le_of_ble_eq_true rfl) z_cwc rfl rfl ?_
                    refine j_w (z_cw _ _ _ _ _ _ _ _ _ _ _ _ _ _ _ _ _ _ _ _ _ _ _ _ _ _ _ _ _ _ _ _ _ _ _ _ _ _ _ _ _ _ _ _ _ _ _ _ _ _ _ _ _ _ _ _ [], z_no) rfl ?_
                    refine j_aload_n dX8_isTakingPlain_32 rfl rfl ?_
                    refine j_getf dX8_isTakingPlain_33 fX8_36 rfl rfl ?_
                    refine j_aload_n dX8_isTakingPlain_36 rfl rfl ?_
                    refine j_iload_n dX8_isTakingPlain_37 rfl ?_
                    refine j_callS dX8_isTakingPlain_38 kX8_isWhatIsLeft lX8_340 stX8_isWhatIsLeft (z_frame [31, 32, 33, 34, 6, 7, 8, 9] rfl (by decide) (Nat.le_of_ble_eq_true rfl) (c_X8_isWhatIsLeft hl _ _ _ _ _ _ _ _ _)) (Nat.le_of_ble_eq_true rfl) ⟨(Nat.le_of_ble_eq_true rfl), (Nat.le_of_ble_eq_true rfl)⟩ rfl (Nat.le_of_ble_eq_true rfl) rfl rfl (fun _ _ h => h.elim) ?_
                    rintro _ _ ⟨_, _, ⟨⟨b, rfl⟩, rfl⟩, rfl, rfl⟩
                    refine j_w (z_cw _ _ _ _ _ _ _ _ _ _ _ _ _ _ _ _ _ _ _ _ _ _ _ _ _ _ _ _ _ _ _ _ _ _ _ _ _ _ _ _ _ _ _ _ _ _ _ _ _ _ _ _ _ _ _ _ [], z_no) rfl ?_
                    refine j_if_ne (tgt := 46) dX8_isTakingPlain_41 (by decide) (fun c_41 => ?_) (fun c_41 => ?_)
                    · refine j_iinc (lo' := [(2, _), (0, _), (1, _)]) dX8_isTakingPlain_46 rfl rfl (by decide) rfl ?_
                      refine j_goto (tgt := 2) dX8_isTakingPlain_49 (by decide) ?_
                      refine j_iload_n dX8_isTakingPlain_2 rfl ?_
                      refine j_iconst (v := 4) dX8_isTakingPlain_3 (by decide) ?_
                      refine j_icmp_gt (tgt := 52) dX8_isTakingPlain_4 (by decide) (fun c_4 => ?_) (fun c_4 => ?_)
                      · refine j_iconst (v := 1) dX8_isTakingPlain_52 (by decide) ?_
                        refine j_iret dX8_isTakingPlain_53 rfl rfl ?_ (Nat.le_of_ble_eq_true rfl) (Nat.le_of_ble_eq_true rfl)
                        first | exact ⟨rfl, rfl, ⟨true, rfl⟩, _, _, _, rfl⟩ | exact ⟨rfl, rfl, ⟨false, rfl⟩, _, _, _, rfl⟩
                      · exact absurd (by decide) c_4
                    · refine j_iconst (v := 0) dX8_isTakingPlain_44 (by decide) ?_
                      refine j_iret dX8_isTakingPlain_45 rfl rfl ?_ (Nat.le_of_ble_eq_true rfl) (Nat.le_of_ble_eq_true rfl)
                      first | exact ⟨rfl, rfl, ⟨true, rfl⟩, _, _, _, rfl⟩ | exact ⟨rfl, rfl, ⟨false, rfl⟩, _, _, _, rfl⟩
                · refine j_iconst (v := 0) dX8_isTakingPlain_44 (by decide) ?_
                  refine j_iret dX8_isTakingPlain_45 rfl rfl ?_ (Nat.le_of_ble_eq_true rfl) (Nat.le_of_ble_eq_true rfl)
                  first | exact ⟨rfl, rfl, ⟨true, rfl⟩, _, _, _, rfl⟩ | exact ⟨rfl, rfl, ⟨false, rfl⟩, _, _, _, rfl⟩
            · refine j_iconst (v := 0) dX8_isTakingPlain_44 (by decide) ?_
              refine j_iret dX8_isTakingPlain_45 rfl rfl ?_ (Nat.le_of_ble_eq_true rfl) (Nat.le_of_ble_eq_true rfl)
              first | exact ⟨rfl, rfl, ⟨true, rfl⟩, _, _, _, rfl⟩ | exact ⟨rfl, rfl, ⟨false, rfl⟩, _, _, _, rfl⟩
        · refine j_iconst (v := 0) dX8_isTakingPlain_44 (by decide) ?_
          refine j_iret dX8_isTakingPlain_45 rfl rfl ?_ (Nat.le_of_ble_eq_true rfl) (Nat.le_of_ble_eq_true rfl)
          first | exact ⟨rfl, rfl, ⟨true, rfl⟩, _, _, _, rfl⟩ | exact ⟨rfl, rfl, ⟨false, rfl⟩, _, _, _, rfl⟩
    · refine j_iconst (v := 0) dX8_isTakingPlain_44 (by decide) ?_
      refine j_iret dX8_isTakingPlain_45 rfl rfl ?_ (Nat.le_of_ble_eq_true rfl) (Nat.le_of_ble_eq_true rfl)
      first | exact ⟨rfl, rfl, ⟨true, rfl⟩, _, _, _, rfl⟩ | exact ⟨rfl, rfl, ⟨false, rfl⟩, _, _, _, rfl⟩
set_option maxRecDepth 100000 in
set_option maxHeartbeats 8000000 in
theorem c_X8_areCopiesLike_10 (hl : l.stackTraces = false) (rf : Int32) (kn : Int32) (ma : Int32) (xa : Bool) (fa : Nat → Int32) (ca : Nat → Int32) (mb : Int32) (xb : Bool) (fb : Nat → Int32) (cb : Nat → Int32) (mt : Int32) (xt : Bool) (ft : Nat → Int32) (ct : Nat → Int32) (f0 : Nat → Int32) (g0 : Nat → Int32) (c0 : Nat → Int32) (m0 : Int32) (s0 : Int32) (f1 : Nat → Int32) (g1 : Nat → Int32) (c1 : Nat → Int32) (m1 : Int32) (s1 : Int32) (f2 : Nat → Int32) (g2 : Nat → Int32) (c2 : Nat → Int32) (m2 : Int32) (s2 : Int32) (f3 : Nat → Int32) (g3 : Nat → Int32) (c3 : Nat → Int32) (m3 : Int32) (s3 : Int32) (f4 : Nat → Int32) (g4 : Nat → Int32) (c4 : Nat → Int32) (m4 : Int32) (s4 : Int32) (f5 : Nat → Int32) (g5 : Nat → Int32) (c5 : Nat → Int32) (m5 : Int32) (s5 : Int32) (ek0 : Int32) (em0 : Int32) (es0 : Int32) (el0 : Int32) (b0 : Int32) (ef0 : Nat → Int32) (ek1 : Int32) (em1 : Int32) (es1 : Int32) (el1 : Int32) (b1 : Int32) (ef1 : Nat → Int32) (h0 : z_m20 m0) (h1 : z_m20 m1) (h2 : z_m20 m2) (h3 : z_m20 m3) (h4 : z_m20 m4) (h5 : z_m20 m5): z_CF G l mX8_areCopiesLike 15 0 0 (z_cw rf kn ma xa fa ca mb xb fb cb mt xt ft ct f0 g0 c0 m0 s0 f1 g1 c1 m1 s1 f2 g2 c2 m2 s2 f3 g3 c3 m3 s3 f4 g4 c4 m4 s4 f5 g5 c5 m5 s5 ek0 em0 es0 el0 b0 ef0 ek1 em1 es1 el1 b1 ef1 []) [.ref 0, .ref 10] (fun v L => (∃ b : Bool, v = some (.int (z_bi b))) ∧ ∃ (f3' g3' c3' : Nat → Int32) (m3' : Int32) (f4' g4' c4' : Nat → Int32) (m4' : Int32) (f5' g5' c5' : Nat → Int32) (m5' : Int32), z_m20 m3' ∧ z_m20 m4' ∧ z_m20 m5' ∧ L = (z_cw rf kn ma xa fa ca mb xb fb cb mt xt ft ct f0 g0 c0 m0 s0 f1 g1 c1 m1 s1 f2 g2 c2 m2 s2 f3' g3' c3' m3' s3 f4' g4' c4' m4' s4 f5' g5' c5' m5' s5 ek0 em0 es0 el0 b0 ef0 ek1 em1 es1 el1 b1 ef1 [])) := by
  refine z_body hl (by decide) rfl (Nat.le_of_ble_eq_true rfl) ?_
  show z_J G l mX8_areCopiesLike (z_SF 15 0 0 (z_cw rf kn ma xa fa ca mb xb fb cb mt xt ft ct f0 g0 c0 m0 s0 f1 g1 c1 m1 s1 f2 g2 c2 m2 s2 f3 g3 c3 m3 s3 f4 g4 c4 m4 s4 f5 g5 c5 m5 s5 ek0 em0 es0 el0 b0 ef0 ek1 em1 es1 el1 b1 ef1 []) (fun v L => (∃ b : Bool, v = some (.int (z_bi b))) ∧ ∃ (f3' g3' c3' : Nat → Int32) (m3' : Int32) (f4' g4' c4' : Nat → Int32) (m4' : Int32) (f5' g5' c5' : Nat → Int32) (m5' : Int32), z_m20 m3' ∧ z_m20 m4' ∧ z_m20 m5' ∧ L = (z_cw rf kn ma xa fa ca mb xb fb cb mt xt ft ct f0 g0 c0 m0 s0 f1 g1 c1 m1 s1 f2 g2 c2 m2 s2 f3' g3' c3' m3' s3 f4' g4' c4' m4' s4 f5' g5' c5' m5' s5 ek0 em0 es0 el0 b0 ef0 ek1 em1 es1 el1 b1 ef1 []))) 0 [(0, _), (1, _)] [] _ 0 0
  refine j_aload_n dX8_areCopiesLike_0 rfl rfl ?_
  refine j_getf dX8_areCopiesLike_1 fX8_43 rfl rfl ?_
  refine j_astore_n (lo' := [(2, _), (0, _), (1, _)]) dX8_areCopiesLike_4 rfl (by decide) rfl ?_
  refine j_aload_n dX8_areCopiesLike_5 rfl rfl ?_
  refine j_alen dX8_areCopiesLike_6 rfl rfl rfl ?_
  refine j_istore_n (lo' := [(3, _), (2, _), (0, _), (1, _)]) dX8_areCopiesLike_7 (by decide) rfl ?_
  refine j_iconst (v := 0) dX8_areCopiesLike_8 (by decide) ?_
  refine j_istore (lo' := [(4, _), (3, _), (2, _), (0, _), (1, _)]) dX8_areCopiesLike_9 (by decide) rfl ?_
  refine j_iload dX8_areCopiesLike_11 rfl ?_
  refine j_iload_n dX8_areCopiesLike_13 rfl ?_
  refine j_icmp_ge (tgt := 46) dX8_areCopiesLike_14 (by decide) (fun c_14 => ?_) (fun c_14 => ?_)
  · exact absurd c_14 (by decide)
  · refine j_aload_n dX8_areCopiesLike_17 rfl rfl ?_
    refine j_iload dX8_areCopiesLike_18 rfl ?_
    refine j_aald (v := .ref 35) dX8_areCopiesLike_20 rfl rfl rfl (vp_in_iff.mpr (by decide)) rfl ?_
    refine j_astore (lo' := [(5, _), (4, _), (3, _), (2, _), (0, _), (1, _)]) dX8_areCopiesLike_21 rfl (by decide) rfl ?_
    refine j_aload dX8_areCopiesLike_23 rfl rfl ?_
    refine j_aload_n dX8_areCopiesLike_25 rfl rfl ?_
    refine j_callV (q := (RX4, TX4, 5)) dX8_areCopiesLike_26 kX4_become lX8_344 inX4_become seX4_become rfl rfl (z_frame [35, 36, 37, 38, 39, 10, 11, 12, 13, 14] rfl (by decide) (Nat.le_of_ble_eq_true rfl) (c_X4_become hl _ _ _ _ _ _ _ _ _ _)) (Nat.le_of_ble_eq_true rfl) ⟨(Nat.le_of_ble_eq_true rfl), (Nat.le_of_ble_eq_true rfl)⟩ rfl (Nat.le_of_ble_eq_true rfl) rfl rfl (fun _ _ h => h.elim) ?_
    rintro _ _ ⟨_, _, ⟨rfl, _, _, rfl⟩, rfl, rfl⟩
    refine j_w (z_cw _ _ _ _ _ _ _ _ _ _ _ _ _ _ _ _ _ _ _ _ _ _ _ _ _ _ _ _ _ _ _ _ _ _ _ _ _ _ _ _ _ _ _ _ _ _ _ _ _ _ _ _ _ _ _ _ [], z_no) rfl ?_
    refine j_aload dX8_areCopiesLike_29 rfl rfl ?_
    refine j_aload_n dX8_areCopiesLike_31 rfl rfl ?_
    refine j_callV (q := (RX4, TX4, 5)) dX8_areCopiesLike_32 kX4_hasPairsOf lX8_230 inX4_hasPairsOf seX4_hasPairsOf rfl rfl (z_frame [35, 36, 37, 38, 39, 10, 11, 12, 13, 14] rfl (by decide) (Nat.le_of_ble_eq_true rfl) (c_X4_hasPairsOf hl _ _ _ _ _ _ _ _ _ _)) (Nat.le_of_ble_eq_true rfl) ⟨(Nat.le_of_ble_eq_true rfl), (Nat.le_of_ble_eq_true rfl)⟩ rfl (Nat.le_of_ble_eq_true rfl) rfl rfl (fun _ _ h => h.elim) ?_
    rintro _ _ ⟨_, _, ⟨b, rfl, rfl⟩, rfl, rfl⟩
    refine j_w (z_cw _ _ _ _ _ _ _ _ _ _ _ _ _ _ _ _ _ _ _ _ _ _ _ _ _ _ _ _ _ _ _ _ _ _ _ _ _ _ _ _ _ _ _ _ _ _ _ _ _ _ _ _ _ _ _ _ [], z_no) rfl ?_
    refine j_if_ne (tgt := 40) dX8_areCopiesLike_35 (by decide) (fun c_35 => ?_) (fun c_35 => ?_)
    · refine j_iinc (lo' := [(4, _), (5, _), (3, _), (2, _), (0, _), (1, _)]) dX8_areCopiesLike_40 rfl rfl (by decide) rfl ?_
      refine j_goto (tgt := 11) dX8_areCopiesLike_43 (by decide) ?_
      refine j_iload dX8_areCopiesLike_11 rfl ?_
      refine j_iload_n dX8_areCopiesLike_13 rfl ?_
      refine j_icmp_ge (tgt := 46) dX8_areCopiesLike_14 (by decide) (fun c_14 => ?_) (fun c_14 => ?_)
      · exact absurd c_14 (by decide)
      · refine j_aload_n dX8_areCopiesLike_17 rfl rfl ?_
        refine j_iload dX8_areCopiesLike_18 rfl ?_
        refine j_aald (v := .ref 41) dX8_areCopiesLike_20 rfl rfl rfl (vp_in_iff.mpr (by decide)) rfl ?_
        refine j_astore (lo' := [(5, _), (4, _), (3, _), (2, _), (0, _), (1, _)]) dX8_areCopiesLike_21 rfl (by decide) rfl ?_
        refine j_aload dX8_areCopiesLike_23 rfl rfl ?_
        refine j_aload_n dX8_areCopiesLike_25 rfl rfl ?_
        refine j_callV (q := (RX4, TX4, 5)) dX8_areCopiesLike_26 kX4_become lX8_344 inX4_become seX4_become rfl rfl (z_frame [41, 42, 43, 44, 45, 10, 11, 12, 13, 14] rfl (by decide) (Nat.le_of_ble_eq_true rfl) (c_X4_become hl _ _ _ _ _ _ _ _ _ _)) (Nat.le_of_ble_eq_true rfl) ⟨(Nat.le_of_ble_eq_true rfl), (Nat.le_of_ble_eq_true rfl)⟩ rfl (Nat.le_of_ble_eq_true rfl) rfl rfl (fun _ _ h => h.elim) ?_
        rintro _ _ ⟨_, _, ⟨rfl, _, _, rfl⟩, rfl, rfl⟩
        refine j_w (z_cw _ _ _ _ _ _ _ _ _ _ _ _ _ _ _ _ _ _ _ _ _ _ _ _ _ _ _ _ _ _ _ _ _ _ _ _ _ _ _ _ _ _ _ _ _ _ _ _ _ _ _ _ _ _ _ _ [], z_no) rfl ?_
        refine j_aload dX8_areCopiesLike_29 rfl rfl ?_
        refine j_aload_n dX8_areCopiesLike_31 rfl rfl ?_
        refine j_callV (q := (RX4, TX4, 5)) dX8_areCopiesLike_32 kX4_hasPairsOf lX8_230 inX4_hasPairsOf seX4_hasPairsOf rfl rfl (z_frame [41, 42, 43, 44, 45, 10, 11, 12, 13, 14] rfl (by decide) (Nat.le_of_ble_eq_true rfl) (c_X4_hasPairsOf hl _ _ _ _ _ _ _ _ _ _)) (Nat.le_of_ble_eq_true rfl) ⟨(Nat.le_of_ble_eq_true rfl), (Nat.le_of_ble_eq_true rfl)⟩ rfl (Nat.le_of_ble_eq_true rfl) rfl rfl (fun _ _ h => h.elim) ?_
        rintro _ _ ⟨_, _, ⟨b, rfl, rfl⟩, rfl, rfl⟩
        refine j_w (z_cw _ _ _ _ _ _ _ _ _ _ _ _ _ _ _ _ _ _ _ _ _ _ _ _ _ _ _ _ _ _ _ _ _ _ _ _ _ _ _ _ _ _ _ _ _ _ _ _ _ _ _ _ _ _ _ _ [], z_no) rfl ?_
        refine j_if_ne (tgt := 40) dX8_areCopiesLike_35 (by decide) (fun c_35 => ?_) (fun c_35 => ?_)
        · refine j_iinc (lo' := [(4, _), (5, _), (3, _), (2, _), (0, _), (1, _)]) dX8_areCopiesLike_40 rfl rfl (by decide) rfl ?_
          refine j_goto (tgt := 11) dX8_areCopiesLike_43 (by decide) ?_
          refine j_iload dX8_areCopiesLike_11 rfl ?_
          refine j_iload_n dX8_areCopiesLike_13 rfl ?_
          refine j_icmp_ge (tgt := 46) dX8_areCopiesLike_14 (by decide) (fun c_14 => ?_) (fun c_14 => ?_)
          · exact absurd c_14 (by decide)
          · refine j_aload_n dX8_areCopiesLike_17 rfl rfl ?_
            refine j_iload dX8_areCopiesLike_18 rfl ?_
            refine j_aald (v := .ref 46) dX8_areCopiesLike_20 rfl rfl rfl (vp_in_iff.mpr (by decide)) rfl ?_
            refine j_astore (lo' := [(5, _), (4, _), (3, _), (2, _), (0, _), (1, _)]) dX8_areCopiesLike_21 rfl (by decide) rfl ?_
            refine j_aload dX8_areCopiesLike_23 rfl rfl ?_
            refine j_aload_n dX8_areCopiesLike_25 rfl rfl ?_
            refine j_callV (q := (RX4, TX4, 5)) dX8_areCopiesLike_26 kX4_become lX8_344 inX4_become seX4_become rfl rfl (z_frame [46, 47, 48, 49, 50, 10, 11, 12, 13, 14] rfl (by decide) (Nat.le_of_ble_eq_true rfl) (c_X4_become hl _ _ _ _ _ _ _ _ _ _)) (Nat.le_of_ble_eq_true rfl) ⟨(Nat.le_of_ble_eq_true rfl), (Nat.le_of_ble_eq_true rfl)⟩ rfl (Nat.le_of_ble_eq_true rfl) rfl rfl (fun _ _ h => h.elim) ?_
            rintro _ _ ⟨_, _, ⟨rfl, _, _, rfl⟩, rfl, rfl⟩
            refine j_w (z_cw _ _ _ _ _ _ _ _ _ _ _ _ _ _ _ _ _ _ _ _ _ _ _ _ _ _ _ _ _ _ _ _ _ _ _ _ _ _ _ _ _ _ _ _ _ _ _ _ _ _ _ _ _ _ _ _ [], z_no) rfl ?_
            refine j_aload dX8_areCopiesLike_29 rfl rfl ?_
            refine j_aload_n dX8_areCopiesLike_31 rfl rfl ?_
            refine j_callV (q := (RX4, TX4, 5)) dX8_areCopiesLike_32 kX4_hasPairsOf lX8_230 inX4_hasPairsOf seX4_hasPairsOf rfl rfl (z_frame [46, 47, 48, 49, 50, 10, 11, 12, 13, 14] rfl (by decide) (Nat.le_of_ble_eq_true rfl) (c_X4_hasPairsOf hl _ _ _ _ _ _ _ _ _ _)) (Nat.le_of_ble_eq_true rfl) ⟨(Nat.le_of_ble_eq_true rfl), (Nat.le_of_ble_eq_true rfl)⟩ rfl (Nat.le_of_ble_eq_true rfl) rfl rfl (fun _ _ h => h.elim) ?_
            rintro _ _ ⟨_, _, ⟨b, rfl, rfl⟩, rfl, rfl⟩
            refine j_w (z_cw _ _ _ _ _ _ _ _ _ _ _ _ _ _ _ _ _ _ _ _ _ _ _ _ _ _ _ _ _ _ _ _ _ _ _ _ _ _ _ _ _ _ _ _ _ _ _ _ _ _ _ _ _ _ _ _ [], z_no) rfl ?_
            refine j_if_ne (tgt := 40) dX8_areCopiesLike_35 (by decide) (fun c_35 => ?_) (fun c_35 => ?_)
            · refine j_iinc (lo' := [(4, _), (5, _), (3, _), (2, _), (0, _), (1, _)]) dX8_areCopiesLike_40 rfl rfl (by decide) rfl ?_
              refine j_goto (tgt := 11) dX8_areCopiesLike_43 (by decide) ?_
              refine j_iload dX8_areCopiesLike_11 rfl ?_
              refine j_iload_n dX8_areCopiesLike_13 rfl ?_
              refine j_icmp_ge (tgt := 46) dX8_areCopiesLike_14 (by decide) (fun c_14 => ?_) (fun c_14 => ?_)
              · refine j_iconst (v := 1) dX8_areCopiesLike_46 (by decide) ?_
                refine j_iret dX8_areCopiesLike_47 rfl rfl ?_ (Nat.le_of_ble_eq_true rfl) (Nat.le_of_ble_eq_true rfl)
                first | exact ⟨rfl, rfl, ⟨true, rfl⟩, _, _, _, _, _, _, _, _, _, _, _, _, (by assumption), (by assumption), (by assumption), rfl⟩ | exact ⟨rfl, rfl, ⟨false, rfl⟩, _, _, _, _, _, _, _, _, _, _, _, _, (by assumption), (by assumption), (by assumption), rfl⟩
              · exact absurd (by decide) c_14
            · refine j_iconst (v := 0) dX8_areCopiesLike_38 (by decide) ?_
              refine j_iret dX8_areCopiesLike_39 rfl rfl ?_ (Nat.le_of_ble_eq_true rfl) (Nat.le_of_ble_eq_true rfl)
              first | exact ⟨rfl, rfl, ⟨true, rfl⟩, _, _, _, _, _, _, _, _, _, _, _, _, (by assumption), (by assumption), (by assumption), rfl⟩ | exact ⟨rfl, rfl, ⟨false, rfl⟩, _, _, _, _, _, _, _, _, _, _, _, _, (by assumption), (by assumption), (by assumption), rfl⟩
        · refine j_iconst (v := 0) dX8_areCopiesLike_38 (by decide) ?_
          refine j_iret dX8_areCopiesLike_39 rfl rfl ?_ (Nat.le_of_ble_eq_true rfl) (Nat.le_of_ble_eq_true rfl)
          first | exact ⟨rfl, rfl, ⟨true, rfl⟩, _, _, _, _, _, _, _, _, _, _, _, _, (by assumption), (by assumption), (by assumption), rfl⟩ | exact ⟨rfl, rfl, ⟨false, rfl⟩, _, _, _, _, _, _, _, _, _, _, _, _, (by assumption), (by assumption), (by assumption), rfl⟩
    · refine j_iconst (v := 0) dX8_areCopiesLike_38 (by decide) ?_
      refine j_iret dX8_areCopiesLike_39 rfl rfl ?_ (Nat.le_of_ble_eq_true rfl) (Nat.le_of_ble_eq_true rfl)
      first | exact ⟨rfl, rfl, ⟨true, rfl⟩, _, _, _, _, _, _, _, _, _, _, _, _, (by assumption), (by assumption), (by assumption), rfl⟩ | exact ⟨rfl, rfl, ⟨false, rfl⟩, _, _, _, _, _, _, _, _, _, _, _, _, (by assumption), (by assumption), (by assumption), rfl⟩
set_option maxRecDepth 100000 in
set_option maxHeartbeats 8000000 in
theorem c_X8_isCallLike_10 (hl : l.stackTraces = false) (rf : Int32) (kn : Int32) (ma : Int32) (xa : Bool) (fa : Nat → Int32) (ca : Nat → Int32) (mb : Int32) (xb : Bool) (fb : Nat → Int32) (cb : Nat → Int32) (mt : Int32) (xt : Bool) (ft : Nat → Int32) (ct : Nat → Int32) (f0 : Nat → Int32) (g0 : Nat → Int32) (c0 : Nat → Int32) (m0 : Int32) (s0 : Int32) (f1 : Nat → Int32) (g1 : Nat → Int32) (c1 : Nat → Int32) (m1 : Int32) (s1 : Int32) (f2 : Nat → Int32) (g2 : Nat → Int32) (c2 : Nat → Int32) (m2 : Int32) (s2 : Int32) (f3 : Nat → Int32) (g3 : Nat → Int32) (c3 : Nat → Int32) (m3 : Int32) (s3 : Int32) (f4 : Nat → Int32) (g4 : Nat → Int32) (c4 : Nat → Int32) (m4 : Int32) (s4 : Int32) (f5 : Nat → Int32) (g5 : Nat → Int32) (c5 : Nat → Int32) (m5 : Int32) (s5 : Int32) (ek0 : Int32) (em0 : Int32) (es0 : Int32) (el0 : Int32) (b0 : Int32) (ef0 : Nat → Int32) (ek1 : Int32) (em1 : Int32) (es1 : Int32) (el1 : Int32) (b1 : Int32) (ef1 : Nat → Int32) (p q t : Int32) (h0 : z_m20 m0) (h1 : z_m20 m1) (h2 : z_m20 m2) (h3 : z_m20 m3) (h4 : z_m20 m4) (h5 : z_m20 m5): z_CF G l mX8_isCallLike 17 0 0 (z_cw rf kn ma xa fa ca mb xb fb cb mt xt ft ct f0 g0 c0 m0 s0 f1 g1 c1 m1 s1 f2 g2 c2 m2 s2 f3 g3 c3 m3 s3 f4 g4 c4 m4 s4 f5 g5 c5 m5 s5 ek0 em0 es0 el0 b0 ef0 ek1 em1 es1 el1 b1 ef1 []) [.ref 0, .ref 10, .int p, .int q, .int t] (fun v L => (∃ b : Bool, v = some (.int (z_bi b))) ∧ ∃ (f3' g3' c3' : Nat → Int32) (m3' : Int32) (f4' g4' c4' : Nat → Int32) (m4' : Int32) (f5' g5' c5' : Nat → Int32) (m5' : Int32), z_m20 m3' ∧ z_m20 m4' ∧ z_m20 m5' ∧ L = (z_cw rf kn ma xa fa ca mb xb fb cb mt xt ft ct f0 g0 c0 m0 s0 f1 g1 c1 m1 s1 f2 g2 c2 m2 s2 f3' g3' c3' m3' s3 f4' g4' c4' m4' s4 f5' g5' c5' m5' s5 ek0 em0 es0 el0 b0 ef0 ek1 em1 es1 el1 b1 ef1 [])) := by
  refine z_body hl (by decide) rfl (Nat.le_of_ble_eq_true rfl) ?_
  show z_J G l mX8_isCallLike (z_SF 17 0 0 (z_cw rf kn ma xa fa ca mb xb fb cb mt xt ft ct f0 g0 c0 m0 s0 f1 g1 c1 m1 s1 f2 g2 c2 m2 s2 f3 g3 c3 m3 s3 f4 g4 c4 m4 s4 f5 g5 c5 m5 s5 ek0 em0 es0 el0 b0 ef0 ek1 em1 es1 el1 b1 ef1 []) (fun v L => (∃ b : Bool, v = some (.int (z_bi b))) ∧ ∃ (f3' g3' c3' : Nat → Int32) (m3' : Int32) (f4' g4' c4' : Nat → Int32) (m4' : Int32) (f5' g5' c5' : Nat → Int32) (m5' : Int32), z_m20 m3' ∧ z_m20 m4' ∧ z_m20 m5' ∧ L = (z_cw rf kn ma xa fa ca mb xb fb cb mt xt ft ct f0 g0 c0 m0 s0 f1 g1 c1 m1 s1 f2 g2 c2 m2 s2 f3' g3' c3' m3' s3 f4' g4' c4' m4' s4 f5' g5' c5' m5' s5 ek0 em0 es0 el0 b0 ef0 ek1 em1 es1 el1 b1 ef1 []))) 0 [(0, _), (1, _), (2, _), (3, _), (4, _)] [] _ 0 0
  refine j_iconst (v := 0) dX8_isCallLike_0 (by decide) ?_
  refine j_istore (lo' := [(5, _), (0, _), (1, _), (2, _), (3, _), (4, _)]) dX8_isCallLike_1 (by decide) rfl ?_
  refine j_aload_n dX8_isCallLike_3 rfl rfl ?_
  refine j_getf dX8_isCallLike_4 fX8_43 rfl rfl ?_
  refine j_astore (lo' := [(6, _), (5, _), (0, _), (1, _), (2, _), (3, _), (4, _)]) dX8_isCallLike_7 rfl (by decide) rfl ?_
  refine j_aload dX8_isCallLike_9 rfl rfl ?_
  refine j_alen dX8_isCallLike_11 rfl rfl rfl ?_
  refine j_istore (lo' := [(7, _), (6, _), (5, _), (0, _), (1, _), (2, _), (3, _), (4, _)]) dX8_isCallLike_12 (by decide) rfl ?_
  refine j_iconst (v := 0) dX8_isCallLike_14 (by decide) ?_
  refine j_istore (lo' := [(8, _), (7, _), (6, _), (5, _), (0, _), (1, _), (2, _), (3, _), (4, _)]) dX8_isCallLike_15 (by decide) rfl ?_
  refine j_iload dX8_isCallLike_17 rfl ?_
  refine j_iload dX8_isCallLike_19 rfl ?_
  refine j_icmp_ge (tgt := 160) dX8_isCallLike_21 (by decide) (fun c_21 => ?_) (fun c_21 => ?_)
  · exact absurd c_21 (by decide)
  · refine j_aload dX8_isCallLike_24 rfl rfl ?_
    refine j_iload dX8_isCallLike_26 rfl ?_
    refine j_aald (v := .ref 35) dX8_isCallLike_28 rfl rfl rfl (vp_in_iff.mpr (by decide)) rfl ?_
    refine j_astore (lo' := [(9, _), (8, _), (7, _), (6, _), (5, _), (0, _), (1, _), (2, _), (3, _), (4, _)]) dX8_isCallLike_29 rfl (by decide) rfl ?_
    refine j_aload dX8_isCallLike_31 rfl rfl ?_
    refine j_aload_n dX8_isCallLike_33 rfl rfl ?_
    refine j_callV (q := (RX4, TX4, 5)) dX8_isCallLike_34 kX4_become lX8_344 inX4_become seX4_become rfl rfl (z_frame [35, 36, 37, 38, 39, 10, 11, 12, 13, 14] rfl (by decide) (Nat.le_of_ble_eq_true rfl) (c_X4_become hl _ _ _ _ _ _ _ _ _ _)) (Nat.le_of_ble_eq_true rfl) ⟨(Nat.le_of_ble_eq_true rfl), (Nat.le_of_ble_eq_true rfl)⟩ rfl (Nat.le_of_ble_eq_true rfl) rfl rfl (fun _ _ h => h.elim) ?_
    rintro _ _ ⟨_, _, ⟨rfl, _, _, rfl⟩, rfl, rfl⟩
    refine j_w (z_cw _ _ _ _ _ _ _ _ _ _ _ _ _ _ _ _ _ _ _ _ _ _ _ _ _ _ _ _ _ _ _ _ _ _ _ _ _ _ _ _ _ _ _ _ _ _ _ _ _ _ _ _ _ _ _ _ [], z_no) rfl ?_
    refine j_iload_n dX8_isCallLike_37 rfl ?_
    rcases z_sw3 p with rfl | rfl | rfl | hp
    · refine j_tsIn (tgt := 64) dX8_isCallLike_38 (by decide) (by decide) rfl (by decide) ?_
      refine j_aload dX8_isCallLike_64 rfl rfl ?_
      refine j_iload_n dX8_isCallLike_66 rfl ?_
      refine j_iload dX8_isCallLike_67 rfl ?_
      refine j_iconst (v := 1) dX8_isCallLike_69 (by decide) ?_
      refine j_callV (q := (RX4, TX4, 5)) dX8_isCallLike_70 kX4_reckon lX8_151 inX4_reckon seX4_reckon rfl rfl (z_frame [35, 36, 37, 38, 39] rfl (by decide) (Nat.le_of_ble_eq_true rfl) (c_X4_reckon hl _ _ _ _ _ _ _ _ (by assumption))) (Nat.le_of_ble_eq_true rfl) ⟨(Nat.le_of_ble_eq_true rfl), (Nat.le_of_ble_eq_true rfl)⟩ rfl (Nat.le_of_ble_eq_true rfl) rfl rfl (fun _ _ h => h.elim) ?_
      rintro _ _ ⟨_, _, ⟨_, rfl, _, _, _, _, hm, rfl⟩, rfl, rfl⟩
      refine j_w (z_cw _ _ _ _ _ _ _ _ _ _ _ _ _ _ _ _ _ _ _ _ _ _ _ _ _ _ _ _ _ _ _ _ _ _ _ _ _ _ _ _ _ _ _ _ _ _ _ _ _ _ _ _ _ _ _ _ [], z_no) rfl ?_
      refine j_istore (lo' := [(10, _), (9, _), (8, _), (7, _), (6, _), (5, _), (0, _), (1, _), (2, _), (3, _), (4, _)]) dX8_isCallLike_73 (by decide) rfl ?_
      refine j_goto (tgt := 117) dX8_isCallLike_75 (by decide) ?_
      refine j_aload dX8_isCallLike_117 rfl rfl ?_
      refine j_aload_n dX8_isCallLike_119 rfl rfl ?_
      refine j_getf dX8_isCallLike_120 fX8_40 rfl rfl ?_
      refine j_acmp_ne (tgt := 133) dX8_isCallLike_123 (by decide) (fun c_123 => ?_) (fun c_123 => ?_)
      · exact absurd rfl c_123
      · refine j_iload dX8_isCallLike_126 rfl ?_
        refine j_istore (lo' := [(5, _), (10, _), (9, _), (8, _), (7, _), (6, _), (0, _), (1, _), (2, _), (3, _), (4, _)]) dX8_isCallLike_128 (by decide) rfl ?_
        refine j_goto (tgt := 154) dX8_isCallLike_130 (by decide) ?_
        refine j_iinc (lo' := [(8, _), (5, _), (10, _), (9, _), (7, _), (6, _), (0, _), (1, _), (2, _), (3, _), (4, _)]) dX8_isCallLike_154 rfl rfl (by decide) rfl ?_
        refine j_goto (tgt := 17) dX8_isCallLike_157 (by decide) ?_
        refine j_iload dX8_isCallLike_17 rfl ?_
        refine j_iload dX8_isCallLike_19 rfl ?_
        refine j_icmp_ge (tgt := 160) dX8_isCallLike_21 (by decide) (fun c_21 => ?_) (fun c_21 => ?_)
        · exact absurd c_21 (by decide)
        · refine j_aload dX8_isCallLike_24 rfl rfl ?_
          refine j_iload dX8_isCallLike_26 rfl ?_
          refine j_aald (v := .ref 41) dX8_isCallLike_28 rfl rfl rfl (vp_in_iff.mpr (by decide)) rfl ?_
          refine j_astore (lo' := [(9, _), (8, _), (5, _), (10, _), (7, _), (6, _), (0, _), (1, _), (2, _), (3, _), (4, _)]) dX8_isCallLike_29 rfl (by decide) rfl ?_
          refine j_aload dX8_isCallLike_31 rfl rfl ?_
          refine j_aload_n dX8_isCallLike_33 rfl rfl ?_
          refine j_callV (q := (RX4, TX4, 5)) dX8_isCallLike_34 kX4_become lX8_344 inX4_become seX4_become rfl rfl (z_frame [41, 42, 43, 44, 45, 10, 11, 12, 13, 14] rfl (by decide) (Nat.le_of_ble_eq_true rfl) (c_X4_become hl _ _ _ _ _ _ _ _ _ _)) (Nat.le_of_ble_eq_true rfl) ⟨(Nat.le_of_ble_eq_true rfl), (Nat.le_of_ble_eq_true rfl)⟩ rfl (Nat.le_of_ble_eq_true rfl) rfl rfl (fun _ _ h => h.elim) ?_
          rintro _ _ ⟨_, _, ⟨rfl, _, _, rfl⟩, rfl, rfl⟩
          refine j_w (z_cw _ _ _ _ _ _ _ _ _ _ _ _ _ _ _ _ _ _ _ _ _ _ _ _ _ _ _ _ _ _ _ _ _ _ _ _ _ _ _ _ _ _ _ _ _ _ _ _ _ _ _ _ _ _ _ _ [], z_no) rfl ?_
          refine j_iload_n dX8_isCallLike_37 rfl ?_
          refine j_tsIn (tgt := 64) dX8_isCallLike_38 (by decide) (by decide) rfl (by decide) ?_
          refine j_aload dX8_isCallLike_64 rfl rfl ?_
          refine j_iload_n dX8_isCallLike_66 rfl ?_
          refine j_iload dX8_isCallLike_67 rfl ?_
          refine j_iconst (v := 1) dX8_isCallLike_69 (by decide) ?_
          refine j_callV (q := (RX4, TX4, 5)) dX8_isCallLike_70 kX4_reckon lX8_151 inX4_reckon seX4_reckon rfl rfl (z_frame [41, 42, 43, 44, 45] rfl (by decide) (Nat.le_of_ble_eq_true rfl) (c_X4_reckon hl _ _ _ _ _ _ _ _ (by assumption))) (Nat.le_of_ble_eq_true rfl) ⟨(Nat.le_of_ble_eq_true rfl), (Nat.le_of_ble_eq_true rfl)⟩ rfl (Nat.le_of_ble_eq_true rfl) rfl rfl (fun _ _ h => h.elim) ?_
          rintro _ _ ⟨_, _, ⟨_, rfl, _, _, _, _, hm, rfl⟩, rfl, rfl⟩
          refine j_w (z_cw _ _ _ _ _ _ _ _ _ _ _ _ _ _ _ _ _ _ _ _ _ _ _ _ _ _ _ _ _ _ _ _ _ _ _ _ _ _ _ _ _ _ _ _ _ _ _ _ _ _ _ _ _ _ _ _ [], z_no) rfl ?_
          refine j_istore (lo' := [(10, _), (9, _), (8, _), (5, _), (7, _), (6, _), (0, _), (1, _), (2, _), (3, _), (4, _)]) dX8_isCallLike_73 (by decide) rfl ?_
          refine j_goto (tgt := 117) dX8_isCallLike_75 (by decide) ?_
          refine j_aload dX8_isCallLike_117 rfl rfl ?_
          refine j_aload_n dX8_isCallLike_119 rfl rfl ?_
          refine j_getf dX8_isCallLike_120 fX8_40 rfl rfl ?_
          refine j_acmp_ne (tgt := 133) dX8_isCallLike_123 (by decide) (fun c_123 => ?_) (fun c_123 => ?_)
          · refine j_iload dX8_isCallLike_133 rfl ?_
            refine j_iload dX8_isCallLike_135 rfl ?_
            refine j_icmp_ne (tgt := 152) dX8_isCallLike_137 (by decide) (fun c_137 => ?_) (fun c_137 => ?_)
            · refine j_iconst (v := 0) dX8_isCallLike_152 (by decide) ?_
              refine j_iret dX8_isCallLike_153 rfl rfl ?_ (Nat.le_of_ble_eq_true rfl) (Nat.le_of_ble_eq_true rfl)
              first | exact ⟨rfl, rfl, ⟨true, rfl⟩, _, _, _, _, _, _, _, _, _, _, _, _, (by assumption), (by assumption), (by assumption), rfl⟩ | exact ⟨rfl, rfl, ⟨false, rfl⟩, _, _, _, _, _, _, _, _, _, _, _, _, (by assumption), (by assumption), (by assumption), rfl⟩
            · refine j_aload dX8_isCallLike_140 rfl rfl ?_
              refine j_aload_n dX8_isCallLike_142 rfl rfl ?_
              refine j_getf dX8_isCallLike_143 fX8_40 rfl rfl ?_
              refine j_callV (q := (RX4, TX4, 5)) dX8_isCallLike_146 kX4_hasPairsOf lX8_230 inX4_hasPairsOf seX4_hasPairsOf rfl rfl (z_frame [41, 42, 43, 44, 45, 35, 36, 37, 38, 39] rfl (by decide) (Nat.le_of_ble_eq_true rfl) (c_X4_hasPairsOf hl _ _ _ _ _ _ _ _ _ _)) (Nat.le_of_ble_eq_true rfl) ⟨(Nat.le_of_ble_eq_true rfl), (Nat.le_of_ble_eq_true rfl)⟩ rfl (Nat.le_of_ble_eq_true rfl) rfl rfl (fun _ _ h => h.elim) ?_
              rintro _ _ ⟨_, _, ⟨b, rfl, rfl⟩, rfl, rfl⟩
              refine j_w (z_cw _ _ _ _ _ _ _ _ _ _ _ _ _ _ _ _ _ _ _ _ _ _ _ _ _ _ _ _ _ _ _ _ _ _ _ _ _ _ _ _ _ _ _ _ _ _ _ _ _ _ _ _ _ _ _ _ [], z_no) rfl ?_
              refine j_if_ne (tgt := 154) dX8_isCallLike_149 (by decide) (fun c_149 => ?_) (fun c_149 => ?_)
              · refine j_iinc (lo' := [(8, _), (10, _), (9, _), (5, _), (7, _), (6, _), (0, _), (1, _), (2, _), (3, _), (4, _)]) dX8_isCallLike_154 rfl rfl (by decide) rfl ?_
                refine j_goto (tgt := 17) dX8_isCallLike_157 (by decide) ?_
                refine j_iload dX8_isCallLike_17 rfl ?_
                refine j_iload dX8_isCallLike_19 rfl ?_
                refine j_icmp_ge (tgt := 160) dX8_isCallLike_21 (by decide) (fun c_21 => ?_) (fun c_21 => ?_)
                · exact absurd c_21 (by decide)
                · refine j_aload dX8_isCallLike_24 rfl rfl ?_
                  refine j_iload dX8_isCallLike_26 rfl ?_
                  refine j_aald (v := .ref 46) dX8_isCallLike_28 rfl rfl rfl (vp_in_iff.mpr (by decide)) rfl ?_
                  refine j_astore (lo' := [(9, _), (8, _), (10, _), (5, _), (7, _), (6, _), (0, _), (1, _), (2, _), (3, _), (4, _)]) dX8_isCallLike_29 rfl (by decide) rfl ?_
                  refine j_aload dX8_isCallLike_31 rfl rfl ?_
                  refine j_aload_n dX8_isCallLike_33 rfl rfl ?_
                  refine j_callV (q := (RX4, TX4, 5)) dX8_isCallLike_34 kX4_become lX8_344 inX4_become seX4_become rfl rfl (z_frame [46, 47, 48, 49, 50, 10, 11, 12, 13, 14] rfl (by decide) (Nat.le_of_ble_eq_true rfl) (c_X4_become hl _ _ _ _ _ _ _ _ _ _)) (Nat.le_of_ble_eq_true rfl) ⟨(Nat.le_of_ble_eq_true rfl), (Nat.le_of_ble_eq_true rfl)⟩ rfl (Nat.le_of_ble_eq_true rfl) rfl rfl (fun _ _ h => h.elim) ?_
                  rintro _ _ ⟨_, _, ⟨rfl, _, _, rfl⟩, rfl, rfl⟩
                  refine j_w (z_cw _ _ _ _ _ _ _ _ _ _ _ _ _ _ _ _ _ _ _ _ _ _ _ _ _ _ _ _ _ _ _ _ _ _ _ _ _ _ _ _ _ _ _ _ _ _ _ _ _ _ _ _ _ _ _ _ [], z_no) rfl ?_
                  refine j_iload_n dX8_isCallLike_37 rfl ?_
                  refine j_tsIn (tgt := 64) dX8_isCallLike_38 (by decide) (by decide) rfl (by decide) ?_
                  refine j_aload dX8_isCallLike_64 rfl rfl ?_
                  refine j_iload_n dX8_isCallLike_66 rfl ?_
                  refine j_iload dX8_isCallLike_67 rfl ?_
                  refine j_iconst (v := 1) dX8_isCallLike_69 (by decide) ?_
                  refine j_callV (q := (RX4, TX4, 5)) dX8_isCallLike_70 kX4_reckon lX8_151 inX4_reckon seX4_reckon rfl rfl (z_frame [46, 47, 48, 49, 50] rfl (by decide) (Nat.le_of_ble_eq_true rfl) (c_X4_reckon hl _ _ _ _ _ _ _ _ (by assumption))) (Nat.le_of_ble_eq_true rfl) ⟨(Nat.le_of_ble_eq_true rfl), (Nat.le_of_ble_eq_true rfl)⟩ rfl (Nat.le_of_ble_eq_true rfl) rfl rfl (fun _ _ h => h.elim) ?_
                  rintro _ _ ⟨_, _, ⟨_, rfl, _, _, _, _, hm, rfl⟩, rfl, rfl⟩
                  refine j_w (z_cw _ _ _ _ _ _ _ _ _ _ _ _ _ _ _ _ _ _ _ _ _ _ _ _ _ _ _ _ _ _ _ _ _ _ _ _ _ _ _ _ _ _ _ _ _ _ _ _ _ _ _ _ _ _ _ _ [], z_no) rfl ?_
                  refine j_istore (lo' := [(10, _), (9, _), (8, _), (5, _), (7, _), (6, _), (0, _), (1, _), (2, _), (3, _), (4, _)]) dX8_isCallLike_73 (by decide) rfl ?_
                  refine j_goto (tgt := 117) dX8_isCallLike_75 (by decide) ?_
                  refine j_aload dX8_isCallLike_117 rfl rfl ?_
                  refine j_aload_n dX8_isCallLike_119 rfl rfl ?_
                  refine j_getf dX8_isCallLike_120 fX8_40 rfl rfl ?_
                  refine j_acmp_ne (tgt := 133) dX8_isCallLike_123 (by decide) (fun c_123 => ?_) (fun c_123 => ?_)
                  · refine j_iload dX8_isCallLike_133 rfl ?_
                    refine j_iload dX8_isCallLike_135 rfl ?_
                    refine j_icmp_ne (tgt := 152) dX8_isCallLike_137 (by decide) (fun c_137 => ?_) (fun c_137 => ?_)
                    · refine j_iconst (v := 0) dX8_isCallLike_152 (by decide) ?_
                      refine j_iret dX8_isCallLike_153 rfl rfl ?_ (Nat.le_of_ble_eq_true rfl) (Nat.le_of_ble_eq_true rfl)
                      first | exact ⟨rfl, rfl, ⟨true, rfl⟩, _, _, _, _, _, _, _, _, _, _, _, _, (by assumption), (by assumption), (by assumption), rfl⟩ | exact ⟨rfl, rfl, ⟨false, rfl⟩, _, _, _, _, _, _, _, _, _, _, _, _, (by assumption), (by assumption), (by assumption), rfl⟩
                    · refine j_aload dX8_isCallLike_140 rfl rfl ?_
                      refine j_aload_n dX8_isCallLike_142 rfl rfl ?_
                      refine j_getf dX8_isCallLike_143 fX8_40 rfl rfl ?_
                      refine j_callV (q := (RX4, TX4, 5)) dX8_isCallLike_146 kX4_hasPairsOf lX8_230 inX4_hasPairsOf seX4_hasPairsOf rfl rfl (z_frame [46, 47, 48, 49, 50, 35, 36, 37, 38, 39] rfl (by decide) (Nat.le_of_ble_eq_true rfl) (c_X4_hasPairsOf hl _ _ _ _ _ _ _ _ _ _)) (Nat.le_of_ble_eq_true rfl) ⟨(Nat.le_of_ble_eq_true rfl), (Nat.le_of_ble_eq_true rfl)⟩ rfl (Nat.le_of_ble_eq_true rfl) rfl rfl (fun _ _ h => h.elim) ?_
                      rintro _ _ ⟨_, _, ⟨b, rfl, rfl⟩, rfl, rfl⟩
                      refine j_w (z_cw _ _ _ _ _ _ _ _ _ _ _ _ _ _ _ _ _ _ _ _ _ _ _ _ _ _ _ _ _ _ _ _ _ _ _ _ _ _ _ _ _ _ _ _ _ _ _ _ _ _ _ _ _ _ _ _ [], z_no) rfl ?_
                      refine j_if_ne (tgt := 154) dX8_isCallLike_149 (by decide) (fun c_149 => ?_) (fun c_149 => ?_)
                      · refine j_iinc (lo' := [(8, _), (10, _), (9, _), (5, _), (7, _), (6, _), (0, _), (1, _), (2, _), (3, _), (4, _)]) dX8_isCallLike_154 rfl rfl (by decide) rfl ?_
                        refine j_goto (tgt := 17) dX8_isCallLike_157 (by decide) ?_
                        refine j_iload dX8_isCallLike_17 rfl ?_
                        refine j_iload dX8_isCallLike_19 rfl ?_
                        refine j_icmp_ge (tgt := 160) dX8_isCallLike_21 (by decide) (fun c_21 => ?_) (fun c_21 => ?_)
                        · refine j_iconst (v := 1) dX8_isCallLike_160 (by decide) ?_
                          refine j_iret dX8_isCallLike_161 rfl rfl ?_ (Nat.le_of_ble_eq_true rfl) (Nat.le_of_ble_eq_true rfl)
                          first | exact ⟨rfl, rfl, ⟨true, rfl⟩, _, _, _, _, _, _, _, _, _, _, _, _, (by assumption), (by assumption), (by assumption), rfl⟩ | exact ⟨rfl, rfl, ⟨false, rfl⟩, _, _, _, _, _, _, _, _, _, _, _, _, (by assumption), (by assumption), (by assumption), rfl⟩
                        · exact absurd (by decide) c_21
                      · refine j_iconst (v := 0) dX8_isCallLike_152 (by decide) ?_
                        refine j_iret dX8_isCallLike_153 rfl rfl ?_ (Nat.le_of_ble_eq_true rfl) (Nat.le_of_ble_eq_true rfl)
                        first | exact ⟨rfl, rfl, ⟨true, rfl⟩, _, _, _, _, _, _, _, _, _, _, _, _, (by assumption), (by assumption), (by assumption), rfl⟩ | exact ⟨rfl, rfl, ⟨false, rfl⟩, _, _, _, _, _, _, _, _, _, _, _, _, (by assumption), (by assumption), (by assumption), rfl⟩
                  · exact absurd c_123 (by decide)
              · refine j_iconst (v := 0) dX8_isCallLike_152 (by decide) ?_
                refine j_iret dX8_isCallLike_153 rfl rfl ?_ (Nat.le_of_ble_eq_true rfl) (Nat.le_of_ble_eq_true rfl)
                first | exact ⟨rfl, rfl, ⟨true, rfl⟩, _, _, _, _, _, _, _, _, _, _, _, _, (by assumption), (by assumption), (by assumption), rfl⟩ | exact ⟨rfl, rfl, ⟨false, rfl⟩, _, _, _, _, _, _, _, _, _, _, _, _, (by assumption), (by assumption), (by assumption), rfl⟩
          · exact absurd c_123 (by decide)
    · refine j_tsIn (tgt := 78) dX8_isCallLike_38 (by decide) (by decide) rfl (by decide) ?_
      refine j_aload dX8_isCallLike_78 rfl rfl ?_
      refine j_iload_n dX8_isCallLike_80 rfl ?_
      refine j_iload dX8_isCallLike_81 rfl ?_
      refine j_iconst (v := 1) dX8_isCallLike_83 (by decide) ?_
      refine j_callV (q := (RX4, TX4, 5)) dX8_isCallLike_84 kX4_reckonAbsent lX8_144 inX4_reckonAbsent seX4_reckonAbsent rfl rfl (z_frame [35, 36, 37, 38, 39] rfl (by decide) (Nat.le_of_ble_eq_true rfl) (c_X4_reckonAbsent hl _ _ _ _ _ _ _ _ (by assumption))) (Nat.le_of_ble_eq_true rfl) ⟨(Nat.le_of_ble_eq_true rfl), (Nat.le_of_ble_eq_true rfl)⟩ rfl (Nat.le_of_ble_eq_true rfl) rfl rfl (fun _ _ h => h.elim) ?_
      rintro _ _ ⟨_, _, ⟨_, rfl, _, _, _, _, hm, rfl⟩, rfl, rfl⟩
      refine j_w (z_cw _ _ _ _ _ _ _ _ _ _ _ _ _ _ _ _ _ _ _ _ _ _ _ _ _ _ _ _ _ _ _ _ _ _ _ _ _ _ _ _ _ _ _ _ _ _ _ _ _ _ _ _ _ _ _ _ [], z_no) rfl ?_
      refine j_istore (lo' := [(10, _), (9, _), (8, _), (7, _), (6, _), (5, _), (0, _), (1, _), (2, _), (3, _), (4, _)]) dX8_isCallLike_87 (by decide) rfl ?_
      refine j_goto (tgt := 117) dX8_isCallLike_89 (by decide) ?_
      refine j_aload dX8_isCallLike_117 rfl rfl ?_
      refine j_aload_n dX8_isCallLike_119 rfl rfl ?_
      refine j_getf dX8_isCallLike_120 fX8_40 rfl rfl ?_
      refine j_acmp_ne (tgt := 133) dX8_isCallLike_123 (by decide) (fun c_123 => ?_) (fun c_123 => ?_)
      · exact absurd rfl c_123
      · refine j_iload dX8_isCallLike_126 rfl ?_
        refine j_istore (lo' := [(5, _), (10, _), (9, _), (8, _), (7, _), (6, _), (0, _), (1, _), (2, _), (3, _), (4, _)]) dX8_isCallLike_128 (by decide) rfl ?_
        refine j_goto (tgt := 154) dX8_isCallLike_130 (by decide) ?_
        refine j_iinc (lo' := [(8, _), (5, _), (10, _), (9, _), (7, _), (6, _), (0, _), (1, _), (2, _), (3, _), (4, _)]) dX8_isCallLike_154 rfl rfl (by decide) rfl ?_
        refine j_goto (tgt := 17) dX8_isCallLike_157 (by decide) ?_
        refine j_iload dX8_isCallLike_17 rfl ?_
        refine j_iload dX8_isCallLike_19 rfl ?_
        refine j_icmp_ge (tgt := 160) dX8_isCallLike_21 (by decide) (fun c_21 => ?_) (fun c_21 => ?_)
        · exact absurd c_21 (by decide)
        · refine j_aload dX8_isCallLike_24 rfl rfl ?_
          refine j_iload dX8_isCallLike_26 rfl ?_
          refine j_aald (v := .ref 41) dX8_isCallLike_28 rfl rfl rfl (vp_in_iff.mpr (by decide)) rfl ?_
          refine j_astore (lo' := [(9, _), (8, _), (5, _), (10, _), (7, _), (6, _), (0, _), (1, _), (2, _), (3, _), (4, _)]) dX8_isCallLike_29 rfl (by decide) rfl ?_
          refine j_aload dX8_isCallLike_31 rfl rfl ?_
          refine j_aload_n dX8_isCallLike_33 rfl rfl ?_
          refine j_callV (q := (RX4, TX4, 5)) dX8_isCallLike_34 kX4_become lX8_344 inX4_become seX4_become rfl rfl (z_frame [41, 42, 43, 44, 45, 10, 11, 12, 13, 14] rfl (by decide) (Nat.le_of_ble_eq_true rfl) (c_X4_become hl _ _ _ _ _ _ _ _ _ _)) (Nat.le_of_ble_eq_true rfl) ⟨(Nat.le_of_ble_eq_true rfl), (Nat.le_of_ble_eq_true rfl)⟩ rfl (Nat.le_of_ble_eq_true rfl) rfl rfl (fun _ _ h => h.elim) ?_
          rintro _ _ ⟨_, _, ⟨rfl, _, _, rfl⟩, rfl, rfl⟩
          refine j_w (z_cw _ _ _ _ _ _ _ _ _ _ _ _ _ _ _ _ _ _ _ _ _ _ _ _ _ _ _ _ _ _ _ _ _ _ _ _ _ _ _ _ _ _ _ _ _ _ _ _ _ _ _ _ _ _ _ _ [], z_no) rfl ?_
          refine j_iload_n dX8_isCallLike_37 rfl ?_
          refine j_tsIn (tgt := 78) dX8_isCallLike_38 (by decide) (by decide) rfl (by decide) ?_
          refine j_aload dX8_isCallLike_78 rfl rfl ?_
          refine j_iload_n dX8_isCallLike_80 rfl ?_
          refine j_iload dX8_isCallLike_81 rfl ?_
          refine j_iconst (v := 1) dX8_isCallLike_83 (by decide) ?_
          refine j_callV (q := (RX4, TX4, 5)) dX8_isCallLike_84 kX4_reckonAbsent lX8_144 inX4_reckonAbsent seX4_reckonAbsent rfl rfl (z_frame [41, 42, 43, 44, 45] rfl (by decide) (Nat.le_of_ble_eq_true rfl) (c_X4_reckonAbsent hl _ _ _ _ _ _ _ _ (by assumption))) (Nat.le_of_ble_eq_true rfl) ⟨(Nat.le_of_ble_eq_true rfl), (Nat.le_of_ble_eq_true rfl)⟩ rfl (Nat.le_of_ble_eq_true rfl) rfl rfl (fun _ _ h => h.elim) ?_
          rintro _ _ ⟨_, _, ⟨_, rfl, _, _, _, _, hm, rfl⟩, rfl, rfl⟩
          refine j_w (z_cw _ _ _ _ _ _ _ _ _ _ _ _ _ _ _ _ _ _ _ _ _ _ _ _ _ _ _ _ _ _ _ _ _ _ _ _ _ _ _ _ _ _ _ _ _ _ _ _ _ _ _ _ _ _ _ _ [], z_no) rfl ?_
          refine j_istore (lo' := [(10, _), (9, _), (8, _), (5, _), (7, _), (6, _), (0, _), (1, _), (2, _), (3, _), (4, _)]) dX8_isCallLike_87 (by decide) rfl ?_
          refine j_goto (tgt := 117) dX8_isCallLike_89 (by decide) ?_
          refine j_aload dX8_isCallLike_117 rfl rfl ?_
          refine j_aload_n dX8_isCallLike_119 rfl rfl ?_
          refine j_getf dX8_isCallLike_120 fX8_40 rfl rfl ?_
          refine j_acmp_ne (tgt := 133) dX8_isCallLike_123 (by decide) (fun c_123 => ?_) (fun c_123 => ?_)
          · refine j_iload dX8_isCallLike_133 rfl ?_
            refine j_iload dX8_isCallLike_135 rfl ?_
            refine j_icmp_ne (tgt := 152) dX8_isCallLike_137 (by decide) (fun c_137 => ?_) (fun c_137 => ?_)
            · refine j_iconst (v := 0) dX8_isCallLike_152 (by decide) ?_
              refine j_iret dX8_isCallLike_153 rfl rfl ?_ (Nat.le_of_ble_eq_true rfl) (Nat.le_of_ble_eq_true rfl)
              first | exact ⟨rfl, rfl, ⟨true, rfl⟩, _, _, _, _, _, _, _, _, _, _, _, _, (by assumption), (by assumption), (by assumption), rfl⟩ | exact ⟨rfl, rfl, ⟨false, rfl⟩, _, _, _, _, _, _, _, _, _, _, _, _, (by assumption), (by assumption), (by assumption), rfl⟩
            · refine j_aload dX8_isCallLike_140 rfl rfl ?_
              refine j_aload_n dX8_isCallLike_142 rfl rfl ?_
              refine j_getf dX8_isCallLike_143 fX8_40 rfl rfl ?_
              refine j_callV (q := (RX4, TX4, 5)) dX8_isCallLike_146 kX4_hasPairsOf lX8_230 inX4_hasPairsOf seX4_hasPairsOf rfl rfl (z_frame [41, 42, 43, 44, 45, 35, 36, 37, 38, 39] rfl (by decide) (Nat.le_of_ble_eq_true rfl) (c_X4_hasPairsOf hl _ _ _ _ _ _ _ _ _ _)) (Nat.le_of_ble_eq_true rfl) ⟨(Nat.le_of_ble_eq_true rfl), (Nat.le_of_ble_eq_true rfl)⟩ rfl (Nat.le_of_ble_eq_true rfl) rfl rfl (fun _ _ h => h.elim) ?_
              rintro _ _ ⟨_, _, ⟨b, rfl, rfl⟩, rfl, rfl⟩
              refine j_w (z_cw _ _ _ _ _ _ _ _ _ _ _ _ _ _ _ _ _ _ _ _ _ _ _ _ _ _ _ _ _ _ _ _ _ _ _ _ _ _ _ _ _ _ _ _ _ _ _ _ _ _ _ _ _ _ _ _ [], z_no) rfl ?_
              refine j_if_ne (tgt := 154) dX8_isCallLike_149 (by decide) (fun c_149 => ?_) (fun c_149 => ?_)
              · refine j_iinc (lo' := [(8, _), (10, _), (9, _), (5, _), (7, _), (6, _), (0, _), (1, _), (2, _), (3, _), (4, _)]) dX8_isCallLike_154 rfl rfl (by decide) rfl ?_
                refine j_goto (tgt := 17) dX8_isCallLike_157 (by decide) ?_
                refine j_iload dX8_isCallLike_17 rfl ?_
                refine j_iload dX8_isCallLike_19 rfl ?_
                refine j_icmp_ge (tgt := 160) dX8_isCallLike_21 (by decide) (fun c_21 => ?_) (fun c_21 => ?_)
                · exact absurd c_21 (by decide)
                · refine j_aload dX8_isCallLike_24 rfl rfl ?_
                  refine j_iload dX8_isCallLike_26 rfl ?_
                  refine j_aald (v := .ref 46) dX8_isCallLike_28 rfl rfl rfl (vp_in_iff.mpr (by decide)) rfl ?_
                  refine j_astore (lo' := [(9, _), (8, _), (10, _), (5, _), (7, _), (6, _), (0, _), (1, _), (2, _), (3, _), (4, _)]) dX8_isCallLike_29 rfl (by decide) rfl ?_
                  refine j_aload dX8_isCallLike_31 rfl rfl ?_
                  refine j_aload_n dX8_isCallLike_33 rfl rfl ?_
                  refine j_callV (q := (RX4, TX4, 5)) dX8_isCallLike_34 kX4_become lX8_344 inX4_become seX4_become rfl rfl (z_frame [46, 47, 48, 49, 50, 10, 11, 12, 13, 14] rfl (by decide) (Nat.le_of_ble_eq_true rfl) (c_X4_become hl _ _ _ _ _ _ _ _ _ _)) (Nat.le_of_ble_eq_true rfl) ⟨(Nat.le_of_ble_eq_true rfl), (Nat.le_of_ble_eq_true rfl)⟩ rfl (Nat.le_of_ble_eq_true rfl) rfl rfl (fun _ _ h => h.elim) ?_
                  rintro _ _ ⟨_, _, ⟨rfl, _, _, rfl⟩, rfl, rfl⟩
                  refine j_w (z_cw _ _ _ _ _ _ _ _ _ _ _ _ _ _ _ _ _ _ _ _ _ _ _ _ _ _ _ _ _ _ _ _ _ _ _ _ _ _ _ _ _ _ _ _ _ _ _ _ _ _ _ _ _ _ _ _ [], z_no) rfl ?_
                  refine j_iload_n dX8_isCallLike_37 rfl ?_
                  refine j_tsIn (tgt := 78) dX8_isCallLike_38 (by decide) (by decide) rfl (by decide) ?_
                  refine j_aload dX8_isCallLike_78 rfl rfl ?_
                  refine j_iload_n dX8_isCallLike_80 rfl ?_
                  refine j_iload dX8_isCallLike_81 rfl ?_
                  refine j_iconst (v := 1) dX8_isCallLike_83 (by decide) ?_
                  refine j_callV (q := (RX4, TX4, 5)) dX8_isCallLike_84 kX4_reckonAbsent lX8_144 inX4_reckonAbsent seX4_reckonAbsent rfl rfl (z_frame [46, 47, 48, 49, 50] rfl (by decide) (Nat.le_of_ble_eq_true rfl) (c_X4_reckonAbsent hl _ _ _ _ _ _ _ _ (by assumption))) (Nat.le_of_ble_eq_true rfl) ⟨(Nat.le_of_ble_eq_true rfl), (Nat.le_of_ble_eq_true rfl)⟩ rfl (Nat.le_of_ble_eq_true rfl) rfl rfl (fun _ _ h => h.elim) ?_
                  rintro _ _ ⟨_, _, ⟨_, rfl, _, _, _, _, hm, rfl⟩, rfl, rfl⟩
                  refine j_w (z_cw _ _ _ _ _ _ _ _ _ _ _ _ _ _ _ _ _ _ _ _ _ _ _ _ _ _ _ _ _ _ _ _ _ _ _ _ _ _ _ _ _ _ _ _ _ _ _ _ _ _ _ _ _ _ _ _ [], z_no) rfl ?_
                  refine j_istore (lo' := [(10, _), (9, _), (8, _), (5, _), (7, _), (6, _), (0, _), (1, _), (2, _), (3, _), (4, _)]) dX8_isCallLike_87 (by decide) rfl ?_
                  refine j_goto (tgt := 117) dX8_isCallLike_89 (by decide) ?_
                  refine j_aload dX8_isCallLike_117 rfl rfl ?_
                  refine j_aload_n dX8_isCallLike_119 rfl rfl ?_
                  refine j_getf dX8_isCallLike_120 fX8_40 rfl rfl ?_
                  refine j_acmp_ne (tgt := 133) dX8_isCallLike_123 (by decide) (fun c_123 => ?_) (fun c_123 => ?_)
                  · refine j_iload dX8_isCallLike_133 rfl ?_
                    refine j_iload dX8_isCallLike_135 rfl ?_
                    refine j_icmp_ne (tgt := 152) dX8_isCallLike_137 (by decide) (fun c_137 => ?_) (fun c_137 => ?_)
                    · refine j_iconst (v := 0) dX8_isCallLike_152 (by decide) ?_
                      refine j_iret dX8_isCallLike_153 rfl rfl ?_ (Nat.le_of_ble_eq_true rfl) (Nat.le_of_ble_eq_true rfl)
                      first | exact ⟨rfl, rfl, ⟨true, rfl⟩, _, _, _, _, _, _, _, _, _, _, _, _, (by assumption), (by assumption), (by assumption), rfl⟩ | exact ⟨rfl, rfl, ⟨false, rfl⟩, _, _, _, _, _, _, _, _, _, _, _, _, (by assumption), (by assumption), (by assumption), rfl⟩
                    · refine j_aload dX8_isCallLike_140 rfl rfl ?_
                      refine j_aload_n dX8_isCallLike_142 rfl rfl ?_
                      refine j_getf dX8_isCallLike_143 fX8_40 rfl rfl ?_
                      refine j_callV (q := (RX4, TX4, 5)) dX8_isCallLike_146 kX4_hasPairsOf lX8_230 inX4_hasPairsOf seX4_hasPairsOf rfl rfl (z_frame [46, 47, 48, 49, 50, 35, 36, 37, 38, 39] rfl (by decide) (Nat.le_of_ble_eq_true rfl) (c_X4_hasPairsOf hl _ _ _ _ _ _ _ _ _ _)) (Nat.le_of_ble_eq_true rfl) ⟨(Nat.le_of_ble_eq_true rfl), (Nat.le_of_ble_eq_true rfl)⟩ rfl (Nat.le_of_ble_eq_true rfl) rfl rfl (fun _ _ h => h.elim) ?_
                      rintro _ _ ⟨_, _, ⟨b, rfl, rfl⟩, rfl, rfl⟩
                      refine j_w (z_cw _ _ _ _ _ _ _ _ _ _ _ _ _ _ _ _ _ _ _ _ _ _ _ _ _ _ _ _ _ _ _ _ _ _ _ _ _ _ _ _ _ _ _ _ _ _ _ _ _ _ _ _ _ _ _ _ [], z_no) rfl ?_
                      refine j_if_ne (tgt := 154) dX8_isCallLike_149 (by decide) (fun c_149 => ?_) (fun c_149 => ?_)
                      · refine j_iinc (lo' := [(8, _), (10, _), (9, _), (5, _), (7, _), (6, _), (0, _), (1, _), (2, _), (3, _), (4, _)]) dX8_isCallLike_154 rfl rfl (by decide) rfl ?_
                        refine j_goto (tgt := 17) dX8_isCallLike_157 (by decide) ?_
                        refine j_iload dX8_isCallLike_17 rfl ?_
                        refine j_iload dX8_isCallLike_19 rfl ?_
                        refine j_icmp_ge (tgt := 160) dX8_isCallLike_21 (by decide) (fun c_21 => ?_) (fun c_21 => ?_)
                        · refine j_iconst (v := 1) dX8_isCallLike_160 (by decide) ?_
                          refine j_iret dX8_isCallLike_161 rfl rfl ?_ (Nat.le_of_ble_eq_true rfl) (Nat.le_of_ble_eq_true rfl)
                          first | exact ⟨rfl, rfl, ⟨true, rfl⟩, _, _, _, _, _, _, _, _, _, _, _, _, (by assumption), (by assumption), (by assumption), rfl⟩ | exact ⟨rfl, rfl, ⟨false, rfl⟩, _, _, _, _, _, _, _, _, _, _, _, _, (by assumption), (by assumption), (by assumption), rfl⟩
                        · exact absurd (by decide) c_21
                      · refine j_iconst (v := 0) dX8_isCallLike_152 (by decide) ?_
                        refine j_iret dX8_isCallLike_153 rfl rfl ?_ (Nat.le_of_ble_eq_true rfl) (Nat.le_of_ble_eq_true rfl)
                        first | exact ⟨rfl, rfl, ⟨true, rfl⟩, _, _, _, _, _, _, _, _, _, _, _, _, (by assumption), (by assumption), (by assumption), rfl⟩ | exact ⟨rfl, rfl, ⟨false, rfl⟩, _, _, _, _, _, _, _, _, _, _, _, _, (by assumption), (by assumption), (by assumption), rfl⟩
                  · exact absurd c_123 (by decide)
              · refine j_iconst (v := 0) dX8_isCallLike_152 (by decide) ?_
                refine j_iret dX8_isCallLike_153 rfl rfl ?_ (Nat.le_of_ble_eq_true rfl) (Nat.le_of_ble_eq_true rfl)
                first | exact ⟨rfl, rfl, ⟨true, rfl⟩, _, _, _, _, _, _, _, _, _, _, _, _, (by assumption), (by assumption), (by assumption), rfl⟩ | exact ⟨rfl, rfl, ⟨false, rfl⟩, _, _, _, _, _, _, _, _, _, _, _, _, (by assumption), (by assumption), (by assumption), rfl⟩
          · exact absurd c_123 (by decide)
    · refine j_tsIn (tgt := 92) dX8_isCallLike_38 (by decide) (by decide) rfl (by decide) ?_
      refine j_aload dX8_isCallLike_92 rfl rfl ?_
      refine j_iload_n dX8_isCallLike_94 rfl ?_
      refine j_iload dX8_isCallLike_95 rfl ?_
      refine j_iconst (v := 1) dX8_isCallLike_97 (by decide) ?_
      refine j_callV (q := (RX4, TX4, 5)) dX8_isCallLike_98 kX4_reckonPresent lX8_148 inX4_reckonPresent seX4_reckonPresent rfl rfl (z_frame [35, 36, 37, 38, 39] rfl (by decide) (Nat.le_of_ble_eq_true rfl) (c_X4_reckonPresent hl _ _ _ _ _ _ _ _ (by assumption))) (Nat.le_of_ble_eq_true rfl) ⟨(Nat.le_of_ble_eq_true rfl), (Nat.le_of_ble_eq_true rfl)⟩ rfl (Nat.le_of_ble_eq_true rfl) rfl rfl (fun _ _ h => h.elim) ?_
      rintro _ _ ⟨_, _, ⟨_, rfl, _, _, _, _, hm, rfl⟩, rfl, rfl⟩
      refine j_w (z_cw _ _ _ _ _ _ _ _ _ _ _ _ _ _ _ _ _ _ _ _ _ _ _ _ _ _ _ _ _ _ _ _ _ _ _ _ _ _ _ _ _ _ _ _ _ _ _ _ _ _ _ _ _ _ _ _ [], z_no) rfl ?_
      refine j_istore (lo' := [(10, _), (9, _), (8, _), (7, _), (6, _), (5, _), (0, _), (1, _), (2, _), (3, _), (4, _)]) dX8_isCallLike_101 (by decide) rfl ?_
      refine j_goto (tgt := 117) dX8_isCallLike_103 (by decide) ?_
      refine j_aload dX8_isCallLike_117 rfl rfl ?_
      refine j_aload_n dX8_isCallLike_119 rfl rfl ?_
      refine j_getf dX8_isCallLike_120 fX8_40 rfl rfl ?_
      refine j_acmp_ne (tgt := 133) dX8_isCallLike_123 (by decide) (fun c_123 => ?_) (fun c_123 => ?_)
      · exact absurd rfl c_123
      · refine j_iload dX8_isCallLike_126 rfl ?_
        refine j_istore (lo' := [(5, _), (10, _), (9, _), (8, _), (7, _), (6, _), (0, _), (1, _), (2, _), (3, _), (4, _)]) dX8_isCallLike_128 (by decide) rfl ?_
        refine j_goto (tgt := 154) dX8_isCallLike_130 (by decide) ?_
        refine j_iinc (lo' := [(8, _), (5, _), (10, _), (9, _), (7, _), (6, _), (0, _), (1, _), (2, _), (3, _), (4, _)]) dX8_isCallLike_154 rfl rfl (by decide) rfl ?_
        refine j_goto (tgt := 17) dX8_isCallLike_157 (by decide) ?_
        refine j_iload dX8_isCallLike_17 rfl ?_
        refine j_iload dX8_isCallLike_19 rfl ?_
        refine j_icmp_ge (tgt := 160) dX8_isCallLike_21 (by decide) (fun c_21 => ?_) (fun c_21 => ?_)
        · exact absurd c_21 (by decide)
        · refine j_aload dX8_isCallLike_24 rfl rfl ?_
          refine j_iload dX8_isCallLike_26 rfl ?_
          refine j_aald (v := .ref 41) dX8_isCallLike_28 rfl rfl rfl (vp_in_iff.mpr (by decide)) rfl ?_
          refine j_astore (lo' := [(9, _), (8, _), (5, _), (10, _), (7, _), (6, _), (0, _), (1, _), (2, _), (3, _), (4, _)]) dX8_isCallLike_29 rfl (by decide) rfl ?_
          refine j_aload dX8_isCallLike_31 rfl rfl ?_
          refine j_aload_n dX8_isCallLike_33 rfl rfl ?_
          refine j_callV (q := (RX4, TX4, 5)) dX8_isCallLike_34 kX4_become lX8_344 inX4_become seX4_become rfl rfl (z_frame [41, 42, 43, 44, 45, 10, 11, 12, 13, 14] rfl (by decide) (Nat.le_of_ble_eq_true rfl) (c_X4_become hl _ _ _ _ _ _ _ _ _ _)) (Nat.le_of_ble_eq_true rfl) ⟨(Nat.le_of_ble_eq_true rfl), (Nat.le_of_ble_eq_true rfl)⟩ rfl (Nat.le_of_ble_eq_true rfl) rfl rfl (fun _ _ h => h.elim) ?_
          rintro _ _ ⟨_, _, ⟨rfl, _, _, rfl⟩, rfl, rfl⟩
          refine j_w (z_cw _ _ _ _ _ _ _ _ _ _ _ _ _ _ _ _ _ _ _ _ _ _ _ _ _ _ _ _ _ _ _ _ _ _ _ _ _ _ _ _ _ _ _ _ _ _ _ _ _ _ _ _ _ _ _ _ [], z_no) rfl ?_
          refine j_iload_n dX8_isCallLike_37 rfl ?_
          refine j_tsIn (tgt := 92) dX8_isCallLike_38 (by decide) (by decide) rfl (by decide) ?_
          refine j_aload dX8_isCallLike_92 rfl rfl ?_
          refine j_iload_n dX8_isCallLike_94 rfl ?_
          refine j_iload dX8_isCallLike_95 rfl ?_
          refine j_iconst (v := 1) dX8_isCallLike_97 (by decide) ?_
          refine j_callV (q := (RX4, TX4, 5)) dX8_isCallLike_98 kX4_reckonPresent lX8_148 inX4_reckonPresent seX4_reckonPresent rfl rfl (z_frame [41, 42, 43, 44, 45] rfl (by decide) (Nat.le_of_ble_eq_true rfl) (c_X4_reckonPresent hl _ _ _ _ _ _ _ _ (by assumption))) (Nat.le_of_ble_eq_true rfl) ⟨(Nat.le_of_ble_eq_true rfl), (Nat.le_of_ble_eq_true rfl)⟩ rfl (Nat.le_of_ble_eq_true rfl) rfl rfl (fun _ _ h => h.elim) ?_
          rintro _ _ ⟨_, _, ⟨_, rfl, _, _, _, _, hm, rfl⟩, rfl, rfl⟩
          refine j_w (z_cw _ _ _ _ _ _ _ _ _ _ _ _ _ _ _ _ _ _ _ _ _ _ _ _ _ _ _ _ _ _ _ _ _ _ _ _ _ _ _ _ _ _ _ _ _ _ _ _ _ _ _ _ _ _ _ _ [], z_no) rfl ?_
          refine j_istore (lo' := [(10, _), (9, _), (8, _), (5, _), (7, _), (6, _), (0, _), (1, _), (2, _), (3, _), (4, _)]) dX8_isCallLike_101 (by decide) rfl ?_
          refine j_goto (tgt := 117) dX8_isCallLike_103 (by decide) ?_
          refine j_aload dX8_isCallLike_117 rfl rfl ?_
          refine j_aload_n dX8_isCallLike_119 rfl rfl ?_
          refine j_getf dX8_isCallLike_120 fX8_40 rfl rfl ?_
          refine j_acmp_ne (tgt := 133) dX8_isCallLike_123 (by decide) (fun c_123 => ?_) (fun c_123 => ?_)
          · refine j_iload dX8_isCallLike_133 rfl ?_
            refine j_iload dX8_isCallLike_135 rfl ?_
            refine j_icmp_ne (tgt := 152) dX8_isCallLike_137 (by decide) (fun c_137 => ?_) (fun c_137 => ?_)
            · refine j_iconst (v := 0) dX8_isCallLike_152 (by decide) ?_
              refine j_iret dX8_isCallLike_153 rfl rfl ?_ (Nat.le_of_ble_eq_true rfl) (Nat.le_of_ble_eq_true rfl)
              first | exact ⟨rfl, rfl, ⟨true, rfl⟩, _, _, _, _, _, _, _, _, _, _, _, _, (by assumption), (by assumption), (by assumption), rfl⟩ | exact ⟨rfl, rfl, ⟨false, rfl⟩, _, _, _, _, _, _, _, _, _, _, _, _, (by assumption), (by assumption), (by assumption), rfl⟩
            · refine j_aload dX8_isCallLike_140 rfl rfl ?_
              refine j_aload_n dX8_isCallLike_142 rfl rfl ?_
              refine j_getf dX8_isCallLike_143 fX8_40 rfl rfl ?_
              refine j_callV (q := (RX4, TX4, 5)) dX8_isCallLike_146 kX4_hasPairsOf lX8_230 inX4_hasPairsOf seX4_hasPairsOf rfl rfl (z_frame [41, 42, 43, 44, 45, 35, 36, 37, 38, 39] rfl (by decide) (Nat.le_of_ble_eq_true rfl) (c_X4_hasPairsOf hl _ _ _ _ _ _ _ _ _ _)) (Nat.le_of_ble_eq_true rfl) ⟨(Nat.le_of_ble_eq_true rfl), (Nat.le_of_ble_eq_true rfl)⟩ rfl (Nat.le_of_ble_eq_true rfl) rfl rfl (fun _ _ h => h.elim) ?_
              rintro _ _ ⟨_, _, ⟨b, rfl, rfl⟩, rfl, rfl⟩
              refine j_w (z_cw _ _ _ _ _ _ _ _ _ _ _ _ _ _ _ _ _ _ _ _ _ _ _ _ _ _ _ _ _ _ _ _ _ _ _ _ _ _ _ _ _ _ _ _ _ _ _ _ _ _ _ _ _ _ _ _ [], z_no) rfl ?_
              refine j_if_ne (tgt := 154) dX8_isCallLike_149 (by decide) (fun c_149 => ?_) (fun c_149 => ?_)
              · refine j_iinc (lo' := [(8, _), (10, _), (9, _), (5, _), (7, _), (6, _), (0, _), (1, _), (2, _), (3, _), (4, _)]) dX8_isCallLike_154 rfl rfl (by decide) rfl ?_
                refine j_goto (tgt := 17) dX8_isCallLike_157 (by decide) ?_
                refine j_iload dX8_isCallLike_17 rfl ?_
                refine j_iload dX8_isCallLike_19 rfl ?_
                refine j_icmp_ge (tgt := 160) dX8_isCallLike_21 (by decide) (fun c_21 => ?_) (fun c_21 => ?_)
                · exact absurd c_21 (by decide)
                · refine j_aload dX8_isCallLike_24 rfl rfl ?_
                  refine j_iload dX8_isCallLike_26 rfl ?_
                  refine j_aald (v := .ref 46) dX8_isCallLike_28 rfl rfl rfl (vp_in_iff.mpr (by decide)) rfl ?_
                  refine j_astore (lo' := [(9, _), (8, _), (10, _), (5, _), (7, _), (6, _), (0, _), (1, _), (2, _), (3, _), (4, _)]) dX8_isCallLike_29 rfl (by decide) rfl ?_
                  refine j_aload dX8_isCallLike_31 rfl rfl ?_
                  refine j_aload_n dX8_isCallLike_33 rfl rfl ?_
                  refine j_callV (q := (RX4, TX4, 5)) dX8_isCallLike_34 kX4_become lX8_344 inX4_become seX4_become rfl rfl (z_frame [46, 47, 48, 49, 50, 10, 11, 12, 13, 14] rfl (by decide) (Nat.le_of_ble_eq_true rfl) (c_X4_become hl _ _ _ _ _ _ _ _ _ _)) (Nat.le_of_ble_eq_true rfl) ⟨(Nat.le_of_ble_eq_true rfl), (Nat.le_of_ble_eq_true rfl)⟩ rfl (Nat.le_of_ble_eq_true rfl) rfl rfl (fun _ _ h => h.elim) ?_
                  rintro _ _ ⟨_, _, ⟨rfl, _, _, rfl⟩, rfl, rfl⟩
                  refine j_w (z_cw _ _ _ _ _ _ _ _ _ _ _ _ _ _ _ _ _ _ _ _ _ _ _ _ _ _ _ _ _ _ _ _ _ _ _ _ _ _ _ _ _ _ _ _ _ _ _ _ _ _ _ _ _ _ _ _ [], z_no) rfl ?_
                  refine j_iload_n dX8_isCallLike_37 rfl ?_
                  refine j_tsIn (tgt := 92) dX8_isCallLike_38 (by decide) (by decide) rfl (by decide) ?_
                  refine j_aload dX8_isCallLike_92 rfl rfl ?_
                  refine j_iload_n dX8_isCallLike_94 rfl ?_
                  refine j_iload dX8_isCallLike_95 rfl ?_
                  refine j_iconst (v := 1) dX8_isCallLike_97 (by decide) ?_
                  refine j_callV (q := (RX4, TX4, 5)) dX8_isCallLike_98 kX4_reckonPresent lX8_148 inX4_reckonPresent seX4_reckonPresent rfl rfl (z_frame [46, 47, 48, 49, 50] rfl (by decide) (Nat.le_of_ble_eq_true rfl) (c_X4_reckonPresent hl _ _ _ _ _ _ _ _ (by assumption))) (Nat.le_of_ble_eq_true rfl) ⟨(Nat.le_of_ble_eq_true rfl), (Nat.le_of_ble_eq_true rfl)⟩ rfl (Nat.le_of_ble_eq_true rfl) rfl rfl (fun _ _ h => h.elim) ?_
                  rintro _ _ ⟨_, _, ⟨_, rfl, _, _, _, _, hm, rfl⟩, rfl, rfl⟩
                  refine j_w (z_cw _ _ _ _ _ _ _ _ _ _ _ _ _ _ _ _ _ _ _ _ _ _ _ _ _ _ _ _ _ _ _ _ _ _ _ _ _ _ _ _ _ _ _ _ _ _ _ _ _ _ _ _ _ _ _ _ [], z_no) rfl ?_
                  refine j_istore (lo' := [(10, _), (9, _), (8, _), (5, _), (7, _), (6, _), (0, _), (1, _), (2, _), (3, _), (4, _)]) dX8_isCallLike_101 (by decide) rfl ?_
                  refine j_goto (tgt := 117) dX8_isCallLike_103 (by decide) ?_
                  refine j_aload dX8_isCallLike_117 rfl rfl ?_
                  refine j_aload_n dX8_isCallLike_119 rfl rfl ?_
                  refine j_getf dX8_isCallLike_120 fX8_40 rfl rfl ?_
                  refine j_acmp_ne (tgt := 133) dX8_isCallLike_123 (by decide) (fun c_123 => ?_) (fun c_123 => ?_)
                  · refine j_iload dX8_isCallLike_133 rfl ?_
                    refine j_iload dX8_isCallLike_135 rfl ?_
                    refine j_icmp_ne (tgt := 152) dX8_isCallLike_137 (by decide) (fun c_137 => ?_) (fun c_137 => ?_)
                    · refine j_iconst (v := 0) dX8_isCallLike_152 (by decide) ?_
                      refine j_iret dX8_isCallLike_153 rfl rfl ?_ (Nat.le_of_ble_eq_true rfl) (Nat.le_of_ble_eq_true rfl)
                      first | exact ⟨rfl, rfl, ⟨true, rfl⟩, _, _, _, _, _, _, _, _, _, _, _, _, (by assumption), (by assumption), (by assumption), rfl⟩ | exact ⟨rfl, rfl, ⟨false, rfl⟩, _, _, _, _, _, _, _, _, _, _, _, _, (by assumption), (by assumption), (by assumption), rfl⟩
                    · refine j_aload dX8_isCallLike_140 rfl rfl ?_
                      refine j_aload_n dX8_isCallLike_142 rfl rfl ?_
                      refine j_getf dX8_isCallLike_143 fX8_40 rfl rfl ?_
                      refine j_callV (q := (RX4, TX4, 5)) dX8_isCallLike_146 kX4_hasPairsOf lX8_230 inX4_hasPairsOf seX4_hasPairsOf rfl rfl (z_frame [46, 47, 48, 49, 50, 35, 36, 37, 38, 39] rfl (by decide) (Nat.le_of_ble_eq_true rfl) (c_X4_hasPairsOf hl _ _ _ _ _ _ _ _ _ _)) (Nat.le_of_ble_eq_true rfl) ⟨(Nat.le_of_ble_eq_true rfl), (Nat.le_of_ble_eq_true rfl)⟩ rfl (Nat.le_of_ble_eq_true rfl) rfl rfl (fun _ _ h => h.elim) ?_
                      rintro _ _ ⟨_, _, ⟨b, rfl, rfl⟩, rfl, rfl⟩
                      refine j_w (z_cw _ _ _ _ _ _ _ _ _ _ _ _ _ _ _ _ _ _ _ _ _ _ _ _ _ _ _ _ _ _ _ _ _ _ _ _ _ _ _ _ _ _ _ _ _ _ _ _ _ _ _ _ _ _ _ _ [], z_no) rfl ?_
                      refine j_if_ne (tgt := 154) dX8_isCallLike_149 (by decide) (fun c_149 => ?_) (fun c_149 => ?_)
                      · refine j_iinc (lo' := [(8, _), (10, _), (9, _), (5, _), (7, _), (6, _), (0, _), (1, _), (2, _), (3, _), (4, _)]) dX8_isCallLike_154 rfl rfl (by decide) rfl ?_
                        refine j_goto (tgt := 17) dX8_isCallLike_157 (by decide) ?_
                        refine j_iload dX8_isCallLike_17 rfl ?_
                        refine j_iload dX8_isCallLike_19 rfl ?_
                        refine j_icmp_ge (tgt := 160) dX8_isCallLike_21 (by decide) (fun c_21 => ?_) (fun c_21 => ?_)
                        · refine j_iconst (v := 1) dX8_isCallLike_160 (by decide) ?_
                          refine j_iret dX8_isCallLike_161 rfl rfl ?_ (Nat.le_of_ble_eq_true rfl) (Nat.le_of_ble_eq_true rfl)
                          first | exact ⟨rfl, rfl, ⟨true, rfl⟩, _, _, _, _, _, _, _, _, _, _, _, _, (by assumption), (by assumption), (by assumption), rfl⟩ | exact ⟨rfl, rfl, ⟨false, rfl⟩, _, _, _, _, _, _, _, _, _, _, _, _, (by assumption), (by assumption), (by assumption), rfl⟩
                        · exact absurd (by decide) c_21
                      · refine j_iconst (v := 0) dX8_isCallLike_152 (by decide) ?_
                        refine j_iret dX8_isCallLike_153 rfl rfl ?_ (Nat.le_of_ble_eq_true rfl) (Nat.le_of_ble_eq_true rfl)
                        first | exact ⟨rfl, rfl, ⟨true, rfl⟩, _, _, _, _, _, _, _, _, _, _, _, _, (by assumption), (by assumption), (by assumption), rfl⟩ | exact ⟨rfl, rfl, ⟨false, rfl⟩, _, _, _, _, _, _, _, _, _, _, _, _, (by assumption), (by assumption), (by assumption), rfl⟩
                  · exact absurd c_123 (by decide)
              · refine j_iconst (v := 0) dX8_isCallLike_152 (by decide) ?_
                refine j_iret dX8_isCallLike_153 rfl rfl ?_ (Nat.le_of_ble_eq_true rfl) (Nat.le_of_ble_eq_true rfl)
                first | exact ⟨rfl, rfl, ⟨true, rfl⟩, _, _, _, _, _, _, _, _, _, _, _, _, (by assumption), (by assumption), (by assumption), rfl⟩ | exact ⟨rfl, rfl, ⟨false, rfl⟩, _, _, _, _, _, _, _, _, _, _, _, _, (by assumption), (by assumption), (by assumption), rfl⟩
          · exact absurd c_123 (by decide)
    · refine j_tsOut (tgt := 106) dX8_isCallLike_38 hp (by decide) ?_
      refine j_aload dX8_isCallLike_106 rfl rfl ?_
      refine j_iload_n dX8_isCallLike_108 rfl ?_
      refine j_iconst (v := 1) dX8_isCallLike_109 (by decide) ?_
      refine j_iload dX8_isCallLike_110 rfl ?_
      refine j_callV (q := (RX4, TX4, 5)) dX8_isCallLike_112 kX4_join lX8_154 inX4_join seX4_join rfl rfl (z_frame [35, 36, 37, 38, 39] rfl (by decide) (Nat.le_of_ble_eq_true rfl) (c_X4_join hl _ _ _ _ _ _ _ _ (by assumption))) (Nat.le_of_ble_eq_true rfl) ⟨(Nat.le_of_ble_eq_true rfl), (Nat.le_of_ble_eq_true rfl)⟩ rfl (Nat.le_of_ble_eq_true rfl) rfl rfl (fun _ _ h => h.elim) ?_
      rintro _ _ ⟨_, _, ⟨_, rfl, _, _, _, _, hm, rfl⟩, rfl, rfl⟩
      refine j_w (z_cw _ _ _ _ _ _ _ _ _ _ _ _ _ _ _ _ _ _ _ _ _ _ _ _ _ _ _ _ _ _ _ _ _ _ _ _ _ _ _ _ _ _ _ _ _ _ _ _ _ _ _ _ _ _ _ _ [], z_no) rfl ?_
      refine j_istore (lo' := [(10, _), (9, _), (8, _), (7, _), (6, _), (5, _), (0, _), (1, _), (2, _), (3, _), (4, _)]) dX8_isCallLike_115 (by decide) rfl ?_
      refine j_aload dX8_isCallLike_117 rfl rfl ?_
      refine j_aload_n dX8_isCallLike_119 rfl rfl ?_
      refine j_getf dX8_isCallLike_120 fX8_40 rfl rfl ?_
      refine j_acmp_ne (tgt := 133) dX8_isCallLike_123 (by decide) (fun c_123 => ?_) (fun c_123 => ?_)
      · exact absurd rfl c_123
      · refine j_iload dX8_isCallLike_126 rfl ?_
        refine j_istore (lo' := [(5, _), (10, _), (9, _), (8, _), (7, _), (6, _), (0, _), (1, _), (2, _), (3, _), (4, _)]) dX8_isCallLike_128 (by decide) rfl ?_
        refine j_goto (tgt := 154) dX8_isCallLike_130 (by decide) ?_
        refine j_iinc (lo' := [(8, _), (5, _), (10, _), (9, _), (7, _), (6, _), (0, _), (1, _), (2, _), (3, _), (4, _)]) dX8_isCallLike_154 rfl rfl (by decide) rfl ?_
        refine j_goto (tgt := 17) dX8_isCallLike_157 (by decide) ?_
        refine j_iload dX8_isCallLike_17 rfl ?_
        refine j_iload dX8_isCallLike_19 rfl ?_
        refine j_icmp_ge (tgt := 160) dX8_isCallLike_21 (by decide) (fun c_21 => ?_) (fun c_21 => ?_)
        · exact absurd c_21 (by decide)
        · refine j_aload dX8_isCallLike_24 rfl rfl ?_
          refine j_iload dX8_isCallLike_26 rfl ?_
          refine j_aald (v := .ref 41) dX8_isCallLike_28 rfl rfl rfl (vp_in_iff.mpr (by decide)) rfl ?_
          refine j_astore (lo' := [(9, _), (8, _), (5, _), (10, _), (7, _), (6, _), (0, _), (1, _), (2, _), (3, _), (4, _)]) dX8_isCallLike_29 rfl (by decide) rfl ?_
          refine j_aload dX8_isCallLike_31 rfl rfl ?_
          refine j_aload_n dX8_isCallLike_33 rfl rfl ?_
          refine j_callV (q := (RX4, TX4, 5)) dX8_isCallLike_34 kX4_become lX8_344 inX4_become seX4_become rfl rfl (z_frame [41, 42, 43, 44, 45, 10, 11, 12, 13, 14] rfl (by decide) (Nat.le_of_ble_eq_true rfl) (c_X4_become hl _ _ _ _ _ _ _ _ _ _)) (Nat.le_of_ble_eq_true rfl) ⟨(Nat.le_of_ble_eq_true rfl), (Nat.le_of_ble_eq_true rfl)⟩ rfl (Nat.le_of_ble_eq_true rfl) rfl rfl (fun _ _ h => h.elim) ?_
          rintro _ _ ⟨_, _, ⟨rfl, _, _, rfl⟩, rfl, rfl⟩
          refine j_w (z_cw _ _ _ _ _ _ _ _ _ _ _ _ _ _ _ _ _ _ _ _ _ _ _ _ _ _ _ _ _ _ _ _ _ _ _ _ _ _ _ _ _ _ _ _ _ _ _ _ _ _ _ _ _ _ _ _ [], z_no) rfl ?_
          refine j_iload_n dX8_isCallLike_37 rfl ?_
          refine j_tsOut (tgt := 106) dX8_isCallLike_38 hp (by decide) ?_
          refine j_aload dX8_isCallLike_106 rfl rfl ?_
          refine j_iload_n dX8_isCallLike_108 rfl ?_
          refine j_iconst (v := 1) dX8_isCallLike_109 (by decide) ?_
          refine j_iload dX8_isCallLike_110 rfl ?_
          refine j_callV (q := (RX4, TX4, 5)) dX8_isCallLike_112 kX4_join lX8_154 inX4_join seX4_join rfl rfl (z_frame [41, 42, 43, 44, 45] rfl (by decide) (Nat.le_of_ble_eq_true rfl) (c_X4_join hl _ _ _ _ _ _ _ _ (by assumption))) (Nat.le_of_ble_eq_true rfl) ⟨(Nat.le_of_ble_eq_true rfl), (Nat.le_of_ble_eq_true rfl)⟩ rfl (Nat.le_of_ble_eq_true rfl) rfl rfl (fun _ _ h => h.elim) ?_
          rintro _ _ ⟨_, _, ⟨_, rfl, _, _, _, _, hm, rfl⟩, rfl, rfl⟩
          refine j_w (z_cw _ _ _ _ _ _ _ _ _ _ _ _ _ _ _ _ _ _ _ _ _ _ _ _ _ _ _ _ _ _ _ _ _ _ _ _ _ _ _ _ _ _ _ _ _ _ _ _ _ _ _ _ _ _ _ _ [], z_no) rfl ?_
          refine j_istore (lo' := [(10, _), (9, _), (8, _), (5, _), (7, _), (6, _), (0, _), (1, _), (2, _), (3, _), (4, _)]) dX8_isCallLike_115 (by decide) rfl ?_
          refine j_aload dX8_isCallLike_117 rfl rfl ?_
          refine j_aload_n dX8_isCallLike_119 rfl rfl ?_
          refine j_getf dX8_isCallLike_120 fX8_40 rfl rfl ?_
          refine j_acmp_ne (tgt := 133) dX8_isCallLike_123 (by decide) (fun c_123 => ?_) (fun c_123 => ?_)
          · refine j_iload dX8_isCallLike_133 rfl ?_
            refine j_iload dX8_isCallLike_135 rfl ?_
            refine j_icmp_ne (tgt := 152) dX8_isCallLike_137 (by decide) (fun c_137 => ?_) (fun c_137 => ?_)
            · refine j_iconst (v := 0) dX8_isCallLike_152 (by decide) ?_
              refine j_iret dX8_isCallLike_153 rfl rfl ?_ (Nat.le_of_ble_eq_true rfl) (Nat.le_of_ble_eq_true rfl)
              first | exact ⟨rfl, rfl, ⟨true, rfl⟩, _, _, _, _, _, _, _, _, _, _, _, _, (by assumption), (by assumption), (by assumption), rfl⟩ | exact ⟨rfl, rfl, ⟨false, rfl⟩, _, _, _, _, _, _, _, _, _, _, _, _, (by assumption), (by assumption), (by assumption), rfl⟩
            · refine j_aload dX8_isCallLike_140 rfl rfl ?_
              refine j_aload_n dX8_isCallLike_142 rfl rfl ?_
              refine j_getf dX8_isCallLike_143 fX8_40 rfl rfl ?_
              refine j_callV (q := (RX4, TX4, 5)) dX8_isCallLike_146 kX4_hasPairsOf lX8_230 inX4_hasPairsOf seX4_hasPairsOf rfl rfl (z_frame [41, 42, 43, 44, 45, 35, 36, 37, 38, 39] rfl (by decide) (Nat.le_of_ble_eq_true rfl) (c_X4_hasPairsOf hl _ _ _ _ _ _ _ _ _ _)) (Nat.le_of_ble_eq_true rfl) ⟨(Nat.le_of_ble_eq_true rfl), (Nat.le_of_ble_eq_true rfl)⟩ rfl (Nat.le_of_ble_eq_true rfl) rfl rfl (fun _ _ h => h.elim) ?_
              rintro _ _ ⟨_, _, ⟨b, rfl, rfl⟩, rfl, rfl⟩
              refine j_w (z_cw _ _ _ _ _ _ _ _ _ _ _ _ _ _ _ _ _ _ _ _ _ _ _ _ _ _ _ _ _ _ _ _ _ _ _ _ _ _ _ _ _ _ _ _ _ _ _ _ _ _ _ _ _ _ _ _ [], z_no) rfl ?_
              refine j_if_ne (tgt := 154) dX8_isCallLike_149 (by decide) (fun c_149 => ?_) (fun c_149 => ?_)
              · refine j_iinc (lo' := [(8, _), (10, _), (9, _), (5, _), (7, _), (6, _), (0, _), (1, _), (2, _), (3, _), (4, _)]) dX8_isCallLike_154 rfl rfl (by decide) rfl ?_
                refine j_goto (tgt := 17) dX8_isCallLike_157 (by decide) ?_
                refine j_iload dX8_isCallLike_17 rfl ?_
                refine j_iload dX8_isCallLike_19 rfl ?_
                refine j_icmp_ge (tgt := 160) dX8_isCallLike_21 (by decide) (fun c_21 => ?_) (fun c_21 => ?_)
                · exact absurd c_21 (by decide)
                · refine j_aload dX8_isCallLike_24 rfl rfl ?_
                  refine j_iload dX8_isCallLike_26 rfl ?_
                  refine j_aald (v := .ref 46) dX8_isCallLike_28 rfl rfl rfl (vp_in_iff.mpr (by decide)) rfl ?_
                  refine j_astore (lo' := [(9, _), (8, _), (10, _), (5, _), (7, _), (6, _), (0, _), (1, _), (2, _), (3, _), (4, _)]) dX8_isCallLike_29 rfl (by decide) rfl ?_
                  refine j_aload dX8_isCallLike_31 rfl rfl ?_
                  refine j_aload_n dX8_isCallLike_33 rfl rfl ?_
                  refine j_callV (q := (RX4, TX4, 5)) dX8_isCallLike_34 kX4_become lX8_344 inX4_become seX4_become rfl rfl (z_frame [46, 47, 48, 49, 50, 10, 11, 12, 13, 14] rfl (by decide) (Nat.le_of_ble_eq_true rfl) (c_X4_become hl _ _ _ _ _ _ _ _ _ _)) (Nat.le_of_ble_eq_true rfl) ⟨(Nat.le_of_ble_eq_true rfl), (Nat.le_of_ble_eq_true rfl)⟩ rfl (Nat.le_of_ble_eq_true rfl) rfl rfl (fun _ _ h => h.elim) ?_
                  rintro _ _ ⟨_, _, ⟨rfl, _, _, rfl⟩, rfl, rfl⟩
                  refine j_w (z_cw _ _ _ _ _ _ _ _ _ _ _ _ _ _ _ _ _ _ _ _ _ _ _ _ _ _ _ _ _ _ _ _ _ _ _ _ _ _ _ _ _ _ _ _ _ _ _ _ _ _ _ _ _ _ _ _ [], z_no) rfl ?_
                  refine j_iload_n dX8_isCallLike_37 rfl ?_
                  refine j_tsOut (tgt := 106) dX8_isCallLike_38 hp (by decide) ?_
                  refine j_aload dX8_isCallLike_106 rfl rfl ?_
                  refine j_iload_n dX8_isCallLike_108 rfl ?_
                  refine j_iconst (v := 1) dX8_isCallLike_109 (by decide) ?_
                  refine j_iload dX8_isCallLike_110 rfl ?_
                  refine j_callV (q := (RX4, TX4, 5)) dX8_isCallLike_112 kX4_join lX8_154 inX4_join seX4_join rfl rfl (z_frame [46, 47, 48, 49, 50] rfl (by decide) (Nat.le_of_ble_eq_true rfl) (c_X4_join hl _ _ _ _ _ _ _ _ (by assumption))) (Nat.le_of_ble_eq_true rfl) ⟨(Nat.le_of_ble_eq_true rfl), (Nat.le_of_ble_eq_true rfl)⟩ rfl (Nat.le_of_ble_eq_true rfl) rfl rfl (fun _ _ h => h.elim) ?_
                  rintro _ _ ⟨_, _, ⟨_, rfl, _, _, _, _, hm, rfl⟩, rfl, rfl⟩
                  refine j_w (z_cw _ _ _ _ _ _ _ _ _ _ _ _ _ _ _ _ _ _ _ _ _ _ _ _ _ _ _ _ _ _ _ _ _ _ _ _ _ _ _ _ _ _ _ _ _ _ _ _ _ _ _ _ _ _ _ _ [], z_no) rfl ?_
                  refine j_istore (lo' := [(10, _), (9, _), (8, _), (5, _), (7, _), (6, _), (0, _), (1, _), (2, _), (3, _), (4, _)]) dX8_isCallLike_115 (by decide) rfl ?_
                  refine j_aload dX8_isCallLike_117 rfl rfl ?_
                  refine j_aload_n dX8_isCallLike_119 rfl rfl ?_
                  refine j_getf dX8_isCallLike_120 fX8_40 rfl rfl ?_
                  refine j_acmp_ne (tgt := 133) dX8_isCallLike_123 (by decide) (fun c_123 => ?_) (fun c_123 => ?_)
                  · refine j_iload dX8_isCallLike_133 rfl ?_
                    refine j_iload dX8_isCallLike_135 rfl ?_
                    refine j_icmp_ne (tgt := 152) dX8_isCallLike_137 (by decide) (fun c_137 => ?_) (fun c_137 => ?_)
                    · refine j_iconst (v := 0) dX8_isCallLike_152 (by decide) ?_
                      refine j_iret dX8_isCallLike_153 rfl rfl ?_ (Nat.le_of_ble_eq_true rfl) (Nat.le_of_ble_eq_true rfl)
                      first | exact ⟨rfl, rfl, ⟨true, rfl⟩, _, _, _, _, _, _, _, _, _, _, _, _, (by assumption), (by assumption), (by assumption), rfl⟩ | exact ⟨rfl, rfl, ⟨false, rfl⟩, _, _, _, _, _, _, _, _, _, _, _, _, (by assumption), (by assumption), (by assumption), rfl⟩
                    · refine j_aload dX8_isCallLike_140 rfl rfl ?_
                      refine j_aload_n dX8_isCallLike_142 rfl rfl ?_
                      refine j_getf dX8_isCallLike_143 fX8_40 rfl rfl ?_
                      refine j_callV (q := (RX4, TX4, 5)) dX8_isCallLike_146 kX4_hasPairsOf lX8_230 inX4_hasPairsOf seX4_hasPairsOf rfl rfl (z_frame [46, 47, 48, 49, 50, 35, 36, 37, 38, 39] rfl (by decide) (Nat.le_of_ble_eq_true rfl) (c_X4_hasPairsOf hl _ _ _ _ _ _ _ _ _ _)) (Nat.le_of_ble_eq_true rfl) ⟨(Nat.le_of_ble_eq_true rfl), (Nat.le_of_ble_eq_true rfl)⟩ rfl (Nat.le_of_ble_eq_true rfl) rfl rfl (fun _ _ h => h.elim) ?_
                      rintro _ _ ⟨_, _, ⟨b, rfl, rfl⟩, rfl, rfl⟩
                      refine j_w (z_cw _ _ _ _ _ _ _ _ _ _ _ _ _ _ _ _ _ _ _ _ _ _ _ _ _ _ _ _ _ _ _ _ _ _ _ _ _ _ _ _ _ _ _ _ _ _ _ _ _ _ _ _ _ _ _ _ [], z_no) rfl ?_
                      refine j_if_ne (tgt := 154) dX8_isCallLike_149 (by decide) (fun c_149 => ?_) (fun c_149 => ?_)
                      · refine j_iinc (lo' := [(8, _), (10, _), (9, _), (5, _), (7, _), (6, _), (0, _), (1, _), (2, _), (3, _), (4, _)]) dX8_isCallLike_154 rfl rfl (by decide) rfl ?_
                        refine j_goto (tgt := 17) dX8_isCallLike_157 (by decide) ?_
                        refine j_iload dX8_isCallLike_17 rfl ?_
                        refine j_iload dX8_isCallLike_19 rfl ?_
                        refine j_icmp_ge (tgt := 160) dX8_isCallLike_21 (by decide) (fun c_21 => ?_) (fun c_21 => ?_)
                        · refine j_iconst (v := 1) dX8_isCallLike_160 (by decide) ?_
                          refine j_iret dX8_isCallLike_161 rfl rfl ?_ (Nat.le_of_ble_eq_true rfl) (Nat.le_of_ble_eq_true rfl)
                          first | exact ⟨rfl, rfl, ⟨true, rfl⟩, _, _, _, _, _, _, _, _, _, _, _, _, (by assumption), (by assumption), (by assumption), rfl⟩ | exact ⟨rfl, rfl, ⟨false, rfl⟩, _, _, _, _, _, _, _, _, _, _, _, _, (by assumption), (by assumption), (by assumption), rfl⟩
                        · exact absurd (by decide) c_21
                      · refine j_iconst (v := 0) dX8_isCallLike_152 (by decide) ?_
                        refine j_iret dX8_isCallLike_153 rfl rfl ?_ (Nat.le_of_ble_eq_true rfl) (Nat.le_of_ble_eq_true rfl)
                        first | exact ⟨rfl, rfl, ⟨true, rfl⟩, _, _, _, _, _, _, _, _, _, _, _, _, (by assumption), (by assumption), (by assumption), rfl⟩ | exact ⟨rfl, rfl, ⟨false, rfl⟩, _, _, _, _, _, _, _, _, _, _, _, _, (by assumption), (by assumption), (by assumption), rfl⟩
                  · exact absurd c_123 (by decide)
              · refine j_iconst (v := 0) dX8_isCallLike_152 (by decide) ?_
                refine j_iret dX8_isCallLike_153 rfl rfl ?_ (Nat.le_of_ble_eq_true rfl) (Nat.le_of_ble_eq_true rfl)
                first | exact ⟨rfl, rfl, ⟨true, rfl⟩, _, _, _, _, _, _, _, _, _, _, _, _, (by assumption), (by assumption), (by assumption), rfl⟩ | exact ⟨rfl, rfl, ⟨false, rfl⟩, _, _, _, _, _, _, _, _, _, _, _, _, (by assumption), (by assumption), (by assumption), rfl⟩
          · exact absurd c_123 (by decide)
set_option maxRecDepth 100000 in
set_option maxHeartbeats 8000000 in
theorem c_X8_areCallsLike_10 (hl : l.stackTraces = false) (rf : Int32) (kn : Int32) (ma : Int32) (xa : Bool) (fa : Nat → Int32) (ca : Nat → Int32) (mb : Int32) (xb : Bool) (fb : Nat → Int32) (cb : Nat → Int32) (mt : Int32) (xt : Bool) (ft : Nat → Int32) (ct : Nat → Int32) (f0 : Nat → Int32) (g0 : Nat → Int32) (c0 : Nat → Int32) (m0 : Int32) (s0 : Int32) (f1 : Nat → Int32) (g1 : Nat → Int32) (c1 : Nat → Int32) (m1 : Int32) (s1 : Int32) (f2 : Nat → Int32) (g2 : Nat → Int32) (c2 : Nat → Int32) (m2 : Int32) (s2 : Int32) (f3 : Nat → Int32) (g3 : Nat → Int32) (c3 : Nat → Int32) (m3 : Int32) (s3 : Int32) (f4 : Nat → Int32) (g4 : Nat → Int32) (c4 : Nat → Int32) (m4 : Int32) (s4 : Int32) (f5 : Nat → Int32) (g5 : Nat → Int32) (c5 : Nat → Int32) (m5 : Int32) (s5 : Int32) (ek0 : Int32) (em0 : Int32) (es0 : Int32) (el0 : Int32) (b0 : Int32) (ef0 : Nat → Int32) (ek1 : Int32) (em1 : Int32) (es1 : Int32) (el1 : Int32) (b1 : Int32) (ef1 : Nat → Int32) (h0 : z_m20 m0) (h1 : z_m20 m1) (h2 : z_m20 m2) (h3 : z_m20 m3) (h4 : z_m20 m4) (h5 : z_m20 m5): z_CF G l mX8_areCallsLike 18 0 0 (z_cw rf kn ma xa fa ca mb xb fb cb mt xt ft ct f0 g0 c0 m0 s0 f1 g1 c1 m1 s1 f2 g2 c2 m2 s2 f3 g3 c3 m3 s3 f4 g4 c4 m4 s4 f5 g5 c5 m5 s5 ek0 em0 es0 el0 b0 ef0 ek1 em1 es1 el1 b1 ef1 []) [.ref 0, .ref 10] (fun v L => (∃ b : Bool, v = some (.int (z_bi b))) ∧ ∃ (f3' g3' c3' : Nat → Int32) (m3' : Int32) (f4' g4' c4' : Nat → Int32) (m4' : Int32) (f5' g5' c5' : Nat → Int32) (m5' : Int32), z_m20 m3' ∧ z_m20 m4' ∧ z_m20 m5' ∧ L = (z_cw rf kn ma xa fa ca mb xb fb cb mt xt ft ct f0 g0 c0 m0 s0 f1 g1 c1 m1 s1 f2 g2 c2 m2 s2 f3' g3' c3' m3' s3 f4' g4' c4' m4' s4 f5' g5' c5' m5' s5 ek0 em0 es0 el0 b0 ef0 ek1 em1 es1 el1 b1 ef1 [])) := by
  refine z_body hl (by decide) rfl (Nat.le_of_ble_eq_true rfl) ?_
  show z_J G l mX8_areCallsLike (z_SF 18 0 0 (z_cw rf kn ma xa fa ca mb xb fb cb mt xt ft ct f0 g0 c0 m0 s0 f1 g1 c1 m1 s1 f2 g2 c2 m2 s2 f3 g3 c3 m3 s3 f4 g4 c4 m4 s4 f5 g5 c5 m5 s5 ek0 em0 es0 el0 b0 ef0 ek1 em1 es1 el1 b1 ef1 []) (fun v L => (∃ b : Bool, v = some (.int (z_bi b))) ∧ ∃ (f3' g3' c3' : Nat → Int32) (m3' : Int32) (f4' g4' c4' : Nat → Int32) (m4' : Int32) (f5' g5' c5' : Nat → Int32) (m5' : Int32), z_m20 m3' ∧ z_m20 m4' ∧ z_m20 m5' ∧ L = (z_cw rf kn ma xa fa ca mb xb fb cb mt xt ft ct f0 g0 c0 m0 s0 f1 g1 c1 m1 s1 f2 g2 c2 m2 s2 f3' g3' c3' m3' s3 f4' g4' c4' m4' s4 f5' g5' c5' m5' s5 ek0 em0 es0 el0 b0 ef0 ek1 em1 es1 el1 b1 ef1 []))) 0 [(0, _), (1, _)] [] _ 0 0
  refine j_iconst (v := 0) dX8_areCallsLike_0 (by decide) ?_
  refine j_istore_n (lo' := [(2, _), (0, _), (1, _)]) dX8_areCallsLike_1 (by decide) rfl ?_
  have loop : ∀ (n j : Nat) (f3' g3' c3' : Nat → Int32) (m3' : Int32) (f4' g4' c4' : Nat → Int32) (m4' : Int32) (f5' g5' c5' : Nat → Int32) (m5' : Int32), j ≤ 4 → 4 < j + n → z_m20 m3' → z_m20 m4' → z_m20 m5' → z_J G l mX8_areCallsLike (z_SF 18 0 0 (z_cw rf kn ma xa fa ca mb xb fb cb mt xt ft ct f0 g0 c0 m0 s0 f1 g1 c1 m1 s1 f2 g2 c2 m2 s2 f3 g3 c3 m3 s3 f4 g4 c4 m4 s4 f5 g5 c5 m5 s5 ek0 em0 es0 el0 b0 ef0 ek1 em1 es1 el1 b1 ef1 []) (fun v L => (∃ b : Bool, v = some (.int (z_bi b))) ∧ ∃ (f3' g3' c3' : Nat → Int32) (m3' : Int32) (f4' g4' c4' : Nat → Int32) (m4' : Int32) (f5' g5' c5' : Nat → Int32) (m5' : Int32), z_m20 m3' ∧ z_m20 m4' ∧ z_m20 m5' ∧ L = (z_cw rf kn ma xa fa ca mb xb fb cb mt xt ft ct f0 g0 c0 m0 s0 f1 g1 c1 m1 s1 f2 g2 c2 m2 s2 f3' g3' c3' m3' s3 f4' g4' c4' m4' s4 f5' g5' c5' m5' s5 ek0 em0 es0 el0 b0 ef0 ek1 em1 es1 el1 b1 ef1 []))) 2 [(0, .ref 0), (1, .ref 10), (2, .int (nI j))] [] ((z_cw rf kn ma xa fa ca mb xb fb cb mt xt ft ct f0 g0 c0 m0 s0 f1 g1 c1 m1 s1 f2 g2 c2 m2 s2 f3' g3' c3' m3' s3 f4' g4' c4' m4' s4 f5' g5' c5' m5' s5 ek0 em0 es0 el0 b0 ef0 ek1 em1 es1 el1 b1 ef1 []), z_no) 0 0 := by
    intro n
    induction n with
    | zero => intro j f3' g3' c3' m3' f4' g4' c4' m4' f5' g5' c5' m5' h1 h2 q3 q4 q5; exact absurd h2 (by omega)
    | succ n ih =>
      intro j f3' g3' c3' m3' f4' g4' c4' m4' f5' g5' c5' m5' h1 h2 q3 q4 q5
      refine j_iload_n dX8_areCallsLike_2 rfl ?_
      refine j_iconst (v := 3) dX8_areCallsLike_3 (by decide) ?_
      refine j_icmp_gt (tgt := 61) dX8_areCallsLike_4 (by decide) (fun c_4 => ?_) (fun c_4 => ?_)
      · refine j_iconst (v := 1) dX8_areCallsLike_61 (by decide) ?_
        refine j_iret dX8_areCallsLike_62 rfl rfl ?_ (Nat.le_of_ble_eq_true rfl) (Nat.le_of_ble_eq_true rfl)
        first | exact ⟨rfl, rfl, ⟨true, rfl⟩, _, _, _, _, _, _, _, _, _, _, _, _, (by assumption), (by assumption), (by assumption), rfl⟩ | exact ⟨rfl, rfl, ⟨false, rfl⟩, _, _, _, _, _, _, _, _, _, _, _, _, (by assumption), (by assumption), (by assumption), rfl⟩
      · have hj : j ≤ 3 := z_leZ 3 rfl c_4 (by omega) (by decide)
        refine j_iconst (v := 0) dX8_areCallsLike_7 (by decide) ?_
        refine j_istore_n (lo' := [(3, _), (0, _), (1, _), (2, _)]) dX8_areCallsLike_8 (by decide) rfl ?_
        have loopj : ∀ (nj jj : Nat) (f3' g3' c3' : Nat → Int32) (m3' : Int32) (f4' g4' c4' : Nat → Int32) (m4' : Int32) (f5' g5' c5' : Nat → Int32) (m5' : Int32), jj ≤ 4 → 4 < jj + nj → z_m20 m3' → z_m20 m4' → z_m20 m5' → z_J G l mX8_areCallsLike (z_SF 18 0 0 (z_cw rf kn ma xa fa ca mb xb fb cb mt xt ft ct f0 g0 c0 m0 s0 f1 g1 c1 m1 s1 f2 g2 c2 m2 s2 f3 g3 c3 m3 s3 f4 g4 c4 m4 s4 f5 g5 c5 m5 s5 ek0 em0 es0 el0 b0 ef0 ek1 em1 es1 el1 b1 ef1 []) (fun v L => (∃ b : Bool, v = some (.int (z_bi b))) ∧ ∃ (f3' g3' c3' : Nat → Int32) (m3' : Int32) (f4' g4' c4' : Nat → Int32) (m4' : Int32) (f5' g5' c5' : Nat → Int32) (m5' : Int32), z_m20 m3' ∧ z_m20 m4' ∧ z_m20 m5' ∧ L = (z_cw rf kn ma xa fa ca mb xb fb cb mt xt ft ct f0 g0 c0 m0 s0 f1 g1 c1 m1 s1 f2 g2 c2 m2 s2 f3' g3' c3' m3' s3 f4' g4' c4' m4' s4 f5' g5' c5' m5' s5 ek0 em0 es0 el0 b0 ef0 ek1 em1 es1 el1 b1 ef1 []))) 9 [(0, .ref 0), (1, .ref 10), (2, .int (nI j)), (3, .int (nI jj))] [] ((z_cw rf kn ma xa fa ca mb xb fb cb mt xt ft ct f0 g0 c0 m0 s0 f1 g1 c1 m1 s1 f2 g2 c2 m2 s2 f3' g3' c3' m3' s3 f4' g4' c4' m4' s4 f5' g5' c5' m5' s5 ek0 em0 es0 el0 b0 ef0 ek1 em1 es1 el1 b1 ef1 []), z_no) 0 0 := by
          intro nj
          induction nj with
          | zero => intro jj f3' g3' c3' m3' f4' g4' c4' m4' f5' g5' c5' m5' h1j h2j q3 q4 q5; exact absurd h2j (by omega)
          | succ nj ihj =>
            intro jj f3' g3' c3' m3' f4' g4' c4' m4' f5' g5' c5' m5' h1j h2j q3 q4 q5
            refine j_iload_n dX8_areCallsLike_9 rfl ?_
            refine j_iconst (v := 3) dX8_areCallsLike_10 (by decide) ?_
            refine j_icmp_gt (tgt := 55) dX8_areCallsLike_11 (by decide) (fun c_11 => ?_) (fun c_11 => ?_)
            · refine j_iinc (lo' := [(2, _), (0, _), (1, _), (3, _)]) dX8_areCallsLike_55 rfl (z_inc _) (by decide) rfl ?_
              refine j_goto (tgt := 2) dX8_areCallsLike_58 (by decide) ?_
              exact j_lo2 (ih (j + 1) _ _ _ _ _ _ _ _ _ _ _ _ (by omega) (by omega) (by assumption) (by assumption) (by assumption)) (z_q1 rfl (z_q1 rfl (z_q1 rfl z_q0)))
            · have hjj : jj ≤ 3 := z_leZ 3 rfl c_11 (by omega) (by decide)
              refine j_aload_n dX8_areCallsLike_14 rfl rfl ?_
              refine j_aload_n dX8_areCallsLike_15 rfl rfl ?_
              refine j_iload_n dX8_areCallsLike_16 rfl ?_
              refine j_iload_n dX8_areCallsLike_17 rfl ?_
              refine j_iconst (v := 0) dX8_areCallsLike_18 (by decide) ?_
              refine j_callV (q := (RX8, TX8, 9)) dX8_areCallsLike_19 kX8_isCallLike lX8_346 inX8_isCallLike seX8_isCallLike rfl rfl (z_dirF (c_X8_isCallLike_10 hl _ _ _ _ _ _ _ _ _ _ _ _ _ _ _ _ _ _ _ _ _ _ _ _ _ _ _ _ _ _ _ _ _ _ _ _ _ _ _ _ _ _ _ _ _ _ _ _ _ _ _ _ _ _ _ _ _ _ _ (by assumption) (by assumption) (by assumption) (by assumption) (by assumption) (by assumption))) (Nat.le_of_ble_eq_true rfl) ⟨(Nat.le_of_ble_eq_true rfl), (Nat.le_of_ble_eq_true rfl)⟩ rfl (Nat.le_of_ble_eq_true rfl) rfl rfl (fun _ _ h => h.elim) ?_
              rintro _ _ ⟨_, ⟨⟨b, rfl⟩, _, _, _, _, _, _, _, _, _, _, _, _, q3, q4, q5, rfl⟩, rfl⟩
              refine j_if_eq (tgt := 47) dX8_areCallsLike_22 (by decide) (fun c_22 => ?_) (fun c_22 => ?_)
              · refine j_iconst (v := 0) dX8_areCallsLike_47 (by decide) ?_
                refine j_iret dX8_areCallsLike_48 rfl rfl ?_ (Nat.le_of_ble_eq_true rfl) (Nat.le_of_ble_eq_true rfl)
                first | exact ⟨rfl, rfl, ⟨true, rfl⟩, _, _, _, _, _, _, _, _, _, _, _, _, (by assumption), (by assumption), (by assumption), rfl⟩ | exact ⟨rfl, rfl, ⟨false, rfl⟩, _, _, _, _, _, _, _, _, _, _, _, _, (by assumption), (by assumption), (by assumption), rfl⟩
              · refine j_aload_n dX8_areCallsLike_25 rfl rfl ?_
                refine j_aload_n dX8_areCallsLike_26 rfl rfl ?_
                refine j_iload_n dX8_areCallsLike_27 rfl ?_
                refine j_iload_n dX8_areCallsLike_28 rfl ?_
                refine j_iconst (v := 2) dX8_areCallsLike_29 (by decide) ?_
                refine j_callV (q := (RX8, TX8, 9)) dX8_areCallsLike_30 kX8_isCallLike lX8_346 inX8_isCallLike seX8_isCallLike rfl rfl (z_dirF (c_X8_isCallLike_10 hl _ _ _ _ _ _ _ _ _ _ _ _ _ _ _ _ _ _ _ _ _ _ _ _ _ _ _ _ _ _ _ _ _ _ _ _ _ _ _ _ _ _ _ _ _ _ _ _ _ _ _ _ _ _ _ _ _ _ _ (by assumption) (by assumption) (by assumption) (by assumption) (by assumption) (by assumption))) (Nat.le_of_ble_eq_true rfl) ⟨(Nat.le_of_ble_eq_true rfl), (Nat.le_of_ble_eq_true rfl)⟩ rfl (Nat.le_of_ble_eq_true rfl) rfl rfl (fun _ _ h => h.elim) ?_
                rintro _ _ ⟨_, ⟨⟨b, rfl⟩, _, _, _, _, _, _, _, _, _, _, _, _, q3, q4, q5, rfl⟩, rfl⟩
                refine j_if_eq (tgt := 47) dX8_areCallsLike_33 (by decide) (fun c_33 => ?_) (fun c_33 => ?_)
                · refine j_iconst (v := 0) dX8_areCallsLike_47 (by decide) ?_
                  refine j_iret dX8_areCallsLike_48 rfl rfl ?_ (Nat.le_of_ble_eq_true rfl) (Nat.le_of_ble_eq_true rfl)
                  first | exact ⟨rfl, rfl, ⟨true, rfl⟩, _, _, _, _, _, _, _, _, _, _, _, _, (by assumption), (by assumption), (by assumption), rfl⟩ | exact ⟨rfl, rfl, ⟨false, rfl⟩, _, _, _, _, _, _, _, _, _, _, _, _, (by assumption), (by assumption), (by assumption), rfl⟩
                · refine j_aload_n dX8_areCallsLike_36 rfl rfl ?_
                  refine j_aload_n dX8_areCallsLike_37 rfl rfl ?_
                  refine j_iload_n dX8_areCallsLike_38 rfl ?_
                  refine j_iload_n dX8_areCallsLike_39 rfl ?_
                  refine j_iconst (v := 3) dX8_areCallsLike_40 (by decide) ?_
                  refine j_callV (q := (RX8, TX8, 9)) dX8_areCallsLike_41 kX8_isCallLike lX8_346 inX8_isCallLike seX8_isCallLike rfl rfl (z_dirF (c_X8_isCallLike_10 hl _ _ _ _ _ _ _ _ _ _ _ _ _ _ _ _ _ _ _ _ _ _ _ _ _ _ _ _ _ _ _ _ _ _ _ _ _ _ _ _ _ _ _ _ _ _ _ _ _ _ _ _ _ _ _ _ _ _ _ (by assumption) (by assumption) (by assumption) (by assumption) (by assumption) (by assumption))) (Nat.le_of_ble_eq_true rfl) ⟨(Nat.le_of_ble_eq_true rfl), (Nat.le_of_ble_eq_true rfl)⟩ rfl (Nat.le_of_ble_eq_true rfl) rfl rfl (fun _ _ h => h.elim) ?_
                  rintro _ _ ⟨_, ⟨⟨b, rfl⟩, _, _, _, _, _, _, _, _, _, _, _, _, q3, q4, q5, rfl⟩, rfl⟩
                  refine j_if_ne (tgt := 49) dX8_areCallsLike_44 (by decide) (fun c_44 => ?_) (fun c_44 => ?_)
                  · refine j_iinc (lo' := [(3, _), (0, _), (1, _), (2, _)]) dX8_areCallsLike_49 rfl (z_inc _) (by decide) rfl ?_
                    refine j_goto (tgt := 9) dX8_areCallsLike_52 (by decide) ?_
                    exact j_lo2 (ihj (jj + 1) _ _ _ _ _ _ _ _ _ _ _ _ (by omega) (by omega) (by assumption) (by assumption) (by assumption)) (z_q1 rfl (z_q1 rfl (z_q1 rfl (z_q1 rfl z_q0))))
                  · refine j_iconst (v := 0) dX8_areCallsLike_47 (by decide) ?_
                    refine j_iret dX8_areCallsLike_48 rfl rfl ?_ (Nat.le_of_ble_eq_true rfl) (Nat.le_of_ble_eq_true rfl)
                    first | exact ⟨rfl, rfl, ⟨true, rfl⟩, _, _, _, _, _, _, _, _, _, _, _, _, (by assumption), (by assumption), (by assumption), rfl⟩ | exact ⟨rfl, rfl, ⟨false, rfl⟩, _, _, _, _, _, _, _, _, _, _, _, _, (by assumption), (by assumption), (by assumption), rfl⟩
        exact j_lo2 (loopj (4 + 1) 0 _ _ _ _ _ _ _ _ _ _ _ _ (by omega) (by omega) (by assumption) (by assumption) (by assumption)) (z_q1 rfl (z_q1 rfl (z_q1 rfl (z_q1 rfl z_q0))))
  exact j_lo2 (loop (4 + 1) 0 _ _ _ _ _ _ _ _ _ _ _ _ (by omega) (by omega) (by assumption) (by assumption) (by assumption)) (z_q1 rfl (z_q1 rfl (z_q1 rfl z_q0)))
set_option maxRecDepth 100000 in
set_option maxHeartbeats 8000000 in
theorem c_X8_areCopiesLike_16 (hl : l.stackTraces = false) (rf : Int32) (kn : Int32) (ma : Int32) (xa : Bool) (fa : Nat → Int32) (ca : Nat → Int32) (mb : Int32) (xb : Bool) (fb : Nat → Int32) (cb : Nat → Int32) (mt : Int32) (xt : Bool) (ft : Nat → Int32) (ct : Nat → Int32) (f0 : Nat → Int32) (g0 : Nat → Int32) (c0 : Nat → Int32) (m0 : Int32) (s0 : Int32) (f1 : Nat → Int32) (g1 : Nat → Int32) (c1 : Nat → Int32) (m1 : Int32) (s1 : Int32) (f2 : Nat → Int32) (g2 : Nat → Int32) (c2 : Nat → Int32) (m2 : Int32) (s2 : Int32) (f3 : Nat → Int32) (g3 : Nat → Int32) (c3 : Nat → Int32) (m3 : Int32) (s3 : Int32) (f4 : Nat → Int32) (g4 : Nat → Int32) (c4 : Nat → Int32) (m4 : Int32) (s4 : Int32) (f5 : Nat → Int32) (g5 : Nat → Int32) (c5 : Nat → Int32) (m5 : Int32) (s5 : Int32) (ek0 : Int32) (em0 : Int32) (es0 : Int32) (el0 : Int32) (b0 : Int32) (ef0 : Nat → Int32) (ek1 : Int32) (em1 : Int32) (es1 : Int32) (el1 : Int32) (b1 : Int32) (ef1 : Nat → Int32) (h0 : z_m20 m0) (h1 : z_m20 m1) (h2 : z_m20 m2) (h3 : z_m20 m3) (h4 : z_m20 m4) (h5 : z_m20 m5): z_CF G l mX8_areCopiesLike 15 0 0 (z_cw rf kn ma xa fa ca mb xb fb cb mt xt ft ct f0 g0 c0 m0 s0 f1 g1 c1 m1 s1 f2 g2 c2 m2 s2 f3 g3 c3 m3 s3 f4 g4 c4 m4 s4 f5 g5 c5 m5 s5 ek0 em0 es0 el0 b0 ef0 ek1 em1 es1 el1 b1 ef1 []) [.ref 0, .ref 16] (fun v L => (∃ b : Bool, v = some (.int (z_bi b))) ∧ ∃ (f3' g3' c3' : Nat → Int32) (m3' : Int32) (f4' g4' c4' : Nat → Int32) (m4' : Int32) (f5' g5' c5' : Nat → Int32) (m5' : Int32), z_m20 m3' ∧ z_m20 m4' ∧ z_m20 m5' ∧ L = (z_cw rf kn ma xa fa ca mb xb fb cb mt xt ft ct f0 g0 c0 m0 s0 f1 g1 c1 m1 s1 f2 g2 c2 m2 s2 f3' g3' c3' m3' s3 f4' g4' c4' m4' s4 f5' g5' c5' m5' s5 ek0 em0 es0 el0 b0 ef0 ek1 em1 es1 el1 b1 ef1 [])) := by
  refine z_body hl (by decide) rfl (Nat.le_of_ble_eq_true rfl) ?_
  show z_J G l mX8_areCopiesLike (z_SF 15 0 0 (z_cw rf kn ma xa fa ca mb xb fb cb mt xt ft ct f0 g0 c0 m0 s0 f1 g1 c1 m1 s1 f2 g2 c2 m2 s2 f3 g3 c3 m3 s3 f4 g4 c4 m4 s4 f5 g5 c5 m5 s5 ek0 em0 es0 el0 b0 ef0 ek1 em1 es1 el1 b1 ef1 []) (fun v L => (∃ b : Bool, v = some (.int (z_bi b))) ∧ ∃ (f3' g3' c3' : Nat → Int32) (m3' : Int32) (f4' g4' c4' : Nat → Int32) (m4' : Int32) (f5' g5' c5' : Nat → Int32) (m5' : Int32), z_m20 m3' ∧ z_m20 m4' ∧ z_m20 m5' ∧ L = (z_cw rf kn ma xa fa ca mb xb fb cb mt xt ft ct f0 g0 c0 m0 s0 f1 g1 c1 m1 s1 f2 g2 c2 m2 s2 f3' g3' c3' m3' s3 f4' g4' c4' m4' s4 f5' g5' c5' m5' s5 ek0 em0 es0 el0 b0 ef0 ek1 em1 es1 el1 b1 ef1 []))) 0 [(0, _), (1, _)] [] _ 0 0
  refine j_aload_n dX8_areCopiesLike_0 rfl rfl ?_
  refine j_getf dX8_areCopiesLike_1 fX8_43 rfl rfl ?_
  refine j_astore_n (lo' := [(2, _), (0, _), (1, _)]) dX8_areCopiesLike_4 rfl (by decide) rfl ?_
  refine j_aload_n dX8_areCopiesLike_5 rfl rfl ?_
  refine j_alen dX8_areCopiesLike_6 rfl rfl rfl ?_
  refine j_istore_n (lo' := [(3, _), (2, _), (0, _), (1, _)]) dX8_areCopiesLike_7 (by decide) rfl ?_
  refine j_iconst (v := 0) dX8_areCopiesLike_8 (by decide) ?_
  refine j_istore (lo' := [(4, _), (3, _), (2, _), (0, _), (1, _)]) dX8_areCopiesLike_9 (by decide) rfl ?_
  refine j_iload dX8_areCopiesLike_11 rfl ?_
  refine j_iload_n dX8_areCopiesLike_13 rfl ?_
  refine j_icmp_ge (tgt := 46) dX8_areCopiesLike_14 (by decide) (fun c_14 => ?_) (fun c_14 => ?_)
  · exact absurd c_14 (by decide)
  · refine j_aload_n dX8_areCopiesLike_17 rfl rfl ?_
    refine j_iload dX8_areCopiesLike_18 rfl ?_
    refine j_aald (v := .ref 35) dX8_areCopiesLike_20 rfl rfl rfl (vp_in_iff.mpr (by decide)) rfl ?_
    refine j_astore (lo' := [(5, _), (4, _), (3, _), (2, _), (0, _), (1, _)]) dX8_areCopiesLike_21 rfl (by decide) rfl ?_
    refine j_aload dX8_areCopiesLike_23 rfl rfl ?_
    refine j_aload_n dX8_areCopiesLike_25 rfl rfl ?_
    refine j_callV (q := (RX4, TX4, 5)) dX8_areCopiesLike_26 kX4_become lX8_344 inX4_become seX4_become rfl rfl (z_frame [35, 36, 37, 38, 39, 16, 17, 18, 19, 20] rfl (by decide) (Nat.le_of_ble_eq_true rfl) (c_X4_become hl _ _ _ _ _ _ _ _ _ _)) (Nat.le_of_ble_eq_true rfl) ⟨(Nat.le_of_ble_eq_true rfl), (Nat.le_of_ble_eq_true rfl)⟩ rfl (Nat.le_of_ble_eq_true rfl) rfl rfl (fun _ _ h => h.elim) ?_
    rintro _ _ ⟨_, _, ⟨rfl, _, _, rfl⟩, rfl, rfl⟩
    refine j_w (z_cw _ _ _ _ _ _ _ _ _ _ _ _ _ _ _ _ _ _ _ _ _ _ _ _ _ _ _ _ _ _ _ _ _ _ _ _ _ _ _ _ _ _ _ _ _ _ _ _ _ _ _ _ _ _ _ _ [], z_no) rfl ?_
    refine j_aload dX8_areCopiesLike_29 rfl rfl ?_
    refine j_aload_n dX8_areCopiesLike_31 rfl rfl ?_
    refine j_callV (q := (RX4, TX4, 5)) dX8_areCopiesLike_32 kX4_hasPairsOf lX8_230 inX4_hasPairsOf seX4_hasPairsOf rfl rfl (z_frame [35, 36, 37, 38, 39, 16, 17, 18, 19, 20] rfl (by decide) (Nat.le_of_ble_eq_true rfl) (c_X4_hasPairsOf hl _ _ _ _ _ _ _ _ _ _)) (Nat.le_of_ble_eq_true rfl) ⟨(Nat.le_of_ble_eq_true rfl), (Nat.le_of_ble_eq_true rfl)⟩ rfl (Nat.le_of_ble_eq_true rfl) rfl rfl (fun _ _ h => h.elim) ?_
    rintro _ _ ⟨_, _, ⟨b, rfl, rfl⟩, rfl, rfl⟩
    refine j_w (z_cw _ _ _ _ _ _ _ _ _ _ _ _ _ _ _ _ _ _ _ _ _ _ _ _ _ _ _ _ _ _ _ _ _ _ _ _ _ _ _ _ _ _ _ _ _ _ _ _ _ _ _ _ _ _ _ _ [], z_no) rfl ?_
    refine j_if_ne (tgt := 40) dX8_areCopiesLike_35 (by decide) (fun c_35 => ?_) (fun c_35 => ?_)
    · refine j_iinc (lo' := [(4, _), (5, _), (3, _), (2, _), (0, _), (1, _)]) dX8_areCopiesLike_40 rfl rfl (by decide) rfl ?_
      refine j_goto (tgt := 11) dX8_areCopiesLike_43 (by decide) ?_
      refine j_iload dX8_areCopiesLike_11 rfl ?_
      refine j_iload_n dX8_areCopiesLike_13 rfl ?_
      refine j_icmp_ge (tgt := 46) dX8_areCopiesLike_14 (by decide) (fun c_14 => ?_) (fun c_14 => ?_)
      · exact absurd c_14 (by decide)
      · refine j_aload_n dX8_areCopiesLike_17 rfl rfl ?_
        refine j_iload dX8_areCopiesLike_18 rfl ?_
        refine j_aald (v := .ref 41) dX8_areCopiesLike_20 rfl rfl rfl (vp_in_iff.mpr (by decide)) rfl ?_
        refine j_astore (lo' := [(5, _), (4, _), (3, _), (2, _), (0, _), (1, _)]) dX8_areCopiesLike_21 rfl (by decide) rfl ?_
        refine j_aload dX8_areCopiesLike_23 rfl rfl ?_
        refine j_aload_n dX8_areCopiesLike_25 rfl rfl ?_
        refine j_callV (q := (RX4, TX4, 5)) dX8_areCopiesLike_26 kX4_become lX8_344 inX4_become seX4_become rfl rfl (z_frame [41, 42, 43, 44, 45, 16, 17, 18, 19, 20] rfl (by decide) (Nat.le_of_ble_eq_true rfl) (c_X4_become hl _ _ _ _ _ _ _ _ _ _)) (Nat.le_of_ble_eq_true rfl) ⟨(Nat.le_of_ble_eq_true rfl), (Nat.le_of_ble_eq_true rfl)⟩ rfl (Nat.le_of_ble_eq_true rfl) rfl rfl (fun _ _ h => h.elim) ?_
        rintro _ _ ⟨_, _, ⟨rfl, _, _, rfl⟩, rfl, rfl⟩
        refine j_w (z_cw _ _ _ _ _ _ _ _ _ _ _ _ _ _ _ _ _ _ _ _ _ _ _ _ _ _ _ _ _ _ _ _ _ _ _ _ _ _ _ _ _ _ _ _ _ _ _ _ _ _ _ _ _ _ _ _ [], z_no) rfl ?_
        refine j_aload dX8_areCopiesLike_29 rfl rfl ?_
        refine j_aload_n dX8_areCopiesLike_31 rfl rfl ?_
        refine j_callV (q := (RX4, TX4, 5)) dX8_areCopiesLike_32 kX4_hasPairsOf lX8_230 inX4_hasPairsOf seX4_hasPairsOf rfl rfl (z_frame [41, 42, 43, 44, 45, 16, 17, 18, 19, 20] rfl (by decide) (Nat.le_of_ble_eq_true rfl) (c_X4_hasPairsOf hl _ _ _ _ _ _ _ _ _ _)) (Nat.le_of_ble_eq_true rfl) ⟨(Nat.le_of_ble_eq_true rfl), (Nat.le_of_ble_eq_true rfl)⟩ rfl (Nat.le_of_ble_eq_true rfl) rfl rfl (fun _ _ h => h.elim) ?_
        rintro _ _ ⟨_, _, ⟨b, rfl, rfl⟩, rfl, rfl⟩
        refine j_w (z_cw _ _ _ _ _ _ _ _ _ _ _ _ _ _ _ _ _ _ _ _ _ _ _ _ _ _ _ _ _ _ _ _ _ _ _ _ _ _ _ _ _ _ _ _ _ _ _ _ _ _ _ _ _ _ _ _ [], z_no) rfl ?_
        refine j_if_ne (tgt := 40) dX8_areCopiesLike_35 (by decide) (fun c_35 => ?_) (fun c_35 => ?_)
        · refine j_iinc (lo' := [(4, _), (5, _), (3, _), (2, _), (0, _), (1, _)]) dX8_areCopiesLike_40 rfl rfl (by decide) rfl ?_
          refine j_goto (tgt := 11) dX8_areCopiesLike_43 (by decide) ?_
          refine j_iload dX8_areCopiesLike_11 rfl ?_
          refine j_iload_n dX8_areCopiesLike_13 rfl ?_
          refine j_icmp_ge (tgt := 46) dX8_areCopiesLike_14 (by decide) (fun c_14 => ?_) (fun c_14 => ?_)
          · exact absurd c_14 (by decide)
          · refine j_aload_n dX8_areCopiesLike_17 rfl rfl ?_
            refine j_iload dX8_areCopiesLike_18 rfl ?_
            refine j_aald (v := .ref 46) dX8_areCopiesLike_20 rfl rfl rfl (vp_in_iff.mpr (by decide)) rfl ?_
            refine j_astore (lo' := [(5, _), (4, _), (3, _), (2, _), (0, _), (1, _)]) dX8_areCopiesLike_21 rfl (by decide) rfl ?_
            refine j_aload dX8_areCopiesLike_23 rfl rfl ?_
            refine j_aload_n dX8_areCopiesLike_25 rfl rfl ?_
            refine j_callV (q := (RX4, TX4, 5)) dX8_areCopiesLike_26 kX4_become lX8_344 inX4_become seX4_become rfl rfl (z_frame [46, 47, 48, 49, 50, 16, 17, 18, 19, 20] rfl (by decide) (Nat.le_of_ble_eq_true rfl) (c_X4_become hl _ _ _ _ _ _ _ _ _ _)) (Nat.le_of_ble_eq_true rfl) ⟨(Nat.le_of_ble_eq_true rfl), (Nat.le_of_ble_eq_true rfl)⟩ rfl (Nat.le_of_ble_eq_true rfl) rfl rfl (fun _ _ h => h.elim) ?_
            rintro _ _ ⟨_, _, ⟨rfl, _, _, rfl⟩, rfl, rfl⟩
            refine j_w (z_cw _ _ _ _ _ _ _ _ _ _ _ _ _ _ _ _ _ _ _ _ _ _ _ _ _ _ _ _ _ _ _ _ _ _ _ _ _ _ _ _ _ _ _ _ _ _ _ _ _ _ _ _ _ _ _ _ [], z_no) rfl ?_
            refine j_aload dX8_areCopiesLike_29 rfl rfl ?_
            refine j_aload_n dX8_areCopiesLike_31 rfl rfl ?_
            refine j_callV (q := (RX4, TX4, 5)) dX8_areCopiesLike_32 kX4_hasPairsOf lX8_230 inX4_hasPairsOf seX4_hasPairsOf rfl rfl (z_frame [46, 47, 48, 49, 50, 16, 17, 18, 19, 20] rfl (by decide) (Nat.le_of_ble_eq_true rfl) (c_X4_hasPairsOf hl _ _ _ _ _ _ _ _ _ _)) (Nat.le_of_ble_eq_true rfl) ⟨(Nat.le_of_ble_eq_true rfl), (Nat.le_of_ble_eq_true rfl)⟩ rfl (Nat.le_of_ble_eq_true rfl) rfl rfl (fun _ _ h => h.elim) ?_
            rintro _ _ ⟨_, _, ⟨b, rfl, rfl⟩, rfl, rfl⟩
            refine j_w (z_cw _ _ _ _ _ _ _ _ _ _ _ _ _ _ _ _ _ _ _ _ _ _ _ _ _ _ _ _ _ _ _ _ _ _ _ _ _ _ _ _ _ _ _ _ _ _ _ _ _ _ _ _ _ _ _ _ [], z_no) rfl ?_
            refine j_if_ne (tgt := 40) dX8_areCopiesLike_35 (by decide) (fun c_35 => ?_) (fun c_35 => ?_)
            · refine j_iinc (lo' := [(4, _), (5, _), (3, _), (2, _), (0, _), (1, _)]) dX8_areCopiesLike_40 rfl rfl (by decide) rfl ?_
              refine j_goto (tgt := 11) dX8_areCopiesLike_43 (by decide) ?_
              refine j_iload dX8_areCopiesLike_11 rfl ?_
              refine j_iload_n dX8_areCopiesLike_13 rfl ?_
              refine j_icmp_ge (tgt := 46) dX8_areCopiesLike_14 (by decide) (fun c_14 => ?_) (fun c_14 => ?_)
              · refine j_iconst (v := 1) dX8_areCopiesLike_46 (by decide) ?_
                refine j_iret dX8_areCopiesLike_47 rfl rfl ?_ (Nat.le_of_ble_eq_true rfl) (Nat.le_of_ble_eq_true rfl)
                first | exact ⟨rfl, rfl, ⟨true, rfl⟩, _, _, _, _, _, _, _, _, _, _, _, _, (by assumption), (by assumption), (by assumption), rfl⟩ | exact ⟨rfl, rfl, ⟨false, rfl⟩, _, _, _, _, _, _, _, _, _, _, _, _, (by assumption), (by assumption), (by assumption), rfl⟩
              · exact absurd (by decide) c_14
            · refine j_iconst (v := 0) dX8_areCopiesLike_38 (by decide) ?_
              refine j_iret dX8_areCopiesLike_39 rfl rfl ?_ (Nat.le_of_ble_eq_true rfl) (Nat.le_of_ble_eq_true rfl)
              first | exact ⟨rfl, rfl, ⟨true, rfl⟩, _, _, _, _, _, _, _, _, _, _, _, _, (by assumption), (by assumption), (by assumption), rfl⟩ | exact ⟨rfl, rfl, ⟨false, rfl⟩, _, _, _, _, _, _, _, _, _, _, _, _, (by assumption), (by assumption), (by assumption), rfl⟩
        · refine j_iconst (v := 0) dX8_areCopiesLike_38 (by decide) ?_
          refine j_iret dX8_areCopiesLike_39 rfl rfl ?_ (Nat.le_of_ble_eq_true rfl) (Nat.le_of_ble_eq_true rfl)
          first | exact ⟨rfl, rfl, ⟨true, rfl⟩, _, _, _, _, _, _, _, _, _, _, _, _, (by assumption), (by assumption), (by assumption), rfl⟩ | exact ⟨rfl, rfl, ⟨false, rfl⟩, _, _, _, _, _, _, _, _, _, _, _, _, (by assumption), (by assumption), (by assumption), rfl⟩
    · refine j_iconst (v := 0) dX8_areCopiesLike_38 (by decide) ?_
      refine j_iret dX8_areCopiesLike_39 rfl rfl ?_ (Nat.le_of_ble_eq_true rfl) (Nat.le_of_ble_eq_true rfl)
      first | exact ⟨rfl, rfl, ⟨true, rfl⟩, _, _, _, _, _, _, _, _, _, _, _, _, (by assumption), (by assumption), (by assumption), rfl⟩ | exact ⟨rfl, rfl, ⟨false, rfl⟩, _, _, _, _, _, _, _, _, _, _, _, _, (by assumption), (by assumption), (by assumption), rfl⟩
set_option maxRecDepth 100000 in
set_option maxHeartbeats 8000000 in
theorem c_X8_isCallLike_16 (hl : l.stackTraces = false) (rf : Int32) (kn : Int32) (ma : Int32) (xa : Bool) (fa : Nat → Int32) (ca : Nat → Int32) (mb : Int32) (xb : Bool) (fb : Nat → Int32) (cb : Nat → Int32) (mt : Int32) (xt : Bool) (ft : Nat → Int32) (ct : Nat → Int32) (f0 : Nat → Int32) (g0 : Nat → Int32) (c0 : Nat → Int32) (m0 : Int32) (s0 : Int32) (f1 : Nat → Int32) (g1 : Nat → Int32) (c1 : Nat → Int32) (m1 : Int32) (s1 : Int32) (f2 : Nat → Int32) (g2 : Nat → Int32) (c2 : Nat → Int32) (m2 : Int32) (s2 : Int32) (f3 : Nat → Int32) (g3 : Nat → Int32) (c3 : Nat → Int32) (m3 : Int32) (s3 : Int32) (f4 : Nat → Int32) (g4 : Nat → Int32) (c4 : Nat → Int32) (m4 : Int32) (s4 : Int32) (f5 : Nat → Int32) (g5 : Nat → Int32) (c5 : Nat → Int32) (m5 : Int32) (s5 : Int32) (ek0 : Int32) (em0 : Int32) (es0 : Int32) (el0 : Int32) (b0 : Int32) (ef0 : Nat → Int32) (ek1 : Int32) (em1 : Int32) (es1 : Int32) (el1 : Int32) (b1 : Int32) (ef1 : Nat → Int32) (p q t : Int32) (h0 : z_m20 m0) (h1 : z_m20 m1) (h2 : z_m20 m2) (h3 : z_m20 m3) (h4 : z_m20 m4) (h5 : z_m20 m5): z_CF G l mX8_isCallLike 17 0 0 (z_cw rf kn ma xa fa ca mb xb fb cb mt xt ft ct f0 g0 c0 m0 s0 f1 g1 c1 m1 s1 f2 g2 c2 m2 s2 f3 g3 c3 m3 s3 f4 g4 c4 m4 s4 f5 g5 c5 m5 s5 ek0 em0 es0 el0 b0 ef0 ek1 em1 es1 el1 b1 ef1 []) [.ref 0, .ref 16, .int p, .int q, .int t] (fun v L => (∃ b : Bool, v = some (.int (z_bi b))) ∧ ∃ (f3' g3' c3' : Nat → Int32) (m3' : Int32) (f4' g4' c4' : Nat → Int32) (m4' : Int32) (f5' g5' c5' : Nat → Int32) (m5' : Int32), z_m20 m3' ∧ z_m20 m4' ∧ z_m20 m5' ∧ L = (z_cw rf kn ma xa fa ca mb xb fb cb mt xt ft ct f0 g0 c0 m0 s0 f1 g1 c1 m1 s1 f2 g2 c2 m2 s2 f3' g3' c3' m3' s3 f4' g4' c4' m4' s4 f5' g5' c5' m5' s5 ek0 em0 es0 el0 b0 ef0 ek1 em1 es1 el1 b1 ef1 [])) := by
  refine z_body hl (by decide) rfl (Nat.le_of_ble_eq_true rfl) ?_
  show z_J G l mX8_isCallLike (z_SF 17 0 0 (z_cw rf kn ma xa fa ca mb xb fb cb mt xt ft ct f0 g0 c0 m0 s0 f1 g1 c1 m1 s1 f2 g2 c2 m2 s2 f3 g3 c3 m3 s3 f4 g4 c4 m4 s4 f5 g5 c5 m5 s5 ek0 em0 es0 el0 b0 ef0 ek1 em1 es1 el1 b1 ef1 []) (fun v L => (∃ b : Bool, v = some (.int (z_bi b))) ∧ ∃ (f3' g3' c3' : Nat → Int32) (m3' : Int32) (f4' g4' c4' : Nat → Int32) (m4' : Int32) (f5' g5' c5' : Nat → Int32) (m5' : Int32), z_m20 m3' ∧ z_m20 m4' ∧ z_m20 m5' ∧ L = (z_cw rf kn ma xa fa ca mb xb fb cb mt xt ft ct f0 g0 c0 m0 s0 f1 g1 c1 m1 s1 f2 g2 c2 m2 s2 f3' g3' c3' m3' s3 f4' g4' c4' m4' s4 f5' g5' c5' m5' s5 ek0 em0 es0 el0 b0 ef0 ek1 em1 es1 el1 b1 ef1 []))) 0 [(0, _), (1, _), (2, _), (3, _), (4, _)] [] _ 0 0
  refine j_iconst (v := 0) dX8_isCallLike_0 (by decide) ?_
  refine j_istore (lo' := [(5, _), (0, _), (1, _), (2, _), (3, _), (4, _)]) dX8_isCallLike_1 (by decide) rfl ?_
  refine j_aload_n dX8_isCallLike_3 rfl rfl ?_
  refine j_getf dX8_isCallLike_4 fX8_43 rfl rfl ?_
  refine j_astore (lo' := [(6, _), (5, _), (0, _), (1, _), (2, _), (3, _), (4, _)]) dX8_isCallLike_7 rfl (by decide) rfl ?_
  refine j_aload dX8_isCallLike_9 rfl rfl ?_
  refine j_alen dX8_isCallLike_11 rfl rfl rfl ?_
  refine j_istore (lo' := [(7, _), (6, _), (5, _), (0, _), (1, _), (2, _), (3, _), (4, _)]) dX8_isCallLike_12 (by decide) rfl ?_
  refine j_iconst (v := 0) dX8_isCallLike_14 (by decide) ?_
  refine j_istore (lo' := [(8, _), (7, _), (6, _), (5, _), (0, _), (1, _), (2, _), (3, _), (4, _)]) dX8_isCallLike_15 (by decide) rfl ?_
  refine j_iload dX8_isCallLike_17 rfl ?_
  refine j_iload dX8_isCallLike_19 rfl ?_
  refine j_icmp_ge (tgt := 160) dX8_isCallLike_21 (by decide) (fun c_21 => ?_) (fun c_21 => ?_)
  · exact absurd c_21 (by decide)
  · refine j_aload dX8_isCallLike_24 rfl rfl ?_
    refine j_iload dX8_isCallLike_26 rfl ?_
    refine j_aald (v := .ref 35) dX8_isCallLike_28 rfl rfl rfl (vp_in_iff.mpr (by decide)) rfl ?_
    refine j_astore (lo' := [(9, _), (8, _), (7, _), (6, _), (5, _), (0, _), (1, _), (2, _), (3, _), (4, _)]) dX8_isCallLike_29 rfl (by decide) rfl ?_
    refine j_aload dX8_isCallLike_31 rfl rfl ?_
    refine j_aload_n dX8_isCallLike_33 rfl rfl ?_
    refine j_callV (q := (RX4, TX4, 5)) dX8_isCallLike_34 kX4_become lX8_344 inX4_become seX4_become rfl rfl (z_frame [35, 36, 37, 38, 39, 16, 17, 18, 19, 20] rfl (by decide) (Nat.le_of_ble_eq_true rfl) (c_X4_become hl _ _ _ _ _ _ _ _ _ _)) (Nat.le_of_ble_eq_true rfl) ⟨(Nat.le_of_ble_eq_true rfl), (Nat.le_of_ble_eq_true rfl)⟩ rfl (Nat.le_of_ble_eq_true rfl) rfl rfl (fun _ _ h => h.elim) ?_
    rintro _ _ ⟨_, _, ⟨rfl, _, _, rfl⟩, rfl, rfl⟩
    refine j_w (z_cw _ _ _ _ _ _ _ _ _ _ _ _ _ _ _ _ _ _ _ _ _ _ _ _ _ _ _ _ _ _ _ _ _ _ _ _ _ _ _ _ _ _ _ _ _ _ _ _ _ _ _ _ _ _ _ _ [], z_no) rfl ?_
    refine j_iload_n dX8_isCallLike_37 rfl ?_
    rcases z_sw3 p with rfl | rfl | rfl | hp
    · refine j_tsIn (tgt := 64) dX8_isCallLike_38 (by decide) (by decide) rfl (by decide) ?_
      refine j_aload dX8_isCallLike_64 rfl rfl ?_
      refine j_iload_n dX8_isCallLike_66 rfl ?_
      refine j_iload dX8_isCallLike_67 rfl ?_
      refine j_iconst (v := 1) dX8_isCallLike_69 (by decide) ?_
      refine j_callV (q := (RX4, TX4, 5)) dX8_isCallLike_70 kX4_reckon lX8_151 inX4_reckon seX4_reckon rfl rfl (z_frame [35, 36, 37, 38, 39] rfl (by decide) (Nat.le_of_ble_eq_true rfl) (c_X4_reckon hl _ _ _ _ _ _ _ _ (by assumption))) (Nat.le_of_ble_eq_true rfl) ⟨(Nat.le_of_ble_eq_true rfl), (Nat.le_of_ble_eq_true rfl)⟩ rfl (Nat.le_of_ble_eq_true rfl) rfl rfl (fun _ _ h => h.elim) ?_
      rintro _ _ ⟨_, _, ⟨_, rfl, _, _, _, _, hm, rfl⟩, rfl, rfl⟩
      refine j_w (z_cw _ _ _ _ _ _ _ _ _ _ _ _ _ _ _ _ _ _ _ _ _ _ _ _ _ _ _ _ _ _ _ _ _ _ _ _ _ _ _ _ _ _ _ _ _ _ _ _ _ _ _ _ _ _ _ _ [], z_no) rfl ?_
      refine j_istore (lo' := [(10, _), (9, _), (8, _), (7, _), (6, _), (5, _), (0, _), (1, _), (2, _), (3, _), (4, _)]) dX8_isCallLike_73 (by decide) rfl ?_
      refine j_goto (tgt := 117) dX8_isCallLike_75 (by decide) ?_
      refine j_aload dX8_isCallLike_117 rfl rfl ?_
      refine j_aload_n dX8_isCallLike_119 rfl rfl ?_
      refine j_getf dX8_isCallLike_120 fX8_40 rfl rfl ?_
      refine j_acmp_ne (tgt := 133) dX8_isCallLike_123 (by decide) (fun c_123 => ?_) (fun c_123 => ?_)
      · exact absurd rfl c_123
      · refine j_iload dX8_isCallLike_126 rfl ?_
        refine j_istore (lo' := [(5, _), (10, _), (9, _), (8, _), (7, _), (6, _), (0, _), (1, _), (2, _), (3, _), (4, _)]) dX8_isCallLike_128 (by decide) rfl ?_
        refine j_goto (tgt := 154) dX8_isCallLike_130 (by decide) ?_
        refine j_iinc (lo' := [(8, _), (5, _), (10, _), (9, _), (7, _), (6, _), (0, _), (1, _), (2, _), (3, _), (4, _)]) dX8_isCallLike_154 rfl rfl (by decide) rfl ?_
        refine j_goto (tgt := 17) dX8_isCallLike_157 (by decide) ?_
        refine j_iload dX8_isCallLike_17 rfl ?_
        refine j_iload dX8_isCallLike_19 rfl ?_
        refine j_icmp_ge (tgt := 160) dX8_isCallLike_21 (by decide) (fun c_21 => ?_) (fun c_21 => ?_)
        · exact absurd c_21 (by decide)
        · refine j_aload dX8_isCallLike_24 rfl rfl ?_
          refine j_iload dX8_isCallLike_26 rfl ?_
          refine j_aald (v := .ref 41) dX8_isCallLike_28 rfl rfl rfl (vp_in_iff.mpr (by decide)) rfl ?_
          refine j_astore (lo' := [(9, _), (8, _), (5, _), (10, _), (7, _), (6, _), (0, _), (1, _), (2, _), (3, _), (4, _)]) dX8_isCallLike_29 rfl (by decide) rfl ?_
          refine j_aload dX8_isCallLike_31 rfl rfl ?_
          refine j_aload_n dX8_isCallLike_33 rfl rfl ?_
          refine j_callV (q := (RX4, TX4, 5)) dX8_isCallLike_34 kX4_become lX8_344 inX4_become seX4_become rfl rfl (z_frame [41, 42, 43, 44, 45, 16, 17, 18, 19, 20] rfl (by decide) (Nat.le_of_ble_eq_true rfl) (c_X4_become hl _ _ _ _ _ _ _ _ _ _)) (Nat.le_of_ble_eq_true rfl) ⟨(Nat.le_of_ble_eq_true rfl), (Nat.le_of_ble_eq_true rfl)⟩ rfl (Nat.le_of_ble_eq_true rfl) rfl rfl (fun _ _ h => h.elim) ?_
          rintro _ _ ⟨_, _, ⟨rfl, _, _, rfl⟩, rfl, rfl⟩
          refine j_w (z_cw _ _ _ _ _ _ _ _ _ _ _ _ _ _ _ _ _ _ _ _ _ _ _ _ _ _ _ _ _ _ _ _ _ _ _ _ _ _ _ _ _ _ _ _ _ _ _ _ _ _ _ _ _ _ _ _ [], z_no) rfl ?_
          refine j_iload_n dX8_isCallLike_37 rfl ?_
          refine j_tsIn (tgt := 64) dX8_isCallLike_38 (by decide) (by decide) rfl (by decide) ?_
          refine j_aload dX8_isCallLike_64 rfl rfl ?_
          refine j_iload_n dX8_isCallLike_66 rfl ?_
          refine j_iload dX8_isCallLike_67 rfl ?_
          refine j_iconst (v := 1) dX8_isCallLike_69 (by decide) ?_
          refine j_callV (q := (RX4, TX4, 5)) dX8_isCallLike_70 kX4_reckon lX8_151 inX4_reckon seX4_reckon rfl rfl (z_frame [41, 42, 43, 44, 45] rfl (by decide) (Nat.le_of_ble_eq_true rfl) (c_X4_reckon hl _ _ _ _ _ _ _ _ (by assumption))) (Nat.le_of_ble_eq_true rfl) ⟨(Nat.le_of_ble_eq_true rfl), (Nat.le_of_ble_eq_true rfl)⟩ rfl (Nat.le_of_ble_eq_true rfl) rfl rfl (fun _ _ h => h.elim) ?_
          rintro _ _ ⟨_, _, ⟨_, rfl, _, _, _, _, hm, rfl⟩, rfl, rfl⟩
          refine j_w (z_cw _ _ _ _ _ _ _ _ _ _ _ _ _ _ _ _ _ _ _ _ _ _ _ _ _ _ _ _ _ _ _ _ _ _ _ _ _ _ _ _ _ _ _ _ _ _ _ _ _ _ _ _ _ _ _ _ [], z_no) rfl ?_
          refine j_istore (lo' := [(10, _), (9, _), (8, _), (5, _), (7, _), (6, _), (0, _), (1, _), (2, _), (3, _), (4, _)]) dX8_isCallLike_73 (by decide) rfl ?_
          refine j_goto (tgt := 117) dX8_isCallLike_75 (by decide) ?_
          refine j_aload dX8_isCallLike_117 rfl rfl ?_
          refine j_aload_n dX8_isCallLike_119 rfl rfl ?_
          refine j_getf dX8_isCallLike_120 fX8_40 rfl rfl ?_
          refine j_acmp_ne (tgt := 133) dX8_isCallLike_123 (by decide) (fun c_123 => ?_) (fun c_123 => ?_)
          · refine j_iload dX8_isCallLike_133 rfl ?_
            refine j_iload dX8_isCallLike_135 rfl ?_
            refine j_icmp_ne (tgt := 152) dX8_isCallLike_137 (by decide) (fun c_137 => ?_) (fun c_137 => ?_)
            · refine j_iconst (v := 0) dX8_isCallLike_152 (by decide) ?_
              refine j_iret dX8_isCallLike_153 rfl rfl ?_ (Nat.le_of_ble_eq_true rfl) (Nat.le_of_ble_eq_true rfl)
              first | exact ⟨rfl, rfl, ⟨true, rfl⟩, _, _, _, _, _, _, _, _, _, _, _, _, (by assumption), (by assumption), (by assumption), rfl⟩ | exact ⟨rfl, rfl, ⟨false, rfl⟩, _, _, _, _, _, _, _, _, _, _, _, _, (by assumption), (by assumption), (by assumption), rfl⟩
            · refine j_aload dX8_isCallLike_140 rfl rfl ?_
              refine j_aload_n dX8_isCallLike_142 rfl rfl ?_
              refine j_getf dX8_isCallLike_143 fX8_40 rfl rfl ?_
              refine j_callV (q := (RX4, TX4, 5)) dX8_isCallLike_146 kX4_hasPairsOf lX8_230 inX4_hasPairsOf seX4_hasPairsOf rfl rfl (z_frame [41, 42, 43, 44, 45, 35, 36, 37, 38, 39] rfl (by decide) (Nat.le_of_ble_eq_true rfl) (c_X4_hasPairsOf hl _ _ _ _ _ _ _ _ _ _)) (Nat.le_of_ble_eq_true rfl) ⟨(Nat.le_of_ble_eq_true rfl), (Nat.le_of_ble_eq_true rfl)⟩ rfl (Nat.le_of_ble_eq_true rfl) rfl rfl (fun _ _ h => h.elim) ?_
              rintro _ _ ⟨_, _, ⟨b, rfl, rfl⟩, rfl, rfl⟩
              refine j_w (z_cw _ _ _ _ _ _ _ _ _ _ _ _ _ _ _ _ _ _ _ _ _ _ _ _ _ _ _ _ _ _ _ _ _ _ _ _ _ _ _ _ _ _ _ _ _ _ _ _ _ _ _ _ _ _ _ _ [], z_no) rfl ?_
              refine j_if_ne (tgt := 154) dX8_isCallLike_149 (by decide) (fun c_149 => ?_) (fun c_149 => ?_)
              · refine j_iinc (lo' := [(8, _), (10, _), (9, _), (5, _), (7, _), (6, _), (0, _), (1, _), (2, _), (3, _), (4, _)]) dX8_isCallLike_154 rfl rfl (by decide) rfl ?_
                refine j_goto (tgt := 17) dX8_isCallLike_157 (by decide) ?_
                refine j_iload dX8_isCallLike_17 rfl ?_
                refine j_iload dX8_isCallLike_19 rfl ?_
                refine j_icmp_ge (tgt := 160) dX8_isCallLike_21 (by decide) (fun c_21 => ?_) (fun c_21 => ?_)
                · exact absurd c_21 (by decide)
                · refine j_aload dX8_isCallLike_24 rfl rfl ?_
                  refine j_iload dX8_isCallLike_26 rfl ?_
                  refine j_aald (v := .ref 46) dX8_isCallLike_28 rfl rfl rfl (vp_in_iff.mpr (by decide)) rfl ?_
                  refine j_astore (lo' := [(9, _), (8, _), (10, _), (5, _), (7, _), (6, _), (0, _), (1, _), (2, _), (3, _), (4, _)]) dX8_isCallLike_29 rfl (by decide) rfl ?_
                  refine j_aload dX8_isCallLike_31 rfl rfl ?_
                  refine j_aload_n dX8_isCallLike_33 rfl rfl ?_
                  refine j_callV (q := (RX4, TX4, 5)) dX8_isCallLike_34 kX4_become lX8_344 inX4_become seX4_become rfl rfl (z_frame [46, 47, 48, 49, 50, 16, 17, 18, 19, 20] rfl (by decide) (Nat.le_of_ble_eq_true rfl) (c_X4_become hl _ _ _ _ _ _ _ _ _ _)) (Nat.le_of_ble_eq_true rfl) ⟨(Nat.le_of_ble_eq_true rfl), (Nat.le_of_ble_eq_true rfl)⟩ rfl (Nat.le_of_ble_eq_true rfl) rfl rfl (fun _ _ h => h.elim) ?_
                  rintro _ _ ⟨_, _, ⟨rfl, _, _, rfl⟩, rfl, rfl⟩
                  refine j_w (z_cw _ _ _ _ _ _ _ _ _ _ _ _ _ _ _ _ _ _ _ _ _ _ _ _ _ _ _ _ _ _ _ _ _ _ _ _ _ _ _ _ _ _ _ _ _ _ _ _ _ _ _ _ _ _ _ _ [], z_no) rfl ?_
                  refine j_iload_n dX8_isCallLike_37 rfl ?_
                  refine j_tsIn (tgt := 64) dX8_isCallLike_38 (by decide) (by decide) rfl (by decide) ?_
                  refine j_aload dX8_isCallLike_64 rfl rfl ?_
                  refine j_iload_n dX8_isCallLike_66 rfl ?_
                  refine j_iload dX8_isCallLike_67 rfl ?_
                  refine j_iconst (v := 1) dX8_isCallLike_69 (by decide) ?_
                  refine j_callV (q := (RX4, TX4, 5)) dX8_isCallLike_70 kX4_reckon lX8_151 inX4_reckon seX4_reckon rfl rfl (z_frame [46, 47, 48, 49, 50] rfl (by decide) (Nat.le_of_ble_eq_true rfl) (c_X4_reckon hl _ _ _ _ _ _ _ _ (by assumption))) (Nat.le_of_ble_eq_true rfl) ⟨(Nat.le_of_ble_eq_true rfl), (Nat.le_of_ble_eq_true rfl)⟩ rfl (Nat.le_of_ble_eq_true rfl) rfl rfl (fun _ _ h => h.elim) ?_
                  rintro _ _ ⟨_, _, ⟨_, rfl, _, _, _, _, hm, rfl⟩, rfl, rfl⟩
                  refine j_w (z_cw _ _ _ _ _ _ _ _ _ _ _ _ _ _ _ _ _ _ _ _ _ _ _ _ _ _ _ _ _ _ _ _ _ _ _ _ _ _ _ _ _ _ _ _ _ _ _ _ _ _ _ _ _ _ _ _ [], z_no) rfl ?_
                  refine j_istore (lo' := [(10, _), (9, _), (8, _), (5, _), (7, _), (6, _), (0, _), (1, _), (2, _), (3, _), (4, _)]) dX8_isCallLike_73 (by decide) rfl ?_
                  refine j_goto (tgt := 117) dX8_isCallLike_75 (by decide) ?_
                  refine j_aload dX8_isCallLike_117 rfl rfl ?_
                  refine j_aload_n dX8_isCallLike_119 rfl rfl ?_
                  refine j_getf dX8_isCallLike_120 fX8_40 rfl rfl ?_
                  refine j_acmp_ne (tgt := 133) dX8_isCallLike_123 (by decide) (fun c_123 => ?_) (fun c_123 => ?_)
                  · refine j_iload dX8_isCallLike_133 rfl ?_
                    refine j_iload dX8_isCallLike_135 rfl ?_
                    refine j_icmp_ne (tgt := 152) dX8_isCallLike_137 (by decide) (fun c_137 => ?_) (fun c_137 => ?_)
                    · refine j_iconst (v := 0) dX8_isCallLike_152 (by decide) ?_
                      refine j_iret dX8_isCallLike_153 rfl rfl ?_ (Nat.le_of_ble_eq_true rfl) (Nat.le_of_ble_eq_true rfl)
                      first | exact ⟨rfl, rfl, ⟨true, rfl⟩, _, _, _, _, _, _, _, _, _, _, _, _, (by assumption), (by assumption), (by assumption), rfl⟩ | exact ⟨rfl, rfl, ⟨false, rfl⟩, _, _, _, _, _, _, _, _, _, _, _, _, (by assumption), (by assumption), (by assumption), rfl⟩
                    · refine j_aload dX8_isCallLike_140 rfl rfl ?_
                      refine j_aload_n dX8_isCallLike_142 rfl rfl ?_
                      refine j_getf dX8_isCallLike_143 fX8_40 rfl rfl ?_
                      refine j_callV (q := (RX4, TX4, 5)) dX8_isCallLike_146 kX4_hasPairsOf lX8_230 inX4_hasPairsOf seX4_hasPairsOf rfl rfl (z_frame [46, 47, 48, 49, 50, 35, 36, 37, 38, 39] rfl (by decide) (Nat.le_of_ble_eq_true rfl) (c_X4_hasPairsOf hl _ _ _ _ _ _ _ _ _ _)) (Nat.le_of_ble_eq_true rfl) ⟨(Nat.le_of_ble_eq_true rfl), (Nat.le_of_ble_eq_true rfl)⟩ rfl (Nat.le_of_ble_eq_true rfl) rfl rfl (fun _ _ h => h.elim) ?_
                      rintro _ _ ⟨_, _, ⟨b, rfl, rfl⟩, rfl, rfl⟩
                      refine j_w (z_cw _ _ _ _ _ _ _ _ _ _ _ _ _ _ _ _ _ _ _ _ _ _ _ _ _ _ _ _ _ _ _ _ _ _ _ _ _ _ _ _ _ _ _ _ _ _ _ _ _ _ _ _ _ _ _ _ [], z_no) rfl ?_
                      refine j_if_ne (tgt := 154) dX8_isCallLike_149 (by decide) (fun c_149 => ?_) (fun c_149 => ?_)
                      · refine j_iinc (lo' := [(8, _), (10, _), (9, _), (5, _), (7, _), (6, _), (0, _), (1, _), (2, _), (3, _), (4, _)]) dX8_isCallLike_154 rfl rfl (by decide) rfl ?_
                        refine j_goto (tgt := 17) dX8_isCallLike_157 (by decide) ?_
                        refine j_iload dX8_isCallLike_17 rfl ?_
                        refine j_iload dX8_isCallLike_19 rfl ?_
                        refine j_icmp_ge (tgt := 160) dX8_isCallLike_21 (by decide) (fun c_21 => ?_) (fun c_21 => ?_)
                        · refine j_iconst (v := 1) dX8_isCallLike_160 (by decide) ?_
                          refine j_iret dX8_isCallLike_161 rfl rfl ?_ (Nat.le_of_ble_eq_true rfl) (Nat.le_of_ble_eq_true rfl)
                          first | exact ⟨rfl, rfl, ⟨true, rfl⟩, _, _, _, _, _, _, _, _, _, _, _, _, (by assumption), (by assumption), (by assumption), rfl⟩ | exact ⟨rfl, rfl, ⟨false, rfl⟩, _, _, _, _, _, _, _, _, _, _, _, _, (by assumption), (by assumption), (by assumption), rfl⟩
                        · exact absurd (by decide) c_21
                      · refine j_iconst (v := 0) dX8_isCallLike_152 (by decide) ?_
                        refine j_iret dX8_isCallLike_153 rfl rfl ?_ (Nat.le_of_ble_eq_true rfl) (Nat.le_of_ble_eq_true rfl)
                        first | exact ⟨rfl, rfl, ⟨true, rfl⟩, _, _, _, _, _, _, _, _, _, _, _, _, (by assumption), (by assumption), (by assumption), rfl⟩ | exact ⟨rfl, rfl, ⟨false, rfl⟩, _, _, _, _, _, _, _, _, _, _, _, _, (by assumption), (by assumption), (by assumption), rfl⟩
                  · exact absurd c_123 (by decide)
              · refine j_iconst (v := 0) dX8_isCallLike_152 (by decide) ?_
                refine j_iret dX8_isCallLike_153 rfl rfl ?_ (Nat.le_of_ble_eq_true rfl) (Nat.le_of_ble_eq_true rfl)
                first | exact ⟨rfl, rfl, ⟨true, rfl⟩, _, _, _, _, _, _, _, _, _, _, _, _, (by assumption), (by assumption), (by assumption), rfl⟩ | exact ⟨rfl, rfl, ⟨false, rfl⟩, _, _, _, _, _, _, _, _, _, _, _, _, (by assumption), (by assumption), (by assumption), rfl⟩
          · exact absurd c_123 (by decide)
    · refine j_tsIn (tgt := 78) dX8_isCallLike_38 (by decide) (by decide) rfl (by decide) ?_
      refine j_aload dX8_isCallLike_78 rfl rfl ?_
      refine j_iload_n dX8_isCallLike_80 rfl ?_
      refine j_iload dX8_isCallLike_81 rfl ?_
      refine j_iconst (v := 1) dX8_isCallLike_83 (by decide) ?_
      refine j_callV (q := (RX4, TX4, 5)) dX8_isCallLike_84 kX4_reckonAbsent lX8_144 inX4_reckonAbsent seX4_reckonAbsent rfl rfl (z_frame [35, 36, 37, 38, 39] rfl (by decide) (Nat.le_of_ble_eq_true rfl) (c_X4_reckonAbsent hl _ _ _ _ _ _ _ _ (by assumption))) (Nat.le_of_ble_eq_true rfl) ⟨(Nat.le_of_ble_eq_true rfl), (Nat.le_of_ble_eq_true rfl)⟩ rfl (Nat.le_of_ble_eq_true rfl) rfl rfl (fun _ _ h => h.elim) ?_
      rintro _ _ ⟨_, _, ⟨_, rfl, _, _, _, _, hm, rfl⟩, rfl, rfl⟩
      refine j_w (z_cw _ _ _ _ _ _ _ _ _ _ _ _ _ _ _ _ _ _ _ _ _ _ _ _ _ _ _ _ _ _ _ _ _ _ _ _ _ _ _ _ _ _ _ _ _ _ _ _ _ _ _ _ _ _ _ _ [], z_no) rfl ?_
      refine j_istore (lo' := [(10, _), (9, _), (8, _), (7, _), (6, _), (5, _), (0, _), (1, _), (2, _), (3, _), (4, _)]) dX8_isCallLike_87 (by decide) rfl ?_
      refine j_goto (tgt := 117) dX8_isCallLike_89 (by decide) ?_
      refine j_aload dX8_isCallLike_117 rfl rfl ?_
      refine j_aload_n dX8_isCallLike_119 rfl rfl ?_
      refine j_getf dX8_isCallLike_120 fX8_40 rfl rfl ?_
      refine j_acmp_ne (tgt := 133) dX8_isCallLike_123 (by decide) (fun c_123 => ?_) (fun c_123 => ?_)
      · exact absurd rfl c_123
      · refine j_iload dX8_isCallLike_126 rfl ?_
        refine j_istore (lo' := [(5, _), (10, _), (9, _), (8, _), (7, _), (6, _), (0, _), (1, _), (2, _), (3, _), (4, _)]) dX8_isCallLike_128 (by decide) rfl ?_
        refine j_goto (tgt := 154) dX8_isCallLike_130 (by decide) ?_
        refine j_iinc (lo' := [(8, _), (5, _), (10, _), (9, _), (7, _), (6, _), (0, _), (1, _), (2, _), (3, _), (4, _)]) dX8_isCallLike_154 rfl rfl (by decide) rfl ?_
        refine j_goto (tgt := 17) dX8_isCallLike_157 (by decide) ?_
        refine j_iload dX8_isCallLike_17 rfl ?_
        refine j_iload dX8_isCallLike_19 rfl ?_
        refine j_icmp_ge (tgt := 160) dX8_isCallLike_21 (by decide) (fun c_21 => ?_) (fun c_21 => ?_)
        · exact absurd c_21 (by decide)
        · refine j_aload dX8_isCallLike_24 rfl rfl ?_
          refine j_iload dX8_isCallLike_26 rfl ?_
          refine j_aald (v := .ref 41) dX8_isCallLike_28 rfl rfl rfl (vp_in_iff.mpr (by decide)) rfl ?_
          refine j_astore (lo' := [(9, _), (8, _), (5, _), (10, _), (7, _), (6, _), (0, _), (1, _), (2, _), (3, _), (4, _)]) dX8_isCallLike_29 rfl (by decide) rfl ?_
          refine j_aload dX8_isCallLike_31 rfl rfl ?_
          refine j_aload_n dX8_isCallLike_33 rfl rfl ?_
          refine j_callV (q := (RX4, TX4, 5)) dX8_isCallLike_34 kX4_become lX8_344 inX4_become seX4_become rfl rfl (z_frame [41, 42, 43, 44, 45, 16, 17, 18, 19, 20] rfl (by decide) (Nat.le_of_ble_eq_true rfl) (c_X4_become hl _ _ _ _ _ _ _ _ _ _)) (Nat.le_of_ble_eq_true rfl) ⟨(Nat.le_of_ble_eq_true rfl), (Nat.le_of_ble_eq_true rfl)⟩ rfl (Nat.le_of_ble_eq_true rfl) rfl rfl (fun _ _ h => h.elim) ?_
          rintro _ _ ⟨_, _, ⟨rfl, _, _, rfl⟩, rfl, rfl⟩
          refine j_w (z_cw _ _ _ _ _ _ _ _ _ _ _ _ _ _ _ _ _ _ _ _ _ _ _ _ _ _ _ _ _ _ _ _ _ _ _ _ _ _ _ _ _ _ _ _ _ _ _ _ _ _ _ _ _ _ _ _ [], z_no) rfl ?_
          refine j_iload_n dX8_isCallLike_37 rfl ?_
          refine j_tsIn (tgt := 78) dX8_isCallLike_38 (by decide) (by decide) rfl (by decide) ?_
          refine j_aload dX8_isCallLike_78 rfl rfl ?_
          refine j_iload_n dX8_isCallLike_80 rfl ?_
          refine j_iload dX8_isCallLike_81 rfl ?_
          refine j_iconst (v := 1) dX8_isCallLike_83 (by decide) ?_
          refine j_callV (q := (RX4, TX4, 5)) dX8_isCallLike_84 kX4_reckonAbsent lX8_144 inX4_reckonAbsent seX4_reckonAbsent rfl rfl (z_frame [41, 42, 43, 44, 45] rfl (by decide) (Nat.le_of_ble_eq_true rfl) (c_X4_reckonAbsent hl _ _ _ _ _ _ _ _ (by assumption))) (Nat.le_of_ble_eq_true rfl) ⟨(Nat.le_of_ble_eq_true rfl), (Nat.le_of_ble_eq_true rfl)⟩ rfl (Nat.le_of_ble_eq_true rfl) rfl rfl (fun _ _ h => h.elim) ?_
          rintro _ _ ⟨_, _, ⟨_, rfl, _, _, _, _, hm, rfl⟩, rfl, rfl⟩
          refine j_w (z_cw _ _ _ _ _ _ _ _ _ _ _ _ _ _ _ _ _ _ _ _ _ _ _ _ _ _ _ _ _ _ _ _ _ _ _ _ _ _ _ _ _ _ _ _ _ _ _ _ _ _ _ _ _ _ _ _ [], z_no) rfl ?_
          refine j_istore (lo' := [(10, _), (9, _), (8, _), (5, _), (7, _), (6, _), (0, _), (1, _), (2, _), (3, _), (4, _)]) dX8_isCallLike_87 (by decide) rfl ?_
          refine j_goto (tgt := 117) dX8_isCallLike_89 (by decide) ?_
          refine j_aload dX8_isCallLike_117 rfl rfl ?_
          refine j_aload_n dX8_isCallLike_119 rfl rfl ?_
          refine j_getf dX8_isCallLike_120 fX8_40 rfl rfl ?_
          refine j_acmp_ne (tgt := 133) dX8_isCallLike_123 (by decide) (fun c_123 => ?_) (fun c_123 => ?_)
          · refine j_iload dX8_isCallLike_133 rfl ?_
            refine j_iload dX8_isCallLike_135 rfl ?_
            refine j_icmp_ne (tgt := 152) dX8_isCallLike_137 (by decide) (fun c_137 => ?_) (fun c_137 => ?_)
            · refine j_iconst (v := 0) dX8_isCallLike_152 (by decide) ?_
              refine j_iret dX8_isCallLike_153 rfl rfl ?_ (Nat.le_of_ble_eq_true rfl) (Nat.le_of_ble_eq_true rfl)
              first | exact ⟨rfl, rfl, ⟨true, rfl⟩, _, _, _, _, _, _, _, _, _, _, _, _, (by assumption), (by assumption), (by assumption), rfl⟩ | exact ⟨rfl, rfl, ⟨false, rfl⟩, _, _, _, _, _, _, _, _, _, _, _, _, (by assumption), (by assumption), (by assumption), rfl⟩
            · refine j_aload dX8_isCallLike_140 rfl rfl ?_
              refine j_aload_n dX8_isCallLike_142 rfl rfl ?_
              refine j_getf dX8_isCallLike_143 fX8_40 rfl rfl ?_
              refine j_callV (q := (RX4, TX4, 5)) dX8_isCallLike_146 kX4_hasPairsOf lX8_230 inX4_hasPairsOf seX4_hasPairsOf rfl rfl (z_frame [41, 42, 43, 44, 45, 35, 36, 37, 38, 39] rfl (by decide) (Nat.le_of_ble_eq_true rfl) (c_X4_hasPairsOf hl _ _ _ _ _ _ _ _ _ _)) (Nat.le_of_ble_eq_true rfl) ⟨(Nat.le_of_ble_eq_true rfl), (Nat.le_of_ble_eq_true rfl)⟩ rfl (Nat.le_of_ble_eq_true rfl) rfl rfl (fun _ _ h => h.elim) ?_
              rintro _ _ ⟨_, _, ⟨b, rfl, rfl⟩, rfl, rfl⟩
              refine j_w (z_cw _ _ _ _ _ _ _ _ _ _ _ _ _ _ _ _ _ _ _ _ _ _ _ _ _ _ _ _ _ _ _ _ _ _ _ _ _ _ _ _ _ _ _ _ _ _ _ _ _ _ _ _ _ _ _ _ [], z_no) rfl ?_
              refine j_if_ne (tgt := 154) dX8_isCallLike_149 (by decide) (fun c_149 => ?_) (fun c_149 => ?_)
              · refine j_iinc (lo' := [(8, _), (10, _), (9, _), (5, _), (7, _), (6, _), (0, _), (1, _), (2, _), (3, _), (4, _)]) dX8_isCallLike_154 rfl rfl (by decide) rfl ?_
                refine j_goto (tgt := 17) dX8_isCallLike_157 (by decide) ?_
                refine j_iload dX8_isCallLike_17 rfl ?_
                refine j_iload dX8_isCallLike_19 rfl ?_
                refine j_icmp_ge (tgt := 160) dX8_isCallLike_21 (by decide) (fun c_21 => ?_) (fun c_21 => ?_)
                · exact absurd c_21 (by decide)
                · refine j_aload dX8_isCallLike_24 rfl rfl ?_
                  refine j_iload dX8_isCallLike_26 rfl ?_
                  refine j_aald (v := .ref 46) dX8_isCallLike_28 rfl rfl rfl (vp_in_iff.mpr (by decide)) rfl ?_
                  refine j_astore (lo' := [(9, _), (8, _), (10, _), (5, _), (7, _), (6, _), (0, _), (1, _), (2, _), (3, _), (4, _)]) dX8_isCallLike_29 rfl (by decide) rfl ?_
                  refine j_aload dX8_isCallLike_31 rfl rfl ?_
                  refine j_aload_n dX8_isCallLike_33 rfl rfl ?_
                  refine j_callV (q := (RX4, TX4, 5)) dX8_isCallLike_34 kX4_become lX8_344 inX4_become seX4_become rfl rfl (z_frame [46, 47, 48, 49, 50, 16, 17, 18, 19, 20] rfl (by decide) (Nat.le_of_ble_eq_true rfl) (c_X4_become hl _ _ _ _ _ _ _ _ _ _)) (Nat.le_of_ble_eq_true rfl) ⟨(Nat.le_of_ble_eq_true rfl), (Nat.le_of_ble_eq_true rfl)⟩ rfl (Nat.le_of_ble_eq_true rfl) rfl rfl (fun _ _ h => h.elim) ?_
                  rintro _ _ ⟨_, _, ⟨rfl, _, _, rfl⟩, rfl, rfl⟩
                  refine j_w (z_cw _ _ _ _ _ _ _ _ _ _ _ _ _ _ _ _ _ _ _ _ _ _ _ _ _ _ _ _ _ _ _ _ _ _ _ _ _ _ _ _ _ _ _ _ _ _ _ _ _ _ _ _ _ _ _ _ [], z_no) rfl ?_
                  refine j_iload_n dX8_isCallLike_37 rfl ?_
                  refine j_tsIn (tgt := 78) dX8_isCallLike_38 (by decide) (by decide) rfl (by decide) ?_
                  refine j_aload dX8_isCallLike_78 rfl rfl ?_
                  refine j_iload_n dX8_isCallLike_80 rfl ?_
                  refine j_iload dX8_isCallLike_81 rfl ?_
                  refine j_iconst (v := 1) dX8_isCallLike_83 (by decide) ?_
                  refine j_callV (q := (RX4, TX4, 5)) dX8_isCallLike_84 kX4_reckonAbsent lX8_144 inX4_reckonAbsent seX4_reckonAbsent rfl rfl (z_frame [46, 47, 48, 49, 50] rfl (by decide) (Nat.le_of_ble_eq_true rfl) (c_X4_reckonAbsent hl _ _ _ _ _ _ _ _ (by assumption))) (Nat.le_of_ble_eq_true rfl) ⟨(Nat.le_of_ble_eq_true rfl), (Nat.le_of_ble_eq_true rfl)⟩ rfl (Nat.le_of_ble_eq_true rfl) rfl rfl (fun _ _ h => h.elim) ?_
                  rintro _ _ ⟨_, _, ⟨_, rfl, _, _, _, _, hm, rfl⟩, rfl, rfl⟩
                  refine j_w (z_cw _ _ _ _ _ _ _ _ _ _ _ _ _ _ _ _ _ _ _ _ _ _ _ _ _ _ _ _ _ _ _ _ _ _ _ _ _ _ _ _ _ _ _ _ _ _ _ _ _ _ _ _ _ _ _ _ [], z_no) rfl ?_
                  refine j_istore (lo' := [(10, _), (9, _), (8, _), (5, _), (7, _), (6, _), (0, _), (1, _), (2, _), (3, _), (4, _)]) dX8_isCallLike_87 (by decide) rfl ?_
                  refine j_goto (tgt := 117) dX8_isCallLike_89 (by decide) ?_
                  refine j_aload dX8_isCallLike_117 rfl rfl ?_
                  refine j_aload_n dX8_isCallLike_119 rfl rfl ?_
                  refine j_getf dX8_isCallLike_120 fX8_40 rfl rfl ?_
                  refine j_acmp_ne (tgt := 133) dX8_isCallLike_123 (by decide) (fun c_123 => ?_) (fun c_123 => ?_)
                  · refine j_iload dX8_isCallLike_133 rfl ?_
                    refine j_iload dX8_isCallLike_135 rfl ?_
                    refine j_icmp_ne (tgt := 152) dX8_isCallLike_137 (by decide) (fun c_137 => ?_) (fun c_137 => ?_)
                    · refine j_iconst (v := 0) dX8_isCallLike_152 (by decide) ?_
                      refine j_iret dX8_isCallLike_153 rfl rfl ?_ (Nat.le_of_ble_eq_true rfl) (Nat.le_of_ble_eq_true rfl)
                      first | exact ⟨rfl, rfl, ⟨true, rfl⟩, _, _, _, _, _, _, _, _, _, _, _, _, (by assumption), (by assumption), (by assumption), rfl⟩ | exact ⟨rfl, rfl, ⟨false, rfl⟩, _, _, _, _, _, _, _, _, _, _, _, _, (by assumption), (by assumption), (by assumption), rfl⟩
                    · refine j_aload dX8_isCallLike_140 rfl rfl ?_
                      refine j_aload_n dX8_isCallLike_142 rfl rfl ?_
                      refine j_getf dX8_isCallLike_143 fX8_40 rfl rfl ?_
                      refine j_callV (q := (RX4, TX4, 5)) dX8_isCallLike_146 kX4_hasPairsOf lX8_230 inX4_hasPairsOf seX4_hasPairsOf rfl rfl (z_frame [46, 47, 48, 49, 50, 35, 36, 37, 38, 39] rfl (by decide) (Nat.le_of_ble_eq_true rfl) (c_X4_hasPairsOf hl _ _ _ _ _ _ _ _ _ _)) (Nat.le_of_ble_eq_true rfl) ⟨(Nat.le_of_ble_eq_true rfl), (Nat.le_of_ble_eq_true rfl)⟩ rfl (Nat.le_of_ble_eq_true rfl) rfl rfl (fun _ _ h => h.elim) ?_
                      rintro _ _ ⟨_, _, ⟨b, rfl, rfl⟩, rfl, rfl⟩
                      refine j_w (z_cw _ _ _ _ _ _ _ _ _ _ _ _ _ _ _ _ _ _ _ _ _ _ _ _ _ _ _ _ _ _ _ _ _ _ _ _ _ _ _ _ _ _ _ _ _ _ _ _ _ _ _ _ _ _ _ _ [], z_no) rfl ?_
                      refine j_if_ne (tgt := 154) dX8_isCallLike_149 (by decide) (fun c_149 => ?_) (fun c_149 => ?_)
                      · refine j_iinc (lo' := [(8, _), (10, _), (9, _), (5, _), (7, _), (6, _), (0, _), (1, _), (2, _), (3, _), (4, _)]) dX8_isCallLike_154 rfl rfl (by decide) rfl ?_
                        refine j_goto (tgt := 17) dX8_isCallLike_157 (by decide) ?_
                        refine j_iload dX8_isCallLike_17 rfl ?_
                        refine j_iload dX8_isCallLike_19 rfl ?_
                        refine j_icmp_ge (tgt := 160) dX8_isCallLike_21 (by decide) (fun c_21 => ?_) (fun c_21 => ?_)
                        · refine j_iconst (v := 1) dX8_isCallLike_160 (by decide) ?_
                          refine j_iret dX8_isCallLike_161 rfl rfl ?_ (Nat.le_of_ble_eq_true rfl) (Nat.le_of_ble_eq_true rfl)
                          first | exact ⟨rfl, rfl, ⟨true, rfl⟩, _, _, _, _, _, _, _, _, _, _, _, _, (by assumption), (by assumption), (by assumption), rfl⟩ | exact ⟨rfl, rfl, ⟨false, rfl⟩, _, _, _, _, _, _, _, _, _, _, _, _, (by assumption), (by assumption), (by assumption), rfl⟩
                        · exact absurd (by decide) c_21
                      · refine j_iconst (v := 0) dX8_isCallLike_152 (by decide) ?_
                        refine j_iret dX8_isCallLike_153 rfl rfl ?_ (Nat.le_of_ble_eq_true rfl) (Nat.le_of_ble_eq_true rfl)
                        first | exact ⟨rfl, rfl, ⟨true, rfl⟩, _, _, _, _, _, _, _, _, _, _, _, _, (by assumption), (by assumption), (by assumption), rfl⟩ | exact ⟨rfl, rfl, ⟨false, rfl⟩, _, _, _, _, _, _, _, _, _, _, _, _, (by assumption), (by assumption), (by assumption), rfl⟩
                  · exact absurd c_123 (by decide)
              · refine j_iconst (v := 0) dX8_isCallLike_152 (by decide) ?_
                refine j_iret dX8_isCallLike_153 rfl rfl ?_ (Nat.le_of_ble_eq_true rfl) (Nat.le_of_ble_eq_true rfl)
                first | exact ⟨rfl, rfl, ⟨true, rfl⟩, _, _, _, _, _, _, _, _, _, _, _, _, (by assumption), (by assumption), (by assumption), rfl⟩ | exact ⟨rfl, rfl, ⟨false, rfl⟩, _, _, _, _, _, _, _, _, _, _, _, _, (by assumption), (by assumption), (by assumption), rfl⟩
          · exact absurd c_123 (by decide)
    · refine j_tsIn (tgt := 92) dX8_isCallLike_38 (by decide) (by decide) rfl (by decide) ?_
      refine j_aload dX8_isCallLike_92 rfl rfl ?_
      refine j_iload_n dX8_isCallLike_94 rfl ?_
      refine j_iload dX8_isCallLike_95 rfl ?_
      refine j_iconst (v := 1) dX8_isCallLike_97 (by decide) ?_
      refine j_callV (q := (RX4, TX4, 5)) dX8_isCallLike_98 kX4_reckonPresent lX8_148 inX4_reckonPresent seX4_reckonPresent rfl rfl (z_frame [35, 36, 37, 38, 39] rfl (by decide) (Nat.le_of_ble_eq_true rfl) (c_X4_reckonPresent hl _ _ _ _ _ _ _ _ (by assumption))) (Nat.le_of_ble_eq_true rfl) ⟨(Nat.le_of_ble_eq_true rfl), (Nat.le_of_ble_eq_true rfl)⟩ rfl (Nat.le_of_ble_eq_true rfl) rfl rfl (fun _ _ h => h.elim) ?_
      rintro _ _ ⟨_, _, ⟨_, rfl, _, _, _, _, hm, rfl⟩, rfl, rfl⟩
      refine j_w (z_cw _ _ _ _ _ _ _ _ _ _ _ _ _ _ _ _ _ _ _ _ _ _ _ _ _ _ _ _ _ _ _ _ _ _ _ _ _ _ _ _ _ _ _ _ _ _ _ _ _ _ _ _ _ _ _ _ [], z_no) rfl ?_
      refine j_istore (lo' := [(10, _), (9, _), (8, _), (7, _), (6, _), (5, _), (0, _), (1, _), (2, _), (3, _), (4, _)]) dX8_isCallLike_101 (by decide) rfl ?_
      refine j_goto (tgt := 117) dX8_isCallLike_103 (by decide) ?_
      refine j_aload dX8_isCallLike_117 rfl rfl ?_
      refine j_aload_n dX8_isCallLike_119 rfl rfl ?_
      refine j_getf dX8_isCallLike_120 fX8_40 rfl rfl ?_
      refine j_acmp_ne (tgt := 133) dX8_isCallLike_123 (by decide) (fun c_123 => ?_) (fun c_123 => ?_)
      · exact absurd rfl c_123
      · refine j_iload dX8_isCallLike_126 rfl ?_
        refine j_istore (lo' := [(5, _), (10, _), (9, _), (8, _), (7, _), (6, _), (0, _), (1, _), (2, _), (3, _), (4, _)]) dX8_isCallLike_128 (by decide) rfl ?_
        refine j_goto (tgt := 154) dX8_isCallLike_130 (by decide) ?_
        refine j_iinc (lo' := [(8, _), (5, _), (10, _), (9, _), (7, _), (6, _), (0, _), (1, _), (2, _), (3, _), (4, _)]) dX8_isCallLike_154 rfl rfl (by decide) rfl ?_
        refine j_goto (tgt := 17) dX8_isCallLike_157 (by decide) ?_
        refine j_iload dX8_isCallLike_17 rfl ?_
        refine j_iload dX8_isCallLike_19 rfl ?_
        refine j_icmp_ge (tgt := 160) dX8_isCallLike_21 (by decide) (fun c_21 => ?_) (fun c_21 => ?_)
        · exact absurd c_21 (by decide)
        · refine j_aload dX8_isCallLike_24 rfl rfl ?_
          refine j_iload dX8_isCallLike_26 rfl ?_
          refine j_aald (v := .ref 41) dX8_isCallLike_28 rfl rfl rfl (vp_in_iff.mpr (by decide)) rfl ?_
          refine j_astore (lo' := [(9, _), (8, _), (5, _), (10, _), (7, _), (6, _), (0, _), (1, _), (2, _), (3, _), (4, _)]) dX8_isCallLike_29 rfl (by decide) rfl ?_
          refine j_aload dX8_isCallLike_31 rfl rfl ?_
          refine j_aload_n dX8_isCallLike_33 rfl rfl ?_
          refine j_callV (q := (RX4, TX4, 5)) dX8_isCallLike_34 kX4_become lX8_344 inX4_become seX4_become rfl rfl (z_frame [41, 42, 43, 44, 45, 16, 17, 18, 19, 20] rfl (by decide) (Nat.le_of_ble_eq_true rfl) (c_X4_become hl _ _ _ _ _ _ _ _ _ _)) (Nat.le_of_ble_eq_true rfl) ⟨(Nat.le_of_ble_eq_true rfl), (Nat.le_of_ble_eq_true rfl)⟩ rfl (Nat.le_of_ble_eq_true rfl) rfl rfl (fun _ _ h => h.elim) ?_
          rintro _ _ ⟨_, _, ⟨rfl, _, _, rfl⟩, rfl, rfl⟩
          refine j_w (z_cw _ _ _ _ _ _ _ _ _ _ _ _ _ _ _ _ _ _ _ _ _ _ _ _ _ _ _ _ _ _ _ _ _ _ _ _ _ _ _ _ _ _ _ _ _ _ _ _ _ _ _ _ _ _ _ _ [], z_no) rfl ?_
          refine j_iload_n dX8_isCallLike_37 rfl ?_
          refine j_tsIn (tgt := 92) dX8_isCallLike_38 (by decide) (by decide) rfl (by decide) ?_
          refine j_aload dX8_isCallLike_92 rfl rfl ?_
          refine j_iload_n dX8_isCallLike_94 rfl ?_
          refine j_iload dX8_isCallLike_95 rfl ?_
          refine j_iconst (v := 1) dX8_isCallLike_97 (by decide) ?_
          refine j_callV (q := (RX4, TX4, 5)) dX8_isCallLike_98 kX4_reckonPresent lX8_148 inX4_reckonPresent seX4_reckonPresent rfl rfl (z_frame [41, 42, 43, 44, 45] rfl (by decide) (Nat.le_of_ble_eq_true rfl) (c_X4_reckonPresent hl _ _ _ _ _ _ _ _ (by assumption))) (Nat.le_of_ble_eq_true rfl) ⟨(Nat.le_of_ble_eq_true rfl), (Nat.le_of_ble_eq_true rfl)⟩ rfl (Nat.le_of_ble_eq_true rfl) rfl rfl (fun _ _ h => h.elim) ?_
          rintro _ _ ⟨_, _, ⟨_, rfl, _, _, _, _, hm, rfl⟩, rfl, rfl⟩
          refine j_w (z_cw _ _ _ _ _ _ _ _ _ _ _ _ _ _ _ _ _ _ _ _ _ _ _ _ _ _ _ _ _ _ _ _ _ _ _ _ _ _ _ _ _ _ _ _ _ _ _ _ _ _ _ _ _ _ _ _ [], z_no) rfl ?_
          refine j_istore (lo' := [(10, _), (9, _), (8, _), (5, _), (7, _), (6, _), (0, _), (1, _), (2, _), (3, _), (4, _)]) dX8_isCallLike_101 (by decide) rfl ?_
          refine j_goto (tgt := 117) dX8_isCallLike_103 (by decide) ?_
          refine j_aload dX8_isCallLike_117 rfl rfl ?_
          refine j_aload_n dX8_isCallLike_119 rfl rfl ?_
          refine j_getf dX8_isCallLike_120 fX8_40 rfl rfl ?_
          refine j_acmp_ne (tgt := 133) dX8_isCallLike_123 (by decide) (fun c_123 => ?_) (fun c_123 => ?_)
          · refine j_iload dX8_isCallLike_133 rfl ?_
            refine j_iload dX8_isCallLike_135 rfl ?_
            refine j_icmp_ne (tgt := 152) dX8_isCallLike_137 (by decide) (fun c_137 => ?_) (fun c_137 => ?_)
            · refine j_iconst (v := 0) dX8_isCallLike_152 (by decide) ?_
              refine j_iret dX8_isCallLike_153 rfl rfl ?_ (Nat.le_of_ble_eq_true rfl) (Nat.le_of_ble_eq_true rfl)
              first | exact ⟨rfl, rfl, ⟨true, rfl⟩, _, _, _, _, _, _, _, _, _, _, _, _, (by assumption), (by assumption), (by assumption), rfl⟩ | exact ⟨rfl, rfl, ⟨false, rfl⟩, _, _, _, _, _, _, _, _, _, _, _, _, (by assumption), (by assumption), (by assumption), rfl⟩
            · refine j_aload dX8_isCallLike_140 rfl rfl ?_
              refine j_aload_n dX8_isCallLike_142 rfl rfl ?_
              refine j_getf dX8_isCallLike_143 fX8_40 rfl rfl ?_
              refine j_callV (q := (RX4, TX4, 5)) dX8_isCallLike_146 kX4_hasPairsOf lX8_230 inX4_hasPairsOf seX4_hasPairsOf rfl rfl (z_frame [41, 42, 43, 44, 45, 35, 36, 37, 38, 39] rfl (by decide) (Nat.le_of_ble_eq_true rfl) (c_X4_hasPairsOf hl _ _ _ _ _ _ _ _ _ _)) (Nat.le_of_ble_eq_true rfl) ⟨(Nat.le_of_ble_eq_true rfl), (Nat.le_of_ble_eq_true rfl)⟩ rfl (Nat.le_of_ble_eq_true rfl) rfl rfl (fun _ _ h => h.elim) ?_
              rintro _ _ ⟨_, _, ⟨b, rfl, rfl⟩, rfl, rfl⟩
              refine j_w (z_cw _ _ _ _ _ _ _ _ _ _ _ _ _ _ _ _ _ _ _ _ _ _ _ _ _ _ _ _ _ _ _ _ _ _ _ _ _ _ _ _ _ _ _ _ _ _ _ _ _ _ _ _ _ _ _ _ [], z_no) rfl ?_
              refine j_if_ne (tgt := 154) dX8_isCallLike_149 (by decide) (fun c_149 => ?_) (fun c_149 => ?_)
              · refine j_iinc (lo' := [(8, _), (10, _), (9, _), (5, _), (7, _), (6, _), (0, _), (1, _), (2, _), (3, _), (4, _)]) dX8_isCallLike_154 rfl rfl (by decide) rfl ?_
                refine j_goto (tgt := 17) dX8_isCallLike_157 (by decide) ?_
                refine j_iload dX8_isCallLike_17 rfl ?_
                refine j_iload dX8_isCallLike_19 rfl ?_
                refine j_icmp_ge (tgt := 160) dX8_isCallLike_21 (by decide) (fun c_21 => ?_) (fun c_21 => ?_)
                · exact absurd c_21 (by decide)
                · refine j_aload dX8_isCallLike_24 rfl rfl ?_
                  refine j_iload dX8_isCallLike_26 rfl ?_
                  refine j_aald (v := .ref 46) dX8_isCallLike_28 rfl rfl rfl (vp_in_iff.mpr (by decide)) rfl ?_
                  refine j_astore (lo' := [(9, _), (8, _), (10, _), (5, _), (7, _), (6, _), (0, _), (1, _), (2, _), (3, _), (4, _)]) dX8_isCallLike_29 rfl (by decide) rfl ?_
                  refine j_aload dX8_isCallLike_31 rfl rfl ?_
                  refine j_aload_n dX8_isCallLike_33 rfl rfl ?_
                  refine j_callV (q := (RX4, TX4, 5)) dX8_isCallLike_34 kX4_become lX8_344 inX4_become seX4_become rfl rfl (z_frame [46, 47, 48, 49, 50, 16, 17, 18, 19, 20] rfl (by decide) (Nat.le_of_ble_eq_true rfl) (c_X4_become hl _ _ _ _ _ _ _ _ _ _)) (Nat.le_of_ble_eq_true rfl) ⟨(Nat.le_of_ble_eq_true rfl), (Nat.le_of_ble_eq_true rfl)⟩ rfl (Nat.le_of_ble_eq_true rfl) rfl rfl (fun _ _ h => h.elim) ?_
                  rintro _ _ ⟨_, _, ⟨rfl, _, _, rfl⟩, rfl, rfl⟩
                  refine j_w (z_cw _ _ _ _ _ _ _ _ _ _ _ _ _ _ _ _ _ _ _ _ _ _ _ _ _ _ _ _ _ _ _ _ _ _ _ _ _ _ _ _ _ _ _ _ _ _ _ _ _ _ _ _ _ _ _ _ [], z_no) rfl ?_
                  refine j_iload_n dX8_isCallLike_37 rfl ?_
                  refine j_tsIn (tgt := 92) dX8_isCallLike_38 (by decide) (by decide) rfl (by decide) ?_
                  refine j_aload dX8_isCallLike_92 rfl rfl ?_
                  refine j_iload_n dX8_isCallLike_94 rfl ?_
                  refine j_iload dX8_isCallLike_95 rfl ?_
                  refine j_iconst (v := 1) dX8_isCallLike_97 (by decide) ?_
                  refine j_callV (q := (RX4, TX4, 5)) dX8_isCallLike_98 kX4_reckonPresent lX8_148 inX4_reckonPresent seX4_reckonPresent rfl rfl (z_frame [46, 47, 48, 49, 50] rfl (by decide) (Nat.le_of_ble_eq_true rfl) (c_X4_reckonPresent hl _ _ _ _ _ _ _ _ (by assumption))) (Nat.le_of_ble_eq_true rfl) ⟨(Nat.le_of_ble_eq_true rfl), (Nat.le_of_ble_eq_true rfl)⟩ rfl (Nat.le_of_ble_eq_true rfl) rfl rfl (fun _ _ h => h.elim) ?_
                  rintro _ _ ⟨_, _, ⟨_, rfl, _, _, _, _, hm, rfl⟩, rfl, rfl⟩
                  refine j_w (z_cw _ _ _ _ _ _ _ _ _ _ _ _ _ _ _ _ _ _ _ _ _ _ _ _ _ _ _ _ _ _ _ _ _ _ _ _ _ _ _ _ _ _ _ _ _ _ _ _ _ _ _ _ _ _ _ _ [], z_no) rfl ?_
                  refine j_istore (lo' := [(10, _), (9, _), (8, _), (5, _), (7, _), (6, _), (0, _), (1, _), (2, _), (3, _), (4, _)]) dX8_isCallLike_101 (by decide) rfl ?_
                  refine j_goto (tgt := 117) dX8_isCallLike_103 (by decide) ?_
                  refine j_aload dX8_isCallLike_117 rfl rfl ?_
                  refine j_aload_n dX8_isCallLike_119 rfl rfl ?_
                  refine j_getf dX8_isCallLike_120 fX8_40 rfl rfl ?_
                  refine j_acmp_ne (tgt := 133) dX8_isCallLike_123 (by decide) (fun c_123 => ?_) (fun c_123 => ?_)
                  · refine j_iload dX8_isCallLike_133 rfl ?_
                    refine j_iload dX8_isCallLike_135 rfl ?_
                    refine j_icmp_ne (tgt := 152) dX8_isCallLike_137 (by decide) (fun c_137 => ?_) (fun c_137 => ?_)
                    · refine j_iconst (v := 0) dX8_isCallLike_152 (by decide) ?_
                      refine j_iret dX8_isCallLike_153 rfl rfl ?_ (Nat.le_of_ble_eq_true rfl) (Nat.le_of_ble_eq_true rfl)
                      first | exact ⟨rfl, rfl, ⟨true, rfl⟩, _, _, _, _, _, _, _, _, _, _, _, _, (by assumption), (by assumption), (by assumption), rfl⟩ | exact ⟨rfl, rfl, ⟨false, rfl⟩, _, _, _, _, _, _, _, _, _, _, _, _, (by assumption), (by assumption), (by assumption), rfl⟩
                    · refine j_aload dX8_isCallLike_140 rfl rfl ?_
                      refine j_aload_n dX8_isCallLike_142 rfl rfl ?_
                      refine j_getf dX8_isCallLike_143 fX8_40 rfl rfl ?_
                      refine j_callV (q := (RX4, TX4, 5)) dX8_isCallLike_146 kX4_hasPairsOf lX8_230 inX4_hasPairsOf seX4_hasPairsOf rfl rfl (z_frame [46, 47, 48, 49, 50, 35, 36, 37, 38, 39] rfl (by decide) (Nat.le_of_ble_eq_true rfl) (c_X4_hasPairsOf hl _ _ _ _ _ _ _ _ _ _)) (Nat.le_of_ble_eq_true rfl) ⟨(Nat.le_of_ble_eq_true rfl), (Nat.le_of_ble_eq_true rfl)⟩ rfl (Nat.le_of_ble_eq_true rfl) rfl rfl (fun _ _ h => h.elim) ?_
                      rintro _ _ ⟨_, _, ⟨b, rfl, rfl⟩, rfl, rfl⟩
                      refine j_w (z_cw _ _ _ _ _ _ _ _ _ _ _ _ _ _ _ _ _ _ _ _ _ _ _ _ _ _ _ _ _ _ _ _ _ _ _ _ _ _ _ _ _ _ _ _ _ _ _ _ _ _ _ _ _ _ _ _ [], z_no) rfl ?_
                      refine j_if_ne (tgt := 154) dX8_isCallLike_149 (by decide) (fun c_149 => ?_) (fun c_149 => ?_)
                      · refine j_iinc (lo' := [(8, _), (10, _), (9, _), (5, _), (7, _), (6, _), (0, _), (1, _), (2, _), (3, _), (4, _)]) dX8_isCallLike_154 rfl rfl (by decide) rfl ?_
                        refine j_goto (tgt := 17) dX8_isCallLike_157 (by decide) ?_
                        refine j_iload dX8_isCallLike_17 rfl ?_
                        refine j_iload dX8_isCallLike_19 rfl ?_
                        refine j_icmp_ge (tgt := 160) dX8_isCallLike_21 (by decide) (fun c_21 => ?_) (fun c_21 => ?_)
                        · refine j_iconst (v := 1) dX8_isCallLike_160 (by decide) ?_
                          refine j_iret dX8_isCallLike_161 rfl rfl ?_ (Nat.le_of_ble_eq_true rfl) (Nat.le_of_ble_eq_true rfl)
                          first | exact ⟨rfl, rfl, ⟨true, rfl⟩, _, _, _, _, _, _, _, _, _, _, _, _, (by assumption), (by assumption), (by assumption), rfl⟩ | exact ⟨rfl, rfl, ⟨false, rfl⟩, _, _, _, _, _, _, _, _, _, _, _, _, (by assumption), (by assumption), (by assumption), rfl⟩
                        · exact absurd (by decide) c_21
                      · refine j_iconst (v := 0) dX8_isCallLike_152 (by decide) ?_
                        refine j_iret dX8_isCallLike_153 rfl rfl ?_ (Nat.le_of_ble_eq_true rfl) (Nat.le_of_ble_eq_true rfl)
                        first | exact ⟨rfl, rfl, ⟨true, rfl⟩, _, _, _, _, _, _, _, _, _, _, _, _, (by assumption), (by assumption), (by assumption), rfl⟩ | exact ⟨rfl, rfl, ⟨false, rfl⟩, _, _, _, _, _, _, _, _, _, _, _, _, (by assumption), (by assumption), (by assumption), rfl⟩
                  · exact absurd c_123 (by decide)
              · refine j_iconst (v := 0) dX8_isCallLike_152 (by decide) ?_
                refine j_iret dX8_isCallLike_153 rfl rfl ?_ (Nat.le_of_ble_eq_true rfl) (Nat.le_of_ble_eq_true rfl)
                first | exact ⟨rfl, rfl, ⟨true, rfl⟩, _, _, _, _, _, _, _, _, _, _, _, _, (by assumption), (by assumption), (by assumption), rfl⟩ | exact ⟨rfl, rfl, ⟨false, rfl⟩, _, _, _, _, _, _, _, _, _, _, _, _, (by assumption), (by assumption), (by assumption), rfl⟩
          · exact absurd c_123 (by decide)
    · refine j_tsOut (tgt := 106) dX8_isCallLike_38 hp (by decide) ?_
      refine j_aload dX8_isCallLike_106 rfl rfl ?_
      refine j_iload_n dX8_isCallLike_108 rfl ?_
      refine j_iconst (v := 1) dX8_isCallLike_109 (by decide) ?_
      refine j_iload dX8_isCallLike_110 rfl ?_
      refine j_callV (q := (RX4, TX4, 5)) dX8_isCallLike_112 kX4_join lX8_154 inX4_join seX4_join rfl rfl (z_frame [35, 36, 37, 38, 39] rfl (by decide) (Nat.le_of_ble_eq_true rfl) (c_X4_join hl _ _ _ _ _ _ _ _ (by assumption))) (Nat.le_of_ble_eq_true rfl) ⟨(Nat.le_of_ble_eq_true rfl), (Nat.le_of_ble_eq_true rfl)⟩ rfl (Nat.le_of_ble_eq_true rfl) rfl rfl (fun _ _ h => h.elim) ?_
      rintro _ _ ⟨_, _, ⟨_, rfl, _, _, _, _, hm, rfl⟩, rfl, rfl⟩
      refine j_w (z_cw _ _ _ _ _ _ _ _ _ _ _ _ _ _ _ _ _ _ _ _ _ _ _ _ _ _ _ _ _ _ _ _ _ _ _ _ _ _ _ _ _ _ _ _ _ _ _ _ _ _ _ _ _ _ _ _ [], z_no) rfl ?_
      refine j_istore (lo' := [(10, _), (9, _), (8, _), (7, _), (6, _), (5, _), (0, _), (1, _), (2, _), (3, _), (4, _)]) dX8_isCallLike_115 (by decide) rfl ?_
      refine j_aload dX8_isCallLike_117 rfl rfl ?_
      refine j_aload_n dX8_isCallLike_119 rfl rfl ?_
      refine j_getf dX8_isCallLike_120 fX8_40 rfl rfl ?_
      refine j_acmp_ne (tgt := 133) dX8_isCallLike_123 (by decide) (fun c_123 => ?_) (fun c_123 => ?_)
      · exact absurd rfl c_123
      · refine j_iload dX8_isCallLike_126 rfl ?_
        refine j_istore (lo' := [(5, _), (10, _), (9, _), (8, _), (7, _), (6, _), (0, _), (1, _), (2, _), (3, _), (4, _)]) dX8_isCallLike_128 (by decide) rfl ?_
        refine j_goto (tgt := 154) dX8_isCallLike_130 (by decide) ?_
        refine j_iinc (lo' := [(8, _), (5, _), (10, _), (9, _), (7, _), (6, _), (0, _), (1, _), (2, _), (3, _), (4, _)]) dX8_isCallLike_154 rfl rfl (by decide) rfl ?_
        refine j_goto (tgt := 17) dX8_isCallLike_157 (by decide) ?_
        refine j_iload dX8_isCallLike_17 rfl ?_
        refine j_iload dX8_isCallLike_19 rfl ?_
        refine j_icmp_ge (tgt := 160) dX8_isCallLike_21 (by decide) (fun c_21 => ?_) (fun c_21 => ?_)
        · exact absurd c_21 (by decide)
        · refine j_aload dX8_isCallLike_24 rfl rfl ?_
          refine j_iload dX8_isCallLike_26 rfl ?_
          refine j_aald (v := .ref 41) dX8_isCallLike_28 rfl rfl rfl (vp_in_iff.mpr (by decide)) rfl ?_
          refine j_astore (lo' := [(9, _), (8, _), (5, _), (10, _), (7, _), (6, _), (0, _), (1, _), (2, _), (3, _), (4, _)]) dX8_isCallLike_29 rfl (by decide) rfl ?_
          refine j_aload dX8_isCallLike_31 rfl rfl ?_
          refine j_aload_n dX8_isCallLike_33 rfl rfl ?_
          refine j_callV (q := (RX4, TX4, 5)) dX8_isCallLike_34 kX4_become lX8_344 inX4_become seX4_become rfl rfl (z_frame [41, 42, 43, 44, 45, 16, 17, 18, 19, 20] rfl (by decide) (Nat.le_of_ble_eq_true rfl) (c_X4_become hl _ _ _ _ _ _ _ _ _ _)) (Nat.le_of_ble_eq_true rfl) ⟨(Nat.le_of_ble_eq_true rfl), (Nat.le_of_ble_eq_true rfl)⟩ rfl (Nat.le_of_ble_eq_true rfl) rfl rfl (fun _ _ h => h.elim) ?_
          rintro _ _ ⟨_, _, ⟨rfl, _, _, rfl⟩, rfl, rfl⟩
          refine j_w (z_cw _ _ _ _ _ _ _ _ _ _ _ _ _ _ _ _ _ _ _ _ _ _ _ _ _ _ _ _ _ _ _ _ _ _ _ _ _ _ _ _ _ _ _ _ _ _ _ _ _ _ _ _ _ _ _ _ [], z_no) rfl ?_
          refine j_iload_n dX8_isCallLike_37 rfl ?_
          refine j_tsOut (tgt := 106) dX8_isCallLike_38 hp (by decide) ?_
          refine j_aload dX8_isCallLike_106 rfl rfl ?_
          refine j_iload_n dX8_isCallLike_108 rfl ?_
          refine j_iconst (v := 1) dX8_isCallLike_109 (by decide) ?_
          refine j_iload dX8_isCallLike_110 rfl ?_
          refine j_callV (q := (RX4, TX4, 5)) dX8_isCallLike_112 kX4_join lX8_154 inX4_join seX4_join rfl rfl (z_frame [41, 42, 43, 44, 45] rfl (by decide) (Nat.le_of_ble_eq_true rfl) (c_X4_join hl _ _ _ _ _ _ _ _ (by assumption))) (Nat.le_of_ble_eq_true rfl) ⟨(Nat.le_of_ble_eq_true rfl), (Nat.le_of_ble_eq_true rfl)⟩ rfl (Nat.le_of_ble_eq_true rfl) rfl rfl (fun _ _ h => h.elim) ?_
          rintro _ _ ⟨_, _, ⟨_, rfl, _, _, _, _, hm, rfl⟩, rfl, rfl⟩
          refine j_w (z_cw _ _ _ _ _ _ _ _ _ _ _ _ _ _ _ _ _ _ _ _ _ _ _ _ _ _ _ _ _ _ _ _ _ _ _ _ _ _ _ _ _ _ _ _ _ _ _ _ _ _ _ _ _ _ _ _ [], z_no) rfl ?_
          refine j_istore (lo' := [(10, _), (9, _), (8, _), (5, _), (7, _), (6, _), (0, _), (1, _), (2, _), (3, _), (4, _)]) dX8_isCallLike_115 (by decide) rfl ?_
          refine j_aload dX8_isCallLike_117 rfl rfl ?_
          refine j_aload_n dX8_isCallLike_119 rfl rfl ?_
          refine j_getf dX8_isCallLike_120 fX8_40 rfl rfl ?_
          refine j_acmp_ne (tgt := 133) dX8_isCallLike_123 (by decide) (fun c_123 => ?_) (fun c_123 => ?_)
          · refine j_iload dX8_isCallLike_133 rfl ?_
            refine j_iload dX8_isCallLike_135 rfl ?_
            refine j_icmp_ne (tgt := 152) dX8_isCallLike_137 (by decide) (fun c_137 => ?_) (fun c_137 => ?_)
            · refine j_iconst (v := 0) dX8_isCallLike_152 (by decide) ?_
              refine j_iret dX8_isCallLike_153 rfl rfl ?_ (Nat.le_of_ble_eq_true rfl) (Nat.le_of_ble_eq_true rfl)
              first | exact ⟨rfl, rfl, ⟨true, rfl⟩, _, _, _, _, _, _, _, _, _, _, _, _, (by assumption), (by assumption), (by assumption), rfl⟩ | exact ⟨rfl, rfl, ⟨false, rfl⟩, _, _, _, _, _, _, _, _, _, _, _, _, (by assumption), (by assumption), (by assumption), rfl⟩
            · refine j_aload dX8_isCallLike_140 rfl rfl ?_
              refine j_aload_n dX8_isCallLike_142 rfl rfl ?_
              refine j_getf dX8_isCallLike_143 fX8_40 rfl rfl ?_
              refine j_callV (q := (RX4, TX4, 5)) dX8_isCallLike_146 kX4_hasPairsOf lX8_230 inX4_hasPairsOf seX4_hasPairsOf rfl rfl (z_frame [41, 42, 43, 44, 45, 35, 36, 37, 38, 39] rfl (by decide) (Nat.le_of_ble_eq_true rfl) (c_X4_hasPairsOf hl _ _ _ _ _ _ _ _ _ _)) (Nat.le_of_ble_eq_true rfl) ⟨(Nat.le_of_ble_eq_true rfl), (Nat.le_of_ble_eq_true rfl)⟩ rfl (Nat.le_of_ble_eq_true rfl) rfl rfl (fun _ _ h => h.elim) ?_
              rintro _ _ ⟨_, _, ⟨b, rfl, rfl⟩, rfl, rfl⟩
              refine j_w (z_cw _ _ _ _ _ _ _ _ _ _ _ _ _ _ _ _ _ _ _ _ _ _ _ _ _ _ _ _ _ _ _ _ _ _ _ _ _ _ _ _ _ _ _ _ _ _ _ _ _ _ _ _ _ _ _ _ [], z_no) rfl ?_
              refine j_if_ne (tgt := 154) dX8_isCallLike_149 (by decide) (fun c_149 => ?_) (fun c_149 => ?_)
              · refine j_iinc (lo' := [(8, _), (10, _), (9, _), (5, _), (7, _), (6, _), (0, _), (1, _), (2, _), (3, _), (4, _)]) dX8_isCallLike_154 rfl rfl (by decide) rfl ?_
                refine j_goto (tgt := 17) dX8_isCallLike_157 (by decide) ?_
                refine j_iload dX8_isCallLike_17 rfl ?_
                refine j_iload dX8_isCallLike_19 rfl ?_
                refine j_icmp_ge (tgt := 160) dX8_isCallLike_21 (by decide) (fun c_21 => ?_) (fun c_21 => ?_)
                · exact absurd c_21 (by decide)
                · refine j_aload dX8_isCallLike_24 rfl rfl ?_
                  refine j_iload dX8_isCallLike_26 rfl ?_
                  refine j_aald (v := .ref 46) dX8_isCallLike_28 rfl rfl rfl (vp_in_iff.mpr (by decide)) rfl ?_
                  refine j_astore (lo' := [(9, _), (8, _), (10, _), (5, _), (7, _), (6, _), (0, _), (1, _), (2, _), (3, _), (4, _)]) dX8_isCallLike_29 rfl (by decide) rfl ?_
                  refine j_aload dX8_isCallLike_31 rfl rfl ?_
                  refine j_aload_n dX8_isCallLike_33 rfl rfl ?_
                  refine j_callV (q := (RX4, TX4, 5)) dX8_isCallLike_34 kX4_become lX8_344 inX4_become seX4_become rfl rfl (z_frame [46, 47, 48, 49, 50, 16, 17, 18, 19, 20] rfl (by decide) (Nat.le_of_ble_eq_true rfl) (c_X4_become hl _ _ _ _ _ _ _ _ _ _)) (Nat.le_of_ble_eq_true rfl) ⟨(Nat.le_of_ble_eq_true rfl), (Nat.le_of_ble_eq_true rfl)⟩ rfl (Nat.le_of_ble_eq_true rfl) rfl rfl (fun _ _ h => h.elim) ?_
                  rintro _ _ ⟨_, _, ⟨rfl, _, _, rfl⟩, rfl, rfl⟩
                  refine j_w (z_cw _ _ _ _ _ _ _ _ _ _ _ _ _ _ _ _ _ _ _ _ _ _ _ _ _ _ _ _ _ _ _ _ _ _ _ _ _ _ _ _ _ _ _ _ _ _ _ _ _ _ _ _ _ _ _ _ [], z_no) rfl ?_
                  refine j_iload_n dX8_isCallLike_37 rfl ?_
                  refine j_tsOut (tgt := 106) dX8_isCallLike_38 hp (by decide) ?_
                  refine j_aload dX8_isCallLike_106 rfl rfl ?_
                  refine j_iload_n dX8_isCallLike_108 rfl ?_
                  refine j_iconst (v := 1) dX8_isCallLike_109 (by decide) ?_
                  refine j_iload dX8_isCallLike_110 rfl ?_
                  refine j_callV (q := (RX4, TX4, 5)) dX8_isCallLike_112 kX4_join lX8_154 inX4_join seX4_join rfl rfl (z_frame [46, 47, 48, 49, 50] rfl (by decide) (Nat.le_of_ble_eq_true rfl) (c_X4_join hl _ _ _ _ _ _ _ _ (by assumption))) (Nat.le_of_ble_eq_true rfl) ⟨(Nat.le_of_ble_eq_true rfl), (Nat.le_of_ble_eq_true rfl)⟩ rfl (Nat.le_of_ble_eq_true rfl) rfl rfl (fun _ _ h => h.elim) ?_
                  rintro _ _ ⟨_, _, ⟨_, rfl, _, _, _, _, hm, rfl⟩, rfl, rfl⟩
                  refine j_w (z_cw _ _ _ _ _ _ _ _ _ _ _ _ _ _ _ _ _ _ _ _ _ _ _ _ _ _ _ _ _ _ _ _ _ _ _ _ _ _ _ _ _ _ _ _ _ _ _ _ _ _ _ _ _ _ _ _ [], z_no) rfl ?_
                  refine j_istore (lo' := [(10, _), (9, _), (8, _), (5, _), (7, _), (6, _), (0, _), (1, _), (2, _), (3, _), (4, _)]) dX8_isCallLike_115 (by decide) rfl ?_
                  refine j_aload dX8_isCallLike_117 rfl rfl ?_
                  refine j_aload_n dX8_isCallLike_119 rfl rfl ?_
                  refine j_getf dX8_isCallLike_120 fX8_40 rfl rfl ?_
                  refine j_acmp_ne (tgt := 133) dX8_isCallLike_123 (by decide) (fun c_123 => ?_) (fun c_123 => ?_)
                  · refine j_iload dX8_isCallLike_133 rfl ?_
                    refine j_iload dX8_isCallLike_135 rfl ?_
                    refine j_icmp_ne (tgt := 152) dX8_isCallLike_137 (by decide) (fun c_137 => ?_) (fun c_137 => ?_)
                    · refine j_iconst (v := 0) dX8_isCallLike_152 (by decide) ?_
                      refine j_iret dX8_isCallLike_153 rfl rfl ?_ (Nat.le_of_ble_eq_true rfl) (Nat.le_of_ble_eq_true rfl)
                      first | exact ⟨rfl, rfl, ⟨true, rfl⟩, _, _, _, _, _, _, _, _, _, _, _, _, (by assumption), (by assumption), (by assumption), rfl⟩ | exact ⟨rfl, rfl, ⟨false, rfl⟩, _, _, _, _, _, _, _, _, _, _, _, _, (by assumption), (by assumption), (by assumption), rfl⟩
                    · refine j_aload dX8_isCallLike_140 rfl rfl ?_
                      refine j_aload_n dX8_isCallLike_142 rfl rfl ?_
                      refine j_getf dX8_isCallLike_143 fX8_40 rfl rfl ?_
                      refine j_callV (q := (RX4, TX4, 5)) dX8_isCallLike_146 kX4_hasPairsOf lX8_230 inX4_hasPairsOf seX4_hasPairsOf rfl rfl (z_frame [46, 47, 48, 49, 50, 35, 36, 37, 38, 39] rfl (by decide) (Nat.le_of_ble_eq_true rfl) (c_X4_hasPairsOf hl _ _ _ _ _ _ _ _ _ _)) (Nat.le_of_ble_eq_true rfl) ⟨(Nat.le_of_ble_eq_true rfl), (Nat.le_of_ble_eq_true rfl)⟩ rfl (Nat.le_of_ble_eq_true rfl) rfl rfl (fun _ _ h => h.elim) ?_
                      rintro _ _ ⟨_, _, ⟨b, rfl, rfl⟩, rfl, rfl⟩
                      refine j_w (z_cw _ _ _ _ _ _ _ _ _ _ _ _ _ _ _ _ _ _ _ _ _ _ _ _ _ _ _ _ _ _ _ _ _ _ _ _ _ _ _ _ _ _ _ _ _ _ _ _ _ _ _ _ _ _ _ _ [], z_no) rfl ?_
                      refine j_if_ne (tgt := 154) dX8_isCallLike_149 (by decide) (fun c_149 => ?_) (fun c_149 => ?_)
                      · refine j_iinc (lo' := [(8, _), (10, _), (9, _), (5, _), (7, _), (6, _), (0, _), (1, _), (2, _), (3, _), (4, _)]) dX8_isCallLike_154 rfl rfl (by decide) rfl ?_
                        refine j_goto (tgt := 17) dX8_isCallLike_157 (by decide) ?_
                        refine j_iload dX8_isCallLike_17 rfl ?_
                        refine j_iload dX8_isCallLike_19 rfl ?_
                        refine j_icmp_ge (tgt := 160) dX8_isCallLike_21 (by decide) (fun c_21 => ?_) (fun c_21 => ?_)
                        · refine j_iconst (v := 1) dX8_isCallLike_160 (by decide) ?_
                          refine j_iret dX8_isCallLike_161 rfl rfl ?_ (Nat.le_of_ble_eq_true rfl) (Nat.le_of_ble_eq_true rfl)
                          first | exact ⟨rfl, rfl, ⟨true, rfl⟩, _, _, _, _, _, _, _, _, _, _, _, _, (by assumption), (by assumption), (by assumption), rfl⟩ | exact ⟨rfl, rfl, ⟨false, rfl⟩, _, _, _, _, _, _, _, _, _, _, _, _, (by assumption), (by assumption), (by assumption), rfl⟩
                        · exact absurd (by decide) c_21
                      · refine j_iconst (v := 0) dX8_isCallLike_152 (by decide) ?_
                        refine j_iret dX8_isCallLike_153 rfl rfl ?_ (Nat.le_of_ble_eq_true rfl) (Nat.le_of_ble_eq_true rfl)
                        first | exact ⟨rfl, rfl, ⟨true, rfl⟩, _, _, _, _, _, _, _, _, _, _, _, _, (by assumption), (by assumption), (by assumption), rfl⟩ | exact ⟨rfl, rfl, ⟨false, rfl⟩, _, _, _, _, _, _, _, _, _, _, _, _, (by assumption), (by assumption), (by assumption), rfl⟩
                  · exact absurd c_123 (by decide)
              · refine j_iconst (v := 0) dX8_isCallLike_152 (by decide) ?_
                refine j_iret dX8_isCallLike_153 rfl rfl ?_ (Nat.le_of_ble_eq_true rfl) (Nat.le_of_ble_eq_true rfl)
                first | exact ⟨rfl, rfl, ⟨true, rfl⟩, _, _, _, _, _, _, _, _, _, _, _, _, (by assumption), (by assumption), (by assumption), rfl⟩ | exact ⟨rfl, rfl, ⟨false, rfl⟩, _, _, _, _, _, _, _, _, _, _, _, _, (by assumption), (by assumption), (by assumption), rfl⟩
          · exact absurd c_123 (by decide)
set_option maxRecDepth 100000 in
set_option maxHeartbeats 8000000 in
theorem c_X8_areCallsLike_16 (hl : l.stackTraces = false) (rf : Int32) (kn : Int32) (ma : Int32) (xa : Bool) (fa : Nat → Int32) (ca : Nat → Int32) (mb : Int32) (xb : Bool) (fb : Nat → Int32) (cb : Nat → Int32) (mt : Int32) (xt : Bool) (ft : Nat → Int32) (ct : Nat → Int32) (f0 : Nat → Int32) (g0 : Nat → Int32) (c0 : Nat → Int32) (m0 : Int32) (s0 : Int32) (f1 : Nat → Int32) (g1 : Nat → Int32) (c1 : Nat → Int32) (m1 : Int32) (s1 : Int32) (f2 : Nat → Int32) (g2 : Nat → Int32) (c2 : Nat → Int32) (m2 : Int32) (s2 : Int32) (f3 : Nat → Int32) (g3 : Nat → Int32) (c3 : Nat → Int32) (m3 : Int32) (s3 : Int32) (f4 : Nat → Int32) (g4 : Nat → Int32) (c4 : Nat → Int32) (m4 : Int32) (s4 : Int32) (f5 : Nat → Int32) (g5 : Nat → Int32) (c5 : Nat → Int32) (m5 : Int32) (s5 : Int32) (ek0 : Int32) (em0 : Int32) (es0 : Int32) (el0 : Int32) (b0 : Int32) (ef0 : Nat → Int32) (ek1 : Int32) (em1 : Int32) (es1 : Int32) (el1 : Int32) (b1 : Int32) (ef1 : Nat → Int32) (h0 : z_m20 m0) (h1 : z_m20 m1) (h2 : z_m20 m2) (h3 : z_m20 m3) (h4 : z_m20 m4) (h5 : z_m20 m5): z_CF G l mX8_areCallsLike 18 0 0 (z_cw rf kn ma xa fa ca mb xb fb cb mt xt ft ct f0 g0 c0 m0 s0 f1 g1 c1 m1 s1 f2 g2 c2 m2 s2 f3 g3 c3 m3 s3 f4 g4 c4 m4 s4 f5 g5 c5 m5 s5 ek0 em0 es0 el0 b0 ef0 ek1 em1 es1 el1 b1 ef1 []) [.ref 0, .ref 16] (fun v L => (∃ b : Bool, v = some (.int (z_bi b))) ∧ ∃ (f3' g3' c3' : Nat → Int32) (m3' : Int32) (f4' g4' c4' : Nat → Int32) (m4' : Int32) (f5' g5' c5' : Nat → Int32) (m5' : Int32), z_m20 m3' ∧ z_m20 m4' ∧ z_m20 m5' ∧ L = (z_cw rf kn ma xa fa ca mb xb fb cb mt xt ft ct f0 g0 c0 m0 s0 f1 g1 c1 m1 s1 f2 g2 c2 m2 s2 f3' g3' c3' m3' s3 f4' g4' c4' m4' s4 f5' g5' c5' m5' s5 ek0 em0 es0 el0 b0 ef0 ek1 em1 es1 el1 b1 ef1 [])) := by
  refine z_body hl (by decide) rfl (Nat.le_of_ble_eq_true rfl) ?_
  show z_J G l mX8_areCallsLike (z_SF 18 0 0 (z_cw rf kn ma xa fa ca mb xb fb cb mt xt ft ct f0 g0 c0 m0 s0 f1 g1 c1 m1 s1 f2 g2 c2 m2 s2 f3 g3 c3 m3 s3 f4 g4 c4 m4 s4 f5 g5 c5 m5 s5 ek0 em0 es0 el0 b0 ef0 ek1 em1 es1 el1 b1 ef1 []) (fun v L => (∃ b : Bool, v = some (.int (z_bi b))) ∧ ∃ (f3' g3' c3' : Nat → Int32) (m3' : Int32) (f4' g4' c4' : Nat → Int32) (m4' : Int32) (f5' g5' c5' : Nat → Int32) (m5' : Int32), z_m20 m3' ∧ z_m20 m4' ∧ z_m20 m5' ∧ L = (z_cw rf kn ma xa fa ca mb xb fb cb mt xt ft ct f0 g0 c0 m0 s0 f1 g1 c1 m1 s1 f2 g2 c2 m2 s2 f3' g3' c3' m3' s3 f4' g4' c4' m4' s4 f5' g5' c5' m5' s5 ek0 em0 es0 el0 b0 ef0 ek1 em1 es1 el1 b1 ef1 []))) 0 [(0, _), (1, _)] [] _ 0 0
  refine j_iconst (v := 0) dX8_areCallsLike_0 (by decide) ?_
  refine j_istore_n (lo' := [(2, _), (0, _), (1, _)]) dX8_areCallsLike_1 (by decide) rfl ?_
  have loop : ∀ (n j : Nat) (f3' g3' c3' : Nat → Int32) (m3' : Int32) (f4' g4' c4' : Nat → Int32) (m4' : Int32) (f5' g5' c5' : Nat → Int32) (m5' : Int32), j ≤ 4 → 4 < j + n → z_m20 m3' → z_m20 m4' → z_m20 m5' → z_J G l mX8_areCallsLike (z_SF 18 0 0 (z_cw rf kn ma xa fa ca mb xb fb cb mt xt ft ct f0 g0 c0 m0 s0 f1 g1 c1 m1 s1 f2 g2 c2 m2 s2 f3 g3 c3 m3 s3 f4 g4 c4 m4 s4 f5 g5 c5 m5 s5 ek0 em0 es0 el0 b0 ef0 ek1 em1 es1 el1 b1 ef1 []) (fun v L => (∃ b : Bool, v = some (.int (z_bi b))) ∧ ∃ (f3' g3' c3' : Nat → Int32) (m3' : Int32) (f4' g4' c4' : Nat → Int32) (m4' : Int32) (f5' g5' c5' : Nat → Int32) (m5' : Int32), z_m20 m3' ∧ z_m20 m4' ∧ z_m20 m5' ∧ L = (z_cw rf kn ma xa fa ca mb xb fb cb mt xt ft ct f0 g0 c0 m0 s0 f1 g1 c1 m1 s1 f2 g2 c2 m2 s2 f3' g3' c3' m3' s3 f4' g4' c4' m4' s4 f5' g5' c5' m5' s5 ek0 em0 es0 el0 b0 ef0 ek1 em1 es1 el1 b1 ef1 []))) 2 [(0, .ref 0), (1, .ref 16), (2, .int (nI j))] [] ((z_cw rf kn ma xa fa ca mb xb fb cb mt xt ft ct f0 g0 c0 m0 s0 f1 g1 c1 m1 s1 f2 g2 c2 m2 s2 f3' g3' c3' m3' s3 f4' g4' c4' m4' s4 f5' g5' c5' m5' s5 ek0 em0 es0 el0 b0 ef0 ek1 em1 es1 el1 b1 ef1 []), z_no) 0 0 := by
    intro n
    induction n with
    | zero => intro j f3' g3' c3' m3' f4' g4' c4' m4' f5' g5' c5' m5' h1 h2 q3 q4 q5; exact absurd h2 (by omega)
    | succ n ih =>
      intro j f3' g3' c3' m3' f4' g4' c4' m4' f5' g5' c5' m5' h1 h2 q3 q4 q5
      refine j_iload_n dX8_areCallsLike_2 rfl ?_
      refine j_iconst (v := 3) dX8_areCallsLike_3 (by decide) ?_
      refine j_icmp_gt (tgt := 61) dX8_areCallsLike_4 (by decide) (fun c_4 => ?_) (fun c_4 => ?_)
      · refine j_iconst (v := 1) dX8_areCallsLike_61 (by decide) ?_
        refine j_iret dX8_areCallsLike_62 rfl rfl ?_ (Nat.le_of_ble_eq_true rfl) (Nat.le_of_ble_eq_true rfl)
        first | exact ⟨rfl, rfl, ⟨true, rfl⟩, _, _, _, _, _, _, _, _, _, _, _, _, (by assumption), (by assumption), (by assumption), rfl⟩ | exact ⟨rfl, rfl, ⟨false, rfl⟩, _, _, _, _, _, _, _, _, _, _, _, _, (by assumption), (by assumption), (by assumption), rfl⟩
      · have hj : j ≤ 3 := z_leZ 3 rfl c_4 (by omega) (by decide)
        refine j_iconst (v := 0) dX8_areCallsLike_7 (by decide) ?_
        refine j_istore_n (lo' := [(3, _), (0, _), (1, _), (2, _)]) dX8_areCallsLike_8 (by decide) rfl ?_
        have loopj : ∀ (nj jj : Nat) (f3' g3' c3' : Nat → Int32) (m3' : Int32) (f4' g4' c4' : Nat → Int32) (m4' : Int32) (f5' g5' c5' : Nat → Int32) (m5' : Int32), jj ≤ 4 → 4 < jj + nj → z_m20 m3' → z_m20 m4' → z_m20 m5' → z_J G l mX8_areCallsLike (z_SF 18 0 0 (z_cw rf kn ma xa fa ca mb xb fb cb mt xt ft ct f0 g0 c0 m0 s0 f1 g1 c1 m1 s1 f2 g2 c2 m2 s2 f3 g3 c3 m3 s3 f4 g4 c4 m4 s4 f5 g5 c5 m5 s5 ek0 em0 es0 el0 b0 ef0 ek1 em1 es1 el1 b1 ef1 []) (fun v L => (∃ b : Bool, v = some (.int (z_bi b))) ∧ ∃ (f3' g3' c3' : Nat → Int32) (m3' : Int32) (f4' g4' c4' : Nat → Int32) (m4' : Int32) (f5' g5' c5' : Nat → Int32) (m5' : Int32), z_m20 m3' ∧ z_m20 m4' ∧ z_m20 m5' ∧ L = (z_cw rf kn ma xa fa ca mb xb fb cb mt xt ft ct f0 g0 c0 m0 s0 f1 g1 c1 m1 s1 f2 g2 c2 m2 s2 f3' g3' c3' m3' s3 f4' g4' c4' m4' s4 f5' g5' c5' m5' s5 ek0 em0 es0 el0 b0 ef0 ek1 em1 es1 el1 b1 ef1 []))) 9 [(0, .ref 0), (1, .ref 16), (2, .int (nI j)), (3, .int (nI jj))] [] ((z_cw rf kn ma xa fa ca mb xb fb cb mt xt ft ct f0 g0 c0 m0 s0 f1 g1 c1 m1 s1 f2 g2 c2 m2 s2 f3' g3' c3' m3' s3 f4' g4' c4' m4' s4 f5' g5' c5' m5' s5 ek0 em0 es0 el0 b0 ef0 ek1 em1 es1 el1 b1 ef1 []), z_no) 0 0 := by
          intro nj
          induction nj with
          | zero => intro jj f3' g3' c3' m3' f4' g4' c4' m4' f5' g5' c5' m5' h1j h2j q3 q4 q5; exact absurd h2j (by omega)
          | succ nj ihj =>
            intro jj f3' g3' c3' m3' f4' g4' c4' m4' f5' g5' c5' m5' h1j h2j q3 q4 q5
            refine j_iload_n dX8_areCallsLike_9 rfl ?_
            refine j_iconst (v := 3) dX8_areCallsLike_10 (by decide) ?_
            refine j_icmp_gt (tgt := 55) dX8_areCallsLike_11 (by decide) (fun c_11 => ?_) (fun c_11 => ?_)
            · refine j_iinc (lo' := [(2, _), (0, _), (1, _), (3, _)]) dX8_areCallsLike_55 rfl (z_inc _) (by decide) rfl ?_
              refine j_goto (tgt := 2) dX8_areCallsLike_58 (by decide) ?_
              exact j_lo2 (ih (j + 1) _ _ _ _ _ _ _ _ _ _ _ _ (by omega) (by omega) (by assumption) (by assumption) (by assumption)) (z_q1 rfl (z_q1 rfl (z_q1 rfl z_q0)))
            · have hjj : jj ≤ 3 := z_leZ 3 rfl c_11 (by omega) (by decide)
              refine j_aload_n dX8_areCallsLike_14 rfl rfl ?_
              refine j_aload_n dX8_areCallsLike_15 rfl rfl ?_
              refine j_iload_n dX8_areCallsLike_16 rfl ?_
              refine j_iload_n dX8_areCallsLike_17 rfl ?_
              refine j_iconst (v := 0) dX8_areCallsLike_18 (by decide) ?_
              refine j_callV (q := (RX8, TX8, 9)) dX8_areCallsLike_19 kX8_isCallLike lX8_346 inX8_isCallLike seX8_isCallLike rfl rfl (z_dirF (c_X8_isCallLike_16 hl _ _ _ _ _ _ _ _ _ _ _ _ _ _ _ _ _ _ _ _ _ _ _ _ _ _ _ _ _ _ _ _ _ _ _ _ _ _ _ _ _ _ _ _ _ _ _ _ _ _ _ _ _ _ _ _ _ _ _ (by assumption) (by assumption) (by assumption) (by assumption) (by assumption) (by assumption))) (Nat.le_of_ble_eq_true rfl) ⟨(Nat.le_of_ble_eq_true rfl), (Nat.le_of_ble_eq_true rfl)⟩ rfl (Nat.le_of_ble_eq_true rfl) rfl rfl (fun _ _ h => h.elim) ?_
              rintro _ _ ⟨_, ⟨⟨b, rfl⟩, _, _, _, _, _, _, _, _, _, _, _, _, q3, q4, q5, rfl⟩, rfl⟩
              refine j_if_eq (tgt := 47) dX8_areCallsLike_22 (by decide) (fun c_22 => ?_) (fun c_22 => ?_)
              · refine j_iconst (v := 0) dX8_areCallsLike_47 (by decide) ?_
                refine j_iret dX8_areCallsLike_48 rfl rfl ?_ (Nat.le_of_ble_eq_true rfl) (Nat.le_of_ble_eq_true rfl)
                first | exact ⟨rfl, rfl, ⟨true, rfl⟩, _, _, _, _, _, _, _, _, _, _, _, _, (by assumption), (by assumption), (by assumption), rfl⟩ | exact ⟨rfl, rfl, ⟨false, rfl⟩, _, _, _, _, _, _, _, _, _, _, _, _, (by assumption), (by assumption), (by assumption), rfl⟩
              · refine j_aload_n dX8_areCallsLike_25 rfl rfl ?_
                refine j_aload_n dX8_areCallsLike_26 rfl rfl ?_
                refine j_iload_n dX8_areCallsLike_27 rfl ?_
                refine j_iload_n dX8_areCallsLike_28 rfl ?_
                refine j_iconst (v := 2) dX8_areCallsLike_29 (by decide) ?_
                refine j_callV (q := (RX8, TX8, 9)) dX8_areCallsLike_30 kX8_isCallLike lX8_346 inX8_isCallLike seX8_isCallLike rfl rfl (z_dirF (c_X8_isCallLike_16 hl _ _ _ _ _ _ _ _ _ _ _ _ _ _ _ _ _ _ _ _ _ _ _ _ _ _ _ _ _ _ _ _ _ _ _ _ _ _ _ _ _ _ _ _ _ _ _ _ _ _ _ _ _ _ _ _ _ _ _ (by assumption) (by assumption) (by assumption) (by assumption) (by assumption) (by assumption))) (Nat.le_of_ble_eq_true rfl) ⟨(Nat.le_of_ble_eq_true rfl), (Nat.le_of_ble_eq_true rfl)⟩ rfl (Nat.le_of_ble_eq_true rfl) rfl rfl (fun _ _ h => h.elim) ?_
                rintro _ _ ⟨_, ⟨⟨b, rfl⟩, _, _, _, _, _, _, _, _, _, _, _, _, q3, q4, q5, rfl⟩, rfl⟩
                refine j_if_eq (tgt := 47) dX8_areCallsLike_33 (by decide) (fun c_33 => ?_) (fun c_33 => ?_)
                · refine j_iconst (v := 0) dX8_areCallsLike_47 (by decide) ?_
                  refine j_iret dX8_areCallsLike_48 rfl rfl ?_ (Nat.le_of_ble_eq_true rfl) (Nat.le_of_ble_eq_true rfl)
                  first | exact ⟨rfl, rfl, ⟨true, rfl⟩, _, _, _, _, _, _, _, _, _, _, _, _, (by assumption), (by assumption), (by assumption), rfl⟩ | exact ⟨rfl, rfl, ⟨false, rfl⟩, _, _, _, _, _, _, _, _, _, _, _, _, (by assumption), (by assumption), (by assumption), rfl⟩
                · refine j_aload_n dX8_areCallsLike_36 rfl rfl ?_
                  refine j_aload_n dX8_areCallsLike_37 rfl rfl ?_
                  refine j_iload_n dX8_areCallsLike_38 rfl ?_
                  refine j_iload_n dX8_areCallsLike_39 rfl ?_
                  refine j_iconst (v := 3) dX8_areCallsLike_40 (by decide) ?_
                  refine j_callV (q := (RX8, TX8, 9)) dX8_areCallsLike_41 kX8_isCallLike lX8_346 inX8_isCallLike seX8_isCallLike rfl rfl (z_dirF (c_X8_isCallLike_16 hl _ _ _ _ _ _ _ _ _ _ _ _ _ _ _ _ _ _ _ _ _ _ _ _ _ _ _ _ _ _ _ _ _ _ _ _ _ _ _ _ _ _ _ _ _ _ _ _ _ _ _ _ _ _ _ _ _ _ _ (by assumption) (by assumption) (by assumption) (by assumption) (by assumption) (by assumption))) (Nat.le_of_ble_eq_true rfl) ⟨(Nat.le_of_ble_eq_true rfl), (Nat.le_of_ble_eq_true rfl)⟩ rfl (Nat.le_of_ble_eq_true rfl) rfl rfl (fun _ _ h => h.elim) ?_
                  rintro _ _ ⟨_, ⟨⟨b, rfl⟩, _, _, _, _, _, _, _, _, _, _, _, _, q3, q4, q5, rfl⟩, rfl⟩
                  refine j_if_ne (tgt := 49) dX8_areCallsLike_44 (by decide) (fun c_44 => ?_) (fun c_44 => ?_)
                  · refine j_iinc (lo' := [(3, _), (0, _), (1, _), (2, _)]) dX8_areCallsLike_49 rfl (z_inc _) (by decide) rfl ?_
                    refine j_goto (tgt := 9) dX8_areCallsLike_52 (by decide) ?_
                    exact j_lo2 (ihj (jj + 1) _ _ _ _ _ _ _ _ _ _ _ _ (by omega) (by omega) (by assumption) (by assumption) (by assumption)) (z_q1 rfl (z_q1 rfl (z_q1 rfl (z_q1 rfl z_q0))))
                  · refine j_iconst (v := 0) dX8_areCallsLike_47 (by decide) ?_
                    refine j_iret dX8_areCallsLike_48 rfl rfl ?_ (Nat.le_of_ble_eq_true rfl) (Nat.le_of_ble_eq_true rfl)
                    first | exact ⟨rfl, rfl, ⟨true, rfl⟩, _, _, _, _, _, _, _, _, _, _, _, _, (by assumption), (by assumption), (by assumption), rfl⟩ | exact ⟨rfl, rfl, ⟨false, rfl⟩, _, _, _, _, _, _, _, _, _, _, _, _, (by assumption), (by assumption), (by assumption), rfl⟩
        exact j_lo2 (loopj (4 + 1) 0 _ _ _ _ _ _ _ _ _ _ _ _ (by omega) (by omega) (by assumption) (by assumption) (by assumption)) (z_q1 rfl (z_q1 rfl (z_q1 rfl (z_q1 rfl z_q0))))
  exact j_lo2 (loop (4 + 1) 0 _ _ _ _ _ _ _ _ _ _ _ _ (by omega) (by omega) (by assumption) (by assumption) (by assumption)) (z_q1 rfl (z_q1 rfl (z_q1 rfl z_q0)))
set_option maxRecDepth 100000 in
set_option maxHeartbeats 8000000 in
theorem c_X8_areCopiesLike_21 (hl : l.stackTraces = false) (rf : Int32) (kn : Int32) (ma : Int32) (xa : Bool) (fa : Nat → Int32) (ca : Nat → Int32) (mb : Int32) (xb : Bool) (fb : Nat → Int32) (cb : Nat → Int32) (mt : Int32) (xt : Bool) (ft : Nat → Int32) (ct : Nat → Int32) (f0 : Nat → Int32) (g0 : Nat → Int32) (c0 : Nat → Int32) (m0 : Int32) (s0 : Int32) (f1 : Nat → Int32) (g1 : Nat → Int32) (c1 : Nat → Int32) (m1 : Int32) (s1 : Int32) (f2 : Nat → Int32) (g2 : Nat → Int32) (c2 : Nat → Int32) (m2 : Int32) (s2 : Int32) (f3 : Nat → Int32) (g3 : Nat → Int32) (c3 : Nat → Int32) (m3 : Int32) (s3 : Int32) (f4 : Nat → Int32) (g4 : Nat → Int32) (c4 : Nat → Int32) (m4 : Int32) (s4 : Int32) (f5 : Nat → Int32) (g5 : Nat → Int32) (c5 : Nat → Int32) (m5 : Int32) (s5 : Int32) (ek0 : Int32) (em0 : Int32) (es0 : Int32) (el0 : Int32) (b0 : Int32) (ef0 : Nat → Int32) (ek1 : Int32) (em1 : Int32) (es1 : Int32) (el1 : Int32) (b1 : Int32) (ef1 : Nat → Int32) (h0 : z_m20 m0) (h1 : z_m20 m1) (h2 : z_m20 m2) (h3 : z_m20 m3) (h4 : z_m20 m4) (h5 : z_m20 m5): z_CF G l mX8_areCopiesLike 15 0 0 (z_cw rf kn ma xa fa ca mb xb fb cb mt xt ft ct f0 g0 c0 m0 s0 f1 g1 c1 m1 s1 f2 g2 c2 m2 s2 f3 g3 c3 m3 s3 f4 g4 c4 m4 s4 f5 g5 c5 m5 s5 ek0 em0 es0 el0 b0 ef0 ek1 em1 es1 el1 b1 ef1 []) [.ref 0, .ref 21] (fun v L => (∃ b : Bool, v = some (.int (z_bi b))) ∧ ∃ (f3' g3' c3' : Nat → Int32) (m3' : Int32) (f4' g4' c4' : Nat → Int32) (m4' : Int32) (f5' g5' c5' : Nat → Int32) (m5' : Int32), z_m20 m3' ∧ z_m20 m4' ∧ z_m20 m5' ∧ L = (z_cw rf kn ma xa fa ca mb xb fb cb mt xt ft ct f0 g0 c0 m0 s0 f1 g1 c1 m1 s1 f2 g2 c2 m2 s2 f3' g3' c3' m3' s3 f4' g4' c4' m4' s4 f5' g5' c5' m5' s5 ek0 em0 es0 el0 b0 ef0 ek1 em1 es1 el1 b1 ef1 [])) := by
  refine z_body hl (by decide) rfl (Nat.le_of_ble_eq_true rfl) ?_
  show z_J G l mX8_areCopiesLike (z_SF 15 0 0 (z_cw rf kn ma xa fa ca mb xb fb cb mt xt ft ct f0 g0 c0 m0 s0 f1 g1 c1 m1 s1 f2 g2 c2 m2 s2 f3 g3 c3 m3 s3 f4 g4 c4 m4 s4 f5 g5 c5 m5 s5 ek0 em0 es0 el0 b0 ef0 ek1 em1 es1 el1 b1 ef1 []) (fun v L => (∃ b : Bool, v = some (.int (z_bi b))) ∧ ∃ (f3' g3' c3' : Nat → Int32) (m3' : Int32) (f4' g4' c4' : Nat → Int32) (m4' : Int32) (f5' g5' c5' : Nat → Int32) (m5' : Int32), z_m20 m3' ∧ z_m20 m4' ∧ z_m20 m5' ∧ L = (z_cw rf kn ma xa fa ca mb xb fb cb mt xt ft ct f0 g0 c0 m0 s0 f1 g1 c1 m1 s1 f2 g2 c2 m2 s2 f3' g3' c3' m3' s3 f4' g4' c4' m4' s4 f5' g5' c5' m5' s5 ek0 em0 es0 el0 b0 ef0 ek1 em1 es1 el1 b1 ef1 []))) 0 [(0, _), (1, _)] [] _ 0 0
  refine j_aload_n dX8_areCopiesLike_0 rfl rfl ?_
  refine j_getf dX8_areCopiesLike_1 fX8_43 rfl rfl ?_
  refine j_astore_n (lo' := [(2, _), (0, _), (1, _)]) dX8_areCopiesLike_4 rfl (by decide) rfl ?_
  refine j_aload_n dX8_areCopiesLike_5 rfl rfl ?_
  refine j_alen dX8_areCopiesLike_6 rfl rfl rfl ?_
  refine j_istore_n (lo' := [(3, _), (2, _), (0, _), (1, _)]) dX8_areCopiesLike_7 (by decide) rfl ?_
  refine j_iconst (v := 0) dX8_areCopiesLike_8 (by decide) ?_
  refine j_istore (lo' := [(4, _), (3, _), (2, _), (0, _), (1, _)]) dX8_areCopiesLike_9 (by decide) rfl ?_
  refine j_iload dX8_areCopiesLike_11 rfl ?_
  refine j_iload_n dX8_areCopiesLike_13 rfl ?_
  refine j_icmp_ge (tgt := 46) dX8_areCopiesLike_14 (by decide) (fun c_14 => ?_) (fun c_14 => ?_)
  · exact absurd c_14 (by decide)
  · refine j_aload_n dX8_areCopiesLike_17 rfl rfl ?_
    refine j_iload dX8_areCopiesLike_18 rfl ?_
    refine j_aald (v := .ref 35) dX8_areCopiesLike_20 rfl rfl rfl (vp_in_iff.mpr (by decide)) rfl ?_
    refine j_astore (lo' := [(5, _), (4, _), (3, _), (2, _), (0, _), (1, _)]) dX8_areCopiesLike_21 rfl (by decide) rfl ?_
    refine j_aload dX8_areCopiesLike_23 rfl rfl ?_
    refine j_aload_n dX8_areCopiesLike_25 rfl rfl ?_
    refine j_callV (q := (RX4, TX4, 5)) dX8_areCopiesLike_26 kX4_become lX8_344 inX4_become seX4_become rfl rfl (z_frame [35, 36, 37, 38, 39, 21, 22, 23, 24, 25] rfl (by decide) (Nat.le_of_ble_eq_true rfl) (c_X4_become hl _ _ _ _ _ _ _ _ _ _)) (Nat.le_of_ble_eq_true rfl) ⟨(Nat.le_of_ble_eq_true rfl), (Nat.le_of_ble_eq_true rfl)⟩ rfl (Nat.le_of_ble_eq_true rfl) rfl rfl (fun _ _ h => h.elim) ?_
    rintro _ _ ⟨_, _, ⟨rfl, _, _, rfl⟩, rfl, rfl⟩
    refine j_w (z_cw _ _ _ _ _ _ _ _ _ _ _ _ _ _ _ _ _ _ _ _ _ _ _ _ _ _ _ _ _ _ _ _ _ _ _ _ _ _ _ _ _ _ _ _ _ _ _ _ _ _ _ _ _ _ _ _ [], z_no) rfl ?_
    refine j_aload dX8_areCopiesLike_29 rfl rfl ?_
    refine j_aload_n dX8_areCopiesLike_31 rfl rfl ?_
    refine j_callV (q := (RX4, TX4, 5)) dX8_areCopiesLike_32 kX4_hasPairsOf lX8_230 inX4_hasPairsOf seX4_hasPairsOf rfl rfl (z_frame [35, 36, 37, 38, 39, 21, 22, 23, 24, 25] rfl (by decide) (Nat.le_of_ble_eq_true rfl) (c_X4_hasPairsOf hl _ _ _ _ _ _ _ _ _ _)) (Nat.le_of_ble_eq_true rfl) ⟨(Nat.le_of_ble_eq_true rfl), (Nat.le_of_ble_eq_true rfl)⟩ rfl (Nat.le_of_ble_eq_true rfl) rfl rfl (fun _ _ h => h.elim) ?_
    rintro _ _ ⟨_, _, ⟨b, rfl, rfl⟩, rfl, rfl⟩
    refine j_w (z_cw _ _ _ _ _ _ _ _ _ _ _ _ _ _ _ _ _ _ _ _ _ _ _ _ _ _ _ _ _ _ _ _ _ _ _ _ _ _ _ _ _ _ _ _ _ _ _ _ _ _ _ _ _ _ _ _ [], z_no) rfl ?_
    refine j_if_ne (tgt := 40) dX8_areCopiesLike_35 (by decide) (fun c_35 => ?_) (fun c_35 => ?_)
    · refine j_iinc (lo' := [(4, _), (5, _), (3, _), (2, _), (0, _), (1, _)]) dX8_areCopiesLike_40 rfl rfl (by decide) rfl ?_
      refine j_goto (tgt := 11) dX8_areCopiesLike_43 (by decide) ?_
      refine j_iload dX8_areCopiesLike_11 rfl ?_
      refine j_iload_n dX8_areCopiesLike_13 rfl ?_
      refine j_icmp_ge (tgt := 46) dX8_areCopiesLike_14 (by decide) (fun c_14 => ?_) (fun c_14 => ?_)
      · exact absurd c_14 (by decide)
      · refine j_aload_n dX8_areCopiesLike_17 rfl rfl ?_
        refine j_iload dX8_areCopiesLike_18 rfl ?_
        refine j_aald (v := .ref 41) dX8_areCopiesLike_20 rfl rfl rfl (vp_in_iff.mpr (by decide)) rfl ?_
        refine j_astore (lo' := [(5, _), (4, _), (3, _), (2, _), (0, _), (1, _)]) dX8_areCopiesLike_21 rfl (by decide) rfl ?_
        refine j_aload dX8_areCopiesLike_23 rfl rfl ?_
        refine j_aload_n dX8_areCopiesLike_25 rfl rfl ?_
        refine j_callV (q := (RX4, TX4, 5)) dX8_areCopiesLike_26 kX4_become lX8_344 inX4_become seX4_become rfl rfl (z_frame [41, 42, 43, 44, 45, 21, 22, 23, 24, 25] rfl (by decide) (Nat.le_of_ble_eq_true rfl) (c_X4_become hl _ _ _ _ _ _ _ _ _ _)) (Nat.le_of_ble_eq_true rfl) ⟨(Nat.le_of_ble_eq_true rfl), (Nat.le_of_ble_eq_true rfl)⟩ rfl (Nat.le_of_ble_eq_true rfl) rfl rfl (fun _ _ h => h.elim) ?_
        rintro _ _ ⟨_, _, ⟨rfl, _, _, rfl⟩, rfl, rfl⟩
        refine j_w (z_cw _ _ _ _ _ _ _ _ _ _ _ _ _ _ _ _ _ _ _ _ _ _ _ _ _ _ _ _ _ _ _ _ _ _ _ _ _ _ _ _ _ _ _ _ _ _ _ _ _ _ _ _ _ _ _ _ [], z_no) rfl ?_
        refine j_aload dX8_areCopiesLike_29 rfl rfl ?_
        refine j_aload_n dX8_areCopiesLike_31 rfl rfl ?_
        refine j_callV (q := (RX4, TX4, 5)) dX8_areCopiesLike_32 kX4_hasPairsOf lX8_230 inX4_hasPairsOf seX4_hasPairsOf rfl rfl (z_frame [41, 42, 43, 44, 45, 21, 22, 23, 24, 25] rfl (by decide) (Nat.le_of_ble_eq_true rfl) (c_X4_hasPairsOf hl _ _ _ _ _ _ _ _ _ _)) (Nat.le_of_ble_eq_true rfl) ⟨(Nat.le_of_ble_eq_true rfl), (Nat.le_of_ble_eq_true rfl)⟩ rfl (Nat.le_of_ble_eq_true rfl) rfl rfl (fun _ _ h => h.elim) ?_
        rintro _ _ ⟨_, _, ⟨b, rfl, rfl⟩, rfl, rfl⟩
        refine j_w (z_cw _ _ _ _ _ _ _ _ _ _ _ _ _ _ _ _ _ _ _ _ _ _ _ _ _ _ _ _ _ _ _ _ _ _ _ _ _ _ _ _ _ _ _ _ _ _ _ _ _ _ _ _ _ _ _ _ [], z_no) rfl ?_
        refine j_if_ne (tgt := 40) dX8_areCopiesLike_35 (by decide) (fun c_35 => ?_) (fun c_35 => ?_)
        · refine j_iinc (lo' := [(4, _), (5, _), (3, _), (2, _), (0, _), (1, _)]) dX8_areCopiesLike_40 rfl rfl (by decide) rfl ?_
          refine j_goto (tgt := 11) dX8_areCopiesLike_43 (by decide) ?_
          refine j_iload dX8_areCopiesLike_11 rfl ?_
          refine j_iload_n dX8_areCopiesLike_13 rfl ?_
          refine j_icmp_ge (tgt := 46) dX8_areCopiesLike_14 (by decide) (fun c_14 => ?_) (fun c_14 => ?_)
          · exact absurd c_14 (by decide)
          · refine j_aload_n dX8_areCopiesLike_17 rfl rfl ?_
            refine j_iload dX8_areCopiesLike_18 rfl ?_
            refine j_aald (v := .ref 46) dX8_areCopiesLike_20 rfl rfl rfl (vp_in_iff.mpr (by decide)) rfl ?_
            refine j_astore (lo' := [(5, _), (4, _), (3, _), (2, _), (0, _), (1, _)]) dX8_areCopiesLike_21 rfl (by decide) rfl ?_
            refine j_aload dX8_areCopiesLike_23 rfl rfl ?_
            refine j_aload_n dX8_areCopiesLike_25 rfl rfl ?_
            refine j_callV (q := (RX4, TX4, 5)) dX8_areCopiesLike_26 kX4_become lX8_344 inX4_become seX4_become rfl rfl (z_frame [46, 47, 48, 49, 50, 21, 22, 23, 24, 25] rfl (by decide) (Nat.le_of_ble_eq_true rfl) (c_X4_become hl _ _ _ _ _ _ _ _ _ _)) (Nat.le_of_ble_eq_true rfl) ⟨(Nat.le_of_ble_eq_true rfl), (Nat.le_of_ble_eq_true rfl)⟩ rfl (Nat.le_of_ble_eq_true rfl) rfl rfl (fun _ _ h => h.elim) ?_
            rintro _ _ ⟨_, _, ⟨rfl, _, _, rfl⟩, rfl, rfl⟩
            refine j_w (z_cw _ _ _ _ _ _ _ _ _ _ _ _ _ _ _ _ _ _ _ _ _ _ _ _ _ _ _ _ _ _ _ _ _ _ _ _ _ _ _ _ _ _ _ _ _ _ _ _ _ _ _ _ _ _ _ _ [], z_no) rfl ?_
            refine j_aload dX8_areCopiesLike_29 rfl rfl ?_
            refine j_aload_n dX8_areCopiesLike_31 rfl rfl ?_
            refine j_callV (q := (RX4, TX4, 5)) dX8_areCopiesLike_32 kX4_hasPairsOf lX8_230 inX4_hasPairsOf seX4_hasPairsOf rfl rfl (z_frame [46, 47, 48, 49, 50, 21, 22, 23, 24, 25] rfl (by decide) (Nat.le_of_ble_eq_true rfl) (c_X4_hasPairsOf hl _ _ _ _ _ _ _ _ _ _)) (Nat.le_of_ble_eq_true rfl) ⟨(Nat.le_of_ble_eq_true rfl), (Nat.le_of_ble_eq_true rfl)⟩ rfl (Nat.le_of_ble_eq_true rfl) rfl rfl (fun _ _ h => h.elim) ?_
            rintro _ _ ⟨_, _, ⟨b, rfl, rfl⟩, rfl, rfl⟩
            refine j_w (z_cw _ _ _ _ _ _ _ _ _ _ _ _ _ _ _ _ _ _ _ _ _ _ _ _ _ _ _ _ _ _ _ _ _ _ _ _ _ _ _ _ _ _ _ _ _ _ _ _ _ _ _ _ _ _ _ _ [], z_no) rfl ?_
            refine j_if_ne (tgt := 40) dX8_areCopiesLike_35 (by decide) (fun c_35 => ?_) (fun c_35 => ?_)
            · refine j_iinc (lo' := [(4, _), (5, _), (3, _), (2, _), (0, _), (1, _)]) dX8_areCopiesLike_40 rfl rfl (by decide) rfl ?_
              refine j_goto (tgt := 11) dX8_areCopiesLike_43 (by decide) ?_
              refine j_iload dX8_areCopiesLike_11 rfl ?_
              refine j_iload_n dX8_areCopiesLike_13 rfl ?_
              refine j_icmp_ge (tgt := 46) dX8_areCopiesLike_14 (by decide) (fun c_14 => ?_) (fun c_14 => ?_)
              · refine j_iconst (v := 1) dX8_areCopiesLike_46 (by decide) ?_
                refine j_iret dX8_areCopiesLike_47 rfl rfl ?_ (Nat.le_of_ble_eq_true rfl) (Nat.le_of_ble_eq_true rfl)
                first | exact ⟨rfl, rfl, ⟨true, rfl⟩, _, _, _, _, _, _, _, _, _, _, _, _, (by assumption), (by assumption), (by assumption), rfl⟩ | exact ⟨rfl, rfl, ⟨false, rfl⟩, _, _, _, _, _, _, _, _, _, _, _, _, (by assumption), (by assumption), (by assumption), rfl⟩
              · exact absurd (by decide) c_14
            · refine j_iconst (v := 0) dX8_areCopiesLike_38 (by decide) ?_
              refine j_iret dX8_areCopiesLike_39 rfl rfl ?_ (Nat.le_of_ble_eq_true rfl) (Nat.le_of_ble_eq_true rfl)
              first | exact ⟨rfl, rfl, ⟨true, rfl⟩, _, _, _, _, _, _, _, _, _, _, _, _, (by assumption), (by assumption), (by assumption), rfl⟩ | exact ⟨rfl, rfl, ⟨false, rfl⟩, _, _, _, _, _, _, _, _, _, _, _, _, (by assumption), (by assumption), (by assumption), rfl⟩
        · refine j_iconst (v := 0) dX8_areCopiesLike_38 (by decide) ?_
          refine j_iret dX8_areCopiesLike_39 rfl rfl ?_ (Nat.le_of_ble_eq_true rfl) (Nat.le_of_ble_eq_true rfl)
          first | exact ⟨rfl, rfl, ⟨true, rfl⟩, _, _, _, _, _, _, _, _, _, _, _, _, (by assumption), (by assumption), (by assumption), rfl⟩ | exact ⟨rfl, rfl, ⟨false, rfl⟩, _, _, _, _, _, _, _, _, _, _, _, _, (by assumption), (by assumption), (by assumption), rfl⟩
    · refine j_iconst (v := 0) dX8_areCopiesLike_38 (by decide) ?_
      refine j_iret dX8_areCopiesLike_39 rfl rfl ?_ (Nat.le_of_ble_eq_true rfl) (Nat.le_of_ble_eq_true rfl)
      first | exact ⟨rfl, rfl, ⟨true, rfl⟩, _, _, _, _, _, _, _, _, _, _, _, _, (by assumption), (by assumption), (by assumption), rfl⟩ | exact ⟨rfl, rfl, ⟨false, rfl⟩, _, _, _, _, _, _, _, _, _, _, _, _, (by assumption), (by assumption), (by assumption), rfl⟩
set_option maxRecDepth 100000 in
set_option maxHeartbeats 8000000 in
theorem c_X8_isCallLike_21 (hl : l.stackTraces = false) (rf : Int32) (kn : Int32) (ma : Int32) (xa : Bool) (fa : Nat → Int32) (ca : Nat → Int32) (mb : Int32) (xb : Bool) (fb : Nat → Int32) (cb : Nat → Int32) (mt : Int32) (xt : Bool) (ft : Nat → Int32) (ct : Nat → Int32) (f0 : Nat → Int32) (g0 : Nat → Int32) (c0 : Nat → Int32) (m0 : Int32) (s0 : Int32) (f1 : Nat → Int32) (g1 : Nat → Int32) (c1 : Nat → Int32) (m1 : Int32) (s1 : Int32) (f2 : Nat → Int32) (g2 : Nat → Int32) (c2 : Nat → Int32) (m2 : Int32) (s2 : Int32) (f3 : Nat → Int32) (g3 : Nat → Int32) (c3 : Nat → Int32) (m3 : Int32) (s3 : Int32) (f4 : Nat → Int32) (g4 : Nat → Int32) (c4 : Nat → Int32) (m4 : Int32) (s4 : Int32) (f5 : Nat → Int32) (g5 : Nat → Int32) (c5 : Nat → Int32) (m5 : Int32) (s5 : Int32) (ek0 : Int32) (em0 : Int32) (es0 : Int32) (el0 : Int32) (b0 : Int32) (ef0 : Nat → Int32) (ek1 : Int32) (em1 : Int32) (es1 : Int32) (el1 : Int32) (b1 : Int32) (ef1 : Nat → Int32) (p q t : Int32) (h0 : z_m20 m0) (h1 : z_m20 m1) (h2 : z_m20 m2) (h3 : z_m20 m3) (h4 : z_m20 m4) (h5 : z_m20 m5): z_CF G l mX8_isCallLike 17 0 0 (z_cw rf kn ma xa fa ca mb xb fb cb mt xt ft ct f0 g0 c0 m0 s0 f1 g1 c1 m1 s1 f2 g2 c2 m2 s2 f3 g3 c3 m3 s3 f4 g4 c4 m4 s4 f5 g5 c5 m5 s5 ek0 em0 es0 el0 b0 ef0 ek1 em1 es1 el1 b1 ef1 []) [.ref 0, .ref 21, .int p, .int q, .int t] (fun v L => (∃ b : Bool, v = some (.int (z_bi b))) ∧ ∃ (f3' g3' c3' : Nat → Int32) (m3' : Int32) (f4' g4' c4' : Nat → Int32) (m4' : Int32) (f5' g5' c5' : Nat → Int32) (m5' : Int32), z_m20 m3' ∧ z_m20 m4' ∧ z_m20 m5' ∧ L = (z_cw rf kn ma xa fa ca mb xb fb cb mt xt ft ct f0 g0 c0 m0 s0 f1 g1 c1 m1 s1 f2 g2 c2 m2 s2 f3' g3' c3' m3' s3 f4' g4' c4' m4' s4 f5' g5' c5' m5' s5 ek0 em0 es0 el0 b0 ef0 ek1 em1 es1 el1 b1 ef1 [])) := by
  refine z_body hl (by decide) rfl (Nat.le_of_ble_eq_true rfl) ?_
  show z_J G l mX8_isCallLike (z_SF 17 0 0 (z_cw rf kn ma xa fa ca mb xb fb cb mt xt ft ct f0 g0 c0 m0 s0 f1 g1 c1 m1 s1 f2 g2 c2 m2 s2 f3 g3 c3 m3 s3 f4 g4 c4 m4 s4 f5 g5 c5 m5 s5 ek0 em0 es0 el0 b0 ef0 ek1 em1 es1 el1 b1 ef1 []) (fun v L => (∃ b : Bool, v = some (.int (z_bi b))) ∧ ∃ (f3' g3' c3' : Nat → Int32) (m3' : Int32) (f4' g4' c4' : Nat → Int32) (m4' : Int32) (f5' g5' c5' : Nat → Int32) (m5' : Int32), z_m20 m3' ∧ z_m20 m4' ∧ z_m20 m5' ∧ L = (z_cw rf kn ma xa fa ca mb xb fb cb mt xt ft ct f0 g0 c0 m0 s0 f1 g1 c1 m1 s1 f2 g2 c2 m2 s2 f3' g3' c3' m3' s3 f4' g4' c4' m4' s4 f5' g5' c5' m5' s5 ek0 em0 es0 el0 b0 ef0 ek1 em1 es1 el1 b1 ef1 []))) 0 [(0, _), (1, _), (2, _), (3, _), (4, _)] [] _ 0 0
  refine j_iconst (v := 0) dX8_isCallLike_0 (by decide) ?_
  refine j_istore (lo' := [(5, _), (0, _), (1, _), (2, _), (3, _), (4, _)]) dX8_isCallLike_1 (by decide) rfl ?_
  refine j_aload_n dX8_isCallLike_3 rfl rfl ?_
  refine j_getf dX8_isCallLike_4 fX8_43 rfl rfl ?_
  refine j_astore (lo' := [(6, _), (5, _), (0, _), (1, _), (2, _), (3, _), (4, _)]) dX8_isCallLike_7 rfl (by decide) rfl ?_
  refine j_aload dX8_isCallLike_9 rfl rfl ?_
  refine j_alen dX8_isCallLike_11 rfl rfl rfl ?_
  refine j_istore (lo' := [(7, _), (6, _), (5, _), (0, _), (1, _), (2, _), (3, _), (4, _)]) dX8_isCallLike_12 (by decide) rfl ?_
  refine j_iconst (v := 0) dX8_isCallLike_14 (by decide) ?_
  refine j_istore (lo' := [(8, _), (7, _), (6, _), (5, _), (0, _), (1, _), (2, _), (3, _), (4, _)]) dX8_isCallLike_15 (by decide) rfl ?_
  refine j_iload dX8_isCallLike_17 rfl ?_
  refine j_iload dX8_isCallLike_19 rfl ?_
  refine j_icmp_ge (tgt := 160) dX8_isCallLike_21 (by decide) (fun c_21 => ?_) (fun c_21 => ?_)
  · exact absurd c_21 (by decide)
  · refine j_aload dX8_isCallLike_24 rfl rfl ?_
    refine j_iload dX8_isCallLike_26 rfl ?_
    refine j_aald (v := .ref 35) dX8_isCallLike_28 rfl rfl rfl (vp_in_iff.mpr (by decide)) rfl ?_
    refine j_astore (lo' := [(9, _), (8, _), (7, _), (6, _), (5, _), (0, _), (1, _), (2, _), (3, _), (4, _)]) dX8_isCallLike_29 rfl (by decide) rfl ?_
    refine j_aload dX8_isCallLike_31 rfl rfl ?_
    refine j_aload_n dX8_isCallLike_33 rfl rfl ?_
    refine j_callV (q := (RX4, TX4, 5)) dX8_isCallLike_34 kX4_become lX8_344 inX4_become seX4_become rfl rfl (z_frame [35, 36, 37, 38, 39, 21, 22, 23, 24, 25] rfl (by decide) (Nat.le_of_ble_eq_true rfl) (c_X4_become hl _ _ _ _ _ _ _ _ _ _)) (Nat.le_of_ble_eq_true rfl) ⟨(Nat.le_of_ble_eq_true rfl), (Nat.le_of_ble_eq_true rfl)⟩ rfl (Nat.le_of_ble_eq_true rfl) rfl rfl (fun _ _ h => h.elim) ?_
    rintro _ _ ⟨_, _, ⟨rfl, _, _, rfl⟩, rfl, rfl⟩
    refine j_w (z_cw _ _ _ _ _ _ _ _ _ _ _ _ _ _ _ _ _ _ _ _ _ _ _ _ _ _ _ _ _ _ _ _ _ _ _ _ _ _ _ _ _ _ _ _ _ _ _ _ _ _ _ _ _ _ _ _ [], z_no) rfl ?_
    refine j_iload_n dX8_isCallLike_37 rfl ?_
    rcases z_sw3 p with rfl | rfl | rfl | hp
    · refine j_tsIn (tgt := 64) dX8_isCallLike_38 (by decide) (by decide) rfl (by decide) ?_
      refine j_aload dX8_isCallLike_64 rfl rfl ?_
      refine j_iload_n dX8_isCallLike_66 rfl ?_
      refine j_iload dX8_isCallLike_67 rfl ?_
      refine j_iconst (v := 1) dX8_isCallLike_69 (by decide) ?_
      refine j_callV (q := (RX4, TX4, 5)) dX8_isCallLike_70 kX4_reckon lX8_151 inX4_reckon seX4_reckon rfl rfl (z_frame [35, 36, 37, 38, 39] rfl (by decide) (Nat.le_of_ble_eq_true rfl) (c_X4_reckon hl _ _ _ _ _ _ _ _ (by assumption))) (Nat.le_of_ble_eq_true rfl) ⟨(Nat.le_of_ble_eq_true rfl), (Nat.le_of_ble_eq_true rfl)⟩ rfl (Nat.le_of_ble_eq_true rfl) rfl rfl (fun _ _ h => h.elim) ?_
      rintro _ _ ⟨_, _, ⟨_, rfl, _, _, _, _, hm, rfl⟩, rfl, rfl⟩
      refine j_w (z_cw _ _ _ _ _ _ _ _ _ _ _ _ _ _ _ _ _ _ _ _ _ _ _ _ _ _ _ _ _ _ _ _ _ _ _ _ _ _ _ _ _ _ _ _ _ _ _ _ _ _ _ _ _ _ _ _ [], z_no) rfl ?_
      refine j_istore (lo' := [(10, _), (9, _), (8, _), (7, _), (6, _), (5, _), (0, _), (1, _), (2, _), (3, _), (4, _)]) dX8_isCallLike_73 (by decide) rfl ?_
      refine j_goto (tgt := 117) dX8_isCallLike_75 (by decide) ?_
      refine j_aload dX8_isCallLike_117 rfl rfl ?_
      refine j_aload_n dX8_isCallLike_119 rfl rfl ?_
      refine j_getf dX8_isCallLike_120 fX8_40 rfl rfl ?_
      refine j_acmp_ne (tgt := 133) dX8_isCallLike_123 (by decide) (fun c_123 => ?_) (fun c_123 => ?_)
      · exact absurd rfl c_123
      · refine j_iload dX8_isCallLike_126 rfl ?_
        refine j_istore (lo' := [(5, _), (10, _), (9, _), (8, _), (7, _), (6, _), (0, _), (1, _), (2, _), (3, _), (4, _)]) dX8_isCallLike_128 (by decide) rfl ?_
        refine j_goto (tgt := 154) dX8_isCallLike_130 (by decide) ?_
        refine j_iinc (lo' := [(8, _), (5, _), (10, _), (9, _), (7, _), (6, _), (0, _), (1, _), (2, _), (3, _), (4, _)]) dX8_isCallLike_154 rfl rfl (by decide) rfl ?_
        refine j_goto (tgt := 17) dX8_isCallLike_157 (by decide) ?_
        refine j_iload dX8_isCallLike_17 rfl ?_
        refine j_iload dX8_isCallLike_19 rfl ?_
        refine j_icmp_ge (tgt := 160) dX8_isCallLike_21 (by decide) (fun c_21 => ?_) (fun c_21 => ?_)
        · exact absurd c_21 (by decide)
        · refine j_aload dX8_isCallLike_24 rfl rfl ?_
          refine j_iload dX8_isCallLike_26 rfl ?_
          refine j_aald (v := .ref 41) dX8_isCallLike_28 rfl rfl rfl (vp_in_iff.mpr (by decide)) rfl ?_
          refine j_astore (lo' := [(9, _), (8, _), (5, _), (10, _), (7, _), (6, _), (0, _), (1, _), (2, _), (3, _), (4, _)]) dX8_isCallLike_29 rfl (by decide) rfl ?_
          refine j_aload dX8_isCallLike_31 rfl rfl ?_
          refine j_aload_n dX8_isCallLike_33 rfl rfl ?_
          refine j_callV (q := (RX4, TX4, 5)) dX8_isCallLike_34 kX4_become lX8_344 inX4_become seX4_become rfl rfl (z_frame [41, 42, 43, 44, 45, 21, 22, 23, 24, 25] rfl (by decide) (Nat.le_of_ble_eq_true rfl) (c_X4_become hl _ _ _ _ _ _ _ _ _ _)) (Nat.le_of_ble_eq_true rfl) ⟨(Nat.le_of_ble_eq_true rfl), (Nat.le_of_ble_eq_true rfl)⟩ rfl (Nat.le_of_ble_eq_true rfl) rfl rfl (fun _ _ h => h.elim) ?_
          rintro _ _ ⟨_, _, ⟨rfl, _, _, rfl⟩, rfl, rfl⟩
          refine j_w (z_cw _ _ _ _ _ _ _ _ _ _ _ _ _ _ _ _ _ _ _ _ _ _ _ _ _ _ _ _ _ _ _ _ _ _ _ _ _ _ _ _ _ _ _ _ _ _ _ _ _ _ _ _ _ _ _ _ [], z_no) rfl ?_
          refine j_iload_n dX8_isCallLike_37 rfl ?_
          refine j_tsIn (tgt := 64) dX8_isCallLike_38 (by decide) (by decide) rfl (by decide) ?_
          refine j_aload dX8_isCallLike_64 rfl rfl ?_
          refine j_iload_n dX8_isCallLike_66 rfl ?_
          refine j_iload dX8_isCallLike_67 rfl ?_
          refine j_iconst (v := 1) dX8_isCallLike_69 (by decide) ?_
          refine j_callV (q := (RX4, TX4, 5)) dX8_isCallLike_70 kX4_reckon lX8_151 inX4_reckon seX4_reckon rfl rfl (z_frame [41, 42, 43, 44, 45] rfl (by decide) (Nat.le_of_ble_eq_true rfl) (c_X4_reckon hl _ _ _ _ _ _ _ _ (by assumption))) (Nat.le_of_ble_eq_true rfl) ⟨(Nat.le_of_ble_eq_true rfl), (Nat.le_of_ble_eq_true rfl)⟩ rfl (Nat.le_of_ble_eq_true rfl) rfl rfl (fun _ _ h => h.elim) ?_
          rintro _ _ ⟨_, _, ⟨_, rfl, _, _, _, _, hm, rfl⟩, rfl, rfl⟩
          refine j_w (z_cw _ _ _ _ _ _ _ _ _ _ _ _ _ _ _ _ _ _ _ _ _ _ _ _ _ _ _ _ _ _ _ _ _ _ _ _ _ _ _ _ _ _ _ _ _ _ _ _ _ _ _ _ _ _ _ _ [], z_no) rfl ?_
          refine j_istore (lo' := [(10, _), (9, _), (8, _), (5, _), (7, _), (6, _), (0, _), (1, _), (2, _), (3, _), (4, _)]) dX8_isCallLike_73 (by decide) rfl ?_
          refine j_goto (tgt := 117) dX8_isCallLike_75 (by decide) ?_
          refine j_aload dX8_isCallLike_117 rfl rfl ?_
          refine j_aload_n dX8_isCallLike_119 rfl rfl ?_
          refine j_getf dX8_isCallLike_120 fX8_40 rfl rfl ?_
          refine j_acmp_ne (tgt := 133) dX8_isCallLike_123 (by decide) (fun c_123 => ?_) (fun c_123 => ?_)
          · refine j_iload dX8_isCallLike_133 rfl ?_
            refine j_iload dX8_isCallLike_135 rfl ?_
            refine j_icmp_ne (tgt := 152) dX8_isCallLike_137 (by decide) (fun c_137 => ?_) (fun c_137 => ?_)
            · refine j_iconst (v := 0) dX8_isCallLike_152 (by decide) ?_
              refine j_iret dX8_isCallLike_153 rfl rfl ?_ (Nat.le_of_ble_eq_true rfl) (Nat.le_of_ble_eq_true rfl)
              first | exact ⟨rfl, rfl, ⟨true, rfl⟩, _, _, _, _, _, _, _, _, _, _, _, _, (by assumption), (by assumption), (by assumption), rfl⟩ | exact ⟨rfl, rfl, ⟨false, rfl⟩, _, _, _, _, _, _, _, _, _, _, _, _, (by assumption), (by assumption), (by assumption), rfl⟩
            · refine j_aload dX8_isCallLike_140 rfl rfl ?_
              refine j_aload_n dX8_isCallLike_142 rfl rfl ?_
              refine j_getf dX8_isCallLike_143 fX8_40 rfl rfl ?_
              refine j_callV (q := (RX4, TX4, 5)) dX8_isCallLike_146 kX4_hasPairsOf lX8_230 inX4_hasPairsOf seX4_hasPairsOf rfl rfl (z_frame [41, 42, 43, 44, 45, 35, 36, 37, 38, 39] rfl (by decide) (Nat.le_of_ble_eq_true rfl) (c_X4_hasPairsOf hl _ _ _ _ _ _ _ _ _ _)) (Nat.le_of_ble_eq_true rfl) ⟨(Nat.le_of_ble_eq_true rfl), (Nat.le_of_ble_eq_true rfl)⟩ rfl (Nat.le_of_ble_eq_true rfl) rfl rfl (fun _ _ h => h.elim) ?_
              rintro _ _ ⟨_, _, ⟨b, rfl, rfl⟩, rfl, rfl⟩
              refine j_w (z_cw _ _ _ _ _ _ _ _ _ _ _ _ _ _ _ _ _ _ _ _ _ _ _ _ _ _ _ _ _ _ _ _ _ _ _ _ _ _ _ _ _ _ _ _ _ _ _ _ _ _ _ _ _ _ _ _ [], z_no) rfl ?_
              refine j_if_ne (tgt := 154) dX8_isCallLike_149 (by decide) (fun c_149 => ?_) (fun c_149 => ?_)
              · refine j_iinc (lo' := [(8, _), (10, _), (9, _), (5, _), (7, _), (6, _), (0, _), (1, _), (2, _), (3, _), (4, _)]) dX8_isCallLike_154 rfl rfl (by decide) rfl ?_
                refine j_goto (tgt := 17) dX8_isCallLike_157 (by decide) ?_
                refine j_iload dX8_isCallLike_17 rfl ?_
                refine j_iload dX8_isCallLike_19 rfl ?_
                refine j_icmp_ge (tgt := 160) dX8_isCallLike_21 (by decide) (fun c_21 => ?_) (fun c_21 => ?_)
                · exact absurd c_21 (by decide)
                · refine j_aload dX8_isCallLike_24 rfl rfl ?_
                  refine j_iload dX8_isCallLike_26 rfl ?_
                  refine j_aald (v := .ref 46) dX8_isCallLike_28 rfl rfl rfl (vp_in_iff.mpr (by decide)) rfl ?_
                  refine j_astore (lo' := [(9, _), (8, _), (10, _), (5, _), (7, _), (6, _), (0, _), (1, _), (2, _), (3, _), (4, _)]) dX8_isCallLike_29 rfl (by decide) rfl ?_
                  refine j_aload dX8_isCallLike_31 rfl rfl ?_
                  refine j_aload_n dX8_isCallLike_33 rfl rfl ?_
                  refine j_callV (q := (RX4, TX4, 5)) dX8_isCallLike_34 kX4_become lX8_344 inX4_become seX4_become rfl rfl (z_frame [46, 47, 48, 49, 50, 21, 22, 23, 24, 25] rfl (by decide) (Nat.le_of_ble_eq_true rfl) (c_X4_become hl _ _ _ _ _ _ _ _ _ _)) (Nat.le_of_ble_eq_true rfl) ⟨(Nat.le_of_ble_eq_true rfl), (Nat.le_of_ble_eq_true rfl)⟩ rfl (Nat.le_of_ble_eq_true rfl) rfl rfl (fun _ _ h => h.elim) ?_
                  rintro _ _ ⟨_, _, ⟨rfl, _, _, rfl⟩, rfl, rfl⟩
                  refine j_w (z_cw _ _ _ _ _ _ _ _ _ _ _ _ _ _ _ _ _ _ _ _ _ _ _ _ _ _ _ _ _ _ _ _ _ _ _ _ _ _ _ _ _ _ _ _ _ _ _ _ _ _ _ _ _ _ _ _ [], z_no) rfl ?_
                  refine j_iload_n dX8_isCallLike_37 rfl ?_
                  refine j_tsIn (tgt := 64) dX8_isCallLike_38 (by decide) (by decide) rfl (by decide) ?_
                  refine j_aload dX8_isCallLike_64 rfl rfl ?_
                  refine j_iload_n dX8_isCallLike_66 rfl ?_
                  refine j_iload dX8_isCallLike_67 rfl ?_
                  refine j_iconst (v := 1) dX8_isCallLike_69 (by decide) ?_
                  refine j_callV (q := (RX4, TX4, 5)) dX8_isCallLike_70 kX4_reckon lX8_151 inX4_reckon seX4_reckon rfl rfl (z_frame [46, 47, 48, 49, 50] rfl (by decide) (Nat.le_of_ble_eq_true rfl) (c_X4_reckon hl _ _ _ _ _ _ _ _ (by assumption))) (Nat.le_of_ble_eq_true rfl) ⟨(Nat.le_of_ble_eq_true rfl), (Nat.le_of_ble_eq_true rfl)⟩ rfl (Nat.le_of_ble_eq_true rfl) rfl rfl (fun _ _ h => h.elim) ?_
                  rintro _ _ ⟨_, _, ⟨_, rfl, _, _, _, _, hm, rfl⟩, rfl, rfl⟩
                  refine j_w (z_cw _ _ _ _ _ _ _ _ _ _ _ _ _ _ _ _ _ _ _ _ _ _ _ _ _ _ _ _ _ _ _ _ _ _ _ _ _ _ _ _ _ _ _ _ _ _ _ _ _ _ _ _ _ _ _ _ [], z_no) rfl ?_
                  refine j_istore (lo' := [(10, _), (9, _), (8, _), (5, _), (7, _), (6, _), (0, _), (1, _), (2, _), (3, _), (4, _)]) dX8_isCallLike_73 (by decide) rfl ?_
                  refine j_goto (tgt := 117) dX8_isCallLike_75 (by decide) ?_
                  refine j_aload dX8_isCallLike_117 rfl rfl ?_
                  refine j_aload_n dX8_isCallLike_119 rfl rfl ?_
                  refine j_getf dX8_isCallLike_120 fX8_40 rfl rfl ?_
                  refine j_acmp_ne (tgt := 133) dX8_isCallLike_123 (by decide) (fun c_123 => ?_) (fun c_123 => ?_)
                  · refine j_iload dX8_isCallLike_133 rfl ?_
                    refine j_iload dX8_isCallLike_135 rfl ?_
                    refine j_icmp_ne (tgt := 152) dX8_isCallLike_137 (by decide) (fun c_137 => ?_) (fun c_137 => ?_)
                    · refine j_iconst (v := 0) dX8_isCallLike_152 (by decide) ?_
                      refine j_iret dX8_isCallLike_153 rfl rfl ?_ (Nat.le_of_ble_eq_true rfl) (Nat.le_of_ble_eq_true rfl)
                      first | exact ⟨rfl, rfl, ⟨true, rfl⟩, _, _, _, _, _, _, _, _, _, _, _, _, (by assumption), (by assumption), (by assumption), rfl⟩ | exact ⟨rfl, rfl, ⟨false, rfl⟩, _, _, _, _, _, _, _, _, _, _, _, _, (by assumption), (by assumption), (by assumption), rfl⟩
                    · refine j_aload dX8_isCallLike_140 rfl rfl ?_
                      refine j_aload_n dX8_isCallLike_142 rfl rfl ?_
                      refine j_getf dX8_isCallLike_143 fX8_40 rfl rfl ?_
                      refine j_callV (q := (RX4, TX4, 5)) dX8_isCallLike_146 kX4_hasPairsOf lX8_230 inX4_hasPairsOf seX4_hasPairsOf rfl rfl (z_frame [46, 47, 48, 49, 50, 35, 36, 37, 38, 39] rfl (by decide) (Nat.le_of_ble_eq_true rfl) (c_X4_hasPairsOf hl _ _ _ _ _ _ _ _ _ _)) (Nat.le_of_ble_eq_true rfl) ⟨(Nat.le_of_ble_eq_true rfl), (Nat.le_of_ble_eq_true rfl)⟩ rfl (Nat.le_of_ble_eq_true rfl) rfl rfl (fun _ _ h => h.elim) ?_
                      rintro _ _ ⟨_, _, ⟨b, rfl, rfl⟩, rfl, rfl⟩
                      refine j_w (z_cw _ _ _ _ _ _ _ _ _ _ _ _ _ _ _ _ _ _ _ _ _ _ _ _ _ _ _ _ _ _ _ _ _ _ _ _ _ _ _ _ _ _ _ _ _ _ _ _ _ _ _ _ _ _ _ _ [], z_no) rfl ?_
                      refine j_if_ne (tgt := 154) dX8_isCallLike_149 (by decide) (fun c_149 => ?_) (fun c_149 => ?_)
                      · refine j_iinc (lo' := [(8, _), (10, _), (9, _), (5, _), (7, _), (6, _), (0, _), (1, _), (2, _), (3, _), (4, _)]) dX8_isCallLike_154 rfl rfl (by decide) rfl ?_
                        refine j_goto (tgt := 17) dX8_isCallLike_157 (by decide) ?_
                        refine j_iload dX8_isCallLike_17 rfl ?_
                        refine j_iload dX8_isCallLike_19 rfl ?_
                        refine j_icmp_ge (tgt := 160) dX8_isCallLike_21 (by decide) (fun c_21 => ?_) (fun c_21 => ?_)
                        · refine j_iconst (v := 1) dX8_isCallLike_160 (by decide) ?_
                          refine j_iret dX8_isCallLike_161 rfl rfl ?_ (Nat.le_of_ble_eq_true rfl) (Nat.le_of_ble_eq_true rfl)
                          first | exact ⟨rfl, rfl, ⟨true, rfl⟩, _, _, _, _, _, _, _, _, _, _, _, _, (by assumption), (by assumption), (by assumption), rfl⟩ | exact ⟨rfl, rfl, ⟨false, rfl⟩, _, _, _, _, _, _, _, _, _, _, _, _, (by assumption), (by assumption), (by assumption), rfl⟩
                        · exact absurd (by decide) c_21
                      · refine j_iconst (v := 0) dX8_isCallLike_152 (by decide) ?_
                        refine j_iret dX8_isCallLike_153 rfl rfl ?_ (Nat.le_of_ble_eq_true rfl) (Nat.le_of_ble_eq_true rfl)
                        first | exact ⟨rfl, rfl, ⟨true, rfl⟩, _, _, _, _, _, _, _, _, _, _, _, _, (by assumption), (by assumption), (by assumption), rfl⟩ | exact ⟨rfl, rfl, ⟨false, rfl⟩, _, _, _, _, _, _, _, _, _, _, _, _, (by assumption), (by assumption), (by assumption), rfl⟩
                  · exact absurd c_123 (by decide)
              · refine j_iconst (v := 0) dX8_isCallLike_152 (by decide) ?_
                refine j_iret dX8_isCallLike_153 rfl rfl ?_ (Nat.le_of_ble_eq_true rfl) (Nat.le_of_ble_eq_true rfl)
                first | exact ⟨rfl, rfl, ⟨true, rfl⟩, _, _, _, _, _, _, _, _, _, _, _, _, (by assumption), (by assumption), (by assumption), rfl⟩ | exact ⟨rfl, rfl, ⟨false, rfl⟩, _, _, _, _, _, _, _, _, _, _, _, _, (by assumption), (by assumption), (by assumption), rfl⟩
          · exact absurd c_123 (by decide)
    · refine j_tsIn (tgt := 78) dX8_isCallLike_38 (by decide) (by decide) rfl (by decide) ?_
      refine j_aload dX8_isCallLike_78 rfl rfl ?_
      refine j_iload_n dX8_isCallLike_80 rfl ?_
      refine j_iload dX8_isCallLike_81 rfl ?_
      refine j_iconst (v := 1) dX8_isCallLike_83 (by decide) ?_
      refine j_callV (q := (RX4, TX4, 5)) dX8_isCallLike_84 kX4_reckonAbsent lX8_144 inX4_reckonAbsent seX4_reckonAbsent rfl rfl (z_frame [35, 36, 37, 38, 39] rfl (by decide) (Nat.le_of_ble_eq_true rfl) (c_X4_reckonAbsent hl _ _ _ _ _ _ _ _ (by assumption))) (Nat.le_of_ble_eq_true rfl) ⟨(Nat.le_of_ble_eq_true rfl), (Nat.le_of_ble_eq_true rfl)⟩ rfl (Nat.le_of_ble_eq_true rfl) rfl rfl (fun _ _ h => h.elim) ?_
      rintro _ _ ⟨_, _, ⟨_, rfl, _, _, _, _, hm, rfl⟩, rfl, rfl⟩
      refine j_w (z_cw _ _ _ _ _ _ _ _ _ _ _ _ _ _ _ _ _ _ _ _ _ _ _ _ _ _ _ _ _ _ _ _ _ _ _ _ _ _ _ _ _ _ _ _ _ _ _ _ _ _ _ _ _ _ _ _ [], z_no) rfl ?_
      refine j_istore (lo' := [(10, _), (9, _), (8, _), (7, _), (6, _), (5, _), (0, _), (1, _), (2, _), (3, _), (4, _)]) dX8_isCallLike_87 (by decide) rfl ?_
      refine j_goto (tgt := 117) dX8_isCallLike_89 (by decide) ?_
      refine j_aload dX8_isCallLike_117 rfl rfl ?_
      refine j_aload_n dX8_isCallLike_119 rfl rfl ?_
      refine j_getf dX8_isCallLike_120 fX8_40 rfl rfl ?_
      refine j_acmp_ne (tgt := 133) dX8_isCallLike_123 (by decide) (fun c_123 => ?_) (fun c_123 => ?_)
      · exact absurd rfl c_123
      · refine j_iload dX8_isCallLike_126 rfl ?_
        refine j_istore (lo' := [(5, _), (10, _), (9, _), (8, _), (7, _), (6, _), (0, _), (1, _), (2, _), (3, _), (4, _)]) dX8_isCallLike_128 (by decide) rfl ?_
        refine j_goto (tgt := 154) dX8_isCallLike_130 (by decide) ?_
        refine j_iinc (lo' := [(8, _), (5, _), (10, _), (9, _), (7, _), (6, _), (0, _), (1, _), (2, _), (3, _), (4, _)]) dX8_isCallLike_154 rfl rfl (by decide) rfl ?_
        refine j_goto (tgt := 17) dX8_isCallLike_157 (by decide) ?_
        refine j_iload dX8_isCallLike_17 rfl ?_
        refine j_iload dX8_isCallLike_19 rfl ?_
        refine j_icmp_ge (tgt := 160) dX8_isCallLike_21 (by decide) (fun c_21 => ?_) (fun c_21 => ?_)
        · exact absurd c_21 (by decide)
        · refine j_aload dX8_isCallLike_24 rfl rfl ?_
          refine j_iload dX8_isCallLike_26 rfl ?_
          refine j_aald (v := .ref 41) dX8_isCallLike_28 rfl rfl rfl (vp_in_iff.mpr (by decide)) rfl ?_
          refine j_astore (lo' := [(9, _), (8, _), (5, _), (10, _), (7, _), (6, _), (0, _), (1, _), (2, _), (3, _), (4, _)]) dX8_isCallLike_29 rfl (by decide) rfl ?_
          refine j_aload dX8_isCallLike_31 rfl rfl ?_
          refine j_aload_n dX8_isCallLike_33 rfl rfl ?_
          refine j_callV (q := (RX4, TX4, 5)) dX8_isCallLike_34 kX4_become lX8_344 inX4_become seX4_become rfl rfl (z_frame [41, 42, 43, 44, 45, 21, 22, 23, 24, 25] rfl (by decide) (Nat.le_of_ble_eq_true rfl) (c_X4_become hl _ _ _ _ _ _ _ _ _ _)) (Nat.le_of_ble_eq_true rfl) ⟨(Nat.le_of_ble_eq_true rfl), (Nat.le_of_ble_eq_true rfl)⟩ rfl (Nat.le_of_ble_eq_true rfl) rfl rfl (fun _ _ h => h.elim) ?_
          rintro _ _ ⟨_, _, ⟨rfl, _, _, rfl⟩, rfl, rfl⟩
          refine j_w (z_cw _ _ _ _ _ _ _ _ _ _ _ _ _ _ _ _ _ _ _ _ _ _ _ _ _ _ _ _ _ _ _ _ _ _ _ _ _ _ _ _ _ _ _ _ _ _ _ _ _ _ _ _ _ _ _ _ [], z_no) rfl ?_
          refine j_iload_n dX8_isCallLike_37 rfl ?_
          refine j_tsIn (tgt := 78) dX8_isCallLike_38 (by decide) (by decide) rfl (by decide) ?_
          refine j_aload dX8_isCallLike_78 rfl rfl ?_
          refine j_iload_n dX8_isCallLike_80 rfl ?_
          refine j_iload dX8_isCallLike_81 rfl ?_
          refine j_iconst (v := 1) dX8_isCallLike_83 (by decide) ?_
          refine j_callV (q := (RX4, TX4, 5)) dX8_isCallLike_84 kX4_reckonAbsent lX8_144 inX4_reckonAbsent seX4_reckonAbsent rfl rfl (z_frame [41, 42, 43, 44, 45] rfl (by decide) (Nat.le_of_ble_eq_true rfl) (c_X4_reckonAbsent hl _ _ _ _ _ _ _ _ (by assumption))) (Nat.le_of_ble_eq_true rfl) ⟨(Nat.le_of_ble_eq_true rfl), (Nat.le_of_ble_eq_true rfl)⟩ rfl (Nat.le_of_ble_eq_true rfl) rfl rfl (fun _ _ h => h.elim) ?_
          rintro _ _ ⟨_, _, ⟨_, rfl, _, _, _, _, hm, rfl⟩, rfl, rfl⟩
          refine j_w (z_cw _ _ _ _ _ _ _ _ _ _ _ _ _ _ _ _ _ _ _ _ _ _ _ _ _ _ _ _ _ _ _ _ _ _ _ _ _ _ _ _ _ _ _ _ _ _ _ _ _ _ _ _ _ _ _ _ [], z_no) rfl ?_
          refine j_istore (lo' := [(10, _), (9, _), (8, _), (5, _), (7, _), (6, _), (0, _), (1, _), (2, _), (3, _), (4, _)]) dX8_isCallLike_87 (by decide) rfl ?_
          refine j_goto (tgt := 117) dX8_isCallLike_89 (by decide) ?_
          refine j_aload dX8_isCallLike_117 rfl rfl ?_
          refine j_aload_n dX8_isCallLike_119 rfl rfl ?_
          refine j_getf dX8_isCallLike_120 fX8_40 rfl rfl ?_
          refine j_acmp_ne (tgt := 133) dX8_isCallLike_123 (by decide) (fun c_123 => ?_) (fun c_123 => ?_)
          · refine j_iload dX8_isCallLike_133 rfl ?_
            refine j_iload dX8_isCallLike_135 rfl ?_
            refine j_icmp_ne (tgt := 152) dX8_isCallLike_137 (by decide) (fun c_137 => ?_) (fun c_137 => ?_)
            · refine j_iconst (v := 0) dX8_isCallLike_152 (by decide) ?_
              refine j_iret dX8_isCallLike_153 rfl rfl ?_ (Nat.le_of_ble_eq_true rfl) (Nat.le_of_ble_eq_true rfl)
              first | exact ⟨rfl, rfl, ⟨true, rfl⟩, _, _, _, _, _, _, _, _, _, _, _, _, (by assumption), (by assumption), (by assumption), rfl⟩ | exact ⟨rfl, rfl, ⟨false, rfl⟩, _, _, _, _, _, _, _, _, _, _, _, _, (by assumption), (by assumption), (by assumption), rfl⟩
            · refine j_aload dX8_isCallLike_140 rfl rfl ?_
              refine j_aload_n dX8_isCallLike_142 rfl rfl ?_
              refine j_getf dX8_isCallLike_143 fX8_40 rfl rfl ?_
              refine j_callV (q := (RX4, TX4, 5)) dX8_isCallLike_146 kX4_hasPairsOf lX8_230 inX4_hasPairsOf seX4_hasPairsOf rfl rfl (z_frame [41, 42, 43, 44, 45, 35, 36, 37, 38, 39] rfl (by decide) (Nat.le_of_ble_eq_true rfl) (c_X4_hasPairsOf hl _ _ _ _ _ _ _ _ _ _)) (Nat.le_of_ble_eq_true rfl) ⟨(Nat.le_of_ble_eq_true rfl), (Nat.le_of_ble_eq_true rfl)⟩ rfl (Nat.le_of_ble_eq_true rfl) rfl rfl (fun _ _ h => h.elim) ?_
              rintro _ _ ⟨_, _, ⟨b, rfl, rfl⟩, rfl, rfl⟩
              refine j_w (z_cw _ _ _ _ _ _ _ _ _ _ _ _ _ _ _ _ _ _ _ _ _ _ _ _ _ _ _ _ _ _ _ _ _ _ _ _ _ _ _ _ _ _ _ _ _ _ _ _ _ _ _ _ _ _ _ _ [], z_no) rfl ?_
              refine j_if_ne (tgt := 154) dX8_isCallLike_149 (by decide) (fun c_149 => ?_) (fun c_149 => ?_)
              · refine j_iinc (lo' := [(8, _), (10, _), (9, _), (5, _), (7, _), (6, _), (0, _), (1, _), (2, _), (3, _), (4, _)]) dX8_isCallLike_154 rfl rfl (by decide) rfl ?_
                refine j_goto (tgt := 17) dX8_isCallLike_157 (by decide) ?_
                refine j_iload dX8_isCallLike_17 rfl ?_
                refine j_iload dX8_isCallLike_19 rfl ?_
                refine j_icmp_ge (tgt := 160) dX8_isCallLike_21 (by decide) (fun c_21 => ?_) (fun c_21 => ?_)
                · exact absurd c_21 (by decide)
                · refine j_aload dX8_isCallLike_24 rfl rfl ?_
                  refine j_iload dX8_isCallLike_26 rfl ?_
                  refine j_aald (v := .ref 46) dX8_isCallLike_28 rfl rfl rfl (vp_in_iff.mpr (by decide)) rfl ?_
                  refine j_astore (lo' := [(9, _), (8, _), (10, _), (5, _), (7, _), (6, _), (0, _), (1, _), (2, _), (3, _), (4, _)]) dX8_isCallLike_29 rfl (by decide) rfl ?_
                  refine j_aload dX8_isCallLike_31 rfl rfl ?_
                  refine j_aload_n dX8_isCallLike_33 rfl rfl ?_
                  refine j_callV (q := (RX4, TX4, 5)) dX8_isCallLike_34 kX4_become lX8_344 inX4_become seX4_become rfl rfl (z_frame [46, 47, 48, 49, 50, 21, 22, 23, 24, 25] rfl (by decide) (Nat.le_of_ble_eq_true rfl) (c_X4_become hl _ _ _ _ _ _ _ _ _ _)) (Nat.le_of_ble_eq_true rfl) ⟨(Nat.le_of_ble_eq_true rfl), (Nat.le_of_ble_eq_true rfl)⟩ rfl (Nat.le_of_ble_eq_true rfl) rfl rfl (fun _ _ h => h.elim) ?_
                  rintro _ _ ⟨_, _, ⟨rfl, _, _, rfl⟩, rfl, rfl⟩
                  refine j_w (z_cw _ _ _ _ _ _ _ _ _ _ _ _ _ _ _ _ _ _ _ _ _ _ _ _ _ _ _ _ _ _ _ _ _ _ _ _ _ _ _ _ _ _ _ _ _ _ _ _ _ _ _ _ _ _ _ _ [], z_no) rfl ?_
                  refine j_iload_n dX8_isCallLike_37 rfl ?_
                  refine j_tsIn (tgt := 78) dX8_isCallLike_38 (by decide) (by decide) rfl (by decide) ?_
                  refine j_aload dX8_isCallLike_78 rfl rfl ?_
                  refine j_iload_n dX8_isCallLike_80 rfl ?_
                  refine j_iload dX8_isCallLike_81 rfl ?_
                  refine j_iconst (v := 1) dX8_isCallLike_83 (by decide) ?_
                  refine j_callV (q := (RX4, TX4, 5)) dX8_isCallLike_84 kX4_reckonAbsent lX8_144 inX4_reckonAbsent seX4_reckonAbsent rfl rfl (z_frame [46, 47, 48, 49, 50] rfl (by decide) (Nat.le_of_ble_eq_true rfl) (c_X4_reckonAbsent hl _ _ _ _ _ _ _ _ (by assumption))) (Nat.le_of_ble_eq_true rfl) ⟨(Nat.le_of_ble_eq_true rfl), (Nat.le_of_ble_eq_true rfl)⟩ rfl (Nat.le_of_ble_eq_true rfl) rfl rfl (fun _ _ h => h.elim) ?_
                  rintro _ _ ⟨_, _, ⟨_, rfl, _, _, _, _, hm, rfl⟩, rfl, rfl⟩
                  refine j_w (z_cw _ _ _ _ _ _ _ _ _ _ _ _ _ _ _ _ _ _ _ _ _ _ _ _ _ _ _ _ _ _ _ _ _ _ _ _ _ _ _ _ _ _ _ _ _ _ _ _ _ _ _ _ _ _ _ _ [], z_no) rfl ?_
                  refine j_istore (lo' := [(10, _), (9, _), (8, _), (5, _), (7, _), (6, _), (0, _), (1, _), (2, _), (3, _), (4, _)]) dX8_isCallLike_87 (by decide) rfl ?_
                  refine j_goto (tgt := 117) dX8_isCallLike_89 (by decide) ?_
                  refine j_aload dX8_isCallLike_117 rfl rfl ?_
                  refine j_aload_n dX8_isCallLike_119 rfl rfl ?_
                  refine j_getf dX8_isCallLike_120 fX8_40 rfl rfl ?_
                  refine j_acmp_ne (tgt := 133) dX8_isCallLike_123 (by decide) (fun c_123 => ?_) (fun c_123 => ?_)
                  · refine j_iload dX8_isCallLike_133 rfl ?_
                    refine j_iload dX8_isCallLike_135 rfl ?_
                    refine j_icmp_ne (tgt := 152) dX8_isCallLike_137 (by decide) (fun c_137 => ?_) (fun c_137 => ?_)
                    · refine j_iconst (v := 0) dX8_isCallLike_152 (by decide) ?_
                      refine j_iret dX8_isCallLike_153 rfl rfl ?_ (Nat.le_of_ble_eq_true rfl) (Nat.le_of_ble_eq_true rfl)
                      first | exact ⟨rfl, rfl, ⟨true, rfl⟩, _, _, _, _, _, _, _, _, _, _, _, _, (by assumption), (by assumption), (by assumption), rfl⟩ | exact ⟨rfl, rfl, ⟨false, rfl⟩, _, _, _, _, _, _, _, _, _, _, _, _, (by assumption), (by assumption), (by assumption), rfl⟩
                    · refine j_aload dX8_isCallLike_140 rfl rfl ?_
                      refine j_aload_n dX8_isCallLike_142 rfl rfl ?_
                      refine j_getf dX8_isCallLike_143 fX8_40 rfl rfl ?_
                      refine j_callV (q := (RX4, TX4, 5)) dX8_isCallLike_146 kX4_hasPairsOf lX8_230 inX4_hasPairsOf seX4_hasPairsOf rfl rfl (z_frame [46, 47, 48, 49, 50, 35, 36, 37, 38, 39] rfl (by decide) (Nat.le_of_ble_eq_true rfl) (c_X4_hasPairsOf hl _ _ _ _ _ _ _ _ _ _)) (Nat.le_of_ble_eq_true rfl) ⟨(Nat.le_of_ble_eq_true rfl), (Nat.le_of_ble_eq_true rfl)⟩ rfl (Nat.le_of_ble_eq_true rfl) rfl rfl (fun _ _ h => h.elim) ?_
                      rintro _ _ ⟨_, _, ⟨b, rfl, rfl⟩, rfl, rfl⟩
                      refine j_w (z_cw _ _ _ _ _ _ _ _ _ _ _ _ _ _ _ _ _ _ _ _ _ _ _ _ _ _ _ _ _ _ _ _ _ _ _ _ _ _ _ _ _ _ _ _ _ _ _ _ _ _ _ _ _ _ _ _ [], z_no) rfl ?_
                      refine j_if_ne (tgt := 154) dX8_isCallLike_149 (by decide) (fun c_149 => ?_) (fun c_149 => ?_)
                      · refine j_iinc (lo' := [(8, _), (10, _), (9, _), (5, _), (7, _), (6, _), (0, _), (1, _), (2, _), (3, _), (4, _)]) dX8_isCallLike_154 rfl rfl (by decide) rfl ?_
                        refine j_goto (tgt := 17) dX8_isCallLike_157 (by decide) ?_
                        refine j_iload dX8_isCallLike_17 rfl ?_
                        refine j_iload dX8_isCallLike_19 rfl ?_
                        refine j_icmp_ge (tgt := 160) dX8_isCallLike_21 (by decide) (fun c_21 => ?_) (fun c_21 => ?_)
                        · refine j_iconst (v := 1) dX8_isCallLike_160 (by decide) ?_
                          refine j_iret dX8_isCallLike_161 rfl rfl ?_ (Nat.le_of_ble_eq_true rfl) (Nat.le_of_ble_eq_true rfl)
                          first | exact ⟨rfl, rfl, ⟨true, rfl⟩, _, _, _, _, _, _, _, _, _, _, _, _, (by assumption), (by assumption), (by assumption), rfl⟩ | exact ⟨rfl, rfl, ⟨false, rfl⟩, _, _, _, _, _, _, _, _, _, _, _, _, (by assumption), (by assumption), (by assumption), rfl⟩
                        · exact absurd (by decide) c_21
                      · refine j_iconst (v := 0) dX8_isCallLike_152 (by decide) ?_
                        refine j_iret dX8_isCallLike_153 rfl rfl ?_ (Nat.le_of_ble_eq_true rfl) (Nat.le_of_ble_eq_true rfl)
                        first | exact ⟨rfl, rfl, ⟨true, rfl⟩, _, _, _, _, _, _, _, _, _, _, _, _, (by assumption), (by assumption), (by assumption), rfl⟩ | exact ⟨rfl, rfl, ⟨false, rfl⟩, _, _, _, _, _, _, _, _, _, _, _, _, (by assumption), (by assumption), (by assumption), rfl⟩
                  · exact absurd c_123 (by decide)
              · refine j_iconst (v := 0) dX8_isCallLike_152 (by decide) ?_
                refine j_iret dX8_isCallLike_153 rfl rfl ?_ (Nat.le_of_ble_eq_true rfl) (Nat.le_of_ble_eq_true rfl)
                first | exact ⟨rfl, rfl, ⟨true, rfl⟩, _, _, _, _, _, _, _, _, _, _, _, _, (by assumption), (by assumption), (by assumption), rfl⟩ | exact ⟨rfl, rfl, ⟨false, rfl⟩, _, _, _, _, _, _, _, _, _, _, _, _, (by assumption), (by assumption), (by assumption), rfl⟩
          · exact absurd c_123 (by decide)
    · refine j_tsIn (tgt := 92) dX8_isCallLike_38 (by decide) (by decide) rfl (by decide) ?_
      refine j_aload dX8_isCallLike_92 rfl rfl ?_
      refine j_iload_n dX8_isCallLike_94 rfl ?_
      refine j_iload dX8_isCallLike_95 rfl ?_
      refine j_iconst (v := 1) dX8_isCallLike_97 (by decide) ?_
      refine j_callV (q := (RX4, TX4, 5)) dX8_isCallLike_98 kX4_reckonPresent lX8_148 inX4_reckonPresent seX4_reckonPresent rfl rfl (z_frame [35, 36, 37, 38, 39] rfl (by decide) (Nat.le_of_ble_eq_true rfl) (c_X4_reckonPresent hl _ _ _ _ _ _ _ _ (by assumption))) (Nat.le_of_ble_eq_true rfl) ⟨(Nat.le_of_ble_eq_true rfl), (Nat.le_of_ble_eq_true rfl)⟩ rfl (Nat.le_of_ble_eq_true rfl) rfl rfl (fun _ _ h => h.elim) ?_
      rintro _ _ ⟨_, _, ⟨_, rfl, _, _, _, _, hm, rfl⟩, rfl, rfl⟩
      refine j_w (z_cw _ _ _ _ _ _ _ _ _ _ _ _ _ _ _ _ _ _ _ _ _ _ _ _ _ _ _ _ _ _ _ _ _ _ _ _ _ _ _ _ _ _ _ _ _ _ _ _ _ _ _ _ _ _ _ _ [], z_no) rfl ?_
      refine j_istore (lo' := [(10, _), (9, _), (8, _), (7, _), (6, _), (5, _), (0, _), (1, _), (2, _), (3, _), (4, _)]) dX8_isCallLike_101 (by decide) rfl ?_
      refine j_goto (tgt := 117) dX8_isCallLike_103 (by decide) ?_
      refine j_aload dX8_isCallLike_117 rfl rfl ?_
      refine j_aload_n dX8_isCallLike_119 rfl rfl ?_
      refine j_getf dX8_isCallLike_120 fX8_40 rfl rfl ?_
      refine j_acmp_ne (tgt := 133) dX8_isCallLike_123 (by decide) (fun c_123 => ?_) (fun c_123 => ?_)
      · exact absurd rfl c_123
      · refine j_iload dX8_isCallLike_126 rfl ?_
        refine j_istore (lo' := [(5, _), (10, _), (9, _), (8, _), (7, _), (6, _), (0, _), (1, _), (2, _), (3, _), (4, _)]) dX8_isCallLike_128 (by decide) rfl ?_
        refine j_goto (tgt := 154) dX8_isCallLike_130 (by decide) ?_
        refine j_iinc (lo' := [(8, _), (5, _), (10, _), (9, _), (7, _), (6, _), (0, _), (1, _), (2, _), (3, _), (4, _)]) dX8_isCallLike_154 rfl rfl (by decide) rfl ?_
        refine j_goto (tgt := 17) dX8_isCallLike_157 (by decide) ?_
        refine j_iload dX8_isCallLike_17 rfl ?_
        refine j_iload dX8_isCallLike_19 rfl ?_
        refine j_icmp_ge (tgt := 160) dX8_isCallLike_21 (by decide) (fun c_21 => ?_) (fun c_21 => ?_)
        · exact absurd c_21 (by decide)
        · refine j_aload dX8_isCallLike_24 rfl rfl ?_
          refine j_iload dX8_isCallLike_26 rfl ?_
          refine j_aald (v := .ref 41) dX8_isCallLike_28 rfl rfl rfl (vp_in_iff.mpr (by decide)) rfl ?_
          refine j_astore (lo' := [(9, _), (8, _), (5, _), (10, _), (7, _), (6, _), (0, _), (1, _), (2, _), (3, _), (4, _)]) dX8_isCallLike_29 rfl (by decide) rfl ?_
          refine j_aload dX8_isCallLike_31 rfl rfl ?_
          refine j_aload_n dX8_isCallLike_33 rfl rfl ?_
          refine j_callV (q := (RX4, TX4, 5)) dX8_isCallLike_34 kX4_become lX8_344 inX4_become seX4_become rfl rfl (z_frame [41, 42, 43, 44, 45, 21, 22, 23, 24, 25] rfl (by decide) (Nat.le_of_ble_eq_true rfl) (c_X4_become hl _ _ _ _ _ _ _ _ _ _)) (Nat.le_of_ble_eq_true rfl) ⟨(Nat.le_of_ble_eq_true rfl), (Nat.le_of_ble_eq_true rfl)⟩ rfl (Nat.le_of_ble_eq_true rfl) rfl rfl (fun _ _ h => h.elim) ?_
          rintro _ _ ⟨_, _, ⟨rfl, _, _, rfl⟩, rfl, rfl⟩
          refine j_w (z_cw _ _ _ _ _ _ _ _ _ _ _ _ _ _ _ _ _ _ _ _ _ _ _ _ _ _ _ _ _ _ _ _ _ _ _ _ _ _ _ _ _ _ _ _ _ _ _ _ _ _ _ _ _ _ _ _ [], z_no) rfl ?_
          refine j_iload_n dX8_isCallLike_37 rfl ?_
          refine j_tsIn (tgt := 92) dX8_isCallLike_38 (by decide) (by decide) rfl (by decide) ?_
          refine j_aload dX8_isCallLike_92 rfl rfl ?_
          refine j_iload_n dX8_isCallLike_94 rfl ?_
          refine j_iload dX8_isCallLike_95 rfl ?_
          refine j_iconst (v := 1) dX8_isCallLike_97 (by decide) ?_
          refine j_callV (q := (RX4, TX4, 5)) dX8_isCallLike_98 kX4_reckonPresent lX8_148 inX4_reckonPresent seX4_reckonPresent rfl rfl (z_frame [41, 42, 43, 44, 45] rfl (by decide) (Nat.le_of_ble_eq_true rfl) (c_X4_reckonPresent hl _ _ _ _ _ _ _ _ (by assumption))) (Nat.le_of_ble_eq_true rfl) ⟨(Nat.le_of_ble_eq_true rfl), (Nat.le_of_ble_eq_true rfl)⟩ rfl (Nat.le_of_ble_eq_true rfl) rfl rfl (fun _ _ h => h.elim) ?_
          rintro _ _ ⟨_, _, ⟨_, rfl, _, _, _, _, hm, rfl⟩, rfl, rfl⟩
          refine j_w (z_cw _ _ _ _ _ _ _ _ _ _ _ _ _ _ _ _ _ _ _ _ _ _ _ _ _ _ _ _ _ _ _ _ _ _ _ _ _ _ _ _ _ _ _ _ _ _ _ _ _ _ _ _ _ _ _ _ [], z_no) rfl ?_
          refine j_istore (lo' := [(10, _), (9, _), (8, _), (5, _), (7, _), (6, _), (0, _), (1, _), (2, _), (3, _), (4, _)]) dX8_isCallLike_101 (by decide) rfl ?_
          refine j_goto (tgt := 117) dX8_isCallLike_103 (by decide) ?_
          refine j_aload dX8_isCallLike_117 rfl rfl ?_
          refine j_aload_n dX8_isCallLike_119 rfl rfl ?_
          refine j_getf dX8_isCallLike_120 fX8_40 rfl rfl ?_
          refine j_acmp_ne (tgt := 133) dX8_isCallLike_123 (by decide) (fun c_123 => ?_) (fun c_123 => ?_)
          · refine j_iload dX8_isCallLike_133 rfl ?_
            refine j_iload dX8_isCallLike_135 rfl ?_
            refine j_icmp_ne (tgt := 152) dX8_isCallLike_137 (by decide) (fun c_137 => ?_) (fun c_137 => ?_)
            · refine j_iconst (v := 0) dX8_isCallLike_152 (by decide) ?_
              refine j_iret dX8_isCallLike_153 rfl rfl ?_ (Nat.le_of_ble_eq_true rfl) (Nat.le_of_ble_eq_true rfl)
              first | exact ⟨rfl, rfl, ⟨true, rfl⟩, _, _, _, _, _, _, _, _, _, _, _, _, (by assumption), (by assumption), (by assumption), rfl⟩ | exact ⟨rfl, rfl, ⟨false, rfl⟩, _, _, _, _, _, _, _, _, _, _, _, _, (by assumption), (by assumption), (by assumption), rfl⟩
            · refine j_aload dX8_isCallLike_140 rfl rfl ?_
              refine j_aload_n dX8_isCallLike_142 rfl rfl ?_
              refine j_getf dX8_isCallLike_143 fX8_40 rfl rfl ?_
              refine j_callV (q := (RX4, TX4, 5)) dX8_isCallLike_146 kX4_hasPairsOf lX8_230 inX4_hasPairsOf seX4_hasPairsOf rfl rfl (z_frame [41, 42, 43, 44, 45, 35, 36, 37, 38, 39] rfl (by decide) (Nat.le_of_ble_eq_true rfl) (c_X4_hasPairsOf hl _ _ _ _ _ _ _ _ _ _)) (Nat.le_of_ble_eq_true rfl) ⟨(Nat.le_of_ble_eq_true rfl), (Nat.le_of_ble_eq_true rfl)⟩ rfl (Nat.le_of_ble_eq_true rfl) rfl rfl (fun _ _ h => h.elim) ?_
              rintro _ _ ⟨_, _, ⟨b, rfl, rfl⟩, rfl, rfl⟩
              refine j_w (z_cw _ _ _ _ _ _ _ _ _ _ _ _ _ _ _ _ _ _ _ _ _ _ _ _ _ _ _ _ _ _ _ _ _ _ _ _ _ _ _ _ _ _ _ _ _ _ _ _ _ _ _ _ _ _ _ _ [], z_no) rfl ?_
              refine j_if_ne (tgt := 154) dX8_isCallLike_149 (by decide) (fun c_149 => ?_) (fun c_149 => ?_)
              · refine j_iinc (lo' := [(8, _), (10, _), (9, _), (5, _), (7, _), (6, _), (0, _), (1, _), (2, _), (3, _), (4, _)]) dX8_isCallLike_154 rfl rfl (by decide) rfl ?_
                refine j_goto (tgt := 17) dX8_isCallLike_157 (by decide) ?_
                refine j_iload dX8_isCallLike_17 rfl ?_
                refine j_iload dX8_isCallLike_19 rfl ?_
                refine j_icmp_ge (tgt := 160) dX8_isCallLike_21 (by decide) (fun c_21 => ?_) (fun c_21 => ?_)
                · exact absurd c_21 (by decide)
                · refine j_aload dX8_isCallLike_24 rfl rfl ?_
                  refine j_iload dX8_isCallLike_26 rfl ?_
                  refine j_aald (v := .ref 46) dX8_isCallLike_28 rfl rfl rfl (vp_in_iff.mpr (by decide)) rfl ?_
                  refine j_astore (lo' := [(9, _), (8, _), (10, _), (5, _), (7, _), (6, _), (0, _), (1, _), (2, _), (3, _), (4, _)]) dX8_isCallLike_29 rfl (by decide) rfl ?_
                  refine j_aload dX8_isCallLike_31 rfl rfl ?_
                  refine j_aload_n dX8_isCallLike_33 rfl rfl ?_
                  refine j_callV (q := (RX4, TX4, 5)) dX8_isCallLike_34 kX4_become lX8_344 inX4_become seX4_become rfl rfl (z_frame [46, 47, 48, 49, 50, 21, 22, 23, 24, 25] rfl (by decide) (Nat.le_of_ble_eq_true rfl) (c_X4_become hl _ _ _ _ _ _ _ _ _ _)) (Nat.le_of_ble_eq_true rfl) ⟨(Nat.le_of_ble_eq_true rfl), (Nat.le_of_ble_eq_true rfl)⟩ rfl (Nat.le_of_ble_eq_true rfl) rfl rfl (fun _ _ h => h.elim) ?_
                  rintro _ _ ⟨_, _, ⟨rfl, _, _, rfl⟩, rfl, rfl⟩
                  refine j_w (z_cw _ _ _ _ _ _ _ _ _ _ _ _ _ _ _ _ _ _ _ _ _ _ _ _ _ _ _ _ _ _ _ _ _ _ _ _ _ _ _ _ _ _ _ _ _ _ _ _ _ _ _ _ _ _ _ _ [], z_no) rfl ?_
                  refine j_iload_n dX8_isCallLike_37 rfl ?_
                  refine j_tsIn (tgt := 92) dX8_isCallLike_38 (by decide) (by decide) rfl (by decide) ?_
                  refine j_aload dX8_isCallLike_92 rfl rfl ?_
                  refine j_iload_n dX8_isCallLike_94 rfl ?_
                  refine j_iload dX8_isCallLike_95 rfl ?_
                  refine j_iconst (v := 1) dX8_isCallLike_97 (by decide) ?_
                  refine j_callV (q := (RX4, TX4, 5)) dX8_isCallLike_98 kX4_reckonPresent lX8_148 inX4_reckonPresent seX4_reckonPresent rfl rfl (z_frame [46, 47, 48, 49, 50] rfl (by decide) (Nat.le_of_ble_eq_true rfl) (c_X4_reckonPresent hl _ _ _ _ _ _ _ _ (by assumption))) (Nat.le_of_ble_eq_true rfl) ⟨(Nat.le_of_ble_eq_true rfl), (Nat.le_of_ble_eq_true rfl)⟩ rfl (Nat.le_of_ble_eq_true rfl) rfl rfl (fun _ _ h => h.elim) ?_
                  rintro _ _ ⟨_, _, ⟨_, rfl, _, _, _, _, hm, rfl⟩, rfl, rfl⟩
                  refine j_w (z_cw _ _ _ _ _ _ _ _ _ _ _ _ _ _ _ _ _ _ _ _ _ _ _ _ _ _ _ _ _ _ _ _ _ _ _ _ _ _ _ _ _ _ _ _ _ _ _ _ _ _ _ _ _ _ _ _ [], z_no) rfl ?_
                  refine j_istore (lo' := [(10, _), (9, _), (8, _), (5, _), (7, _), (6, _), (0, _), (1, _), (2, _), (3, _), (4, _)]) dX8_isCallLike_101 (by decide) rfl ?_
                  refine j_goto (tgt := 117) dX8_isCallLike_103 (by decide) ?_
                  refine j_aload dX8_isCallLike_117 rfl rfl ?_
                  refine j_aload_n dX8_isCallLike_119 rfl rfl ?_
                  refine j_getf dX8_isCallLike_120 fX8_40 rfl rfl ?_
                  refine j_acmp_ne (tgt := 133) dX8_isCallLike_123 (by decide) (fun c_123 => ?_) (fun c_123 => ?_)
                  · refine j_iload dX8_isCallLike_133 rfl ?_
                    refine j_iload dX8_isCallLike_135 rfl ?_
                    refine j_icmp_ne (tgt := 152) dX8_isCallLike_137 (by decide) (fun c_137 => ?_) (fun c_137 => ?_)
                    · refine j_iconst (v := 0) dX8_isCallLike_152 (by decide) ?_
                      refine j_iret dX8_isCallLike_153 rfl rfl ?_ (Nat.le_of_ble_eq_true rfl) (Nat.le_of_ble_eq_true rfl)
                      first | exact ⟨rfl, rfl, ⟨true, rfl⟩, _, _, _, _, _, _, _, _, _, _, _, _, (by assumption), (by assumption), (by assumption), rfl⟩ | exact ⟨rfl, rfl, ⟨false, rfl⟩, _, _, _, _, _, _, _, _, _, _, _, _, (by assumption), (by assumption), (by assumption), rfl⟩
                    · refine j_aload dX8_isCallLike_140 rfl rfl ?_
                      refine j_aload_n dX8_isCallLike_142 rfl rfl ?_
                      refine j_getf dX8_isCallLike_143 fX8_40 rfl rfl ?_
                      refine j_callV (q := (RX4, TX4, 5)) dX8_isCallLike_146 kX4_hasPairsOf lX8_230 inX4_hasPairsOf seX4_hasPairsOf rfl rfl (z_frame [46, 47, 48, 49, 50, 35, 36, 37, 38, 39] rfl (by decide) (Nat.le_of_ble_eq_true rfl) (c_X4_hasPairsOf hl _ _ _ _ _ _ _ _ _ _)) (Nat.le_of_ble_eq_true rfl) ⟨(Nat.le_of_ble_eq_true rfl), (Nat.le_of_ble_eq_true rfl)⟩ rfl (Nat.le_of_ble_eq_true rfl) rfl rfl (fun _ _ h => h.elim) ?_
                      rintro _ _ ⟨_, _, ⟨b, rfl, rfl⟩, rfl, rfl⟩
                      refine j_w (z_cw _ _ _ _ _ _ _ _ _ _ _ _ _ _ _ _ _ _ _ _ _ _ _ _ _ _ _ _ _ _ _ _ _ _ _ _ _ _ _ _ _ _ _ _ _ _ _ _ _ _ _ _ _ _ _ _ [], z_no) rfl ?_
                      refine j_if_ne (tgt := 154) dX8_isCallLike_149 (by decide) (fun c_149 => ?_) (fun c_149 => ?_)
                      · refine j_iinc (lo' := [(8, _), (10, _), (9, _), (5, _), (7, _), (6, _), (0, _), (1, _), (2, _), (3, _), (4, _)]) dX8_isCallLike_154 rfl rfl (by decide) rfl ?_
                        refine j_goto (tgt := 17) dX8_isCallLike_157 (by decide) ?_
                        refine j_iload dX8_isCallLike_17 rfl ?_
                        refine j_iload dX8_isCallLike_19 rfl ?_
                        refine j_icmp_ge (tgt := 160) dX8_isCallLike_21 (by decide) (fun c_21 => ?_) (fun c_21 => ?_)
                        · refine j_iconst (v := 1) dX8_isCallLike_160 (by decide) ?_
                          refine j_iret dX8_isCallLike_161 rfl rfl ?_ (Nat.le_of_ble_eq_true rfl) (Nat.le_of_ble_eq_true rfl)
                          first | exact ⟨rfl, rfl, ⟨true, rfl⟩, _, _, _, _, _, _, _, _, _, _, _, _, (by assumption), (by assumption), (by assumption), rfl⟩ | exact ⟨rfl, rfl, ⟨false, rfl⟩, _, _, _, _, _, _, _, _, _, _, _, _, (by assumption), (by assumption), (by assumption), rfl⟩
                        · exact absurd (by decide) c_21
                      · refine j_iconst (v := 0) dX8_isCallLike_152 (by decide) ?_
                        refine j_iret dX8_isCallLike_153 rfl rfl ?_ (Nat.le_of_ble_eq_true rfl) (Nat.le_of_ble_eq_true rfl)
                        first | exact ⟨rfl, rfl, ⟨true, rfl⟩, _, _, _, _, _, _, _, _, _, _, _, _, (by assumption), (by assumption), (by assumption), rfl⟩ | exact ⟨rfl, rfl, ⟨false, rfl⟩, _, _, _, _, _, _, _, _, _, _, _, _, (by assumption), (by assumption), (by assumption), rfl⟩
                  · exact absurd c_123 (by decide)
              · refine j_iconst (v := 0) dX8_isCallLike_152 (by decide) ?_
                refine j_iret dX8_isCallLike_153 rfl rfl ?_ (Nat.le_of_ble_eq_true rfl) (Nat.le_of_ble_eq_true rfl)
                first | exact ⟨rfl, rfl, ⟨true, rfl⟩, _, _, _, _, _, _, _, _, _, _, _, _, (by assumption), (by assumption), (by assumption), rfl⟩ | exact ⟨rfl, rfl, ⟨false, rfl⟩, _, _, _, _, _, _, _, _, _, _, _, _, (by assumption), (by assumption), (by assumption), rfl⟩
          · exact absurd c_123 (by decide)
    · refine j_tsOut (tgt := 106) dX8_isCallLike_38 hp (by decide) ?_
      refine j_aload dX8_isCallLike_106 rfl rfl ?_
      refine j_iload_n dX8_isCallLike_108 rfl ?_
      refine j_iconst (v := 1) dX8_isCallLike_109 (by decide) ?_
      refine j_iload dX8_isCallLike_110 rfl ?_
      refine j_callV (q := (RX4, TX4, 5)) dX8_isCallLike_112 kX4_join lX8_154 inX4_join seX4_join rfl rfl (z_frame [35, 36, 37, 38, 39] rfl (by decide) (Nat.le_of_ble_eq_true rfl) (c_X4_join hl _ _ _ _ _ _ _ _ (by assumption))) (Nat.le_of_ble_eq_true rfl) ⟨(Nat.le_of_ble_eq_true rfl), (Nat.le_of_ble_eq_true rfl)⟩ rfl (Nat.le_of_ble_eq_true rfl) rfl rfl (fun _ _ h => h.elim) ?_
      rintro _ _ ⟨_, _, ⟨_, rfl, _, _, _, _, hm, rfl⟩, rfl, rfl⟩
      refine j_w (z_cw _ _ _ _ _ _ _ _ _ _ _ _ _ _ _ _ _ _ _ _ _ _ _ _ _ _ _ _ _ _ _ _ _ _ _ _ _ _ _ _ _ _ _ _ _ _ _ _ _ _ _ _ _ _ _ _ [], z_no) rfl ?_
      refine j_istore (lo' := [(10, _), (9, _), (8, _), (7, _), (6, _), (5, _), (0, _), (1, _), (2, _), (3, _), (4, _)]) dX8_isCallLike_115 (by decide) rfl ?_
      refine j_aload dX8_isCallLike_117 rfl rfl ?_
      refine j_aload_n dX8_isCallLike_119 rfl rfl ?_
      refine j_getf dX8_isCallLike_120 fX8_40 rfl rfl ?_
      refine j_acmp_ne (tgt := 133) dX8_isCallLike_123 (by decide) (fun c_123 => ?_) (fun c_123 => ?_)
      · exact absurd rfl c_123
      · refine j_iload dX8_isCallLike_126 rfl ?_
        refine j_istore (lo' := [(5, _), (10, _), (9, _), (8, _), (7, _), (6, _), (0, _), (1, _), (2, _), (3, _), (4, _)]) dX8_isCallLike_128 (by decide) rfl ?_
        refine j_goto (tgt := 154) dX8_isCallLike_130 (by decide) ?_
        refine j_iinc (lo' := [(8, _), (5, _), (10, _), (9, _), (7, _), (6, _), (0, _), (1, _), (2, _), (3, _), (4, _)]) dX8_isCallLike_154 rfl rfl (by decide) rfl ?_
        refine j_goto (tgt := 17) dX8_isCallLike_157 (by decide) ?_
        refine j_iload dX8_isCallLike_17 rfl ?_
        refine j_iload dX8_isCallLike_19 rfl ?_
        refine j_icmp_ge (tgt := 160) dX8_isCallLike_21 (by decide) (fun c_21 => ?_) (fun c_21 => ?_)
        · exact absurd c_21 (by decide)
        · refine j_aload dX8_isCallLike_24 rfl rfl ?_
          refine j_iload dX8_isCallLike_26 rfl ?_
          refine j_aald (v := .ref 41) dX8_isCallLike_28 rfl rfl rfl (vp_in_iff.mpr (by decide)) rfl ?_
          refine j_astore (lo' := [(9, _), (8, _), (5, _), (10, _), (7, _), (6, _), (0, _), (1, _), (2, _), (3, _), (4, _)]) dX8_isCallLike_29 rfl (by decide) rfl ?_
          refine j_aload dX8_isCallLike_31 rfl rfl ?_
          refine j_aload_n dX8_isCallLike_33 rfl rfl ?_
          refine j_callV (q := (RX4, TX4, 5)) dX8_isCallLike_34 kX4_become lX8_344 inX4_become seX4_become rfl rfl (z_frame [41, 42, 43, 44, 45, 21, 22, 23, 24, 25] rfl (by decide) (Nat.le_of_ble_eq_true rfl) (c_X4_become hl _ _ _ _ _ _ _ _ _ _)) (Nat.le_of_ble_eq_true rfl) ⟨(Nat.le_of_ble_eq_true rfl), (Nat.le_of_ble_eq_true rfl)⟩ rfl (Nat.le_of_ble_eq_true rfl) rfl rfl (fun _ _ h => h.elim) ?_
          rintro _ _ ⟨_, _, ⟨rfl, _, _, rfl⟩, rfl, rfl⟩
          refine j_w (z_cw _ _ _ _ _ _ _ _ _ _ _ _ _ _ _ _ _ _ _ _ _ _ _ _ _ _ _ _ _ _ _ _ _ _ _ _ _ _ _ _ _ _ _ _ _ _ _ _ _ _ _ _ _ _ _ _ [], z_no) rfl ?_
          refine j_iload_n dX8_isCallLike_37 rfl ?_
          refine j_tsOut (tgt := 106) dX8_isCallLike_38 hp (by decide) ?_
          refine j_aload dX8_isCallLike_106 rfl rfl ?_
          refine j_iload_n dX8_isCallLike_108 rfl ?_
          refine j_iconst (v := 1) dX8_isCallLike_109 (by decide) ?_
          refine j_iload dX8_isCallLike_110 rfl ?_
          refine j_callV (q := (RX4, TX4, 5)) dX8_isCallLike_112 kX4_join lX8_154 inX4_join seX4_join rfl rfl (z_frame [41, 42, 43, 44, 45] rfl (by decide) (Nat.le_of_ble_eq_true rfl) (c_X4_join hl _ _ _ _ _ _ _ _ (by assumption))) (Nat.le_of_ble_eq_true rfl) ⟨(Nat.le_of_ble_eq_true rfl), (Nat.le_of_ble_eq_true rfl)⟩ rfl (Nat.le_of_ble_eq_true rfl) rfl rfl (fun _ _ h => h.elim) ?_
          rintro _ _ ⟨_, _, ⟨_, rfl, _, _, _, _, hm, rfl⟩, rfl, rfl⟩
          refine j_w (z_cw _ _ _ _ _ _ _ _ _ _ _ _ _ _ _ _ _ _ _ _ _ _ _ _ _ _ _ _ _ _ _ _ _ _ _ _ _ _ _ _ _ _ _ _ _ _ _ _ _ _ _ _ _ _ _ _ [], z_no) rfl ?_
          refine j_istore (lo' := [(10, _), (9, _), (8, _), (5, _), (7, _), (6, _), (0, _), (1, _), (2, _), (3, _), (4, _)]) dX8_isCallLike_115 (by decide) rfl ?_
          refine j_aload dX8_isCallLike_117 rfl rfl ?_
          refine j_aload_n dX8_isCallLike_119 rfl rfl ?_
          refine j_getf dX8_isCallLike_120 fX8_40 rfl rfl ?_
          refine j_acmp_ne (tgt := 133) dX8_isCallLike_123 (by decide) (fun c_123 => ?_) (fun c_123 => ?_)
          · refine j_iload dX8_isCallLike_133 rfl ?_
            refine j_iload dX8_isCallLike_135 rfl ?_
            refine j_icmp_ne (tgt := 152) dX8_isCallLike_137 (by decide) (fun c_137 => ?_) (fun c_137 => ?_)
            · refine j_iconst (v := 0) dX8_isCallLike_152 (by decide) ?_
              refine j_iret dX8_isCallLike_153 rfl rfl ?_ (Nat.le_of_ble_eq_true rfl) (Nat.le_of_ble_eq_true rfl)
              first | exact ⟨rfl, rfl, ⟨true, rfl⟩, _, _, _, _, _, _, _, _, _, _, _, _, (by assumption), (by assumption), (by assumption), rfl⟩ | exact ⟨rfl, rfl, ⟨false, rfl⟩, _, _, _, _, _, _, _, _, _, _, _, _, (by assumption), (by assumption), (by assumption), rfl⟩
            · refine j_aload dX8_isCallLike_140 rfl rfl ?_
              refine j_aload_n dX8_isCallLike_142 rfl rfl ?_
              refine j_getf dX8_isCallLike_143 fX8_40 rfl rfl ?_
              refine j_callV (q := (RX4, TX4, 5)) dX8_isCallLike_146 kX4_hasPairsOf lX8_230 inX4_hasPairsOf seX4_hasPairsOf rfl rfl (z_frame [41, 42, 43, 44, 45, 35, 36, 37, 38, 39] rfl (by decide) (Nat.le_of_ble_eq_true rfl) (c_X4_hasPairsOf hl _ _ _ _ _ _ _ _ _ _)) (Nat.le_of_ble_eq_true rfl) ⟨(Nat.le_of_ble_eq_true rfl), (Nat.le_of_ble_eq_true rfl)⟩ rfl (Nat.le_of_ble_eq_true rfl) rfl rfl (fun _ _ h => h.elim) ?_
              rintro _ _ ⟨_, _, ⟨b, rfl, rfl⟩, rfl, rfl⟩
              refine j_w (z_cw _ _ _ _ _ _ _ _ _ _ _ _ _ _ _ _ _ _ _ _ _ _ _ _ _ _ _ _ _ _ _ _ _ _ _ _ _ _ _ _ _ _ _ _ _ _ _ _ _ _ _ _ _ _ _ _ [], z_no) rfl ?_
              refine j_if_ne (tgt := 154) dX8_isCallLike_149 (by decide) (fun c_149 => ?_) (fun c_149 => ?_)
              · refine j_iinc (lo' := [(8, _), (10, _), (9, _), (5, _), (7, _), (6, _), (0, _), (1, _), (2, _), (3, _), (4, _)]) dX8_isCallLike_154 rfl rfl (by decide) rfl ?_
                refine j_goto (tgt := 17) dX8_isCallLike_157 (by decide) ?_
                refine j_iload dX8_isCallLike_17 rfl ?_
                refine j_iload dX8_isCallLike_19 rfl ?_
                refine j_icmp_ge (tgt := 160) dX8_isCallLike_21 (by decide) (fun c_21 => ?_) (fun c_21 => ?_)
                · exact absurd c_21 (by decide)
                · refine j_aload dX8_isCallLike_24 rfl rfl ?_
                  refine j_iload dX8_isCallLike_26 rfl ?_
                  refine j_aald (v := .ref 46) dX8_isCallLike_28 rfl rfl rfl (vp_in_iff.mpr (by decide)) rfl ?_
                  refine j_astore (lo' := [(9, _), (8, _), (10, _), (5, _), (7, _), (6, _), (0, _), (1, _), (2, _), (3, _), (4, _)]) dX8_isCallLike_29 rfl (by decide) rfl ?_
                  refine j_aload dX8_isCallLike_31 rfl rfl ?_
                  refine j_aload_n dX8_isCallLike_33 rfl rfl ?_
                  refine j_callV (q := (RX4, TX4, 5)) dX8_isCallLike_34 kX4_become lX8_344 inX4_become seX4_become rfl rfl (z_frame [46, 47, 48, 49, 50, 21, 22, 23, 24, 25] rfl (by decide) (Nat.le_of_ble_eq_true rfl) (c_X4_become hl _ _ _ _ _ _ _ _ _ _)) (Nat.le_of_ble_eq_true rfl) ⟨(Nat.le_of_ble_eq_true rfl), (Nat.le_of_ble_eq_true rfl)⟩ rfl (Nat.le_of_ble_eq_true rfl) rfl rfl (fun _ _ h => h.elim) ?_
                  rintro _ _ ⟨_, _, ⟨rfl, _, _, rfl⟩, rfl, rfl⟩
                  refine j_w (z_cw _ _ _ _ _ _ _ _ _ _ _ _ _ _ _ _ _ _ _ _ _ _ _ _ _ _ _ _ _ _ _ _ _ _ _ _ _ _ _ _ _ _ _ _ _ _ _ _ _ _ _ _ _ _ _ _ [], z_no) rfl ?_
                  refine j_iload_n dX8_isCallLike_37 rfl ?_
                  refine j_tsOut (tgt := 106) dX8_isCallLike_38 hp (by decide) ?_
                  refine j_aload dX8_isCallLike_106 rfl rfl ?_
                  refine j_iload_n dX8_isCallLike_108 rfl ?_
                  refine j_iconst (v := 1) dX8_isCallLike_109 (by decide) ?_
                  refine j_iload dX8_isCallLike_110 rfl ?_
                  refine j_callV (q := (RX4, TX4, 5)) dX8_isCallLike_112 kX4_join lX8_154 inX4_join seX4_join rfl rfl (z_frame [46, 47, 48, 49, 50] rfl (by decide) (Nat.le_of_ble_eq_true rfl) (c_X4_join hl _ _ _ _ _ _ _ _ (by assumption))) (Nat.le_of_ble_eq_true rfl) ⟨(Nat.le_of_ble_eq_true rfl), (Nat.le_of_ble_eq_true rfl)⟩ rfl (Nat.le_of_ble_eq_true rfl) rfl rfl (fun _ _ h => h.elim) ?_
                  rintro _ _ ⟨_, _, ⟨_, rfl, _, _, _, _, hm, rfl⟩, rfl, rfl⟩
                  refine j_w (z_cw _ _ _ _ _ _ _ _ _ _ _ _ _ _ _ _ _ _ _ _ _ _ _ _ _ _ _ _ _ _ _ _ _ _ _ _ _ _ _ _ _ _ _ _ _ _ _ _ _ _ _ _ _ _ _ _ [], z_no) rfl ?_
                  refine j_istore (lo' := [(10, _), (9, _), (8, _), (5, _), (7, _), (6, _), (0, _), (1, _), (2, _), (3, _), (4, _)]) dX8_isCallLike_115 (by decide) rfl ?_
                  refine j_aload dX8_isCallLike_117 rfl rfl ?_
                  refine j_aload_n dX8_isCallLike_119 rfl rfl ?_
                  refine j_getf dX8_isCallLike_120 fX8_40 rfl rfl ?_
                  refine j_acmp_ne (tgt := 133) dX8_isCallLike_123 (by decide) (fun c_123 => ?_) (fun c_123 => ?_)
                  · refine j_iload dX8_isCallLike_133 rfl ?_
                    refine j_iload dX8_isCallLike_135 rfl ?_
                    refine j_icmp_ne (tgt := 152) dX8_isCallLike_137 (by decide) (fun c_137 => ?_) (fun c_137 => ?_)
                    · refine j_iconst (v := 0) dX8_isCallLike_152 (by decide) ?_
                      refine j_iret dX8_isCallLike_153 rfl rfl ?_ (Nat.le_of_ble_eq_true rfl) (Nat.le_of_ble_eq_true rfl)
                      first | exact ⟨rfl, rfl, ⟨true, rfl⟩, _, _, _, _, _, _, _, _, _, _, _, _, (by assumption), (by assumption), (by assumption), rfl⟩ | exact ⟨rfl, rfl, ⟨false, rfl⟩, _, _, _, _, _, _, _, _, _, _, _, _, (by assumption), (by assumption), (by assumption), rfl⟩
                    · refine j_aload dX8_isCallLike_140 rfl rfl ?_
                      refine j_aload_n dX8_isCallLike_142 rfl rfl ?_
                      refine j_getf dX8_isCallLike_143 fX8_40 rfl rfl ?_
                      refine j_callV (q := (RX4, TX4, 5)) dX8_isCallLike_146 kX4_hasPairsOf lX8_230 inX4_hasPairsOf seX4_hasPairsOf rfl rfl (z_frame [46, 47, 48, 49, 50, 35, 36, 37, 38, 39] rfl (by decide) (Nat.le_of_ble_eq_true rfl) (c_X4_hasPairsOf hl _ _ _ _ _ _ _ _ _ _)) (Nat.le_of_ble_eq_true rfl) ⟨(Nat.le_of_ble_eq_true rfl), (Nat.le_of_ble_eq_true rfl)⟩ rfl (Nat.le_of_ble_eq_true rfl) rfl rfl (fun _ _ h => h.elim) ?_
                      rintro _ _ ⟨_, _, ⟨b, rfl, rfl⟩, rfl, rfl⟩
                      refine j_w (z_cw _ _ _ _ _ _ _ _ _ _ _ _ _ _ _ _ _ _ _ _ _ _ _ _ _ _ _ _ _ _ _ _ _ _ _ _ _ _ _ _ _ _ _ _ _ _ _ _ _ _ _ _ _ _ _ _ [], z_no) rfl ?_
                      refine j_if_ne (tgt := 154) dX8_isCallLike_149 (by decide) (fun c_149 => ?_) (fun c_149 => ?_)
                      · refine j_iinc (lo' := [(8, _), (10, _), (9, _), (5, _), (7, _), (6, _), (0, _), (1, _), (2, _), (3, _), (4, _)]) dX8_isCallLike_154 rfl rfl (by decide) rfl ?_
                        refine j_goto (tgt := 17) dX8_isCallLike_157 (by decide) ?_
                        refine j_iload dX8_isCallLike_17 rfl ?_
                        refine j_iload dX8_isCallLike_19 rfl ?_
                        refine j_icmp_ge (tgt := 160) dX8_isCallLike_21 (by decide) (fun c_21 => ?_) (fun c_21 => ?_)
                        · refine j_iconst (v := 1) dX8_isCallLike_160 (by decide) ?_
                          refine j_iret dX8_isCallLike_161 rfl rfl ?_ (Nat.le_of_ble_eq_true rfl) (Nat.le_of_ble_eq_true rfl)
                          first | exact ⟨rfl, rfl, ⟨true, rfl⟩, _, _, _, _, _, _, _, _, _, _, _, _, (by assumption), (by assumption), (by assumption), rfl⟩ | exact ⟨rfl, rfl, ⟨false, rfl⟩, _, _, _, _, _, _, _, _, _, _, _, _, (by assumption), (by assumption), (by assumption), rfl⟩
                        · exact absurd (by decide) c_21
                      · refine j_iconst (v := 0) dX8_isCallLike_152 (by decide) ?_
                        refine j_iret dX8_isCallLike_153 rfl rfl ?_ (Nat.le_of_ble_eq_true rfl) (Nat.le_of_ble_eq_true rfl)
                        first | exact ⟨rfl, rfl, ⟨true, rfl⟩, _, _, _, _, _, _, _, _, _, _, _, _, (by assumption), (by assumption), (by assumption), rfl⟩ | exact ⟨rfl, rfl, ⟨false, rfl⟩, _, _, _, _, _, _, _, _, _, _, _, _, (by assumption), (by assumption), (by assumption), rfl⟩
                  · exact absurd c_123 (by decide)
              · refine j_iconst (v := 0) dX8_isCallLike_152 (by decide) ?_
                refine j_iret dX8_isCallLike_153 rfl rfl ?_ (Nat.le_of_ble_eq_true rfl) (Nat.le_of_ble_eq_true rfl)
                first | exact ⟨rfl, rfl, ⟨true, rfl⟩, _, _, _, _, _, _, _, _, _, _, _, _, (by assumption), (by assumption), (by assumption), rfl⟩ | exact ⟨rfl, rfl, ⟨false, rfl⟩, _, _, _, _, _, _, _, _, _, _, _, _, (by assumption), (by assumption), (by assumption), rfl⟩
          · exact absurd c_123 (by decide)
set_option maxRecDepth 100000 in
set_option maxHeartbeats 8000000 in
theorem c_X8_areCallsLike_21 (hl : l.stackTraces = false) (rf : Int32) (kn : Int32) (ma : Int32) (xa : Bool) (fa : Nat → Int32) (ca : Nat → Int32) (mb : Int32) (xb : Bool) (fb : Nat → Int32) (cb : Nat → Int32) (mt : Int32) (xt : Bool) (ft : Nat → Int32) (ct : Nat → Int32) (f0 : Nat → Int32) (g0 : Nat → Int32) (c0 : Nat → Int32) (m0 : Int32) (s0 : Int32) (f1 : Nat → Int32) (g1 : Nat → Int32) (c1 : Nat → Int32) (m1 : Int32) (s1 : Int32) (f2 : Nat → Int32) (g2 : Nat → Int32) (c2 : Nat → Int32) (m2 : Int32) (s2 : Int32) (f3 : Nat → Int32) (g3 : Nat → Int32) (c3 : Nat → Int32) (m3 : Int32) (s3 : Int32) (f4 : Nat → Int32) (g4 : Nat → Int32) (c4 : Nat → Int32) (m4 : Int32) (s4 : Int32) (f5 : Nat → Int32) (g5 : Nat → Int32) (c5 : Nat → Int32) (m5 : Int32) (s5 : Int32) (ek0 : Int32) (em0 : Int32) (es0 : Int32) (el0 : Int32) (b0 : Int32) (ef0 : Nat → Int32) (ek1 : Int32) (em1 : Int32) (es1 : Int32) (el1 : Int32) (b1 : Int32) (ef1 : Nat → Int32) (h0 : z_m20 m0) (h1 : z_m20 m1) (h2 : z_m20 m2) (h3 : z_m20 m3) (h4 : z_m20 m4) (h5 : z_m20 m5): z_CF G l mX8_areCallsLike 18 0 0 (z_cw rf kn ma xa fa ca mb xb fb cb mt xt ft ct f0 g0 c0 m0 s0 f1 g1 c1 m1 s1 f2 g2 c2 m2 s2 f3 g3 c3 m3 s3 f4 g4 c4 m4 s4 f5 g5 c5 m5 s5 ek0 em0 es0 el0 b0 ef0 ek1 em1 es1 el1 b1 ef1 []) [.ref 0, .ref 21] (fun v L => (∃ b : Bool, v = some (.int (z_bi b))) ∧ ∃ (f3' g3' c3' : Nat → Int32) (m3' : Int32) (f4' g4' c4' : Nat → Int32) (m4' : Int32) (f5' g5' c5' : Nat → Int32) (m5' : Int32), z_m20 m3' ∧ z_m20 m4' ∧ z_m20 m5' ∧ L = (z_cw rf kn ma xa fa ca mb xb fb cb mt xt ft ct f0 g0 c0 m0 s0 f1 g1 c1 m1 s1 f2 g2 c2 m2 s2 f3' g3' c3' m3' s3 f4' g4' c4' m4' s4 f5' g5' c5' m5' s5 ek0 em0 es0 el0 b0 ef0 ek1 em1 es1 el1 b1 ef1 [])) := by
  refine z_body hl (by decide) rfl (Nat.le_of_ble_eq_true rfl) ?_
  show z_J G l mX8_areCallsLike (z_SF 18 0 0 (z_cw rf kn ma xa fa ca mb xb fb cb mt xt ft ct f0 g0 c0 m0 s0 f1 g1 c1 m1 s1 f2 g2 c2 m2 s2 f3 g3 c3 m3 s3 f4 g4 c4 m4 s4 f5 g5 c5 m5 s5 ek0 em0 es0 el0 b0 ef0 ek1 em1 es1 el1 b1 ef1 []) (fun v L => (∃ b : Bool, v = some (.int (z_bi b))) ∧ ∃ (f3' g3' c3' : Nat → Int32) (m3' : Int32) (f4' g4' c4' : Nat → Int32) (m4' : Int32) (f5' g5' c5' : Nat → Int32) (m5' : Int32), z_m20 m3' ∧ z_m20 m4' ∧ z_m20 m5' ∧ L = (z_cw rf kn ma xa fa ca mb xb fb cb mt xt ft ct f0 g0 c0 m0 s0 f1 g1 c1 m1 s1 f2 g2 c2 m2 s2 f3' g3' c3' m3' s3 f4' g4' c4' m4' s4 f5' g5' c5' m5' s5 ek0 em0 es0 el0 b0 ef0 ek1 em1 es1 el1 b1 ef1 []))) 0 [(0, _), (1, _)] [] _ 0 0
  refine j_iconst (v := 0) dX8_areCallsLike_0 (by decide) ?_
  refine j_istore_n (lo' := [(2, _), (0, _), (1, _)]) dX8_areCallsLike_1 (by decide) rfl ?_
  have loop : ∀ (n j : Nat) (f3' g3' c3' : Nat → Int32) (m3' : Int32) (f4' g4' c4' : Nat → Int32) (m4' : Int32) (f5' g5' c5' : Nat → Int32) (m5' : Int32), j ≤ 4 → 4 < j + n → z_m20 m3' → z_m20 m4' → z_m20 m5' → z_J G l mX8_areCallsLike (z_SF 18 0 0 (z_cw rf kn ma xa fa ca mb xb fb cb mt xt ft ct f0 g0 c0 m0 s0 f1 g1 c1 m1 s1 f2 g2 c2 m2 s2 f3 g3 c3 m3 s3 f4 g4 c4 m4 s4 f5 g5 c5 m5 s5 ek0 em0 es0 el0 b0 ef0 ek1 em1 es1 el1 b1 ef1 []) (fun v L => (∃ b : Bool, v = some (.int (z_bi b))) ∧ ∃ (f3' g3' c3' : Nat → Int32) (m3' : Int32) (f4' g4' c4' : Nat → Int32) (m4' : Int32) (f5' g5' c5' : Nat → Int32) (m5' : Int32), z_m20 m3' ∧ z_m20 m4' ∧ z_m20 m5' ∧ L = (z_cw rf kn ma xa fa ca mb xb fb cb mt xt ft ct f0 g0 c0 m0 s0 f1 g1 c1 m1 s1 f2 g2 c2 m2 s2 f3' g3' c3' m3' s3 f4' g4' c4' m4' s4 f5' g5' c5' m5' s5 ek0 em0 es0 el0 b0 ef0 ek1 em1 es1 el1 b1 ef1 []))) 2 [(0, .ref 0), (1, .ref 21), (2, .int (nI j))] [] ((z_cw rf kn ma xa fa ca mb xb fb cb mt xt ft ct f0 g0 c0 m0 s0 f1 g1 c1 m1 s1 f2 g2 c2 m2 s2 f3' g3' c3' m3' s3 f4' g4' c4' m4' s4 f5' g5' c5' m5' s5 ek0 em0 es0 el0 b0 ef0 ek1 em1 es1 el1 b1 ef1 []), z_no) 0 0 := by
    intro n
    induction n with
    | zero => intro j f3' g3' c3' m3' f4' g4' c4' m4' f5' g5' c5' m5' h1 h2 q3 q4 q5; exact absurd h2 (by omega)
    | succ n ih =>
      intro j f3' g3' c3' m3' f4' g4' c4' m4' f5' g5' c5' m5' h1 h2 q3 q4 q5
      refine j_iload_n dX8_areCallsLike_2 rfl ?_
      refine j_iconst (v := 3) dX8_areCallsLike_3 (by decide) ?_
      refine j_icmp_gt (tgt := 61) dX8_areCallsLike_4 (by decide) (fun c_4 => ?_) (fun c_4 => ?_)
      · refine j_iconst (v := 1) dX8_areCallsLike_61 (by decide) ?_
        refine j_iret dX8_areCallsLike_62 rfl rfl ?_ (Nat.le_of_ble_eq_true rfl) (Nat.le_of_ble_eq_true rfl)
        first | exact ⟨rfl, rfl, ⟨true, rfl⟩, _, _, _, _, _, _, _, _, _, _, _, _, (by assumption), (by assumption), (by assumption), rfl⟩ | exact ⟨rfl, rfl, ⟨false, rfl⟩, _, _, _, _, _, _, _, _, _, _, _, _, (by assumption), (by assumption), (by assumption), rfl⟩
      · have hj : j ≤ 3 := z_leZ 3 rfl c_4 (by omega) (by decide)
        refine j_iconst (v := 0) dX8_areCallsLike_7 (by decide) ?_
        refine j_istore_n (lo' := [(3, _), (0, _), (1, _), (2, _)]) dX8_areCallsLike_8 (by decide) rfl ?_
        have loopj : ∀ (nj jj : Nat) (f3' g3' c3' : Nat → Int32) (m3' : Int32) (f4' g4' c4' : Nat → Int32) (m4' : Int32) (f5' g5' c5' : Nat → Int32) (m5' : Int32), jj ≤ 4 → 4 < jj + nj → z_m20 m3' → z_m20 m4' → z_m20 m5' → z_J G l mX8_areCallsLike (z_SF 18 0 0 (z_cw rf kn ma xa fa ca mb xb fb cb mt xt ft ct f0 g0 c0 m0 s0 f1 g1 c1 m1 s1 f2 g2 c2 m2 s2 f3 g3 c3 m3 s3 f4 g4 c4 m4 s4 f5 g5 c5 m5 s5 ek0 em0 es0 el0 b0 ef0 ek1 em1 es1 el1 b1 ef1 []) (fun v L => (∃ b : Bool, v = some (.int (z_bi b))) ∧ ∃ (f3' g3' c3' : Nat → Int32) (m3' : Int32) (f4' g4' c4' : Nat → Int32) (m4' : Int32) (f5' g5' c5' : Nat → Int32) (m5' : Int32), z_m20 m3' ∧ z_m20 m4' ∧ z_m20 m5' ∧ L = (z_cw rf kn ma xa fa ca mb xb fb cb mt xt ft ct f0 g0 c0 m0 s0 f1 g1 c1 m1 s1 f2 g2 c2 m2 s2 f3' g3' c3' m3' s3 f4' g4' c4' m4' s4 f5' g5' c5' m5' s5 ek0 em0 es0 el0 b0 ef0 ek1 em1 es1 el1 b1 ef1 []))) 9 [(0, .ref 0), (1, .ref 21), (2, .int (nI j)), (3, .int (nI jj))] [] ((z_cw rf kn ma xa fa ca mb xb fb cb mt xt ft ct f0 g0 c0 m0 s0 f1 g1 c1 m1 s1 f2 g2 c2 m2 s2 f3' g3' c3' m3' s3 f4' g4' c4' m4' s4 f5' g5' c5' m5' s5 ek0 em0 es0 el0 b0 ef0 ek1 em1 es1 el1 b1 ef1 []), z_no) 0 0 := by
          intro nj
          induction nj with
          | zero => intro jj f3' g3' c3' m3' f4' g4' c4' m4' f5' g5' c5' m5' h1j h2j q3 q4 q5; exact absurd h2j (by omega)
          | succ nj ihj =>
            intro jj f3' g3' c3' m3' f4' g4' c4' m4' f5' g5' c5' m5' h1j h2j q3 q4 q5
            refine j_iload_n dX8_areCallsLike_9 rfl ?_
            refine j_iconst (v := 3) dX8_areCallsLike_10 (by decide) ?_
            refine j_icmp_gt (tgt := 55) dX8_areCallsLike_11 (by decide) (fun c_11 => ?_) (fun c_11 => ?_)
            · refine j_iinc (lo' := [(2, _), (0, _), (1, _), (3, _)]) dX8_areCallsLike_55 rfl (z_inc _) (by decide) rfl ?_
              refine j_goto (tgt := 2) dX8_areCallsLike_58 (by decide) ?_
              exact j_lo2 (ih (j + 1) _ _ _ _ _ _ _ _ _ _ _ _ (by omega) (by omega) (by assumption) (by assumption) (by assumption)) (z_q1 rfl (z_q1 rfl (z_q1 rfl z_q0)))
            · have hjj : jj ≤ 3 := z_leZ 3 rfl c_11 (by omega) (by decide)
              refine j_aload_n dX8_areCallsLike_14 rfl rfl ?_
              refine j_aload_n dX8_areCallsLike_15 rfl rfl ?_
              refine j_iload_n dX8_areCallsLike_16 rfl ?_
              refine j_iload_n dX8_areCallsLike_17 rfl ?_
              refine j_iconst (v := 0) dX8_areCallsLike_18 (by decide) ?_
              refine j_callV (q := (RX8, TX8, 9)) dX8_areCallsLike_19 kX8_isCallLike lX8_346 inX8_isCallLike seX8_isCallLike rfl rfl (z_dirF (c_X8_isCallLike_21 hl _ _ _ _ _ _ _ _ _ _ _ _ _ _ _ _ _ _ _ _ _ _ _ _ _ _ _ _ _ _ _ _ _ _ _ _ _ _ _ _ _ _ _ _ _ _ _ _ _ _ _ _ _ _ _ _ _ _ _ (by assumption) (by assumption) (by assumption) (by assumption) (by assumption) (by assumption))) (Nat.le_of_ble_eq_true rfl) ⟨(Nat.le_of_ble_eq_true rfl), (Nat.le_of_ble_eq_true rfl)⟩ rfl (Nat.le_of_ble_eq_true rfl) rfl rfl (fun _ _ h => h.elim) ?_
              rintro _ _ ⟨_, ⟨⟨b, rfl⟩, _, _, _, _, _, _, _, _, _, _, _, _, q3, q4, q5, rfl⟩, rfl⟩
              refine j_if_eq (tgt := 47) dX8_areCallsLike_22 (by decide) (fun c_22 => ?_) (fun c_22 => ?_)
              · refine j_iconst (v := 0) dX8_areCallsLike_47 (by decide) ?_
                refine j_iret dX8_areCallsLike_48 rfl rfl ?_ (Nat.le_of_ble_eq_true rfl) (Nat.le_of_ble_eq_true rfl)
                first | exact ⟨rfl, rfl, ⟨true, rfl⟩, _, _, _, _, _, _, _, _, _, _, _, _, (by assumption), (by assumption), (by assumption), rfl⟩ | exact ⟨rfl, rfl, ⟨false, rfl⟩, _, _, _, _, _, _, _, _, _, _, _, _, (by assumption), (by assumption), (by assumption), rfl⟩
              · refine j_aload_n dX8_areCallsLike_25 rfl rfl ?_
                refine j_aload_n dX8_areCallsLike_26 rfl rfl ?_
                refine j_iload_n dX8_areCallsLike_27 rfl ?_
                refine j_iload_n dX8_areCallsLike_28 rfl ?_
                refine j_iconst (v := 2) dX8_areCallsLike_29 (by decide) ?_
                refine j_callV (q := (RX8, TX8, 9)) dX8_areCallsLike_30 kX8_isCallLike lX8_346 inX8_isCallLike seX8_isCallLike rfl rfl (z_dirF (c_X8_isCallLike_21 hl _ _ _ _ _ _ _ _ _ _ _ _ _ _ _ _ _ _ _ _ _ _ _ _ _ _ _ _ _ _ _ _ _ _ _ _ _ _ _ _ _ _ _ _ _ _ _ _ _ _ _ _ _ _ _ _ _ _ _ (by assumption) (by assumption) (by assumption) (by assumption) (by assumption) (by assumption))) (Nat.le_of_ble_eq_true rfl) ⟨(Nat.le_of_ble_eq_true rfl), (Nat.le_of_ble_eq_true rfl)⟩ rfl (Nat.le_of_ble_eq_true rfl) rfl rfl (fun _ _ h => h.elim) ?_
                rintro _ _ ⟨_, ⟨⟨b, rfl⟩, _, _, _, _, _, _, _, _, _, _, _, _, q3, q4, q5, rfl⟩, rfl⟩
                refine j_if_eq (tgt := 47) dX8_areCallsLike_33 (by decide) (fun c_33 => ?_) (fun c_33 => ?_)
                · refine j_iconst (v := 0) dX8_areCallsLike_47 (by decide) ?_
                  refine j_iret dX8_areCallsLike_48 rfl rfl ?_ (Nat.le_of_ble_eq_true rfl) (Nat.le_of_ble_eq_true rfl)
                  first | exact ⟨rfl, rfl, ⟨true, rfl⟩, _, _, _, _, _, _, _, _, _, _, _, _, (by assumption), (by assumption), (by assumption), rfl⟩ | exact ⟨rfl, rfl, ⟨false, rfl⟩, _, _, _, _, _, _, _, _, _, _, _, _, (by assumption), (by assumption), (by assumption), rfl⟩
                · refine j_aload_n dX8_areCallsLike_36 rfl rfl ?_
                  refine j_aload_n dX8_areCallsLike_37 rfl rfl ?_
                  refine j_iload_n dX8_areCallsLike_38 rfl ?_
                  refine j_iload_n dX8_areCallsLike_39 rfl ?_
                  refine j_iconst (v := 3) dX8_areCallsLike_40 (by decide) ?_
                  refine j_callV (q := (RX8, TX8, 9)) dX8_areCallsLike_41 kX8_isCallLike lX8_346 inX8_isCallLike seX8_isCallLike rfl rfl (z_dirF (c_X8_isCallLike_21 hl _ _ _ _ _ _ _ _ _ _ _ _ _ _ _ _ _ _ _ _ _ _ _ _ _ _ _ _ _ _ _ _ _ _ _ _ _ _ _ _ _ _ _ _ _ _ _ _ _ _ _ _ _ _ _ _ _ _ _ (by assumption) (by assumption) (by assumption) (by assumption) (by assumption) (by assumption))) (Nat.le_of_ble_eq_true rfl) ⟨(Nat.le_of_ble_eq_true rfl), (Nat.le_of_ble_eq_true rfl)⟩ rfl (Nat.le_of_ble_eq_true rfl) rfl rfl (fun _ _ h => h.elim) ?_
                  rintro _ _ ⟨_, ⟨⟨b, rfl⟩, _, _, _, _, _, _, _, _, _, _, _, _, q3, q4, q5, rfl⟩, rfl⟩
                  refine j_if_ne (tgt := 49) dX8_areCallsLike_44 (by decide) (fun c_44 => ?_) (fun c_44 => ?_)
                  · refine j_iinc (lo' := [(3, _), (0, _), (1, _), (2, _)]) dX8_areCallsLike_49 rfl (z_inc _) (by decide) rfl ?_
                    refine j_goto (tgt := 9) dX8_areCallsLike_52 (by decide) ?_
                    exact j_lo2 (ihj (jj + 1) _ _ _ _ _ _ _ _ _ _ _ _ (by omega) (by omega) (by assumption) (by assumption) (by assumption)) (z_q1 rfl (z_q1 rfl (z_q1 rfl (z_q1 rfl z_q0))))
                  · refine j_iconst (v := 0) dX8_areCallsLike_47 (by decide) ?_
                    refine j_iret dX8_areCallsLike_48 rfl rfl ?_ (Nat.le_of_ble_eq_true rfl) (Nat.le_of_ble_eq_true rfl)
                    first | exact ⟨rfl, rfl, ⟨true, rfl⟩, _, _, _, _, _, _, _, _, _, _, _, _, (by assumption), (by assumption), (by assumption), rfl⟩ | exact ⟨rfl, rfl, ⟨false, rfl⟩, _, _, _, _, _, _, _, _, _, _, _, _, (by assumption), (by assumption), (by assumption), rfl⟩
        exact j_lo2 (loopj (4 + 1) 0 _ _ _ _ _ _ _ _ _ _ _ _ (by omega) (by omega) (by assumption) (by assumption) (by assumption)) (z_q1 rfl (z_q1 rfl (z_q1 rfl (z_q1 rfl z_q0))))
  exact j_lo2 (loop (4 + 1) 0 _ _ _ _ _ _ _ _ _ _ _ _ (by omega) (by omega) (by assumption) (by assumption) (by assumption)) (z_q1 rfl (z_q1 rfl (z_q1 rfl z_q0)))
end ZL8
