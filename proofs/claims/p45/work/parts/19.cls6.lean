section ZL6
variable {G : z_G} {l : Launch}
set_option maxRecDepth 100000 in
set_option maxHeartbeats 1000000 in
theorem c_X8_replaceAll (hl : l.stackTraces = false) (rf : Int32) (kn : Int32) (ma : Int32) (xa : Bool) (fa : Nat → Int32) (ca : Nat → Int32) (mb : Int32) (xb : Bool) (fb : Nat → Int32) (cb : Nat → Int32) (mt : Int32) (xt : Bool) (ft : Nat → Int32) (ct : Nat → Int32) (f0 : Nat → Int32) (g0 : Nat → Int32) (c0 : Nat → Int32) (m0 : Int32) (s0 : Int32) (f1 : Nat → Int32) (g1 : Nat → Int32) (c1 : Nat → Int32) (m1 : Int32) (s1 : Int32) (f2 : Nat → Int32) (g2 : Nat → Int32) (c2 : Nat → Int32) (m2 : Int32) (s2 : Int32) (f3 : Nat → Int32) (g3 : Nat → Int32) (c3 : Nat → Int32) (m3 : Int32) (s3 : Int32) (f4 : Nat → Int32) (g4 : Nat → Int32) (c4 : Nat → Int32) (m4 : Int32) (s4 : Int32) (f5 : Nat → Int32) (g5 : Nat → Int32) (c5 : Nat → Int32) (m5 : Int32) (s5 : Int32) (ek0 : Int32) (em0 : Int32) (es0 : Int32) (el0 : Int32) (b0 : Int32) (ef0 : Nat → Int32) (ek1 : Int32) (em1 : Int32) (es1 : Int32) (el1 : Int32) (b1 : Int32) (ef1 : Nat → Int32) (r p q : Int32) (h0 : z_m20 m0) (h1 : z_m20 m1) (h2 : z_m20 m2) (h3 : z_m20 m3) (h4 : z_m20 m4) (h5 : z_m20 m5) : z_CX G l mX8_replaceAll 20 14 120 (z_cw rf kn ma xa fa ca mb xb fb cb mt xt ft ct f0 g0 c0 m0 s0 f1 g1 c1 m1 s1 f2 g2 c2 m2 s2 f3 g3 c3 m3 s3 f4 g4 c4 m4 s4 f5 g5 c5 m5 s5 ek0 em0 es0 el0 b0 ef0 ek1 em1 es1 el1 b1 ef1 []) [.ref 0, .int r, .int p, .int q] (fun v L => (∃ x : Int32, v = some (.int x)) ∧ z_Wk kn xa xb b0 b1 L) (fun E L => z_xIA E ∧ L = (z_cw rf kn ma xa fa ca mb xb fb cb mt xt ft ct f0 g0 c0 m0 s0 f1 g1 c1 m1 s1 f2 g2 c2 m2 s2 f3 g3 c3 m3 s3 f4 g4 c4 m4 s4 f5 g5 c5 m5 s5 ek0 em0 es0 el0 b0 ef0 ek1 em1 es1 el1 b1 ef1 [])) := by
  refine z_body hl (by decide) rfl (Nat.le_of_ble_eq_true rfl) ?_
  show z_J G l mX8_replaceAll (z_SX 20 14 120 (z_cw rf kn ma xa fa ca mb xb fb cb mt xt ft ct f0 g0 c0 m0 s0 f1 g1 c1 m1 s1 f2 g2 c2 m2 s2 f3 g3 c3 m3 s3 f4 g4 c4 m4 s4 f5 g5 c5 m5 s5 ek0 em0 es0 el0 b0 ef0 ek1 em1 es1 el1 b1 ef1 []) (fun v L => (∃ x : Int32, v = some (.int x)) ∧ z_Wk kn xa xb b0 b1 L) (fun E L => z_xIA E ∧ L = (z_cw rf kn ma xa fa ca mb xb fb cb mt xt ft ct f0 g0 c0 m0 s0 f1 g1 c1 m1 s1 f2 g2 c2 m2 s2 f3 g3 c3 m3 s3 f4 g4 c4 m4 s4 f5 g5 c5 m5 s5 ek0 em0 es0 el0 b0 ef0 ek1 em1 es1 el1 b1 ef1 []))) 0 [(0, _), (1, _), (2, _), (3, _)] [] _ 0 0
  refine j_aload_n dX8_replaceAll_0 rfl rfl ?_
  refine j_iload_n dX8_replaceAll_1 rfl ?_
  refine j_callV (q := (RX8, TX8, 9)) dX8_replaceAll_2 kX8_rowFor lX8_46 inX8_rowFor seX8_rowFor rfl rfl (z_dirX (c_X8_rowFor hl _ _ _ _ _ _ _ _ _ _ _ _ _ _ _ _ _ _ _ _ _ _ _ _ _ _ _ _ _ _ _ _ _ _ _ _ _ _ _ _ _ _ _ _ _ _ _ _ _ _ _ _ _ _ _ _ _)) (Nat.le_of_ble_eq_true rfl) ⟨(Nat.le_of_ble_eq_true rfl), (Nat.le_of_ble_eq_true rfl)⟩ rfl (Nat.le_of_ble_eq_true rfl) rfl rfl (fun _ _ h => by obtain ⟨_, ⟨h1, rfl⟩, rfl⟩ := h; exact ⟨rfl, rfl, x_I_IA h1, rfl⟩) ?_
  rintro _ _ ⟨_, ⟨_, rfl, hr, rfl⟩, rfl⟩
  have hq_2 := hr
  rcases hr with ⟨e_2, rfl⟩ | ⟨e_2, rfl⟩
  · refine j_astore (lo' := [(4, _), (0, _), (1, _), (2, _), (3, _)]) dX8_replaceAll_5 rfl (by decide) rfl ?_
    refine j_iload_n dX8_replaceAll_7 rfl ?_
    refine j_if_eq (tgt := 21) dX8_replaceAll_8 (by decide) (fun c_8 => ?_) (fun c_8 => ?_)
    · refine j_iconst (v := 1) dX8_replaceAll_21 (by decide) ?_
      refine j_goto (tgt := 26) dX8_replaceAll_22 (by decide) ?_
      refine j_callS dX8_replaceAll_26 kX8_checkRule lX8_112 stX8_checkRule (c_X8_checkRule hl _ _) (Nat.le_of_ble_eq_true rfl) ⟨(Nat.le_of_ble_eq_true rfl), (Nat.le_of_ble_eq_true rfl)⟩ rfl (Nat.le_of_ble_eq_true rfl) rfl rfl (fun _ _ h => by obtain ⟨h1, rfl⟩ := h; exact ⟨rfl, rfl, x_A_IA h1, rfl⟩) ?_
      rintro _ _ ⟨rfl, rfl⟩
      refine j_iload_n dX8_replaceAll_29 rfl ?_
      refine j_callS dX8_replaceAll_30 kX8_checkValue lX8_50 stX8_checkValue (c_X8_checkValue hl _ _) (Nat.le_of_ble_eq_true rfl) ⟨(Nat.le_of_ble_eq_true rfl), (Nat.le_of_ble_eq_true rfl)⟩ rfl (Nat.le_of_ble_eq_true rfl) rfl rfl (fun _ _ h => by obtain ⟨h1, rfl⟩ := h; exact ⟨rfl, rfl, x_A_IA h1, rfl⟩) ?_
      rintro _ _ ⟨rfl, rfl⟩
      refine j_new (w' := (z_cw _ _ _ _ _ _ _ _ _ _ _ _ _ _ _ _ _ _ _ _ _ _ _ _ _ _ _ _ _ _ _ _ _ _ _ _ _ _ _ _ _ _ _ _ _ _ _ _ _ _ _ _ _ _ _ _ [.inr (7, [_, _, _, _, _])], z_no)) (n := 51) dX8_replaceAll_33 nX8_91 rfl (z_al_l rfl rfl) (Nat.le_of_ble_eq_true rfl) (Nat.le_of_ble_eq_true rfl) ?_
      refine j_dup dX8_replaceAll_36 rfl ?_
      refine j_aload dX8_replaceAll_37 rfl rfl ?_
      refine j_callI dX8_replaceAll_39 kX2_init rfl lX8_93 inX2_init rfl (z_frame [51, 2, 3, 4, 5] rfl (by decide) (Nat.le_of_ble_eq_true rfl) (c_X2_init hl _ _ _ _)) (Nat.le_of_ble_eq_true rfl) ⟨(Nat.le_of_ble_eq_true rfl), (Nat.le_of_ble_eq_true rfl)⟩ rfl (Nat.le_of_ble_eq_true rfl) rfl rfl (fun _ _ h => h.elim) ?_
      rintro _ _ ⟨_, _, ⟨rfl, _, rfl⟩, rfl, rfl⟩
      refine j_w (z_cw _ _ _ _ _ _ _ _ _ _ _ _ _ _ _ _ _ _ _ _ _ _ _ _ _ _ _ _ _ _ _ _ _ _ _ _ _ _ _ _ _ _ _ _ _ _ _ _ _ _ _ _ _ _ _ _ [.inr (7, [_, _, _, _, _])], z_no) rfl ?_
      refine j_iload_n dX8_replaceAll_42 rfl ?_
      refine j_iload_n dX8_replaceAll_43 rfl ?_
      refine j_callS dX8_replaceAll_44 kX8_changeEach lX8_115 stX8_changeEach (z_frame [51, 2, 3, 4, 5] rfl (by decide) (Nat.le_of_ble_eq_true rfl) (c_X8_changeEach_X2 hl _ _ _ _ _ _ _ _ _)) (Nat.le_of_ble_eq_true rfl) ⟨(Nat.le_of_ble_eq_true rfl), (Nat.le_of_ble_eq_true rfl)⟩ rfl (Nat.le_of_ble_eq_true rfl) rfl rfl (fun _ _ h => h.elim) ?_
      rintro _ _ ⟨_, _, ⟨⟨b, rfl⟩, _, _, _, _, _, rfl⟩, rfl, rfl⟩
      refine j_w (z_cw _ _ _ _ _ _ _ _ _ _ _ _ _ _ _ _ _ _ _ _ _ _ _ _ _ _ _ _ _ _ _ _ _ _ _ _ _ _ _ _ _ _ _ _ _ _ _ _ _ _ _ _ _ _ _ _ [.inr (7, [_, _, _, _, _])], z_no) rfl ?_
      refine j_istore (lo' := [(5, _), (4, _), (0, _), (1, _), (2, _), (3, _)]) dX8_replaceAll_47 (by decide) rfl ?_
      refine j_dropL (n := 51) rfl (Nat.le_of_ble_eq_true rfl) (Nat.le_of_ble_eq_true rfl) (Nat.le_of_ble_eq_true rfl) z_cwc rfl rfl ?_
      refine j_w (z_cw _ _ _ _ _ _ _ _ _ _ _ _ _ _ _ _ _ _ _ _ _ _ _ _ _ _ _ _ _ _ _ _ _ _ _ _ _ _ _ _ _ _ _ _ _ _ _ _ _ _ _ _ _ _ _ _ [], z_no) rfl ?_
      refine j_iload dX8_replaceAll_49 rfl ?_
      refine j_if_eq (tgt := 62) dX8_replaceAll_51 (by decide) (fun c_51 => ?_) (fun c_51 => ?_)
      · refine j_aload_n dX8_replaceAll_62 rfl rfl ?_
        refine j_callV (q := (RX8, TX8, 9)) dX8_replaceAll_63 kX8_refused lX8_119 inX8_refused seX8_refused rfl rfl (z_dirF (c_X8_refused hl _ _ _ _ _ _ _ _ _ _ _ _ _ _ _ _ _ _ _ _ _ _ _ _ _ _ _ _ _ _ _ _ _ _ _ _ _ _ _ _ _ _ _ _ _ _ _ _ _ _ _ _ _ _ _ _)) (Nat.le_of_ble_eq_true rfl) ⟨(Nat.le_of_ble_eq_true rfl), (Nat.le_of_ble_eq_true rfl)⟩ rfl (Nat.le_of_ble_eq_true rfl) rfl rfl (fun _ _ h => h.elim) ?_
        rintro _ _ ⟨_, ⟨⟨_, rfl⟩, _, rfl⟩, rfl⟩
        refine j_iret dX8_replaceAll_66 rfl rfl ?_ (Nat.le_of_ble_eq_true rfl) (Nat.le_of_ble_eq_true rfl)
        exact ⟨rfl, rfl, ⟨_, rfl⟩, (z_wk (by first | assumption | exact z_m20z) (by first | assumption | exact z_m20z) (by first | assumption | exact z_m20z) (by first | assumption | exact z_m20z) (by first | assumption | exact z_m20z) (by first | assumption | exact z_m20z))⟩
      · refine j_aload dX8_replaceAll_54 rfl rfl ?_
        refine j_getf dX8_replaceAll_56 fX8_68 rfl rfl ?_
        refine j_goto (tgt := 66) dX8_replaceAll_59 (by decide) ?_
        refine j_iret dX8_replaceAll_66 rfl rfl ?_ (Nat.le_of_ble_eq_true rfl) (Nat.le_of_ble_eq_true rfl)
        exact ⟨rfl, rfl, ⟨_, rfl⟩, (z_wk (by first | assumption | exact z_m20z) (by first | assumption | exact z_m20z) (by first | assumption | exact z_m20z) (by first | assumption | exact z_m20z) (by first | assumption | exact z_m20z) (by first | assumption | exact z_m20z))⟩
    · refine j_iload_n dX8_replaceAll_11 rfl ?_
      refine j_iconst (v := 1) dX8_replaceAll_12 (by decide) ?_
      refine j_icmp_eq (tgt := 21) dX8_replaceAll_13 (by decide) (fun c_13 => ?_) (fun c_13 => ?_)
      · refine j_iconst (v := 1) dX8_replaceAll_21 (by decide) ?_
        refine j_goto (tgt := 26) dX8_replaceAll_22 (by decide) ?_
        refine j_callS dX8_replaceAll_26 kX8_checkRule lX8_112 stX8_checkRule (c_X8_checkRule hl _ _) (Nat.le_of_ble_eq_true rfl) ⟨(Nat.le_of_ble_eq_true rfl), (Nat.le_of_ble_eq_true rfl)⟩ rfl (Nat.le_of_ble_eq_true rfl) rfl rfl (fun _ _ h => by obtain ⟨h1, rfl⟩ := h; exact ⟨rfl, rfl, x_A_IA h1, rfl⟩) ?_
        rintro _ _ ⟨rfl, rfl⟩
        refine j_iload_n dX8_replaceAll_29 rfl ?_
        refine j_callS dX8_replaceAll_30 kX8_checkValue lX8_50 stX8_checkValue (c_X8_checkValue hl _ _) (Nat.le_of_ble_eq_true rfl) ⟨(Nat.le_of_ble_eq_true rfl), (Nat.le_of_ble_eq_true rfl)⟩ rfl (Nat.le_of_ble_eq_true rfl) rfl rfl (fun _ _ h => by obtain ⟨h1, rfl⟩ := h; exact ⟨rfl, rfl, x_A_IA h1, rfl⟩) ?_
        rintro _ _ ⟨rfl, rfl⟩
        refine j_new (w' := (z_cw _ _ _ _ _ _ _ _ _ _ _ _ _ _ _ _ _ _ _ _ _ _ _ _ _ _ _ _ _ _ _ _ _ _ _ _ _ _ _ _ _ _ _ _ _ _ _ _ _ _ _ _ _ _ _ _ [.inr (7, [_, _, _, _, _])], z_no)) (n := 51) dX8_replaceAll_33 nX8_91 rfl (z_al_l rfl rfl) (Nat.le_of_ble_eq_true rfl) (Nat.le_of_ble_eq_true rfl) ?_
        refine j_dup dX8_replaceAll_36 rfl ?_
        refine j_aload dX8_replaceAll_37 rfl rfl ?_
        refine j_callI dX8_replaceAll_39 kX2_init rfl lX8_93 inX2_init rfl (z_frame [51, 2, 3, 4, 5] rfl (by decide) (Nat.le_of_ble_eq_true rfl) (c_X2_init hl _ _ _ _)) (Nat.le_of_ble_eq_true rfl) ⟨(Nat.le_of_ble_eq_true rfl), (Nat.le_of_ble_eq_true rfl)⟩ rfl (Nat.le_of_ble_eq_true rfl) rfl rfl (fun _ _ h => h.elim) ?_
        rintro _ _ ⟨_, _, ⟨rfl, _, rfl⟩, rfl, rfl⟩
        refine j_w (z_cw _ _ _ _ _ _ _ _ _ _ _ _ _ _ _ _ _ _ _ _ _ _ _ _ _ _ _ _ _ _ _ _ _ _ _ _ _ _ _ _ _ _ _ _ _ _ _ _ _ _ _ _ _ _ _ _ [.inr (7, [_, _, _, _, _])], z_no) rfl ?_
        refine j_iload_n dX8_replaceAll_42 rfl ?_
        refine j_iload_n dX8_replaceAll_43 rfl ?_
        refine j_callS dX8_replaceAll_44 kX8_changeEach lX8_115 stX8_changeEach (z_frame [51, 2, 3, 4, 5] rfl (by decide) (Nat.le_of_ble_eq_true rfl) (c_X8_changeEach_X2 hl _ _ _ _ _ _ _ _ _)) (Nat.le_of_ble_eq_true rfl) ⟨(Nat.le_of_ble_eq_true rfl), (Nat.le_of_ble_eq_true rfl)⟩ rfl (Nat.le_of_ble_eq_true rfl) rfl rfl (fun _ _ h => h.elim) ?_
        rintro _ _ ⟨_, _, ⟨⟨b, rfl⟩, _, _, _, _, _, rfl⟩, rfl, rfl⟩
        refine j_w (z_cw _ _ _ _ _ _ _ _ _ _ _ _ _ _ _ _ _ _ _ _ _ _ _ _ _ _ _ _ _ _ _ _ _ _ _ _ _ _ _ _ _ _ _ _ _ _ _ _ _ _ _ _ _ _ _ _ [.inr (7, [_, _, _, _, _])], z_no) rfl ?_
        refine j_istore (lo' := [(5, _), (4, _), (0, _), (1, _), (2, _), (3, _)]) dX8_replaceAll_47 (by decide) rfl ?_
        refine j_dropL (n := 51) rfl (Nat.le_of_ble_eq_true rfl) (Nat.le_of_ble_eq_true rfl) (Nat.le_of_ble_eq_true rfl) z_cwc rfl rfl ?_
        refine j_w (z_cw _ _ _ _ _ _ _ _ _ _ _ _ _ _ _ _ _ _ _ _ _ _ _ _ _ _ _ _ _ _ _ _ _ _ _ _ _ _ _ _ _ _ _ _ _ _ _ _ _ _ _ _ _ _ _ _ [], z_no) rfl ?_
        refine j_iload dX8_replaceAll_49 rfl ?_
        refine j_if_eq (tgt := 62) dX8_replaceAll_51 (by decide) (fun c_51 => ?_) (fun c_51 => ?_)
        · refine j_aload_n dX8_replaceAll_62 rfl rfl ?_
          refine j_callV (q := (RX8, TX8, 9)) dX8_replaceAll_63 kX8_refused lX8_119 inX8_refused seX8_refused rfl rfl (z_dirF (c_X8_refused hl _ _ _ _ _ _ _ _ _ _ _ _ _ _ _ _ _ _ _ _ _ _ _ _ _ _ _ _ _ _ _ _ _ _ _ _ _ _ _ _ _ _ _ _ _ _ _ _ _ _ _ _ _ _ _ _)) (Nat.le_of_ble_eq_true rfl) ⟨(Nat.le_of_ble_eq_true rfl), (Nat.le_of_ble_eq_true rfl)⟩ rfl (Nat.le_of_ble_eq_true rfl) rfl rfl (fun _ _ h => h.elim) ?_
          rintro _ _ ⟨_, ⟨⟨_, rfl⟩, _, rfl⟩, rfl⟩
          refine j_iret dX8_replaceAll_66 rfl rfl ?_ (Nat.le_of_ble_eq_true rfl) (Nat.le_of_ble_eq_true rfl)
          exact ⟨rfl, rfl, ⟨_, rfl⟩, (z_wk (by first | assumption | exact z_m20z) (by first | assumption | exact z_m20z) (by first | assumption | exact z_m20z) (by first | assumption | exact z_m20z) (by first | assumption | exact z_m20z) (by first | assumption | exact z_m20z))⟩
        · refine j_aload dX8_replaceAll_54 rfl rfl ?_
          refine j_getf dX8_replaceAll_56 fX8_68 rfl rfl ?_
          refine j_goto (tgt := 66) dX8_replaceAll_59 (by decide) ?_
          refine j_iret dX8_replaceAll_66 rfl rfl ?_ (Nat.le_of_ble_eq_true rfl) (Nat.le_of_ble_eq_true rfl)
          exact ⟨rfl, rfl, ⟨_, rfl⟩, (z_wk (by first | assumption | exact z_m20z) (by first | assumption | exact z_m20z) (by first | assumption | exact z_m20z) (by first | assumption | exact z_m20z) (by first | assumption | exact z_m20z) (by first | assumption | exact z_m20z))⟩
      · refine j_iload_n dX8_replaceAll_16 rfl ?_
        refine j_iconst (v := 4) dX8_replaceAll_17 (by decide) ?_
        refine j_icmp_ne (tgt := 25) dX8_replaceAll_18 (by decide) (fun c_18 => ?_) (fun c_18 => ?_)
        · refine j_iconst (v := 0) dX8_replaceAll_25 (by decide) ?_
          refine j_callS dX8_replaceAll_26 kX8_checkRule lX8_112 stX8_checkRule (c_X8_checkRule hl _ _) (Nat.le_of_ble_eq_true rfl) ⟨(Nat.le_of_ble_eq_true rfl), (Nat.le_of_ble_eq_true rfl)⟩ rfl (Nat.le_of_ble_eq_true rfl) rfl rfl (fun _ _ h => by obtain ⟨h1, rfl⟩ := h; exact ⟨rfl, rfl, x_A_IA h1, rfl⟩) ?_
          rintro _ _ ⟨rfl, rfl⟩
          refine j_iload_n dX8_replaceAll_29 rfl ?_
          refine j_callS dX8_replaceAll_30 kX8_checkValue lX8_50 stX8_checkValue (c_X8_checkValue hl _ _) (Nat.le_of_ble_eq_true rfl) ⟨(Nat.le_of_ble_eq_true rfl), (Nat.le_of_ble_eq_true rfl)⟩ rfl (Nat.le_of_ble_eq_true rfl) rfl rfl (fun _ _ h => by obtain ⟨h1, rfl⟩ := h; exact ⟨rfl, rfl, x_A_IA h1, rfl⟩) ?_
          rintro _ _ ⟨rfl, rfl⟩
          refine j_new (w' := (z_cw _ _ _ _ _ _ _ _ _ _ _ _ _ _ _ _ _ _ _ _ _ _ _ _ _ _ _ _ _ _ _ _ _ _ _ _ _ _ _ _ _ _ _ _ _ _ _ _ _ _ _ _ _ _ _ _ [.inr (7, [_, _, _, _, _])], z_no)) (n := 51) dX8_replaceAll_33 nX8_91 rfl (z_al_l rfl rfl) (Nat.le_of_ble_eq_true rfl) (Nat.le_of_ble_eq_true rfl) ?_
          refine j_dup dX8_replaceAll_36 rfl ?_
          refine j_aload dX8_replaceAll_37 rfl rfl ?_
          refine j_callI dX8_replaceAll_39 kX2_init rfl lX8_93 inX2_init rfl (z_frame [51, 2, 3, 4, 5] rfl (by decide) (Nat.le_of_ble_eq_true rfl) (c_X2_init hl _ _ _ _)) (Nat.le_of_ble_eq_true rfl) ⟨(Nat.le_of_ble_eq_true rfl), (Nat.le_of_ble_eq_true rfl)⟩ rfl (Nat.le_of_ble_eq_true rfl) rfl rfl (fun _ _ h => h.elim) ?_
          rintro _ _ ⟨_, _, ⟨rfl, _, rfl⟩, rfl, rfl⟩
          refine j_w (z_cw _ _ _ _ _ _ _ _ _ _ _ _ _ _ _ _ _ _ _ _ _ _ _ _ _ _ _ _ _ _ _ _ _ _ _ _ _ _ _ _ _ _ _ _ _ _ _ _ _ _ _ _ _ _ _ _ [.inr (7, [_, _, _, _, _])], z_no) rfl ?_
          refine j_iload_n dX8_replaceAll_42 rfl ?_
          refine j_iload_n dX8_replaceAll_43 rfl ?_
          refine j_callS dX8_replaceAll_44 kX8_changeEach lX8_115 stX8_changeEach (z_frame [51, 2, 3, 4, 5] rfl (by decide) (Nat.le_of_ble_eq_true rfl) (c_X8_changeEach_X2 hl _ _ _ _ _ _ _ _ _)) (Nat.le_of_ble_eq_true rfl) ⟨(Nat.le_of_ble_eq_true rfl), (Nat.le_of_ble_eq_true rfl)⟩ rfl (Nat.le_of_ble_eq_true rfl) rfl rfl (fun _ _ h => h.elim) ?_
          rintro _ _ ⟨_, _, ⟨⟨b, rfl⟩, _, _, _, _, _, rfl⟩, rfl, rfl⟩
          refine j_w (z_cw _ _ _ _ _ _ _ _ _ _ _ _ _ _ _ _ _ _ _ _ _ _ _ _ _ _ _ _ _ _ _ _ _ _ _ _ _ _ _ _ _ _ _ _ _ _ _ _ _ _ _ _ _ _ _ _ [.inr (7, [_, _, _, _, _])], z_no) rfl ?_
          refine j_istore (lo' := [(5, _), (4, _), (0, _), (1, _), (2, _), (3, _)]) dX8_replaceAll_47 (by decide) rfl ?_
          refine j_dropL (n := 51) rfl (Nat.le_of_ble_eq_true rfl) (Nat.le_of_ble_eq_true rfl) (Nat.le_of_ble_eq_true rfl) z_cwc rfl rfl ?_
          refine j_w (z_cw _ _ _ _ _ _ _ _ _ _ _ _ _ _ _ _ _ _ _ _ _ _ _ _ _ _ _ _ _ _ _ _ _ _ _ _ _ _ _ _ _ _ _ _ _ _ _ _ _ _ _ _ _ _ _ _ [], z_no) rfl ?_
          refine j_iload dX8_replaceAll_49 rfl ?_
          refine j_if_eq (tgt := 62) dX8_replaceAll_51 (by decide) (fun c_51 => ?_) (fun c_51 => ?_)
          · refine j_aload_n dX8_replaceAll_62 rfl rfl ?_
            refine j_callV (q := (RX8, TX8, 9)) dX8_replaceAll_63 kX8_refused lX8_119 inX8_refused seX8_refused rfl rfl (z_dirF (c_X8_refused hl _ _ _ _ _ _ _ _ _ _ _ _ _ _ _ _ _ _ _ _ _ _ _ _ _ _ _ _ _ _ _ _ _ _ _ _ _ _ _ _ _ _ _ _ _ _ _ _ _ _ _ _ _ _ _ _)) (Nat.le_of_ble_eq_true rfl) ⟨(Nat.le_of_ble_eq_true rfl), (Nat.le_of_ble_eq_true rfl)⟩ rfl (Nat.le_of_ble_eq_true rfl) rfl rfl (fun _ _ h => h.elim) ?_
            rintro _ _ ⟨_, ⟨⟨_, rfl⟩, _, rfl⟩, rfl⟩
            refine j_iret dX8_replaceAll_66 rfl rfl ?_ (Nat.le_of_ble_eq_true rfl) (Nat.le_of_ble_eq_true rfl)
            exact ⟨rfl, rfl, ⟨_, rfl⟩, (z_wk (by first | assumption | exact z_m20z) (by first | assumption | exact z_m20z) (by first | assumption | exact z_m20z) (by first | assumption | exact z_m20z) (by first | assumption | exact z_m20z) (by first | assumption | exact z_m20z))⟩
          · refine j_aload dX8_replaceAll_54 rfl rfl ?_
            refine j_getf dX8_replaceAll_56 fX8_68 rfl rfl ?_
            refine j_goto (tgt := 66) dX8_replaceAll_59 (by decide) ?_
            refine j_iret dX8_replaceAll_66 rfl rfl ?_ (Nat.le_of_ble_eq_true rfl) (Nat.le_of_ble_eq_true rfl)
            exact ⟨rfl, rfl, ⟨_, rfl⟩, (z_wk (by first | assumption | exact z_m20z) (by first | assumption | exact z_m20z) (by first | assumption | exact z_m20z) (by first | assumption | exact z_m20z) (by first | assumption | exact z_m20z) (by first | assumption | exact z_m20z))⟩
        · refine j_iconst (v := 1) dX8_replaceAll_21 (by decide) ?_
          refine j_goto (tgt := 26) dX8_replaceAll_22 (by decide) ?_
          refine j_callS dX8_replaceAll_26 kX8_checkRule lX8_112 stX8_checkRule (c_X8_checkRule hl _ _) (Nat.le_of_ble_eq_true rfl) ⟨(Nat.le_of_ble_eq_true rfl), (Nat.le_of_ble_eq_true rfl)⟩ rfl (Nat.le_of_ble_eq_true rfl) rfl rfl (fun _ _ h => by obtain ⟨h1, rfl⟩ := h; exact ⟨rfl, rfl, x_A_IA h1, rfl⟩) ?_
          rintro _ _ ⟨rfl, rfl⟩
          refine j_iload_n dX8_replaceAll_29 rfl ?_
          refine j_callS dX8_replaceAll_30 kX8_checkValue lX8_50 stX8_checkValue (c_X8_checkValue hl _ _) (Nat.le_of_ble_eq_true rfl) ⟨(Nat.le_of_ble_eq_true rfl), (Nat.le_of_ble_eq_true rfl)⟩ rfl (Nat.le_of_ble_eq_true rfl) rfl rfl (fun _ _ h => by obtain ⟨h1, rfl⟩ := h; exact ⟨rfl, rfl, x_A_IA h1, rfl⟩) ?_
          rintro _ _ ⟨rfl, rfl⟩
          refine j_new (w' := (z_cw _ _ _ _ _ _ _ _ _ _ _ _ _ _ _ _ _ _ _ _ _ _ _ _ _ _ _ _ _ _ _ _ _ _ _ _ _ _ _ _ _ _ _ _ _ _ _ _ _ _ _ _ _ _ _ _ [.inr (7, [_, _, _, _, _])], z_no)) (n := 51) dX8_replaceAll_33 nX8_91 rfl (z_al_l rfl rfl) (Nat.le_of_ble_eq_true rfl) (Nat.le_of_ble_eq_true rfl) ?_
          refine j_dup dX8_replaceAll_36 rfl ?_
          refine j_aload dX8_replaceAll_37 rfl rfl ?_
          refine j_callI dX8_replaceAll_39 kX2_init rfl lX8_93 inX2_init rfl (z_frame [51, 2, 3, 4, 5] rfl (by decide) (Nat.le_of_ble_eq_true rfl) (c_X2_init hl _ _ _ _)) (Nat.le_of_ble_eq_true rfl) ⟨(Nat.le_of_ble_eq_true rfl), (Nat.le_of_ble_eq_true rfl)⟩ rfl (Nat.le_of_ble_eq_true rfl) rfl rfl (fun _ _ h => h.elim) ?_
          rintro _ _ ⟨_, _, ⟨rfl, _, rfl⟩, rfl, rfl⟩
          refine j_w (z_cw _ _ _ _ _ _ _ _ _ _ _ _ _ _ _ _ _ _ _ _ _ _ _ _ _ _ _ _ _ _ _ _ _ _ _ _ _ _ _ _ _ _ _ _ _ _ _ _ _ _ _ _ _ _ _ _ [.inr (7, [_, _, _, _, _])], z_no) rfl ?_
          refine j_iload_n dX8_replaceAll_42 rfl ?_
          refine j_iload_n dX8_replaceAll_43 rfl ?_
          refine j_callS dX8_replaceAll_44 kX8_changeEach lX8_115 stX8_changeEach (z_frame [51, 2, 3, 4, 5] rfl (by decide) (Nat.le_of_ble_eq_true rfl) (c_X8_changeEach_X2 hl _ _ _ _ _ _ _ _ _)) (Nat.le_of_ble_eq_true rfl) ⟨(Nat.le_of_ble_eq_true rfl), (Nat.le_of_ble_eq_true rfl)⟩ rfl (Nat.le_of_ble_eq_true rfl) rfl rfl (fun _ _ h => h.elim) ?_
          rintro _ _ ⟨_, _, ⟨⟨b, rfl⟩, _, _, _, _, _, rfl⟩, rfl, rfl⟩
          refine j_w (z_cw _ _ _ _ _ _ _ _ _ _ _ _ _ _ _ _ _ _ _ _ _ _ _ _ _ _ _ _ _ _ _ _ _ _ _ _ _ _ _ _ _ _ _ _ _ _ _ _ _ _ _ _ _ _ _ _ [.inr (7, [_, _, _, _, _])], z_no) rfl ?_
          refine j_istore (lo' := [(5, _), (4, _), (0, _), (1, _), (2, _), (3, _)]) dX8_replaceAll_47 (by decide) rfl ?_
          refine j_dropL (n := 51) rfl (Nat.le_of_ble_eq_true rfl) (Nat.le_of_ble_eq_true rfl) (Nat.le_of_ble_eq_true rfl) z_cwc rfl rfl ?_
          refine j_w (z_cw _ _ _ _ _ _ _ _ _ _ _ _ _ _ _ _ _ _ _ _ _ _ _ _ _ _ _ _ _ _ _ _ _ _ _ _ _ _ _ _ _ _ _ _ _ _ _ _ _ _ _ _ _ _ _ _ [], z_no) rfl ?_
          refine j_iload dX8_replaceAll_49 rfl ?_
          refine j_if_eq (tgt := 62) dX8_replaceAll_51 (by decide) (fun c_51 => ?_) (fun c_51 => ?_)
          · refine j_aload_n dX8_replaceAll_62 rfl rfl ?_
            refine j_callV (q := (RX8, TX8, 9)) dX8_replaceAll_63 kX8_refused lX8_119 inX8_refused seX8_refused rfl rfl (z_dirF (c_X8_refused hl _ _ _ _ _ _ _ _ _ _ _ _ _ _ _ _ _ _ _ _ _ _ _ _ _ _ _ _ _ _ _ _ _ _ _ _ _ _ _ _ _ _ _ _ _ _ _ _ _ _ _ _ _ _ _ _)) (Nat.le_of_ble_eq_true rfl) ⟨(Nat.le_of_ble_eq_true rfl), (Nat.le_of_ble_eq_true rfl)⟩ rfl (Nat.le_of_ble_eq_true rfl) rfl rfl (fun _ _ h => h.elim) ?_
            rintro _ _ ⟨_, ⟨⟨_, rfl⟩, _, rfl⟩, rfl⟩
            refine j_iret dX8_replaceAll_66 rfl rfl ?_ (Nat.le_of_ble_eq_true rfl) (Nat.le_of_ble_eq_true rfl)
            exact ⟨rfl, rfl, ⟨_, rfl⟩, (z_wk (by first | assumption | exact z_m20z) (by first | assumption | exact z_m20z) (by first | assumption | exact z_m20z) (by first | assumption | exact z_m20z) (by first | assumption | exact z_m20z) (by first | assumption | exact z_m20z))⟩
          · refine j_aload dX8_replaceAll_54 rfl rfl ?_
            refine j_getf dX8_replaceAll_56 fX8_68 rfl rfl ?_
            refine j_goto (tgt := 66) dX8_replaceAll_59 (by decide) ?_
            refine j_iret dX8_replaceAll_66 rfl rfl ?_ (Nat.le_of_ble_eq_true rfl) (Nat.le_of_ble_eq_true rfl)
            exact ⟨rfl, rfl, ⟨_, rfl⟩, (z_wk (by first | assumption | exact z_m20z) (by first | assumption | exact z_m20z) (by first | assumption | exact z_m20z) (by first | assumption | exact z_m20z) (by first | assumption | exact z_m20z) (by first | assumption | exact z_m20z))⟩
  · refine j_astore (lo' := [(4, _), (0, _), (1, _), (2, _), (3, _)]) dX8_replaceAll_5 rfl (by decide) rfl ?_
    refine j_iload_n dX8_replaceAll_7 rfl ?_
    refine j_if_eq (tgt := 21) dX8_replaceAll_8 (by decide) (fun c_8 => ?_) (fun c_8 => ?_)
    · refine j_iconst (v := 1) dX8_replaceAll_21 (by decide) ?_
      refine j_goto (tgt := 26) dX8_replaceAll_22 (by decide) ?_
      refine j_callS dX8_replaceAll_26 kX8_checkRule lX8_112 stX8_checkRule (c_X8_checkRule hl _ _) (Nat.le_of_ble_eq_true rfl) ⟨(Nat.le_of_ble_eq_true rfl), (Nat.le_of_ble_eq_true rfl)⟩ rfl (Nat.le_of_ble_eq_true rfl) rfl rfl (fun _ _ h => by obtain ⟨h1, rfl⟩ := h; exact ⟨rfl, rfl, x_A_IA h1, rfl⟩) ?_
      rintro _ _ ⟨rfl, rfl⟩
      refine j_iload_n dX8_replaceAll_29 rfl ?_
      refine j_callS dX8_replaceAll_30 kX8_checkValue lX8_50 stX8_checkValue (c_X8_checkValue hl _ _) (Nat.le_of_ble_eq_true rfl) ⟨(Nat.le_of_ble_eq_true rfl), (Nat.le_of_ble_eq_true rfl)⟩ rfl (Nat.le_of_ble_eq_true rfl) rfl rfl (fun _ _ h => by obtain ⟨h1, rfl⟩ := h; exact ⟨rfl, rfl, x_A_IA h1, rfl⟩) ?_
      rintro _ _ ⟨rfl, rfl⟩
      refine j_new (w' := (z_cw _ _ _ _ _ _ _ _ _ _ _ _ _ _ _ _ _ _ _ _ _ _ _ _ _ _ _ _ _ _ _ _ _ _ _ _ _ _ _ _ _ _ _ _ _ _ _ _ _ _ _ _ _ _ _ _ [.inr (7, [_, _, _, _, _])], z_no)) (n := 51) dX8_replaceAll_33 nX8_91 rfl (z_al_l rfl rfl) (Nat.le_of_ble_eq_true rfl) (Nat.le_of_ble_eq_true rfl) ?_
      refine j_dup dX8_replaceAll_36 rfl ?_
      refine j_aload dX8_replaceAll_37 rfl rfl ?_
      refine j_callI dX8_replaceAll_39 kX2_init rfl lX8_93 inX2_init rfl (z_frame [51, 6, 7, 8, 9] rfl (by decide) (Nat.le_of_ble_eq_true rfl) (c_X2_init hl _ _ _ _)) (Nat.le_of_ble_eq_true rfl) ⟨(Nat.le_of_ble_eq_true rfl), (Nat.le_of_ble_eq_true rfl)⟩ rfl (Nat.le_of_ble_eq_true rfl) rfl rfl (fun _ _ h => h.elim) ?_
      rintro _ _ ⟨_, _, ⟨rfl, _, rfl⟩, rfl, rfl⟩
      refine j_w (z_cw _ _ _ _ _ _ _ _ _ _ _ _ _ _ _ _ _ _ _ _ _ _ _ _ _ _ _ _ _ _ _ _ _ _ _ _ _ _ _ _ _ _ _ _ _ _ _ _ _ _ _ _ _ _ _ _ [.inr (7, [_, _, _, _, _])], z_no) rfl ?_
      refine j_iload_n dX8_replaceAll_42 rfl ?_
      refine j_iload_n dX8_replaceAll_43 rfl ?_
      refine j_callS dX8_replaceAll_44 kX8_changeEach lX8_115 stX8_changeEach (z_frame [51, 6, 7, 8, 9] rfl (by decide) (Nat.le_of_ble_eq_true rfl) (c_X8_changeEach_X2 hl _ _ _ _ _ _ _ _ _)) (Nat.le_of_ble_eq_true rfl) ⟨(Nat.le_of_ble_eq_true rfl), (Nat.le_of_ble_eq_true rfl)⟩ rfl (Nat.le_of_ble_eq_true rfl) rfl rfl (fun _ _ h => h.elim) ?_
      rintro _ _ ⟨_, _, ⟨⟨b, rfl⟩, _, _, _, _, _, rfl⟩, rfl, rfl⟩
      refine j_w (z_cw _ _ _ _ _ _ _ _ _ _ _ _ _ _ _ _ _ _ _ _ _ _ _ _ _ _ _ _ _ _ _ _ _ _ _ _ _ _ _ _ _ _ _ _ _ _ _ _ _ _ _ _ _ _ _ _ [.inr (7, [_, _, _, _, _])], z_no) rfl ?_
      refine j_istore (lo' := [(5, _), (4, _), (0, _), (1, _), (2, _), (3, _)]) dX8_replaceAll_47 (by decide) rfl ?_
      refine j_dropL (n := 51) rfl (Nat.le_of_ble_eq_true rfl) (Nat.le_of_ble_eq_true rfl) (Nat.le_of_ble_eq_true rfl) z_cwc rfl rfl ?_
      refine j_w (z_cw _ _ _ _ _ _ _ _ _ _ _ _ _ _ _ _ _ _ _ _ _ _ _ _ _ _ _ _ _ _ _ _ _ _ _ _ _ _ _ _ _ _ _ _ _ _ _ _ _ _ _ _ _ _ _ _ [], z_no) rfl ?_
      refine j_iload dX8_replaceAll_49 rfl ?_
      refine j_if_eq (tgt := 62) dX8_replaceAll_51 (by decide) (fun c_51 => ?_) (fun c_51 => ?_)
      · refine j_aload_n dX8_replaceAll_62 rfl rfl ?_
        refine j_callV (q := (RX8, TX8, 9)) dX8_replaceAll_63 kX8_refused lX8_119 inX8_refused seX8_refused rfl rfl (z_dirF (c_X8_refused hl _ _ _ _ _ _ _ _ _ _ _ _ _ _ _ _ _ _ _ _ _ _ _ _ _ _ _ _ _ _ _ _ _ _ _ _ _ _ _ _ _ _ _ _ _ _ _ _ _ _ _ _ _ _ _ _)) (Nat.le_of_ble_eq_true rfl) ⟨(Nat.le_of_ble_eq_true rfl), (Nat.le_of_ble_eq_true rfl)⟩ rfl (Nat.le_of_ble_eq_true rfl) rfl rfl (fun _ _ h => h.elim) ?_
        rintro _ _ ⟨_, ⟨⟨_, rfl⟩, _, rfl⟩, rfl⟩
        refine j_iret dX8_replaceAll_66 rfl rfl ?_ (Nat.le_of_ble_eq_true rfl) (Nat.le_of_ble_eq_true rfl)
        exact ⟨rfl, rfl, ⟨_, rfl⟩, (z_wk (by first | assumption | exact z_m20z) (by first | assumption | exact z_m20z) (by first | assumption | exact z_m20z) (by first | assumption | exact z_m20z) (by first | assumption | exact z_m20z) (by first | assumption | exact z_m20z))⟩
      · refine j_aload dX8_replaceAll_54 rfl rfl ?_
        refine j_getf dX8_replaceAll_56 fX8_68 rfl rfl ?_
        refine j_goto (tgt := 66) dX8_replaceAll_59 (by decide) ?_
        refine j_iret dX8_replaceAll_66 rfl rfl ?_ (Nat.le_of_ble_eq_true rfl) (Nat.le_of_ble_eq_true rfl)
        exact ⟨rfl, rfl, ⟨_, rfl⟩, (z_wk (by first | assumption | exact z_m20z) (by first | assumption | exact z_m20z) (by first | assumption | exact z_m20z) (by first | assumption | exact z_m20z) (by first | assumption | exact z_m20z) (by first | assumption | exact z_m20z))⟩
    · refine j_iload_n dX8_replaceAll_11 rfl ?_
      refine j_iconst (v := 1) dX8_replaceAll_12 (by decide) ?_
      refine j_icmp_eq (tgt := 21) dX8_replaceAll_13 (by decide) (fun c_13 => ?_) (fun c_13 => ?_)
      · refine j_iconst (v := 1) dX8_replaceAll_21 (by decide) ?_
        refine j_goto (tgt := 26) dX8_replaceAll_22 (by decide) ?_
        refine j_callS dX8_replaceAll_26 kX8_checkRule lX8_112 stX8_checkRule (c_X8_checkRule hl _ _) (Nat.le_of_ble_eq_true rfl) ⟨(Nat.le_of_ble_eq_true rfl), (Nat.le_of_ble_eq_true rfl)⟩ rfl (Nat.le_of_ble_eq_true rfl) rfl rfl (fun _ _ h => by obtain ⟨h1, rfl⟩ := h; exact ⟨rfl, rfl, x_A_IA h1, rfl⟩) ?_
        rintro _ _ ⟨rfl, rfl⟩
        refine j_iload_n dX8_replaceAll_29 rfl ?_
        refine j_callS dX8_replaceAll_30 kX8_checkValue lX8_50 stX8_checkValue (c_X8_checkValue hl _ _) (Nat.le_of_ble_eq_true rfl) ⟨(Nat.le_of_ble_eq_true rfl), (Nat.le_of_ble_eq_true rfl)⟩ rfl (Nat.le_of_ble_eq_true rfl) rfl rfl (fun _ _ h => by obtain ⟨h1, rfl⟩ := h; exact ⟨rfl, rfl, x_A_IA h1, rfl⟩) ?_
        rintro _ _ ⟨rfl, rfl⟩
        refine j_new (w' := (z_cw _ _ _ _ _ _ _ _ _ _ _ _ _ _ _ _ _ _ _ _ _ _ _ _ _ _ _ _ _ _ _ _ _ _ _ _ _ _ _ _ _ _ _ _ _ _ _ _ _ _ _ _ _ _ _ _ [.inr (7, [_, _, _, _, _])], z_no)) (n := 51) dX8_replaceAll_33 nX8_91 rfl (z_al_l rfl rfl) (Nat.le_of_ble_eq_true rfl) (Nat.le_of_ble_eq_true rfl) ?_
        refine j_dup dX8_replaceAll_36 rfl ?_
        refine j_aload dX8_replaceAll_37 rfl rfl ?_
        refine j_callI dX8_replaceAll_39 kX2_init rfl lX8_93 inX2_init rfl (z_frame [51, 6, 7, 8, 9] rfl (by decide) (Nat.le_of_ble_eq_true rfl) (c_X2_init hl _ _ _ _)) (Nat.le_of_ble_eq_true rfl) ⟨(Nat.le_of_ble_eq_true rfl), (Nat.le_of_ble_eq_true rfl)⟩ rfl (Nat.le_of_ble_eq_true rfl) rfl rfl (fun _ _ h => h.elim) ?_
        rintro _ _ ⟨_, _, ⟨rfl, _, rfl⟩, rfl, rfl⟩
        refine j_w (z_cw _ _ _ _ _ _ _ _ _ _ _ _ _ _ _ _ _ _ _ _ _ _ _ _ _ _ _ _ _ _ _ _ _ _ _ _ _ _ _ _ _ _ _ _ _ _ _ _ _ _ _ _ _ _ _ _ [.inr (7, [_, _, _, _, _])], z_no) rfl ?_
        refine j_iload_n dX8_replaceAll_42 rfl ?_
        refine j_iload_n dX8_replaceAll_43 rfl ?_
        refine j_callS dX8_replaceAll_44 kX8_changeEach lX8_115 stX8_changeEach (z_frame [51, 6, 7, 8, 9] rfl (by decide) (Nat.le_of_ble_eq_true rfl) (c_X8_changeEach_X2 hl _ _ _ _ _ _ _ _ _)) (Nat.le_of_ble_eq_true rfl) ⟨(Nat.le_of_ble_eq_true rfl), (Nat.le_of_ble_eq_true rfl)⟩ rfl (Nat.le_of_ble_eq_true rfl) rfl rfl (fun _ _ h => h.elim) ?_
        rintro _ _ ⟨_, _, ⟨⟨b, rfl⟩, _, _, _, _, _, rfl⟩, rfl, rfl⟩
        refine j_w (z_cw _ _ _ _ _ _ _ _ _ _ _ _ _ _ _ _ _ _ _ _ _ _ _ _ _ _ _ _ _ _ _ _ _ _ _ _ _ _ _ _ _ _ _ _ _ _ _ _ _ _ _ _ _ _ _ _ [.inr (7, [_, _, _, _, _])], z_no) rfl ?_
        refine j_istore (lo' := [(5, _), (4, _), (0, _), (1, _), (2, _), (3, _)]) dX8_replaceAll_47 (by decide) rfl ?_
        refine j_dropL (n := 51) rfl (Nat.le_of_ble_eq_true rfl) (Nat.le_of_ble_eq_true rfl) (Nat.le_of_ble_eq_true rfl) z_cwc rfl rfl ?_
        refine j_w (z_cw _ _ _ _ _ _ _ _ _ _ _ _ _ _ _ _ _ _ _ _ _ _ _ _ _ _ _ _ _ _ _ _ _ _ _ _ _ _ _ _ _ _ _ _ _ _ _ _ _ _ _ _ _ _ _ _ [], z_no) rfl ?_
        refine j_iload dX8_replaceAll_49 rfl ?_
        refine j_if_eq (tgt := 62) dX8_replaceAll_51 (by decide) (fun c_51 => ?_) (fun c_51 => ?_)
        · refine j_aload_n dX8_replaceAll_62 rfl rfl ?_
          refine j_callV (q := (RX8, TX8, 9)) dX8_replaceAll_63 kX8_refused lX8_119 inX8_refused seX8_refused rfl rfl (z_dirF (c_X8_refused hl _ _ _ _ _ _ _ _ _ _ _ _ _ _ _ _ _ _ _ _ _ _ _ _ _ _ _ _ _ _ _ _ _ _ _ _ _ _ _ _ _ _ _ _ _ _ _ _ _ _ _ _ _ _ _ _)) (Nat.le_of_ble_eq_true rfl) ⟨(Nat.le_of_ble_eq_true rfl), (Nat.le_of_ble_eq_true rfl)⟩ rfl (Nat.le_of_ble_eq_true rfl) rfl rfl (fun _ _ h => h.elim) ?_
          rintro _ _ ⟨_, ⟨⟨_, rfl⟩, _, rfl⟩, rfl⟩
          refine j_iret dX8_replaceAll_66 rfl rfl ?_ (Nat.le_of_ble_eq_true rfl) (Nat.le_of_ble_eq_true rfl)
          exact ⟨rfl, rfl, ⟨_, rfl⟩, (z_wk (by first | assumption | exact z_m20z) (by first | assumption | exact z_m20z) (by first | assumption | exact z_m20z) (by first | assumption | exact z_m20z) (by first | assumption | exact z_m20z) (by first | assumption | exact z_m20z))⟩
        · refine j_aload dX8_replaceAll_54 rfl rfl ?_
          refine j_getf dX8_replaceAll_56 fX8_68 rfl rfl ?_
          refine j_goto (tgt := 66) dX8_replaceAll_59 (by decide) ?_
          refine j_iret dX8_replaceAll_66 rfl rfl ?_ (Nat.le_of_ble_eq_true rfl) (Nat.le_of_ble_eq_true rfl)
          exact ⟨rfl, rfl, ⟨_, rfl⟩, (z_wk (by first | assumption | exact z_m20z) (by first | assumption | exact z_m20z) (by first | assumption | exact z_m20z) (by first | assumption | exact z_m20z) (by first | assumption | exact z_m20z) (by first | assumption | exact z_m20z))⟩
      · refine j_iload_n dX8_replaceAll_16 rfl ?_
        refine j_iconst (v := 4) dX8_replaceAll_17 (by decide) ?_
        refine j_icmp_ne (tgt := 25) dX8_replaceAll_18 (by decide) (fun c_18 => ?_) (fun c_18 => ?_)
        · refine j_iconst (v := 0) dX8_replaceAll_25 (by decide) ?_
          refine j_callS dX8_replaceAll_26 kX8_checkRule lX8_112 stX8_checkRule (c_X8_checkRule hl _ _) (Nat.le_of_ble_eq_true rfl) ⟨(Nat.le_of_ble_eq_true rfl), (Nat.le_of_ble_eq_true rfl)⟩ rfl (Nat.le_of_ble_eq_true rfl) rfl rfl (fun _ _ h => by obtain ⟨h1, rfl⟩ := h; exact ⟨rfl, rfl, x_A_IA h1, rfl⟩) ?_
          rintro _ _ ⟨rfl, rfl⟩
          refine j_iload_n dX8_replaceAll_29 rfl ?_
          refine j_callS dX8_replaceAll_30 kX8_checkValue lX8_50 stX8_checkValue (c_X8_checkValue hl _ _) (Nat.le_of_ble_eq_true rfl) ⟨(Nat.le_of_ble_eq_true rfl), (Nat.le_of_ble_eq_true rfl)⟩ rfl (Nat.le_of_ble_eq_true rfl) rfl rfl (fun _ _ h => by obtain ⟨h1, rfl⟩ := h; exact ⟨rfl, rfl, x_A_IA h1, rfl⟩) ?_
          rintro _ _ ⟨rfl, rfl⟩
          refine j_new (w' := (z_cw _ _ _ _ _ _ _ _ _ _ _ _ _ _ _ _ _ _ _ _ _ _ _ _ _ _ _ _ _ _ _ _ _ _ _ _ _ _ _ _ _ _ _ _ _ _ _ _ _ _ _ _ _ _ _ _ [.inr (7, [_, _, _, _, _])], z_no)) (n := 51) dX8_replaceAll_33 nX8_91 rfl (z_al_l rfl rfl) (Nat.le_of_ble_eq_true rfl) (Nat.le_of_ble_eq_true rfl) ?_
          refine j_dup dX8_replaceAll_36 rfl ?_
          refine j_aload dX8_replaceAll_37 rfl rfl ?_
          refine j_callI dX8_replaceAll_39 kX2_init rfl lX8_93 inX2_init rfl (z_frame [51, 6, 7, 8, 9] rfl (by decide) (Nat.le_of_ble_eq_true rfl) (c_X2_init hl _ _ _ _)) (Nat.le_of_ble_eq_true rfl) ⟨(Nat.le_of_ble_eq_true rfl), (Nat.le_of_ble_eq_true rfl)⟩ rfl (Nat.le_of_ble_eq_true rfl) rfl rfl (fun _ _ h => h.elim) ?_
          rintro _ _ ⟨_, _, ⟨rfl, _, rfl⟩, rfl, rfl⟩
          refine j_w (z_cw _ _ _ _ _ _ _ _ _ _ _ _ _ _ _ _ _ _ _ _ _ _ _ _ _ _ _ _ _ _ _ _ _ _ _ _ _ _ _ _ _ _ _ _ _ _ _ _ _ _ _ _ _ _ _ _ [.inr (7, [_, _, _, _, _])], z_no) rfl ?_
          refine j_iload_n dX8_replaceAll_42 rfl ?_
          refine j_iload_n dX8_replaceAll_43 rfl ?_
          refine j_callS dX8_replaceAll_44 kX8_changeEach lX8_115 stX8_changeEach (z_frame [51, 6, 7, 8, 9] rfl (by decide) (Nat.le_of_ble_eq_true rfl) (c_X8_changeEach_X2 hl _ _ _ _ _ _ _ _ _)) (Nat.le_of_ble_eq_true rfl) ⟨(Nat.le_of_ble_eq_true rfl), (Nat.le_of_ble_eq_true rfl)⟩ rfl (Nat.le_of_ble_eq_true rfl) rfl rfl (fun _ _ h => h.elim) ?_
          rintro _ _ ⟨_, _, ⟨⟨b, rfl⟩, _, _, _, _, _, rfl⟩, rfl, rfl⟩
          refine j_w (z_cw _ _ _ _ _ _ _ _ _ _ _ _ _ _ _ _ _ _ _ _ _ _ _ _ _ _ _ _ _ _ _ _ _ _ _ _ _ _ _ _ _ _ _ _ _ _ _ _ _ _ _ _ _ _ _ _ [.inr (7, [_, _, _, _, _])], z_no) rfl ?_
          refine j_istore (lo' := [(5, _), (4, _), (0, _), (1, _), (2, _), (3, _)]) dX8_replaceAll_47 (by decide) rfl ?_
          refine j_dropL (n := 51) rfl (Nat.le_of_ble_eq_true rfl) (Nat.le_of_ble_eq_true rfl) (Nat.le_of_ble_eq_true rfl) z_cwc rfl rfl ?_
          refine j_w (z_cw _ _ _ _ _ _ _ _ _ _ _ _ _ _ _ _ _ _ _ _ _ _ _ _ _ _ _ _ _ _ _ _ _ _ _ _ _ _ _ _ _ _ _ _ _ _ _ _ _ _ _ _ _ _ _ _ [], z_no) rfl ?_
          refine j_iload dX8_replaceAll_49 rfl ?_
          refine j_if_eq (tgt := 62) dX8_replaceAll_51 (by decide) (fun c_51 => ?_) (fun c_51 => ?_)
          · refine j_aload_n dX8_replaceAll_62 rfl rfl ?_
            refine j_callV (q := (RX8, TX8, 9)) dX8_replaceAll_63 kX8_refused lX8_119 inX8_refused seX8_refused rfl rfl (z_dirF (c_X8_refused hl _ _ _ _ _ _ _ _ _ _ _ _ _ _ _ _ _ _ _ _ _ _ _ _ _ _ _ _ _ _ _ _ _ _ _ _ _ _ _ _ _ _ _ _ _ _ _ _ _ _ _ _ _ _ _ _)) (Nat.le_of_ble_eq_true rfl) ⟨(Nat.le_of_ble_eq_true rfl), (Nat.le_of_ble_eq_true rfl)⟩ rfl (Nat.le_of_ble_eq_true rfl) rfl rfl (fun _ _ h => h.elim) ?_
            rintro _ _ ⟨_, ⟨⟨_, rfl⟩, _, rfl⟩, rfl⟩
            refine j_iret dX8_replaceAll_66 rfl rfl ?_ (Nat.le_of_ble_eq_true rfl) (Nat.le_of_ble_eq_true rfl)
            exact ⟨rfl, rfl, ⟨_, rfl⟩, (z_wk (by first | assumption | exact z_m20z) (by first | assumption | exact z_m20z) (by first | assumption | exact z_m20z) (by first | assumption | exact z_m20z) (by first | assumption | exact z_m20z) (by first | assumption | exact z_m20z))⟩
          · refine j_aload dX8_replaceAll_54 rfl rfl ?_
            refine j_getf dX8_replaceAll_56 fX8_68 rfl rfl ?_
            refine j_goto (tgt := 66) dX8_replaceAll_59 (by decide) ?_
            refine j_iret dX8_replaceAll_66 rfl rfl ?_ (Nat.le_of_ble_eq_true rfl) (Nat.le_of_ble_eq_true rfl)
            exact ⟨rfl, rfl, ⟨_, rfl⟩, (z_wk (by first | assumption | exact z_m20z) (by first | assumption | exact z_m20z) (by first | assumption | exact z_m20z) (by first | assumption | exact z_m20z) (by first | assumption | exact z_m20z) (by first | assumption | exact z_m20z))⟩
        · refine j_iconst (v := 1) dX8_replaceAll_21 (by decide) ?_
          refine j_goto (tgt := 26) dX8_replaceAll_22 (by decide) ?_
          refine j_callS dX8_replaceAll_26 kX8_checkRule lX8_112 stX8_checkRule (c_X8_checkRule hl _ _) (Nat.le_of_ble_eq_true rfl) ⟨(Nat.le_of_ble_eq_true rfl), (Nat.le_of_ble_eq_true rfl)⟩ rfl (Nat.le_of_ble_eq_true rfl) rfl rfl (fun _ _ h => by obtain ⟨h1, rfl⟩ := h; exact ⟨rfl, rfl, x_A_IA h1, rfl⟩) ?_
          rintro _ _ ⟨rfl, rfl⟩
          refine j_iload_n dX8_replaceAll_29 rfl ?_
          refine j_callS dX8_replaceAll_30 kX8_checkValue lX8_50 stX8_checkValue (c_X8_checkValue hl _ _) (Nat.le_of_ble_eq_true rfl) ⟨(Nat.le_of_ble_eq_true rfl), (Nat.le_of_ble_eq_true rfl)⟩ rfl (Nat.le_of_ble_eq_true rfl) rfl rfl (fun _ _ h => by obtain ⟨h1, rfl⟩ := h; exact ⟨rfl, rfl, x_A_IA h1, rfl⟩) ?_
          rintro _ _ ⟨rfl, rfl⟩
          refine j_new (w' := (z_cw _ _ _ _ _ _ _ _ _ _ _ _ _ _ _ _ _ _ _ _ _ _ _ _ _ _ _ _ _ _ _ _ _ _ _ _ _ _ _ _ _ _ _ _ _ _ _ _ _ _ _ _ _ _ _ _ [.inr (7, [_, _, _, _, _])], z_no)) (n := 51) dX8_replaceAll_33 nX8_91 rfl (z_al_l rfl rfl) (Nat.le_of_ble_eq_true rfl) (Nat.le_of_ble_eq_true rfl) ?_
          refine j_dup dX8_replaceAll_36 rfl ?_
          refine j_aload dX8_replaceAll_37 rfl rfl ?_
          refine j_callI dX8_replaceAll_39 kX2_init rfl lX8_93 inX2_init rfl (z_frame [51, 6, 7, 8, 9] rfl (by decide) (Nat.le_of_ble_eq_true rfl) (c_X2_init hl _ _ _ _)) (Nat.le_of_ble_eq_true rfl) ⟨(Nat.le_of_ble_eq_true rfl), (Nat.le_of_ble_eq_true rfl)⟩ rfl (Nat.le_of_ble_eq_true rfl) rfl rfl (fun _ _ h => h.elim) ?_
          rintro _ _ ⟨_, _, ⟨rfl, _, rfl⟩, rfl, rfl⟩
          refine j_w (z_cw _ _ _ _ _ _ _ _ _ _ _ _ _ _ _ _ _ _ _ _ _ _ _ _ _ _ _ _ _ _ _ _ _ _ _ _ _ _ _ _ _ _ _ _ _ _ _ _ _ _ _ _ _ _ _ _ [.inr (7, [_, _, _, _, _])], z_no) rfl ?_
          refine j_iload_n dX8_replaceAll_42 rfl ?_
          refine j_iload_n dX8_replaceAll_43 rfl ?_
          refine j_callS dX8_replaceAll_44 kX8_changeEach lX8_115 stX8_changeEach (z_frame [51, 6, 7, 8, 9] rfl (by decide) (Nat.le_of_ble_eq_true rfl) (c_X8_changeEach_X2 hl _ _ _ _ _ _ _ _ _)) (Nat.le_of_ble_eq_true rfl) ⟨(Nat.le_of_ble_eq_true rfl), (Nat.le_of_ble_eq_true rfl)⟩ rfl (Nat.le_of_ble_eq_true rfl) rfl rfl (fun _ _ h => h.elim) ?_
          rintro _ _ ⟨_, _, ⟨⟨b, rfl⟩, _, _, _, _, _, rfl⟩, rfl, rfl⟩
          refine j_w (z_cw _ _ _ _ _ _ _ _ _ _ _ _ _ _ _ _ _ _ _ _ _ _ _ _ _ _ _ _ _ _ _ _ _ _ _ _ _ _ _ _ _ _ _ _ _ _ _ _ _ _ _ _ _ _ _ _ [.inr (7, [_, _, _, _, _])], z_no) rfl ?_
          refine j_istore (lo' := [(5, _), (4, _), (0, _), (1, _), (2, _), (3, _)]) dX8_replaceAll_47 (by decide) rfl ?_
          refine j_dropL (n := 51) rfl (Nat.le_of_ble_eq_true rfl) (Nat.le_of_ble_eq_true rfl) (Nat.le_of_ble_eq_true rfl) z_cwc rfl rfl ?_
          refine j_w (z_cw _ _ _ _ _ _ _ _ _ _ _ _ _ _ _ _ _ _ _ _ _ _ _ _ _ _ _ _ _ _ _ _ _ _ _ _ _ _ _ _ _ _ _ _ _ _ _ _ _ _ _ _ _ _ _ _ [], z_no) rfl ?_
          refine j_iload dX8_replaceAll_49 rfl ?_
          refine j_if_eq (tgt := 62) dX8_replaceAll_51 (by decide) (fun c_51 => ?_) (fun c_51 => ?_)
          · refine j_aload_n dX8_replaceAll_62 rfl rfl ?_
            refine j_callV (q := (RX8, TX8, 9)) dX8_replaceAll_63 kX8_refused lX8_119 inX8_refused seX8_refused rfl rfl (z_dirF (c_X8_refused hl _ _ _ _ _ _ _ _ _ _ _ _ _ _ _ _ _ _ _ _ _ _ _ _ _ _ _ _ _ _ _ _ _ _ _ _ _ _ _ _ _ _ _ _ _ _ _ _ _ _ _ _ _ _ _ _)) (Nat.le_of_ble_eq_true rfl) ⟨(Nat.le_of_ble_eq_true rfl), (Nat.le_of_ble_eq_true rfl)⟩ rfl (Nat.le_of_ble_eq_true rfl) rfl rfl (fun _ _ h => h.elim) ?_
            rintro _ _ ⟨_, ⟨⟨_, rfl⟩, _, rfl⟩, rfl⟩
            refine j_iret dX8_replaceAll_66 rfl rfl ?_ (Nat.le_of_ble_eq_true rfl) (Nat.le_of_ble_eq_true rfl)
            exact ⟨rfl, rfl, ⟨_, rfl⟩, (z_wk (by first | assumption | exact z_m20z) (by first | assumption | exact z_m20z) (by first | assumption | exact z_m20z) (by first | assumption | exact z_m20z) (by first | assumption | exact z_m20z) (by first | assumption | exact z_m20z))⟩
          · refine j_aload dX8_replaceAll_54 rfl rfl ?_
            refine j_getf dX8_replaceAll_56 fX8_68 rfl rfl ?_
            refine j_goto (tgt := 66) dX8_replaceAll_59 (by decide) ?_
            refine j_iret dX8_replaceAll_66 rfl rfl ?_ (Nat.le_of_ble_eq_true rfl) (Nat.le_of_ble_eq_true rfl)
            exact ⟨rfl, rfl, ⟨_, rfl⟩, (z_wk (by first | assumption | exact z_m20z) (by first | assumption | exact z_m20z) (by first | assumption | exact z_m20z) (by first | assumption | exact z_m20z) (by first | assumption | exact z_m20z) (by first | assumption | exact z_m20z))⟩
end ZL6
