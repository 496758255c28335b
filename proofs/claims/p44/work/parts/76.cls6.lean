section ZL6
variable {G : z_G} {l : Launch}
set_option maxRecDepth 100000 in
set_option maxHeartbeats 8000000 in
theorem c_X8_type (hl : l.stackTraces = false) (rf : Int32) (kn : Int32) (ma : Int32) (xa : Bool) (fa : Nat → Int32) (ca : Nat → Int32) (mb : Int32) (xb : Bool) (fb : Nat → Int32) (cb : Nat → Int32) (mt : Int32) (xt : Bool) (ft : Nat → Int32) (ct : Nat → Int32) (f0 : Nat → Int32) (g0 : Nat → Int32) (c0 : Nat → Int32) (m0 : Int32) (s0 : Int32) (f1 : Nat → Int32) (g1 : Nat → Int32) (c1 : Nat → Int32) (m1 : Int32) (s1 : Int32) (f2 : Nat → Int32) (g2 : Nat → Int32) (c2 : Nat → Int32) (m2 : Int32) (s2 : Int32) (f3 : Nat → Int32) (g3 : Nat → Int32) (c3 : Nat → Int32) (m3 : Int32) (s3 : Int32) (f4 : Nat → Int32) (g4 : Nat → Int32) (c4 : Nat → Int32) (m4 : Int32) (s4 : Int32) (f5 : Nat → Int32) (g5 : Nat → Int32) (c5 : Nat → Int32) (m5 : Int32) (s5 : Int32) (ek0 : Int32) (em0 : Int32) (es0 : Int32) (el0 : Int32) (b0 : Int32) (ef0 : Nat → Int32) (ek1 : Int32) (em1 : Int32) (es1 : Int32) (el1 : Int32) (b1 : Int32) (ef1 : Nat → Int32) (r p : Int32) (h0 : z_m20 m0) (h1 : z_m20 m1) (h2 : z_m20 m2) (h3 : z_m20 m3) (h4 : z_m20 m4) (h5 : z_m20 m5) : z_CX G l mX8_type 20 14 120 (z_cw rf kn ma xa fa ca mb xb fb cb mt xt ft ct f0 g0 c0 m0 s0 f1 g1 c1 m1 s1 f2 g2 c2 m2 s2 f3 g3 c3 m3 s3 f4 g4 c4 m4 s4 f5 g5 c5 m5 s5 ek0 em0 es0 el0 b0 ef0 ek1 em1 es1 el1 b1 ef1 []) [.ref 0, .int r, .int p] (fun v L => (∃ x : Int32, v = some (.int x)) ∧ z_Wk kn xa xb b0 b1 L) (fun E L => z_xIAS E ∧ L = (z_cw rf kn ma xa fa ca mb xb fb cb mt xt ft ct f0 g0 c0 m0 s0 f1 g1 c1 m1 s1 f2 g2 c2 m2 s2 f3 g3 c3 m3 s3 f4 g4 c4 m4 s4 f5 g5 c5 m5 s5 ek0 em0 es0 el0 b0 ef0 ek1 em1 es1 el1 b1 ef1 [])) := by
  refine z_body hl (by decide) rfl (Nat.le_of_ble_eq_true rfl) ?_
  show z_J G l mX8_type (z_SX 20 14 120 (z_cw rf kn ma xa fa ca mb xb fb cb mt xt ft ct f0 g0 c0 m0 s0 f1 g1 c1 m1 s1 f2 g2 c2 m2 s2 f3 g3 c3 m3 s3 f4 g4 c4 m4 s4 f5 g5 c5 m5 s5 ek0 em0 es0 el0 b0 ef0 ek1 em1 es1 el1 b1 ef1 []) (fun v L => (∃ x : Int32, v = some (.int x)) ∧ z_Wk kn xa xb b0 b1 L) (fun E L => z_xIAS E ∧ L = (z_cw rf kn ma xa fa ca mb xb fb cb mt xt ft ct f0 g0 c0 m0 s0 f1 g1 c1 m1 s1 f2 g2 c2 m2 s2 f3 g3 c3 m3 s3 f4 g4 c4 m4 s4 f5 g5 c5 m5 s5 ek0 em0 es0 el0 b0 ef0 ek1 em1 es1 el1 b1 ef1 []))) 0 [(0, _), (1, _), (2, _)] [] _ 0 0
  refine j_aload_n dX8_type_0 rfl rfl ?_
  refine j_iload_n dX8_type_1 rfl ?_
  refine j_callV (q := (RX8, TX8, 9)) dX8_type_2 kX8_rowFor lX8_46 inX8_rowFor seX8_rowFor rfl rfl (z_dirX (c_X8_rowFor hl _ _ _ _ _ _ _ _ _ _ _ _ _ _ _ _ _ _ _ _ _ _ _ _ _ _ _ _ _ _ _ _ _ _ _ _ _ _ _ _ _ _ _ _ _ _ _ _ _ _ _ _ _ _ _ _ _)) (Nat.le_of_ble_eq_true rfl) ⟨(Nat.le_of_ble_eq_true rfl), (Nat.le_of_ble_eq_true rfl)⟩ rfl (Nat.le_of_ble_eq_true rfl) rfl rfl (fun _ _ h => by obtain ⟨_, ⟨h1, rfl⟩, rfl⟩ := h; exact ⟨rfl, rfl, x_I_IAS h1, rfl⟩) ?_
  rintro _ _ ⟨_, ⟨_, rfl, hr, rfl⟩, rfl⟩
  have hq_2 := hr
  rcases hr with ⟨e_2, rfl⟩ | ⟨e_2, rfl⟩
  · refine j_astore_n (lo' := [(3, _), (0, _), (1, _), (2, _)]) dX8_type_5 rfl (by decide) rfl ?_
    refine j_iload_n dX8_type_6 rfl ?_
    refine j_callS dX8_type_7 kX8_checkValue lX8_50 stX8_checkValue (c_X8_checkValue hl _ _) (Nat.le_of_ble_eq_true rfl) ⟨(Nat.le_of_ble_eq_true rfl), (Nat.le_of_ble_eq_true rfl)⟩ rfl (Nat.le_of_ble_eq_true rfl) rfl rfl (fun _ _ h => by obtain ⟨h1, rfl⟩ := h; exact ⟨rfl, rfl, x_A_IAS h1, rfl⟩) ?_
    rintro _ _ ⟨rfl, rfl⟩
    refine j_aload_n dX8_type_10 rfl rfl ?_
    refine j_callV (q := (RX1, TX1, 4)) dX8_type_11 kX1_isFull lX8_54 inX1_isFull seX1_isFull rfl rfl (z_frame [2, 3, 4, 5] rfl (by decide) (Nat.le_of_ble_eq_true rfl) (c_X1_isFull hl _ _ _ _)) (Nat.le_of_ble_eq_true rfl) ⟨(Nat.le_of_ble_eq_true rfl), (Nat.le_of_ble_eq_true rfl)⟩ rfl (Nat.le_of_ble_eq_true rfl) rfl rfl (fun _ _ h => h.elim) ?_
    rintro _ _ ⟨_, _, ⟨_, rfl, rfl⟩, rfl, rfl⟩
    refine j_w (z_cw _ _ _ _ _ _ _ _ _ _ _ _ _ _ _ _ _ _ _ _ _ _ _ _ _ _ _ _ _ _ _ _ _ _ _ _ _ _ _ _ _ _ _ _ _ _ _ _ _ _ _ _ _ _ _ _ [], z_no) rfl ?_
    refine j_if_eq (tgt := 27) dX8_type_14 (by decide) (fun c_14 => ?_) (fun c_14 => ?_)
    · refine j_aload_n dX8_type_27 rfl rfl ?_
      refine j_iload_n dX8_type_28 rfl ?_
      refine j_callV (q := (RX1, TX1, 4)) dX8_type_29 kX1_append lX8_65 inX1_append seX1_append rfl rfl (z_frame [2, 3, 4, 5] rfl (by decide) (Nat.le_of_ble_eq_true rfl) (c_X1_append hl _ _ _ _ _)) (Nat.le_of_ble_eq_true rfl) ⟨(Nat.le_of_ble_eq_true rfl), (Nat.le_of_ble_eq_true rfl)⟩ rfl (Nat.le_of_ble_eq_true rfl) rfl rfl (fun _ _ h => h.elim) ?_
      rintro _ _ ⟨_, _, ⟨rfl, _, _, rfl⟩, rfl, rfl⟩
      refine j_w (z_cw _ _ _ _ _ _ _ _ _ _ _ _ _ _ _ _ _ _ _ _ _ _ _ _ _ _ _ _ _ _ _ _ _ _ _ _ _ _ _ _ _ _ _ _ _ _ _ _ _ _ _ _ _ _ _ _ [], z_no) rfl ?_
      refine j_aload_n dX8_type_32 rfl rfl ?_
      refine j_getf dX8_type_33 fX8_68 rfl rfl ?_
      refine j_iret dX8_type_36 rfl rfl ?_ (Nat.le_of_ble_eq_true rfl) (Nat.le_of_ble_eq_true rfl)
      exact ⟨rfl, rfl, ⟨_, rfl⟩, (z_wk (by first | assumption | exact z_m20z) (by first | assumption | exact z_m20z) (by first | assumption | exact z_m20z) (by first | assumption | exact z_m20z) (by first | assumption | exact z_m20z) (by first | assumption | exact z_m20z))⟩
    · exact j_throwS (text := "the row is full") rfl th_S (by decide +kernel) dX8_type_17 dX8_type_20 dX8_type_21 dX8_type_23 dX8_type_26 (Nat.le_of_ble_eq_true rfl) (Nat.le_of_ble_eq_true rfl) ⟨rfl, rfl, (x_S_IAS rfl), rfl⟩ (Nat.le_of_ble_eq_true rfl) (Nat.le_of_ble_eq_true rfl)
  · refine j_astore_n (lo' := [(3, _), (0, _), (1, _), (2, _)]) dX8_type_5 rfl (by decide) rfl ?_
    refine j_iload_n dX8_type_6 rfl ?_
    refine j_callS dX8_type_7 kX8_checkValue lX8_50 stX8_checkValue (c_X8_checkValue hl _ _) (Nat.le_of_ble_eq_true rfl) ⟨(Nat.le_of_ble_eq_true rfl), (Nat.le_of_ble_eq_true rfl)⟩ rfl (Nat.le_of_ble_eq_true rfl) rfl rfl (fun _ _ h => by obtain ⟨h1, rfl⟩ := h; exact ⟨rfl, rfl, x_A_IAS h1, rfl⟩) ?_
    rintro _ _ ⟨rfl, rfl⟩
    refine j_aload_n dX8_type_10 rfl rfl ?_
    refine j_callV (q := (RX1, TX1, 4)) dX8_type_11 kX1_isFull lX8_54 inX1_isFull seX1_isFull rfl rfl (z_frame [6, 7, 8, 9] rfl (by decide) (Nat.le_of_ble_eq_true rfl) (c_X1_isFull hl _ _ _ _)) (Nat.le_of_ble_eq_true rfl) ⟨(Nat.le_of_ble_eq_true rfl), (Nat.le_of_ble_eq_true rfl)⟩ rfl (Nat.le_of_ble_eq_true rfl) rfl rfl (fun _ _ h => h.elim) ?_
    rintro _ _ ⟨_, _, ⟨_, rfl, rfl⟩, rfl, rfl⟩
    refine j_w (z_cw _ _ _ _ _ _ _ _ _ _ _ _ _ _ _ _ _ _ _ _ _ _ _ _ _ _ _ _ _ _ _ _ _ _ _ _ _ _ _ _ _ _ _ _ _ _ _ _ _ _ _ _ _ _ _ _ [], z_no) rfl ?_
    refine j_if_eq (tgt := 27) dX8_type_14 (by decide) (fun c_14 => ?_) (fun c_14 => ?_)
    · refine j_aload_n dX8_type_27 rfl rfl ?_
      refine j_iload_n dX8_type_28 rfl ?_
      refine j_callV (q := (RX1, TX1, 4)) dX8_type_29 kX1_append lX8_65 inX1_append seX1_append rfl rfl (z_frame [6, 7, 8, 9] rfl (by decide) (Nat.le_of_ble_eq_true rfl) (c_X1_append hl _ _ _ _ _)) (Nat.le_of_ble_eq_true rfl) ⟨(Nat.le_of_ble_eq_true rfl), (Nat.le_of_ble_eq_true rfl)⟩ rfl (Nat.le_of_ble_eq_true rfl) rfl rfl (fun _ _ h => h.elim) ?_
      rintro _ _ ⟨_, _, ⟨rfl, _, _, rfl⟩, rfl, rfl⟩
      refine j_w (z_cw _ _ _ _ _ _ _ _ _ _ _ _ _ _ _ _ _ _ _ _ _ _ _ _ _ _ _ _ _ _ _ _ _ _ _ _ _ _ _ _ _ _ _ _ _ _ _ _ _ _ _ _ _ _ _ _ [], z_no) rfl ?_
      refine j_aload_n dX8_type_32 rfl rfl ?_
      refine j_getf dX8_type_33 fX8_68 rfl rfl ?_
      refine j_iret dX8_type_36 rfl rfl ?_ (Nat.le_of_ble_eq_true rfl) (Nat.le_of_ble_eq_true rfl)
      exact ⟨rfl, rfl, ⟨_, rfl⟩, (z_wk (by first | assumption | exact z_m20z) (by first | assumption | exact z_m20z) (by first | assumption | exact z_m20z) (by first | assumption | exact z_m20z) (by first | assumption | exact z_m20z) (by first | assumption | exact z_m20z))⟩
    · exact j_throwS (text := "the row is full") rfl th_S (by decide +kernel) dX8_type_17 dX8_type_20 dX8_type_21 dX8_type_23 dX8_type_26 (Nat.le_of_ble_eq_true rfl) (Nat.le_of_ble_eq_true rfl) ⟨rfl, rfl, (x_S_IAS rfl), rfl⟩ (Nat.le_of_ble_eq_true rfl) (Nat.le_of_ble_eq_true rfl)
set_option maxRecDepth 100000 in
set_option maxHeartbeats 8000000 in
theorem c_X8_drop (hl : l.stackTraces = false) (rf : Int32) (kn : Int32) (ma : Int32) (xa : Bool) (fa : Nat → Int32) (ca : Nat → Int32) (mb : Int32) (xb : Bool) (fb : Nat → Int32) (cb : Nat → Int32) (mt : Int32) (xt : Bool) (ft : Nat → Int32) (ct : Nat → Int32) (f0 : Nat → Int32) (g0 : Nat → Int32) (c0 : Nat → Int32) (m0 : Int32) (s0 : Int32) (f1 : Nat → Int32) (g1 : Nat → Int32) (c1 : Nat → Int32) (m1 : Int32) (s1 : Int32) (f2 : Nat → Int32) (g2 : Nat → Int32) (c2 : Nat → Int32) (m2 : Int32) (s2 : Int32) (f3 : Nat → Int32) (g3 : Nat → Int32) (c3 : Nat → Int32) (m3 : Int32) (s3 : Int32) (f4 : Nat → Int32) (g4 : Nat → Int32) (c4 : Nat → Int32) (m4 : Int32) (s4 : Int32) (f5 : Nat → Int32) (g5 : Nat → Int32) (c5 : Nat → Int32) (m5 : Int32) (s5 : Int32) (ek0 : Int32) (em0 : Int32) (es0 : Int32) (el0 : Int32) (b0 : Int32) (ef0 : Nat → Int32) (ek1 : Int32) (em1 : Int32) (es1 : Int32) (el1 : Int32) (b1 : Int32) (ef1 : Nat → Int32) (r p : Int32) (h0 : z_m20 m0) (h1 : z_m20 m1) (h2 : z_m20 m2) (h3 : z_m20 m3) (h4 : z_m20 m4) (h5 : z_m20 m5) : z_CX G l mX8_drop 20 14 120 (z_cw rf kn ma xa fa ca mb xb fb cb mt xt ft ct f0 g0 c0 m0 s0 f1 g1 c1 m1 s1 f2 g2 c2 m2 s2 f3 g3 c3 m3 s3 f4 g4 c4 m4 s4 f5 g5 c5 m5 s5 ek0 em0 es0 el0 b0 ef0 ek1 em1 es1 el1 b1 ef1 []) [.ref 0, .int r, .int p] (fun v L => (∃ x : Int32, v = some (.int x)) ∧ z_Wk kn xa xb b0 b1 L) (fun E L => z_xIA E ∧ L = (z_cw rf kn ma xa fa ca mb xb fb cb mt xt ft ct f0 g0 c0 m0 s0 f1 g1 c1 m1 s1 f2 g2 c2 m2 s2 f3 g3 c3 m3 s3 f4 g4 c4 m4 s4 f5 g5 c5 m5 s5 ek0 em0 es0 el0 b0 ef0 ek1 em1 es1 el1 b1 ef1 [])) := by
  refine z_body hl (by decide) rfl (Nat.le_of_ble_eq_true rfl) ?_
  show z_J G l mX8_drop (z_SX 20 14 120 (z_cw rf kn ma xa fa ca mb xb fb cb mt xt ft ct f0 g0 c0 m0 s0 f1 g1 c1 m1 s1 f2 g2 c2 m2 s2 f3 g3 c3 m3 s3 f4 g4 c4 m4 s4 f5 g5 c5 m5 s5 ek0 em0 es0 el0 b0 ef0 ek1 em1 es1 el1 b1 ef1 []) (fun v L => (∃ x : Int32, v = some (.int x)) ∧ z_Wk kn xa xb b0 b1 L) (fun E L => z_xIA E ∧ L = (z_cw rf kn ma xa fa ca mb xb fb cb mt xt ft ct f0 g0 c0 m0 s0 f1 g1 c1 m1 s1 f2 g2 c2 m2 s2 f3 g3 c3 m3 s3 f4 g4 c4 m4 s4 f5 g5 c5 m5 s5 ek0 em0 es0 el0 b0 ef0 ek1 em1 es1 el1 b1 ef1 []))) 0 [(0, _), (1, _), (2, _)] [] _ 0 0
  refine j_aload_n dX8_drop_0 rfl rfl ?_
  refine j_iload_n dX8_drop_1 rfl ?_
  refine j_callV (q := (RX8, TX8, 9)) dX8_drop_2 kX8_rowFor lX8_46 inX8_rowFor seX8_rowFor rfl rfl (z_dirX (c_X8_rowFor hl _ _ _ _ _ _ _ _ _ _ _ _ _ _ _ _ _ _ _ _ _ _ _ _ _ _ _ _ _ _ _ _ _ _ _ _ _ _ _ _ _ _ _ _ _ _ _ _ _ _ _ _ _ _ _ _ _)) (Nat.le_of_ble_eq_true rfl) ⟨(Nat.le_of_ble_eq_true rfl), (Nat.le_of_ble_eq_true rfl)⟩ rfl (Nat.le_of_ble_eq_true rfl) rfl rfl (fun _ _ h => by obtain ⟨_, ⟨h1, rfl⟩, rfl⟩ := h; exact ⟨rfl, rfl, x_I_IA h1, rfl⟩) ?_
  rintro _ _ ⟨_, ⟨_, rfl, hr, rfl⟩, rfl⟩
  have hq_2 := hr
  rcases hr with ⟨e_2, rfl⟩ | ⟨e_2, rfl⟩
  · refine j_astore_n (lo' := [(3, _), (0, _), (1, _), (2, _)]) dX8_drop_5 rfl (by decide) rfl ?_
    refine j_iload_n dX8_drop_6 rfl ?_
    refine j_iconst (v := 1) dX8_drop_7 (by decide) ?_
    refine j_aload_n dX8_drop_8 rfl rfl ?_
    refine j_getf dX8_drop_9 fX8_68 rfl rfl ?_
    refine j_callS dX8_drop_12 kX8_checkRange lX8_72 stX8_checkRange (c_X8_checkRange hl _ _ _ _) (Nat.le_of_ble_eq_true rfl) ⟨(Nat.le_of_ble_eq_true rfl), (Nat.le_of_ble_eq_true rfl)⟩ rfl (Nat.le_of_ble_eq_true rfl) rfl rfl (fun _ _ h => by obtain ⟨h1, rfl⟩ := h; exact ⟨rfl, rfl, x_A_IA h1, rfl⟩) ?_
    rintro _ _ ⟨rfl, rfl⟩
    refine j_aload_n dX8_drop_15 rfl rfl ?_
    refine j_iload_n dX8_drop_16 rfl ?_
    refine j_callV (q := (RX1, TX1, 4)) dX8_drop_17 kX1_shorten lX8_76 inX1_shorten seX1_shorten rfl rfl (z_frame [2, 3, 4, 5] rfl (by decide) (Nat.le_of_ble_eq_true rfl) (c_X1_shorten hl _ _ _ _ _)) (Nat.le_of_ble_eq_true rfl) ⟨(Nat.le_of_ble_eq_true rfl), (Nat.le_of_ble_eq_true rfl)⟩ rfl (Nat.le_of_ble_eq_true rfl) rfl rfl (fun _ _ h => h.elim) ?_
    rintro _ _ ⟨_, _, ⟨rfl, _, rfl⟩, rfl, rfl⟩
    refine j_w (z_cw _ _ _ _ _ _ _ _ _ _ _ _ _ _ _ _ _ _ _ _ _ _ _ _ _ _ _ _ _ _ _ _ _ _ _ _ _ _ _ _ _ _ _ _ _ _ _ _ _ _ _ _ _ _ _ _ [], z_no) rfl ?_
    refine j_aload_n dX8_drop_20 rfl rfl ?_
    refine j_getf dX8_drop_21 fX8_68 rfl rfl ?_
    refine j_iret dX8_drop_24 rfl rfl ?_ (Nat.le_of_ble_eq_true rfl) (Nat.le_of_ble_eq_true rfl)
    exact ⟨rfl, rfl, ⟨_, rfl⟩, (z_wk (by first | assumption | exact z_m20z) (by first | assumption | exact z_m20z) (by first | assumption | exact z_m20z) (by first | assumption | exact z_m20z) (by first | assumption | exact z_m20z) (by first | assumption | exact z_m20z))⟩
  · refine j_astore_n (lo' := [(3, _), (0, _), (1, _), (2, _)]) dX8_drop_5 rfl (by decide) rfl ?_
    refine j_iload_n dX8_drop_6 rfl ?_
    refine j_iconst (v := 1) dX8_drop_7 (by decide) ?_
    refine j_aload_n dX8_drop_8 rfl rfl ?_
    refine j_getf dX8_drop_9 fX8_68 rfl rfl ?_
    refine j_callS dX8_drop_12 kX8_checkRange lX8_72 stX8_checkRange (c_X8_checkRange hl _ _ _ _) (Nat.le_of_ble_eq_true rfl) ⟨(Nat.le_of_ble_eq_true rfl), (Nat.le_of_ble_eq_true rfl)⟩ rfl (Nat.le_of_ble_eq_true rfl) rfl rfl (fun _ _ h => by obtain ⟨h1, rfl⟩ := h; exact ⟨rfl, rfl, x_A_IA h1, rfl⟩) ?_
    rintro _ _ ⟨rfl, rfl⟩
    refine j_aload_n dX8_drop_15 rfl rfl ?_
    refine j_iload_n dX8_drop_16 rfl ?_
    refine j_callV (q := (RX1, TX1, 4)) dX8_drop_17 kX1_shorten lX8_76 inX1_shorten seX1_shorten rfl rfl (z_frame [6, 7, 8, 9] rfl (by decide) (Nat.le_of_ble_eq_true rfl) (c_X1_shorten hl _ _ _ _ _)) (Nat.le_of_ble_eq_true rfl) ⟨(Nat.le_of_ble_eq_true rfl), (Nat.le_of_ble_eq_true rfl)⟩ rfl (Nat.le_of_ble_eq_true rfl) rfl rfl (fun _ _ h => h.elim) ?_
    rintro _ _ ⟨_, _, ⟨rfl, _, rfl⟩, rfl, rfl⟩
    refine j_w (z_cw _ _ _ _ _ _ _ _ _ _ _ _ _ _ _ _ _ _ _ _ _ _ _ _ _ _ _ _ _ _ _ _ _ _ _ _ _ _ _ _ _ _ _ _ _ _ _ _ _ _ _ _ _ _ _ _ [], z_no) rfl ?_
    refine j_aload_n dX8_drop_20 rfl rfl ?_
    refine j_getf dX8_drop_21 fX8_68 rfl rfl ?_
    refine j_iret dX8_drop_24 rfl rfl ?_ (Nat.le_of_ble_eq_true rfl) (Nat.le_of_ble_eq_true rfl)
    exact ⟨rfl, rfl, ⟨_, rfl⟩, (z_wk (by first | assumption | exact z_m20z) (by first | assumption | exact z_m20z) (by first | assumption | exact z_m20z) (by first | assumption | exact z_m20z) (by first | assumption | exact z_m20z) (by first | assumption | exact z_m20z))⟩
set_option maxRecDepth 100000 in
set_option maxHeartbeats 8000000 in
theorem c_X8_fix (hl : l.stackTraces = false) (rf : Int32) (kn : Int32) (ma : Int32) (xa : Bool) (fa : Nat → Int32) (ca : Nat → Int32) (mb : Int32) (xb : Bool) (fb : Nat → Int32) (cb : Nat → Int32) (mt : Int32) (xt : Bool) (ft : Nat → Int32) (ct : Nat → Int32) (f0 : Nat → Int32) (g0 : Nat → Int32) (c0 : Nat → Int32) (m0 : Int32) (s0 : Int32) (f1 : Nat → Int32) (g1 : Nat → Int32) (c1 : Nat → Int32) (m1 : Int32) (s1 : Int32) (f2 : Nat → Int32) (g2 : Nat → Int32) (c2 : Nat → Int32) (m2 : Int32) (s2 : Int32) (f3 : Nat → Int32) (g3 : Nat → Int32) (c3 : Nat → Int32) (m3 : Int32) (s3 : Int32) (f4 : Nat → Int32) (g4 : Nat → Int32) (c4 : Nat → Int32) (m4 : Int32) (s4 : Int32) (f5 : Nat → Int32) (g5 : Nat → Int32) (c5 : Nat → Int32) (m5 : Int32) (s5 : Int32) (ek0 : Int32) (em0 : Int32) (es0 : Int32) (el0 : Int32) (b0 : Int32) (ef0 : Nat → Int32) (ek1 : Int32) (em1 : Int32) (es1 : Int32) (el1 : Int32) (b1 : Int32) (ef1 : Nat → Int32) (r : Int32) (b : Bool) (h0 : z_m20 m0) (h1 : z_m20 m1) (h2 : z_m20 m2) (h3 : z_m20 m3) (h4 : z_m20 m4) (h5 : z_m20 m5) : z_CX G l mX8_fix 20 14 120 (z_cw rf kn ma xa fa ca mb xb fb cb mt xt ft ct f0 g0 c0 m0 s0 f1 g1 c1 m1 s1 f2 g2 c2 m2 s2 f3 g3 c3 m3 s3 f4 g4 c4 m4 s4 f5 g5 c5 m5 s5 ek0 em0 es0 el0 b0 ef0 ek1 em1 es1 el1 b1 ef1 []) [.ref 0, .int r, .int (z_bi b)] (fun v L => ∃ b9 : Bool, v = some (.int (z_bi b9)) ∧ ((r = 0 ∧ b9 = xa ∧ z_Wk kn b xb b0 b1 L) ∨ (r = 1 ∧ b9 = xb ∧ z_Wk kn xa b b0 b1 L))) (fun E L => z_xI E ∧ L = (z_cw rf kn ma xa fa ca mb xb fb cb mt xt ft ct f0 g0 c0 m0 s0 f1 g1 c1 m1 s1 f2 g2 c2 m2 s2 f3 g3 c3 m3 s3 f4 g4 c4 m4 s4 f5 g5 c5 m5 s5 ek0 em0 es0 el0 b0 ef0 ek1 em1 es1 el1 b1 ef1 [])) := by
  refine z_body hl (by decide) rfl (Nat.le_of_ble_eq_true rfl) ?_
  show z_J G l mX8_fix (z_SX 20 14 120 (z_cw rf kn ma xa fa ca mb xb fb cb mt xt ft ct f0 g0 c0 m0 s0 f1 g1 c1 m1 s1 f2 g2 c2 m2 s2 f3 g3 c3 m3 s3 f4 g4 c4 m4 s4 f5 g5 c5 m5 s5 ek0 em0 es0 el0 b0 ef0 ek1 em1 es1 el1 b1 ef1 []) (fun v L => ∃ b9 : Bool, v = some (.int (z_bi b9)) ∧ ((r = 0 ∧ b9 = xa ∧ z_Wk kn b xb b0 b1 L) ∨ (r = 1 ∧ b9 = xb ∧ z_Wk kn xa b b0 b1 L))) (fun E L => z_xI E ∧ L = (z_cw rf kn ma xa fa ca mb xb fb cb mt xt ft ct f0 g0 c0 m0 s0 f1 g1 c1 m1 s1 f2 g2 c2 m2 s2 f3 g3 c3 m3 s3 f4 g4 c4 m4 s4 f5 g5 c5 m5 s5 ek0 em0 es0 el0 b0 ef0 ek1 em1 es1 el1 b1 ef1 []))) 0 [(0, _), (1, _), (2, _)] [] _ 0 0
  refine j_aload_n dX8_fix_0 rfl rfl ?_
  refine j_iload_n dX8_fix_1 rfl ?_
  refine j_callV (q := (RX8, TX8, 9)) dX8_fix_2 kX8_rowFor lX8_46 inX8_rowFor seX8_rowFor rfl rfl (z_dirX (c_X8_rowFor hl _ _ _ _ _ _ _ _ _ _ _ _ _ _ _ _ _ _ _ _ _ _ _ _ _ _ _ _ _ _ _ _ _ _ _ _ _ _ _ _ _ _ _ _ _ _ _ _ _ _ _ _ _ _ _ _ _)) (Nat.le_of_ble_eq_true rfl) ⟨(Nat.le_of_ble_eq_true rfl), (Nat.le_of_ble_eq_true rfl)⟩ rfl (Nat.le_of_ble_eq_true rfl) rfl rfl (fun _ _ h => by obtain ⟨_, ⟨h1, rfl⟩, rfl⟩ := h; exact ⟨rfl, rfl, x_I_I h1, rfl⟩) ?_
  rintro _ _ ⟨_, ⟨_, rfl, hr, rfl⟩, rfl⟩
  have hq_2 := hr
  rcases hr with ⟨e_2, rfl⟩ | ⟨e_2, rfl⟩
  · refine j_astore_n (lo' := [(3, _), (0, _), (1, _), (2, _)]) dX8_fix_5 rfl (by decide) rfl ?_
    refine j_aload_n dX8_fix_6 rfl rfl ?_
    refine j_getf dX8_fix_7 fX8_79 rfl rfl ?_
    refine j_callS dX8_fix_10 kX8_oneIf lX8_83 stX8_oneIf (c_X8_oneIf_b hl _ _) (Nat.le_of_ble_eq_true rfl) ⟨(Nat.le_of_ble_eq_true rfl), (Nat.le_of_ble_eq_true rfl)⟩ rfl (Nat.le_of_ble_eq_true rfl) rfl rfl (fun _ _ h => h.elim) ?_
    rintro _ _ ⟨rfl, rfl⟩
    refine j_istore (lo' := [(4, _), (3, _), (0, _), (1, _), (2, _)]) dX8_fix_13 (by decide) rfl ?_
    refine j_aload_n dX8_fix_15 rfl rfl ?_
    refine j_iload_n dX8_fix_16 rfl ?_
    refine j_put (w' := (z_cw _ _ _ _ _ _ _ _ _ _ _ _ _ _ _ _ _ _ _ _ _ _ _ _ _ _ _ _ _ _ _ _ _ _ _ _ _ _ _ _ _ _ _ _ _ _ _ _ _ _ _ _ _ _ _ _ [], z_no)) dX8_fix_17 fX8_79 tX1_3 rfl ⟨z_bn _, z_bf _⟩ rfl ?_
    refine j_iload dX8_fix_20 rfl ?_
    refine j_iret dX8_fix_22 rfl rfl ?_ (Nat.le_of_ble_eq_true rfl) (Nat.le_of_ble_eq_true rfl)
    first | exact ⟨rfl, rfl, _, rfl, Or.inl ⟨e_2, rfl, (z_wk (by first | assumption | exact z_m20z) (by first | assumption | exact z_m20z) (by first | assumption | exact z_m20z) (by first | assumption | exact z_m20z) (by first | assumption | exact z_m20z) (by first | assumption | exact z_m20z))⟩⟩ | exact ⟨rfl, rfl, _, rfl, Or.inr ⟨e_2, rfl, (z_wk (by first | assumption | exact z_m20z) (by first | assumption | exact z_m20z) (by first | assumption | exact z_m20z) (by first | assumption | exact z_m20z) (by first | assumption | exact z_m20z) (by first | assumption | exact z_m20z))⟩⟩
  · refine j_astore_n (lo' := [(3, _), (0, _), (1, _), (2, _)]) dX8_fix_5 rfl (by decide) rfl ?_
    refine j_aload_n dX8_fix_6 rfl rfl ?_
    refine j_getf dX8_fix_7 fX8_79 rfl rfl ?_
    refine j_callS dX8_fix_10 kX8_oneIf lX8_83 stX8_oneIf (c_X8_oneIf_b hl _ _) (Nat.le_of_ble_eq_true rfl) ⟨(Nat.le_of_ble_eq_true rfl), (Nat.le_of_ble_eq_true rfl)⟩ rfl (Nat.le_of_ble_eq_true rfl) rfl rfl (fun _ _ h => h.elim) ?_
    rintro _ _ ⟨rfl, rfl⟩
    refine j_istore (lo' := [(4, _), (3, _), (0, _), (1, _), (2, _)]) dX8_fix_13 (by decide) rfl ?_
    refine j_aload_n dX8_fix_15 rfl rfl ?_
    refine j_iload_n dX8_fix_16 rfl ?_
    refine j_put (w' := (z_cw _ _ _ _ _ _ _ _ _ _ _ _ _ _ _ _ _ _ _ _ _ _ _ _ _ _ _ _ _ _ _ _ _ _ _ _ _ _ _ _ _ _ _ _ _ _ _ _ _ _ _ _ _ _ _ _ [], z_no)) dX8_fix_17 fX8_79 tX1_3 rfl ⟨z_bn _, z_bf _⟩ rfl ?_
    refine j_iload dX8_fix_20 rfl ?_
    refine j_iret dX8_fix_22 rfl rfl ?_ (Nat.le_of_ble_eq_true rfl) (Nat.le_of_ble_eq_true rfl)
    first | exact ⟨rfl, rfl, _, rfl, Or.inl ⟨e_2, rfl, (z_wk (by first | assumption | exact z_m20z) (by first | assumption | exact z_m20z) (by first | assumption | exact z_m20z) (by first | assumption | exact z_m20z) (by first | assumption | exact z_m20z) (by first | assumption | exact z_m20z))⟩⟩ | exact ⟨rfl, rfl, _, rfl, Or.inr ⟨e_2, rfl, (z_wk (by first | assumption | exact z_m20z) (by first | assumption | exact z_m20z) (by first | assumption | exact z_m20z) (by first | assumption | exact z_m20z) (by first | assumption | exact z_m20z) (by first | assumption | exact z_m20z))⟩⟩
set_option maxRecDepth 100000 in
set_option maxHeartbeats 8000000 in
theorem c_X8_hear (hl : l.stackTraces = false) (rf : Int32) (kn : Int32) (ma : Int32) (xa : Bool) (fa : Nat → Int32) (ca : Nat → Int32) (mb : Int32) (xb : Bool) (fb : Nat → Int32) (cb : Nat → Int32) (mt : Int32) (xt : Bool) (ft : Nat → Int32) (ct : Nat → Int32) (f0 : Nat → Int32) (g0 : Nat → Int32) (c0 : Nat → Int32) (m0 : Int32) (s0 : Int32) (f1 : Nat → Int32) (g1 : Nat → Int32) (c1 : Nat → Int32) (m1 : Int32) (s1 : Int32) (f2 : Nat → Int32) (g2 : Nat → Int32) (c2 : Nat → Int32) (m2 : Int32) (s2 : Int32) (f3 : Nat → Int32) (g3 : Nat → Int32) (c3 : Nat → Int32) (m3 : Int32) (s3 : Int32) (f4 : Nat → Int32) (g4 : Nat → Int32) (c4 : Nat → Int32) (m4 : Int32) (s4 : Int32) (f5 : Nat → Int32) (g5 : Nat → Int32) (c5 : Nat → Int32) (m5 : Int32) (s5 : Int32) (ek0 : Int32) (em0 : Int32) (es0 : Int32) (el0 : Int32) (b0 : Int32) (ef0 : Nat → Int32) (ek1 : Int32) (em1 : Int32) (es1 : Int32) (el1 : Int32) (b1 : Int32) (ef1 : Nat → Int32) (r p : Int32) (h0 : z_m20 m0) (h1 : z_m20 m1) (h2 : z_m20 m2) (h3 : z_m20 m3) (h4 : z_m20 m4) (h5 : z_m20 m5) : z_CX G l mX8_hear 20 14 120 (z_cw rf kn ma xa fa ca mb xb fb cb mt xt ft ct f0 g0 c0 m0 s0 f1 g1 c1 m1 s1 f2 g2 c2 m2 s2 f3 g3 c3 m3 s3 f4 g4 c4 m4 s4 f5 g5 c5 m5 s5 ek0 em0 es0 el0 b0 ef0 ek1 em1 es1 el1 b1 ef1 []) [.ref 0, .int r, .int p] (fun v L => (∃ x : Int32, v = some (.int x)) ∧ z_Wk kn xa xb b0 b1 L) (fun E L => z_xI E ∧ L = (z_cw rf kn ma xa fa ca mb xb fb cb mt xt ft ct f0 g0 c0 m0 s0 f1 g1 c1 m1 s1 f2 g2 c2 m2 s2 f3 g3 c3 m3 s3 f4 g4 c4 m4 s4 f5 g5 c5 m5 s5 ek0 em0 es0 el0 b0 ef0 ek1 em1 es1 el1 b1 ef1 [])) := by
  refine z_body hl (by decide) rfl (Nat.le_of_ble_eq_true rfl) ?_
  show z_J G l mX8_hear (z_SX 20 14 120 (z_cw rf kn ma xa fa ca mb xb fb cb mt xt ft ct f0 g0 c0 m0 s0 f1 g1 c1 m1 s1 f2 g2 c2 m2 s2 f3 g3 c3 m3 s3 f4 g4 c4 m4 s4 f5 g5 c5 m5 s5 ek0 em0 es0 el0 b0 ef0 ek1 em1 es1 el1 b1 ef1 []) (fun v L => (∃ x : Int32, v = some (.int x)) ∧ z_Wk kn xa xb b0 b1 L) (fun E L => z_xI E ∧ L = (z_cw rf kn ma xa fa ca mb xb fb cb mt xt ft ct f0 g0 c0 m0 s0 f1 g1 c1 m1 s1 f2 g2 c2 m2 s2 f3 g3 c3 m3 s3 f4 g4 c4 m4 s4 f5 g5 c5 m5 s5 ek0 em0 es0 el0 b0 ef0 ek1 em1 es1 el1 b1 ef1 []))) 0 [(0, _), (1, _), (2, _)] [] _ 0 0
  refine j_aload_n dX8_hear_0 rfl rfl ?_
  refine j_iload_n dX8_hear_1 rfl ?_
  refine j_callV (q := (RX8, TX8, 9)) dX8_hear_2 kX8_rowFor lX8_46 inX8_rowFor seX8_rowFor rfl rfl (z_dirX (c_X8_rowFor hl _ _ _ _ _ _ _ _ _ _ _ _ _ _ _ _ _ _ _ _ _ _ _ _ _ _ _ _ _ _ _ _ _ _ _ _ _ _ _ _ _ _ _ _ _ _ _ _ _ _ _ _ _ _ _ _ _)) (Nat.le_of_ble_eq_true rfl) ⟨(Nat.le_of_ble_eq_true rfl), (Nat.le_of_ble_eq_true rfl)⟩ rfl (Nat.le_of_ble_eq_true rfl) rfl rfl (fun _ _ h => by obtain ⟨_, ⟨h1, rfl⟩, rfl⟩ := h; exact ⟨rfl, rfl, x_I_I h1, rfl⟩) ?_
  rintro _ _ ⟨_, ⟨_, rfl, hr, rfl⟩, rfl⟩
  have hq_2 := hr
  rcases hr with ⟨e_2, rfl⟩ | ⟨e_2, rfl⟩
  · refine j_astore_n (lo' := [(3, _), (0, _), (1, _), (2, _)]) dX8_hear_5 rfl (by decide) rfl ?_
    refine j_aload_n dX8_hear_6 rfl rfl ?_
    refine j_iload_n dX8_hear_7 rfl ?_
    refine j_callV (q := (RX8, TX8, 9)) dX8_hear_8 kX8_hearerFor lX8_87 inX8_hearerFor seX8_hearerFor rfl rfl (z_dirX (c_X8_hearerFor hl _ _ _ _ _ _ _ _ _ _ _ _ _ _ _ _ _ _ _ _ _ _ _ _ _ _ _ _ _ _ _ _ _ _ _ _ _ _ _ _ _ _ _ _ _ _ _ _ _ _ _ _ _ _ _ _ _)) (Nat.le_of_ble_eq_true rfl) ⟨(Nat.le_of_ble_eq_true rfl), (Nat.le_of_ble_eq_true rfl)⟩ rfl (Nat.le_of_ble_eq_true rfl) rfl rfl (fun _ _ h => by obtain ⟨_, ⟨h1, rfl⟩, rfl⟩ := h; exact ⟨rfl, rfl, x_I_I h1, rfl⟩) ?_
    rintro _ _ ⟨_, ⟨_, rfl, hr, rfl⟩, rfl⟩
    have hq_8 := hr
    rcases hr with ⟨e_8, rfl⟩ | ⟨e_8, rfl⟩
    · refine j_astore (lo' := [(4, _), (3, _), (0, _), (1, _), (2, _)]) dX8_hear_11 rfl (by decide) rfl ?_
      refine j_aload_n dX8_hear_13 rfl rfl ?_
      refine j_new (w' := (z_cw _ _ _ _ _ _ _ _ _ _ _ _ _ _ _ _ _ _ _ _ _ _ _ _ _ _ _ _ _ _ _ _ _ _ _ _ _ _ _ _ _ _ _ _ _ _ _ _ _ _ _ _ _ _ _ _ [.inr (7, [_, _, _, _, _])], z_no)) (n := 51) dX8_hear_14 nX8_91 rfl (z_al_l rfl rfl) (Nat.le_of_ble_eq_true rfl) (Nat.le_of_ble_eq_true rfl) ?_
      refine j_dup dX8_hear_17 rfl ?_
      refine j_aload_n dX8_hear_18 rfl rfl ?_
      refine j_callI dX8_hear_19 kX2_init rfl lX8_93 inX2_init rfl (z_frame [51, 2, 3, 4, 5] rfl (by decide) (Nat.le_of_ble_eq_true rfl) (c_X2_init hl _ _ _ _)) (Nat.le_of_ble_eq_true rfl) ⟨(Nat.le_of_ble_eq_true rfl), (Nat.le_of_ble_eq_true rfl)⟩ rfl (Nat.le_of_ble_eq_true rfl) rfl rfl (fun _ _ h => h.elim) ?_
      rintro _ _ ⟨_, _, ⟨rfl, _, rfl⟩, rfl, rfl⟩
      refine j_w (z_cw _ _ _ _ _ _ _ _ _ _ _ _ _ _ _ _ _ _ _ _ _ _ _ _ _ _ _ _ _ _ _ _ _ _ _ _ _ _ _ _ _ _ _ _ _ _ _ _ _ _ _ _ _ _ _ _ [.inr (7, [_, _, _, _, _])], z_no) rfl ?_
      refine j_aload dX8_hear_22 rfl rfl ?_
      refine j_callS dX8_hear_24 kX8_hearOut lX8_96 stX8_hearOut (z_frame [51, 2, 3, 4, 5, 27, 28] rfl (by decide) (Nat.le_of_ble_eq_true rfl) (c_X8_hearOut_X2 hl _ _ _ _ _ _ _ _ _ _ _ _ _)) (Nat.le_of_ble_eq_true rfl) ⟨(Nat.le_of_ble_eq_true rfl), (Nat.le_of_ble_eq_true rfl)⟩ rfl (Nat.le_of_ble_eq_true rfl) rfl rfl (fun _ _ h => h.elim) ?_
      rintro _ _ ⟨_, _, ⟨_, rfl, _, _, _, _, _, _, _, _, _, rfl⟩, rfl, rfl⟩
      refine j_w (z_cw _ _ _ _ _ _ _ _ _ _ _ _ _ _ _ _ _ _ _ _ _ _ _ _ _ _ _ _ _ _ _ _ _ _ _ _ _ _ _ _ _ _ _ _ _ _ _ _ _ _ _ _ _ _ _ _ [.inr (7, [_, _, _, _, _])], z_no) rfl ?_
      refine j_lo (lo' := []) z_q0 ?_
      refine j_dropL (n := 51) rfl (Nat.le_of_ble_eq_true rfl) (Nat.le_of_ble_eq_true rfl) (Nat.le_of_ble_eq_true rfl) z_cwc rfl rfl ?_
      refine j_w (z_cw _ _ _ _ _ _ _ _ _ _ _ _ _ _ _ _ _ _ _ _ _ _ _ _ _ _ _ _ _ _ _ _ _ _ _ _ _ _ _ _ _ _ _ _ _ _ _ _ _ _ _ _ _ _ _ _ [], z_no) rfl ?_
      refine j_callV (q := (RX8, TX8, 9)) dX8_hear_27 kX8_answer lX8_100 inX8_answer seX8_answer rfl rfl (z_dirF (c_X8_answer hl _ _ _ _ _ _ _ _ _ _ _ _ _ _ _ _ _ _ _ _ _ _ _ _ _ _ _ _ _ _ _ _ _ _ _ _ _ _ _ _ _ _ _ _ _ _ _ _ _ _ _ _ _ _ _ _ _)) (Nat.le_of_ble_eq_true rfl) ⟨(Nat.le_of_ble_eq_true rfl), (Nat.le_of_ble_eq_true rfl)⟩ rfl (Nat.le_of_ble_eq_true rfl) rfl rfl (fun _ _ h => h.elim) ?_
      rintro _ _ ⟨_, ⟨⟨_, rfl⟩, _, rfl⟩, rfl⟩
      refine j_iret dX8_hear_30 rfl rfl ?_ (Nat.le_of_ble_eq_true rfl) (Nat.le_of_ble_eq_true rfl)
      exact ⟨rfl, rfl, ⟨_, rfl⟩, (z_wk (by first | assumption | exact z_m20z) (by first | assumption | exact z_m20z) (by first | assumption | exact z_m20z) (by first | assumption | exact z_m20z) (by first | assumption | exact z_m20z) (by first | assumption | exact z_m20z))⟩
    · refine j_astore (lo' := [(4, _), (3, _), (0, _), (1, _), (2, _)]) dX8_hear_11 rfl (by decide) rfl ?_
      refine j_aload_n dX8_hear_13 rfl rfl ?_
      refine j_new (w' := (z_cw _ _ _ _ _ _ _ _ _ _ _ _ _ _ _ _ _ _ _ _ _ _ _ _ _ _ _ _ _ _ _ _ _ _ _ _ _ _ _ _ _ _ _ _ _ _ _ _ _ _ _ _ _ _ _ _ [.inr (7, [_, _, _, _, _])], z_no)) (n := 51) dX8_hear_14 nX8_91 rfl (z_al_l rfl rfl) (Nat.le_of_ble_eq_true rfl) (Nat.le_of_ble_eq_true rfl) ?_
      refine j_dup dX8_hear_17 rfl ?_
      refine j_aload_n dX8_hear_18 rfl rfl ?_
      refine j_callI dX8_hear_19 kX2_init rfl lX8_93 inX2_init rfl (z_frame [51, 2, 3, 4, 5] rfl (by decide) (Nat.le_of_ble_eq_true rfl) (c_X2_init hl _ _ _ _)) (Nat.le_of_ble_eq_true rfl) ⟨(Nat.le_of_ble_eq_true rfl), (Nat.le_of_ble_eq_true rfl)⟩ rfl (Nat.le_of_ble_eq_true rfl) rfl rfl (fun _ _ h => h.elim) ?_
      rintro _ _ ⟨_, _, ⟨rfl, _, rfl⟩, rfl, rfl⟩
      refine j_w (z_cw _ _ _ _ _ _ _ _ _ _ _ _ _ _ _ _ _ _ _ _ _ _ _ _ _ _ _ _ _ _ _ _ _ _ _ _ _ _ _ _ _ _ _ _ _ _ _ _ _ _ _ _ _ _ _ _ [.inr (7, [_, _, _, _, _])], z_no) rfl ?_
      refine j_aload dX8_hear_22 rfl rfl ?_
      refine j_callS dX8_hear_24 kX8_hearOut lX8_96 stX8_hearOut (z_frame [51, 2, 3, 4, 5, 29, 30] rfl (by decide) (Nat.le_of_ble_eq_true rfl) (c_X8_hearOut_X2 hl _ _ _ _ _ _ _ _ _ _ _ _ _)) (Nat.le_of_ble_eq_true rfl) ⟨(Nat.le_of_ble_eq_true rfl), (Nat.le_of_ble_eq_true rfl)⟩ rfl (Nat.le_of_ble_eq_true rfl) rfl rfl (fun _ _ h => h.elim) ?_
      rintro _ _ ⟨_, _, ⟨_, rfl, _, _, _, _, _, _, _, _, _, rfl⟩, rfl, rfl⟩
      refine j_w (z_cw _ _ _ _ _ _ _ _ _ _ _ _ _ _ _ _ _ _ _ _ _ _ _ _ _ _ _ _ _ _ _ _ _ _ _ _ _ _ _ _ _ _ _ _ _ _ _ _ _ _ _ _ _ _ _ _ [.inr (7, [_, _, _, _, _])], z_no) rfl ?_
      refine j_lo (lo' := []) z_q0 ?_
      refine j_dropL (n := 51) rfl (Nat.le_of_ble_eq_true rfl) (Nat.le_of_ble_eq_true rfl) (Nat.le_of_ble_eq_true rfl) z_cwc rfl rfl ?_
      refine j_w (z_cw _ _ _ _ _ _ _ _ _ _ _ _ _ _ _ _ _ _ _ _ _ _ _ _ _ _ _ _ _ _ _ _ _ _ _ _ _ _ _ _ _ _ _ _ _ _ _ _ _ _ _ _ _ _ _ _ [], z_no) rfl ?_
      refine j_callV (q := (RX8, TX8, 9)) dX8_hear_27 kX8_answer lX8_100 inX8_answer seX8_answer rfl rfl (z_dirF (c_X8_answer hl _ _ _ _ _ _ _ _ _ _ _ _ _ _ _ _ _ _ _ _ _ _ _ _ _ _ _ _ _ _ _ _ _ _ _ _ _ _ _ _ _ _ _ _ _ _ _ _ _ _ _ _ _ _ _ _ _)) (Nat.le_of_ble_eq_true rfl) ⟨(Nat.le_of_ble_eq_true rfl), (Nat.le_of_ble_eq_true rfl)⟩ rfl (Nat.le_of_ble_eq_true rfl) rfl rfl (fun _ _ h => h.elim) ?_
      rintro _ _ ⟨_, ⟨⟨_, rfl⟩, _, rfl⟩, rfl⟩
      refine j_iret dX8_hear_30 rfl rfl ?_ (Nat.le_of_ble_eq_true rfl) (Nat.le_of_ble_eq_true rfl)
      exact ⟨rfl, rfl, ⟨_, rfl⟩, (z_wk (by first | assumption | exact z_m20z) (by first | assumption | exact z_m20z) (by first | assumption | exact z_m20z) (by first | assumption | exact z_m20z) (by first | assumption | exact z_m20z) (by first | assumption | exact z_m20z))⟩
  · refine j_astore_n (lo' := [(3, _), (0, _), (1, _), (2, _)]) dX8_hear_5 rfl (by decide) rfl ?_
    refine j_aload_n dX8_hear_6 rfl rfl ?_
    refine j_iload_n dX8_hear_7 rfl ?_
    refine j_callV (q := (RX8, TX8, 9)) dX8_hear_8 kX8_hearerFor lX8_87 inX8_hearerFor seX8_hearerFor rfl rfl (z_dirX (c_X8_hearerFor hl _ _ _ _ _ _ _ _ _ _ _ _ _ _ _ _ _ _ _ _ _ _ _ _ _ _ _ _ _ _ _ _ _ _ _ _ _ _ _ _ _ _ _ _ _ _ _ _ _ _ _ _ _ _ _ _ _)) (Nat.le_of_ble_eq_true rfl) ⟨(Nat.le_of_ble_eq_true rfl), (Nat.le_of_ble_eq_true rfl)⟩ rfl (Nat.le_of_ble_eq_true rfl) rfl rfl (fun _ _ h => by obtain ⟨_, ⟨h1, rfl⟩, rfl⟩ := h; exact ⟨rfl, rfl, x_I_I h1, rfl⟩) ?_
    rintro _ _ ⟨_, ⟨_, rfl, hr, rfl⟩, rfl⟩
    have hq_8 := hr
    rcases hr with ⟨e_8, rfl⟩ | ⟨e_8, rfl⟩
    · refine j_astore (lo' := [(4, _), (3, _), (0, _), (1, _), (2, _)]) dX8_hear_11 rfl (by decide) rfl ?_
      refine j_aload_n dX8_hear_13 rfl rfl ?_
      refine j_new (w' := (z_cw _ _ _ _ _ _ _ _ _ _ _ _ _ _ _ _ _ _ _ _ _ _ _ _ _ _ _ _ _ _ _ _ _ _ _ _ _ _ _ _ _ _ _ _ _ _ _ _ _ _ _ _ _ _ _ _ [.inr (7, [_, _, _, _, _])], z_no)) (n := 51) dX8_hear_14 nX8_91 rfl (z_al_l rfl rfl) (Nat.le_of_ble_eq_true rfl) (Nat.le_of_ble_eq_true rfl) ?_
      refine j_dup dX8_hear_17 rfl ?_
      refine j_aload_n dX8_hear_18 rfl rfl ?_
      refine j_callI dX8_hear_19 kX2_init rfl lX8_93 inX2_init rfl (z_frame [51, 6, 7, 8, 9] rfl (by decide) (Nat.le_of_ble_eq_true rfl) (c_X2_init hl _ _ _ _)) (Nat.le_of_ble_eq_true rfl) ⟨(Nat.le_of_ble_eq_true rfl), (Nat.le_of_ble_eq_true rfl)⟩ rfl (Nat.le_of_ble_eq_true rfl) rfl rfl (fun _ _ h => h.elim) ?_
      rintro _ _ ⟨_, _, ⟨rfl, _, rfl⟩, rfl, rfl⟩
      refine j_w (z_cw _ _ _ _ _ _ _ _ _ _ _ _ _ _ _ _ _ _ _ _ _ _ _ _ _ _ _ _ _ _ _ _ _ _ _ _ _ _ _ _ _ _ _ _ _ _ _ _ _ _ _ _ _ _ _ _ [.inr (7, [_, _, _, _, _])], z_no) rfl ?_
      refine j_aload dX8_hear_22 rfl rfl ?_
      refine j_callS dX8_hear_24 kX8_hearOut lX8_96 stX8_hearOut (z_frame [51, 6, 7, 8, 9, 27, 28] rfl (by decide) (Nat.le_of_ble_eq_true rfl) (c_X8_hearOut_X2 hl _ _ _ _ _ _ _ _ _ _ _ _ _)) (Nat.le_of_ble_eq_true rfl) ⟨(Nat.le_of_ble_eq_true rfl), (Nat.le_of_ble_eq_true rfl)⟩ rfl (Nat.le_of_ble_eq_true rfl) rfl rfl (fun _ _ h => h.elim) ?_
      rintro _ _ ⟨_, _, ⟨_, rfl, _, _, _, _, _, _, _, _, _, rfl⟩, rfl, rfl⟩
      refine j_w (z_cw _ _ _ _ _ _ _ _ _ _ _ _ _ _ _ _ _ _ _ _ _ _ _ _ _ _ _ _ _ _ _ _ _ _ _ _ _ _ _ _ _ _ _ _ _ _ _ _ _ _ _ _ _ _ _ _ [.inr (7, [_, _, _, _, _])], z_no) rfl ?_
      refine j_lo (lo' := []) z_q0 ?_
      refine j_dropL (n := 51) rfl (Nat.le_of_ble_eq_true rfl) (Nat.le_of_ble_eq_true rfl) (Nat.le_of_ble_eq_true rfl) z_cwc rfl rfl ?_
      refine j_w (z_cw _ _ _ _ _ _ _ _ _ _ _ _ _ _ _ _ _ _ _ _ _ _ _ _ _ _ _ _ _ _ _ _ _ _ _ _ _ _ _ _ _ _ _ _ _ _ _ _ _ _ _ _ _ _ _ _ [], z_no) rfl ?_
      refine j_callV (q := (RX8, TX8, 9)) dX8_hear_27 kX8_answer lX8_100 inX8_answer seX8_answer rfl rfl (z_dirF (c_X8_answer hl _ _ _ _ _ _ _ _ _ _ _ _ _ _ _ _ _ _ _ _ _ _ _ _ _ _ _ _ _ _ _ _ _ _ _ _ _ _ _ _ _ _ _ _ _ _ _ _ _ _ _ _ _ _ _ _ _)) (Nat.le_of_ble_eq_true rfl) ⟨(Nat.le_of_ble_eq_true rfl), (Nat.le_of_ble_eq_true rfl)⟩ rfl (Nat.le_of_ble_eq_true rfl) rfl rfl (fun _ _ h => h.elim) ?_
      rintro _ _ ⟨_, ⟨⟨_, rfl⟩, _, rfl⟩, rfl⟩
      refine j_iret dX8_hear_30 rfl rfl ?_ (Nat.le_of_ble_eq_true rfl) (Nat.le_of_ble_eq_true rfl)
      exact ⟨rfl, rfl, ⟨_, rfl⟩, (z_wk (by first | assumption | exact z_m20z) (by first | assumption | exact z_m20z) (by first | assumption | exact z_m20z) (by first | assumption | exact z_m20z) (by first | assumption | exact z_m20z) (by first | assumption | exact z_m20z))⟩
    · refine j_astore (lo' := [(4, _), (3, _), (0, _), (1, _), (2, _)]) dX8_hear_11 rfl (by decide) rfl ?_
      refine j_aload_n dX8_hear_13 rfl rfl ?_
      refine j_new (w' := (z_cw _ _ _ _ _ _ _ _ _ _ _ _ _ _ _ _ _ _ _ _ _ _ _ _ _ _ _ _ _ _ _ _ _ _ _ _ _ _ _ _ _ _ _ _ _ _ _ _ _ _ _ _ _ _ _ _ [.inr (7, [_, _, _, _, _])], z_no)) (n := 51) dX8_hear_14 nX8_91 rfl (z_al_l rfl rfl) (Nat.le_of_ble_eq_true rfl) (Nat.le_of_ble_eq_true rfl) ?_
      refine j_dup dX8_hear_17 rfl ?_
      refine j_aload_n dX8_hear_18 rfl rfl ?_
      refine j_callI dX8_hear_19 kX2_init rfl lX8_93 inX2_init rfl (z_frame [51, 6, 7, 8, 9] rfl (by decide) (Nat.le_of_ble_eq_true rfl) (c_X2_init hl _ _ _ _)) (Nat.le_of_ble_eq_true rfl) ⟨(Nat.le_of_ble_eq_true rfl), (Nat.le_of_ble_eq_true rfl)⟩ rfl (Nat.le_of_ble_eq_true rfl) rfl rfl (fun _ _ h => h.elim) ?_
      rintro _ _ ⟨_, _, ⟨rfl, _, rfl⟩, rfl, rfl⟩
      refine j_w (z_cw _ _ _ _ _ _ _ _ _ _ _ _ _ _ _ _ _ _ _ _ _ _ _ _ _ _ _ _ _ _ _ _ _ _ _ _ _ _ _ _ _ _ _ _ _ _ _ _ _ _ _ _ _ _ _ _ [.inr (7, [_, _, _, _, _])], z_no) rfl ?_
      refine j_aload dX8_hear_22 rfl rfl ?_
      refine j_callS dX8_hear_24 kX8_hearOut lX8_96 stX8_hearOut (z_frame [51, 6, 7, 8, 9, 29, 30] rfl (by decide) (Nat.le_of_ble_eq_true rfl) (c_X8_hearOut_X2 hl _ _ _ _ _ _ _ _ _ _ _ _ _)) (Nat.le_of_ble_eq_true rfl) ⟨(Nat.le_of_ble_eq_true rfl), (Nat.le_of_ble_eq_true rfl)⟩ rfl (Nat.le_of_ble_eq_true rfl) rfl rfl (fun _ _ h => h.elim) ?_
      rintro _ _ ⟨_, _, ⟨_, rfl, _, _, _, _, _, _, _, _, _, rfl⟩, rfl, rfl⟩
      refine j_w (z_cw _ _ _ _ _ _ _ _ _ _ _ _ _ _ _ _ _ _ _ _ _ _ _ _ _ _ _ _ _ _ _ _ _ _ _ _ _ _ _ _ _ _ _ _ _ _ _ _ _ _ _ _ _ _ _ _ [.inr (7, [_, _, _, _, _])], z_no) rfl ?_
      refine j_lo (lo' := []) z_q0 ?_
      refine j_dropL (n := 51) rfl (Nat.le_of_ble_eq_true rfl) (Nat.le_of_ble_eq_true rfl) (Nat.le_of_ble_eq_true rfl) z_cwc rfl rfl ?_
      refine j_w (z_cw _ _ _ _ _ _ _ _ _ _ _ _ _ _ _ _ _ _ _ _ _ _ _ _ _ _ _ _ _ _ _ _ _ _ _ _ _ _ _ _ _ _ _ _ _ _ _ _ _ _ _ _ _ _ _ _ [], z_no) rfl ?_
      refine j_callV (q := (RX8, TX8, 9)) dX8_hear_27 kX8_answer lX8_100 inX8_answer seX8_answer rfl rfl (z_dirF (c_X8_answer hl _ _ _ _ _ _ _ _ _ _ _ _ _ _ _ _ _ _ _ _ _ _ _ _ _ _ _ _ _ _ _ _ _ _ _ _ _ _ _ _ _ _ _ _ _ _ _ _ _ _ _ _ _ _ _ _ _)) (Nat.le_of_ble_eq_true rfl) ⟨(Nat.le_of_ble_eq_true rfl), (Nat.le_of_ble_eq_true rfl)⟩ rfl (Nat.le_of_ble_eq_true rfl) rfl rfl (fun _ _ h => h.elim) ?_
      rintro _ _ ⟨_, ⟨⟨_, rfl⟩, _, rfl⟩, rfl⟩
      refine j_iret dX8_hear_30 rfl rfl ?_ (Nat.le_of_ble_eq_true rfl) (Nat.le_of_ble_eq_true rfl)
      exact ⟨rfl, rfl, ⟨_, rfl⟩, (z_wk (by first | assumption | exact z_m20z) (by first | assumption | exact z_m20z) (by first | assumption | exact z_m20z) (by first | assumption | exact z_m20z) (by first | assumption | exact z_m20z) (by first | assumption | exact z_m20z))⟩
set_option maxRecDepth 100000 in
set_option maxHeartbeats 8000000 in
theorem c_X8_rest (hl : l.stackTraces = false) (rf : Int32) (kn : Int32) (ma : Int32) (xa : Bool) (fa : Nat → Int32) (ca : Nat → Int32) (mb : Int32) (xb : Bool) (fb : Nat → Int32) (cb : Nat → Int32) (mt : Int32) (xt : Bool) (ft : Nat → Int32) (ct : Nat → Int32) (f0 : Nat → Int32) (g0 : Nat → Int32) (c0 : Nat → Int32) (m0 : Int32) (s0 : Int32) (f1 : Nat → Int32) (g1 : Nat → Int32) (c1 : Nat → Int32) (m1 : Int32) (s1 : Int32) (f2 : Nat → Int32) (g2 : Nat → Int32) (c2 : Nat → Int32) (m2 : Int32) (s2 : Int32) (f3 : Nat → Int32) (g3 : Nat → Int32) (c3 : Nat → Int32) (m3 : Int32) (s3 : Int32) (f4 : Nat → Int32) (g4 : Nat → Int32) (c4 : Nat → Int32) (m4 : Int32) (s4 : Int32) (f5 : Nat → Int32) (g5 : Nat → Int32) (c5 : Nat → Int32) (m5 : Int32) (s5 : Int32) (ek0 : Int32) (em0 : Int32) (es0 : Int32) (el0 : Int32) (b0 : Int32) (ef0 : Nat → Int32) (ek1 : Int32) (em1 : Int32) (es1 : Int32) (el1 : Int32) (b1 : Int32) (ef1 : Nat → Int32) (r p q : Int32) (h0 : z_m20 m0) (h1 : z_m20 m1) (h2 : z_m20 m2) (h3 : z_m20 m3) (h4 : z_m20 m4) (h5 : z_m20 m5) : z_CX G l mX8_rest 20 14 120 (z_cw rf kn ma xa fa ca mb xb fb cb mt xt ft ct f0 g0 c0 m0 s0 f1 g1 c1 m1 s1 f2 g2 c2 m2 s2 f3 g3 c3 m3 s3 f4 g4 c4 m4 s4 f5 g5 c5 m5 s5 ek0 em0 es0 el0 b0 ef0 ek1 em1 es1 el1 b1 ef1 []) [.ref 0, .int r, .int p, .int q] (fun v L => (∃ x : Int32, v = some (.int x)) ∧ z_Wk kn xa xb b0 b1 L) (fun E L => z_xIA E ∧ L = (z_cw rf kn ma xa fa ca mb xb fb cb mt xt ft ct f0 g0 c0 m0 s0 f1 g1 c1 m1 s1 f2 g2 c2 m2 s2 f3 g3 c3 m3 s3 f4 g4 c4 m4 s4 f5 g5 c5 m5 s5 ek0 em0 es0 el0 b0 ef0 ek1 em1 es1 el1 b1 ef1 [])) := by
  refine z_body hl (by decide) rfl (Nat.le_of_ble_eq_true rfl) ?_
  show z_J G l mX8_rest (z_SX 20 14 120 (z_cw rf kn ma xa fa ca mb xb fb cb mt xt ft ct f0 g0 c0 m0 s0 f1 g1 c1 m1 s1 f2 g2 c2 m2 s2 f3 g3 c3 m3 s3 f4 g4 c4 m4 s4 f5 g5 c5 m5 s5 ek0 em0 es0 el0 b0 ef0 ek1 em1 es1 el1 b1 ef1 []) (fun v L => (∃ x : Int32, v = some (.int x)) ∧ z_Wk kn xa xb b0 b1 L) (fun E L => z_xIA E ∧ L = (z_cw rf kn ma xa fa ca mb xb fb cb mt xt ft ct f0 g0 c0 m0 s0 f1 g1 c1 m1 s1 f2 g2 c2 m2 s2 f3 g3 c3 m3 s3 f4 g4 c4 m4 s4 f5 g5 c5 m5 s5 ek0 em0 es0 el0 b0 ef0 ek1 em1 es1 el1 b1 ef1 []))) 0 [(0, _), (1, _), (2, _), (3, _)] [] _ 0 0
  refine j_aload_n dX8_rest_0 rfl rfl ?_
  refine j_iload_n dX8_rest_1 rfl ?_
  refine j_callV (q := (RX8, TX8, 9)) dX8_rest_2 kX8_rowFor lX8_46 inX8_rowFor seX8_rowFor rfl rfl (z_dirX (c_X8_rowFor hl _ _ _ _ _ _ _ _ _ _ _ _ _ _ _ _ _ _ _ _ _ _ _ _ _ _ _ _ _ _ _ _ _ _ _ _ _ _ _ _ _ _ _ _ _ _ _ _ _ _ _ _ _ _ _ _ _)) (Nat.le_of_ble_eq_true rfl) ⟨(Nat.le_of_ble_eq_true rfl), (Nat.le_of_ble_eq_true rfl)⟩ rfl (Nat.le_of_ble_eq_true rfl) rfl rfl (fun _ _ h => by obtain ⟨_, ⟨h1, rfl⟩, rfl⟩ := h; exact ⟨rfl, rfl, x_I_IA h1, rfl⟩) ?_
  rintro _ _ ⟨_, ⟨_, rfl, hr, rfl⟩, rfl⟩
  have hq_2 := hr
  rcases hr with ⟨e_2, rfl⟩ | ⟨e_2, rfl⟩
  · refine j_astore (lo' := [(4, _), (0, _), (1, _), (2, _), (3, _)]) dX8_rest_5 rfl (by decide) rfl ?_
    refine j_aload_n dX8_rest_7 rfl rfl ?_
    refine j_iload_n dX8_rest_8 rfl ?_
    refine j_callV (q := (RX8, TX8, 9)) dX8_rest_9 kX8_hearerFor lX8_87 inX8_hearerFor seX8_hearerFor rfl rfl (z_dirX (c_X8_hearerFor hl _ _ _ _ _ _ _ _ _ _ _ _ _ _ _ _ _ _ _ _ _ _ _ _ _ _ _ _ _ _ _ _ _ _ _ _ _ _ _ _ _ _ _ _ _ _ _ _ _ _ _ _ _ _ _ _ _)) (Nat.le_of_ble_eq_true rfl) ⟨(Nat.le_of_ble_eq_true rfl), (Nat.le_of_ble_eq_true rfl)⟩ rfl (Nat.le_of_ble_eq_true rfl) rfl rfl (fun _ _ h => by obtain ⟨_, ⟨h1, rfl⟩, rfl⟩ := h; exact ⟨rfl, rfl, x_I_IA h1, rfl⟩) ?_
    rintro _ _ ⟨_, ⟨_, rfl, hr, rfl⟩, rfl⟩
    have hq_9 := hr
    rcases hr with ⟨e_9, rfl⟩ | ⟨e_9, rfl⟩
    · refine j_astore (lo' := [(5, _), (4, _), (0, _), (1, _), (2, _), (3, _)]) dX8_rest_12 rfl (by decide) rfl ?_
      refine j_iload_n dX8_rest_14 rfl ?_
      refine j_iconst (v := 0) dX8_rest_15 (by decide) ?_
      refine j_aload dX8_rest_16 rfl rfl ?_
      refine j_getf dX8_rest_18 fX8_68 rfl rfl ?_
      refine j_callS dX8_rest_21 kX8_checkRange lX8_72 stX8_checkRange (c_X8_checkRange hl _ _ _ _) (Nat.le_of_ble_eq_true rfl) ⟨(Nat.le_of_ble_eq_true rfl), (Nat.le_of_ble_eq_true rfl)⟩ rfl (Nat.le_of_ble_eq_true rfl) rfl rfl (fun _ _ h => by obtain ⟨h1, rfl⟩ := h; exact ⟨rfl, rfl, x_A_IA h1, rfl⟩) ?_
      rintro _ _ ⟨rfl, rfl⟩
      refine j_new (w' := (z_cw _ _ _ _ _ _ _ _ _ _ _ _ _ _ _ _ _ _ _ _ _ _ _ _ _ _ _ _ _ _ _ _ _ _ _ _ _ _ _ _ _ _ _ _ _ _ _ _ _ _ _ _ _ _ _ _ [.inr (7, [_, _, _, _, _])], z_no)) (n := 51) dX8_rest_24 nX8_91 rfl (z_al_l rfl rfl) (Nat.le_of_ble_eq_true rfl) (Nat.le_of_ble_eq_true rfl) ?_
      refine j_dup dX8_rest_27 rfl ?_
      refine j_aload dX8_rest_28 rfl rfl ?_
      refine j_callI dX8_rest_30 kX2_init rfl lX8_93 inX2_init rfl (z_frame [51, 2, 3, 4, 5] rfl (by decide) (Nat.le_of_ble_eq_true rfl) (c_X2_init hl _ _ _ _)) (Nat.le_of_ble_eq_true rfl) ⟨(Nat.le_of_ble_eq_true rfl), (Nat.le_of_ble_eq_true rfl)⟩ rfl (Nat.le_of_ble_eq_true rfl) rfl rfl (fun _ _ h => h.elim) ?_
      rintro _ _ ⟨_, _, ⟨rfl, _, rfl⟩, rfl, rfl⟩
      refine j_w (z_cw _ _ _ _ _ _ _ _ _ _ _ _ _ _ _ _ _ _ _ _ _ _ _ _ _ _ _ _ _ _ _ _ _ _ _ _ _ _ _ _ _ _ _ _ _ _ _ _ _ _ _ _ _ _ _ _ [.inr (7, [_, _, _, _, _])], z_no) rfl ?_
      refine j_astore (lo' := [(6, _), (5, _), (4, _), (0, _), (1, _), (2, _), (3, _)]) dX8_rest_33 rfl (by decide) rfl ?_
      refine j_aload dX8_rest_35 rfl rfl ?_
      refine j_iload_n dX8_rest_37 rfl ?_
      refine j_callS dX8_rest_38 kX8_passBy lX8_104 stX8_passBy (z_frame [51, 2, 3, 4, 5] rfl (by decide) (Nat.le_of_ble_eq_true rfl) (c_X8_passBy_X2 hl _ _ _ _ _ _ _ _)) (Nat.le_of_ble_eq_true rfl) ⟨(Nat.le_of_ble_eq_true rfl), (Nat.le_of_ble_eq_true rfl)⟩ rfl (Nat.le_of_ble_eq_true rfl) rfl rfl (fun _ _ h => h.elim) ?_
      rintro _ _ ⟨_, _, ⟨rfl, _, _, _, _, rfl⟩, rfl, rfl⟩
      refine j_w (z_cw _ _ _ _ _ _ _ _ _ _ _ _ _ _ _ _ _ _ _ _ _ _ _ _ _ _ _ _ _ _ _ _ _ _ _ _ _ _ _ _ _ _ _ _ _ _ _ _ _ _ _ _ _ _ _ _ [.inr (7, [_, _, _, _, _])], z_no) rfl ?_
      refine j_aload_n dX8_rest_41 rfl rfl ?_
      refine j_aload dX8_rest_42 rfl rfl ?_
      refine j_aload dX8_rest_44 rfl rfl ?_
      refine j_callS dX8_rest_46 kX8_hearOut lX8_96 stX8_hearOut (z_frame [51, 2, 3, 4, 5, 27, 28] rfl (by decide) (Nat.le_of_ble_eq_true rfl) (c_X8_hearOut_X2 hl _ _ _ _ _ _ _ _ _ _ _ _ _)) (Nat.le_of_ble_eq_true rfl) ⟨(Nat.le_of_ble_eq_true rfl), (Nat.le_of_ble_eq_true rfl)⟩ rfl (Nat.le_of_ble_eq_true rfl) rfl rfl (fun _ _ h => h.elim) ?_
      rintro _ _ ⟨_, _, ⟨_, rfl, _, _, _, _, _, _, _, _, _, rfl⟩, rfl, rfl⟩
      refine j_w (z_cw _ _ _ _ _ _ _ _ _ _ _ _ _ _ _ _ _ _ _ _ _ _ _ _ _ _ _ _ _ _ _ _ _ _ _ _ _ _ _ _ _ _ _ _ _ _ _ _ _ _ _ _ _ _ _ _ [.inr (7, [_, _, _, _, _])], z_no) rfl ?_
      refine j_lo (lo' := []) z_q0 ?_
      refine j_dropL (n := 51) rfl (Nat.le_of_ble_eq_true rfl) (Nat.le_of_ble_eq_true rfl) (Nat.le_of_ble_eq_true rfl) z_cwc rfl rfl ?_
      refine j_w (z_cw _ _ _ _ _ _ _ _ _ _ _ _ _ _ _ _ _ _ _ _ _ _ _ _ _ _ _ _ _ _ _ _ _ _ _ _ _ _ _ _ _ _ _ _ _ _ _ _ _ _ _ _ _ _ _ _ [], z_no) rfl ?_
      refine j_callV (q := (RX8, TX8, 9)) dX8_rest_49 kX8_answer lX8_100 inX8_answer seX8_answer rfl rfl (z_dirF (c_X8_answer hl _ _ _ _ _ _ _ _ _ _ _ _ _ _ _ _ _ _ _ _ _ _ _ _ _ _ _ _ _ _ _ _ _ _ _ _ _ _ _ _ _ _ _ _ _ _ _ _ _ _ _ _ _ _ _ _ _)) (Nat.le_of_ble_eq_true rfl) ⟨(Nat.le_of_ble_eq_true rfl), (Nat.le_of_ble_eq_true rfl)⟩ rfl (Nat.le_of_ble_eq_true rfl) rfl rfl (fun _ _ h => h.elim) ?_
      rintro _ _ ⟨_, ⟨⟨_, rfl⟩, _, rfl⟩, rfl⟩
      refine j_iret dX8_rest_52 rfl rfl ?_ (Nat.le_of_ble_eq_true rfl) (Nat.le_of_ble_eq_true rfl)
      exact ⟨rfl, rfl, ⟨_, rfl⟩, (z_wk (by first | assumption | exact z_m20z) (by first | assumption | exact z_m20z) (by first | assumption | exact z_m20z) (by first | assumption | exact z_m20z) (by first | assumption | exact z_m20z) (by first | assumption | exact z_m20z))⟩
    · refine j_astore (lo' := [(5, _), (4, _), (0, _), (1, _), (2, _), (3, _)]) dX8_rest_12 rfl (by decide) rfl ?_
      refine j_iload_n dX8_rest_14 rfl ?_
      refine j_iconst (v := 0) dX8_rest_15 (by decide) ?_
      refine j_aload dX8_rest_16 rfl rfl ?_
      refine j_getf dX8_rest_18 fX8_68 rfl rfl ?_
      refine j_callS dX8_rest_21 kX8_checkRange lX8_72 stX8_checkRange (c_X8_checkRange hl _ _ _ _) (Nat.le_of_ble_eq_true rfl) ⟨(Nat.le_of_ble_eq_true rfl), (Nat.le_of_ble_eq_true rfl)⟩ rfl (Nat.le_of_ble_eq_true rfl) rfl rfl (fun _ _ h => by obtain ⟨h1, rfl⟩ := h; exact ⟨rfl, rfl, x_A_IA h1, rfl⟩) ?_
      rintro _ _ ⟨rfl, rfl⟩
      refine j_new (w' := (z_cw _ _ _ _ _ _ _ _ _ _ _ _ _ _ _ _ _ _ _ _ _ _ _ _ _ _ _ _ _ _ _ _ _ _ _ _ _ _ _ _ _ _ _ _ _ _ _ _ _ _ _ _ _ _ _ _ [.inr (7, [_, _, _, _, _])], z_no)) (n := 51) dX8_rest_24 nX8_91 rfl (z_al_l rfl rfl) (Nat.le_of_ble_eq_true rfl) (Nat.le_of_ble_eq_true rfl) ?_
      refine j_dup dX8_rest_27 rfl ?_
      refine j_aload dX8_rest_28 rfl rfl ?_
      refine j_callI dX8_rest_30 kX2_init rfl lX8_93 inX2_init rfl (z_frame [51, 2, 3, 4, 5] rfl (by decide) (Nat.le_of_ble_eq_true rfl) (c_X2_init hl _ _ _ _)) (Nat.le_of_ble_eq_true rfl) ⟨(Nat.le_of_ble_eq_true rfl), (Nat.le_of_ble_eq_true rfl)⟩ rfl (Nat.le_of_ble_eq_true rfl) rfl rfl (fun _ _ h => h.elim) ?_
      rintro _ _ ⟨_, _, ⟨rfl, _, rfl⟩, rfl, rfl⟩
      refine j_w (z_cw _ _ _ _ _ _ _ _ _ _ _ _ _ _ _ _ _ _ _ _ _ _ _ _ _ _ _ _ _ _ _ _ _ _ _ _ _ _ _ _ _ _ _ _ _ _ _ _ _ _ _ _ _ _ _ _ [.inr (7, [_, _, _, _, _])], z_no) rfl ?_
      refine j_astore (lo' := [(6, _), (5, _), (4, _), (0, _), (1, _), (2, _), (3, _)]) dX8_rest_33 rfl (by decide) rfl ?_
      refine j_aload dX8_rest_35 rfl rfl ?_
      refine j_iload_n dX8_rest_37 rfl ?_
      refine j_callS dX8_rest_38 kX8_passBy lX8_104 stX8_passBy (z_frame [51, 2, 3, 4, 5] rfl (by decide) (Nat.le_of_ble_eq_true rfl) (c_X8_passBy_X2 hl _ _ _ _ _ _ _ _)) (Nat.le_of_ble_eq_true rfl) ⟨(Nat.le_of_ble_eq_true rfl), (Nat.le_of_ble_eq_true rfl)⟩ rfl (Nat.le_of_ble_eq_true rfl) rfl rfl (fun _ _ h => h.elim) ?_
      rintro _ _ ⟨_, _, ⟨rfl, _, _, _, _, rfl⟩, rfl, rfl⟩
      refine j_w (z_cw _ _ _ _ _ _ _ _ _ _ _ _ _ _ _ _ _ _ _ _ _ _ _ _ _ _ _ _ _ _ _ _ _ _ _ _ _ _ _ _ _ _ _ _ _ _ _ _ _ _ _ _ _ _ _ _ [.inr (7, [_, _, _, _, _])], z_no) rfl ?_
      refine j_aload_n dX8_rest_41 rfl rfl ?_
      refine j_aload dX8_rest_42 rfl rfl ?_
      refine j_aload dX8_rest_44 rfl rfl ?_
      refine j_callS dX8_rest_46 kX8_hearOut lX8_96 stX8_hearOut (z_frame [51, 2, 3, 4, 5, 29, 30] rfl (by decide) (Nat.le_of_ble_eq_true rfl) (c_X8_hearOut_X2 hl _ _ _ _ _ _ _ _ _ _ _ _ _)) (Nat.le_of_ble_eq_true rfl) ⟨(Nat.le_of_ble_eq_true rfl), (Nat.le_of_ble_eq_true rfl)⟩ rfl (Nat.le_of_ble_eq_true rfl) rfl rfl (fun _ _ h => h.elim) ?_
      rintro _ _ ⟨_, _, ⟨_, rfl, _, _, _, _, _, _, _, _, _, rfl⟩, rfl, rfl⟩
      refine j_w (z_cw _ _ _ _ _ _ _ _ _ _ _ _ _ _ _ _ _ _ _ _ _ _ _ _ _ _ _ _ _ _ _ _ _ _ _ _ _ _ _ _ _ _ _ _ _ _ _ _ _ _ _ _ _ _ _ _ [.inr (7, [_, _, _, _, _])], z_no) rfl ?_
      refine j_lo (lo' := []) z_q0 ?_
      refine j_dropL (n := 51) rfl (Nat.le_of_ble_eq_true rfl) (Nat.le_of_ble_eq_true rfl) (Nat.le_of_ble_eq_true rfl) z_cwc rfl rfl ?_
      refine j_w (z_cw _ _ _ _ _ _ _ _ _ _ _ _ _ _ _ _ _ _ _ _ _ _ _ _ _ _ _ _ _ _ _ _ _ _ _ _ _ _ _ _ _ _ _ _ _ _ _ _ _ _ _ _ _ _ _ _ [], z_no) rfl ?_
      refine j_callV (q := (RX8, TX8, 9)) dX8_rest_49 kX8_answer lX8_100 inX8_answer seX8_answer rfl rfl (z_dirF (c_X8_answer hl _ _ _ _ _ _ _ _ _ _ _ _ _ _ _ _ _ _ _ _ _ _ _ _ _ _ _ _ _ _ _ _ _ _ _ _ _ _ _ _ _ _ _ _ _ _ _ _ _ _ _ _ _ _ _ _ _)) (Nat.le_of_ble_eq_true rfl) ⟨(Nat.le_of_ble_eq_true rfl), (Nat.le_of_ble_eq_true rfl)⟩ rfl (Nat.le_of_ble_eq_true rfl) rfl rfl (fun _ _ h => h.elim) ?_
      rintro _ _ ⟨_, ⟨⟨_, rfl⟩, _, rfl⟩, rfl⟩
      refine j_iret dX8_rest_52 rfl rfl ?_ (Nat.le_of_ble_eq_true rfl) (Nat.le_of_ble_eq_true rfl)
      exact ⟨rfl, rfl, ⟨_, rfl⟩, (z_wk (by first | assumption | exact z_m20z) (by first | assumption | exact z_m20z) (by first | assumption | exact z_m20z) (by first | assumption | exact z_m20z) (by first | assumption | exact z_m20z) (by first | assumption | exact z_m20z))⟩
  · refine j_astore (lo' := [(4, _), (0, _), (1, _), (2, _), (3, _)]) dX8_rest_5 rfl (by decide) rfl ?_
    refine j_aload_n dX8_rest_7 rfl rfl ?_
    refine j_iload_n dX8_rest_8 rfl ?_
    refine j_callV (q := (RX8, TX8, 9)) dX8_rest_9 kX8_hearerFor lX8_87 inX8_hearerFor seX8_hearerFor rfl rfl (z_dirX (c_X8_hearerFor hl _ _ _ _ _ _ _ _ _ _ _ _ _ _ _ _ _ _ _ _ _ _ _ _ _ _ _ _ _ _ _ _ _ _ _ _ _ _ _ _ _ _ _ _ _ _ _ _ _ _ _ _ _ _ _ _ _)) (Nat.le_of_ble_eq_true rfl) ⟨(Nat.le_of_ble_eq_true rfl), (Nat.le_of_ble_eq_true rfl)⟩ rfl (Nat.le_of_ble_eq_true rfl) rfl rfl (fun _ _ h => by obtain ⟨_, ⟨h1, rfl⟩, rfl⟩ := h; exact ⟨rfl, rfl, x_I_IA h1, rfl⟩) ?_
    rintro _ _ ⟨_, ⟨_, rfl, hr, rfl⟩, rfl⟩
    have hq_9 := hr
    rcases hr with ⟨e_9, rfl⟩ | ⟨e_9, rfl⟩
    · refine j_astore (lo' := [(5, _), (4, _), (0, _), (1, _), (2, _), (3, _)]) dX8_rest_12 rfl (by decide) rfl ?_
      refine j_iload_n dX8_rest_14 rfl ?_
      refine j_iconst (v := 0) dX8_rest_15 (by decide) ?_
      refine j_aload dX8_rest_16 rfl rfl ?_
      refine j_getf dX8_rest_18 fX8_68 rfl rfl ?_
      refine j_callS dX8_rest_21 kX8_checkRange lX8_72 stX8_checkRange (c_X8_checkRange hl _ _ _ _) (Nat.le_of_ble_eq_true rfl) ⟨(Nat.le_of_ble_eq_true rfl), (Nat.le_of_ble_eq_true rfl)⟩ rfl (Nat.le_of_ble_eq_true rfl) rfl rfl (fun _ _ h => by obtain ⟨h1, rfl⟩ := h; exact ⟨rfl, rfl, x_A_IA h1, rfl⟩) ?_
      rintro _ _ ⟨rfl, rfl⟩
      refine j_new (w' := (z_cw _ _ _ _ _ _ _ _ _ _ _ _ _ _ _ _ _ _ _ _ _ _ _ _ _ _ _ _ _ _ _ _ _ _ _ _ _ _ _ _ _ _ _ _ _ _ _ _ _ _ _ _ _ _ _ _ [.inr (7, [_, _, _, _, _])], z_no)) (n := 51) dX8_rest_24 nX8_91 rfl (z_al_l rfl rfl) (Nat.le_of_ble_eq_true rfl) (Nat.le_of_ble_eq_true rfl) ?_
      refine j_dup dX8_rest_27 rfl ?_
      refine j_aload dX8_rest_28 rfl rfl ?_
      refine j_callI dX8_rest_30 kX2_init rfl lX8_93 inX2_init rfl (z_frame [51, 6, 7, 8, 9] rfl (by decide) (Nat.le_of_ble_eq_true rfl) (c_X2_init hl _ _ _ _)) (Nat.le_of_ble_eq_true rfl) ⟨(Nat.le_of_ble_eq_true rfl), (Nat.le_of_ble_eq_true rfl)⟩ rfl (Nat.le_of_ble_eq_true rfl) rfl rfl (fun _ _ h => h.elim) ?_
      rintro _ _ ⟨_, _, ⟨rfl, _, rfl⟩, rfl, rfl⟩
      refine j_w (z_cw _ _ _ _ _ _ _ _ _ _ _ _ _ _ _ _ _ _ _ _ _ _ _ _ _ _ _ _ _ _ _ _ _ _ _ _ _ _ _ _ _ _ _ _ _ _ _ _ _ _ _ _ _ _ _ _ [.inr (7, [_, _, _, _, _])], z_no) rfl ?_
      refine j_astore (lo' := [(6, _), (5, _), (4, _), (0, _), (1, _), (2, _), (3, _)]) dX8_rest_33 rfl (by decide) rfl ?_
      refine j_aload dX8_rest_35 rfl rfl ?_
      refine j_iload_n dX8_rest_37 rfl ?_
      refine j_callS dX8_rest_38 kX8_passBy lX8_104 stX8_passBy (z_frame [51, 6, 7, 8, 9] rfl (by decide) (Nat.le_of_ble_eq_true rfl) (c_X8_passBy_X2 hl _ _ _ _ _ _ _ _)) (Nat.le_of_ble_eq_true rfl) ⟨(Nat.le_of_ble_eq_true rfl), (Nat.le_of_ble_eq_true rfl)⟩ rfl (Nat.le_of_ble_eq_true rfl) rfl rfl (fun _ _ h => h.elim) ?_
      rintro _ _ ⟨_, _, ⟨rfl, _, _, _, _, rfl⟩, rfl, rfl⟩
      refine j_w (z_cw _ _ _ _ _ _ _ _ _ _ _ _ _ _ _ _ _ _ _ _ _ _ _ _ _ _ _ _ _ _ _ _ _ _ _ _ _ _ _ _ _ _ _ _ _ _ _ _ _ _ _ _ _ _ _ _ [.inr (7, [_, _, _, _, _])], z_no) rfl ?_
      refine j_aload_n dX8_rest_41 rfl rfl ?_
      refine j_aload dX8_rest_42 rfl rfl ?_
      refine j_aload dX8_rest_44 rfl rfl ?_
      refine j_callS dX8_rest_46 kX8_hearOut lX8_96 stX8_hearOut (z_frame [51, 6, 7, 8, 9, 27, 28] rfl (by decide) (Nat.le_of_ble_eq_true rfl) (c_X8_hearOut_X2 hl _ _ _ _ _ _ _ _ _ _ _ _ _)) (Nat.le_of_ble_eq_true rfl) ⟨(Nat.le_of_ble_eq_true rfl), (Nat.le_of_ble_eq_true rfl)⟩ rfl (Nat.le_of_ble_eq_true rfl) rfl rfl (fun _ _ h => h.elim) ?_
      rintro _ _ ⟨_, _, ⟨_, rfl, _, _, _, _, _, _, _, _, _, rfl⟩, rfl, rfl⟩
      refine j_w (z_cw _ _ _ _ _ _ _ _ _ _ _ _ _ _ _ _ _ _ _ _ _ _ _ _ _ _ _ _ _ _ _ _ _ _ _ _ _ _ _ _ _ _ _ _ _ _ _ _ _ _ _ _ _ _ _ _ [.inr (7, [_, _, _, _, _])], z_no) rfl ?_
      refine j_lo (lo' := []) z_q0 ?_
      refine j_dropL (n := 51) rfl (Nat.le_of_ble_eq_true rfl) (Nat.le_of_ble_eq_true rfl) (Nat.le_of_ble_eq_true rfl) z_cwc rfl rfl ?_
      refine j_w (z_cw _ _ _ _ _ _ _ _ _ _ _ _ _ _ _ _ _ _ _ _ _ _ _ _ _ _ _ _ _ _ _ _ _ _ _ _ _ _ _ _ _ _ _ _ _ _ _ _ _ _ _ _ _ _ _ _ [], z_no) rfl ?_
      refine j_callV (q := (RX8, TX8, 9)) dX8_rest_49 kX8_answer lX8_100 inX8_answer seX8_answer rfl rfl (z_dirF (c_X8_answer hl _ _ _ _ _ _ _ _ _ _ _ _ _ _ _ _ _ _ _ _ _ _ _ _ _ _ _ _ _ _ _ _ _ _ _ _ _ _ _ _ _ _ _ _ _ _ _ _ _ _ _ _ _ _ _ _ _)) (Nat.le_of_ble_eq_true rfl) ⟨(Nat.le_of_ble_eq_true rfl), (Nat.le_of_ble_eq_true rfl)⟩ rfl (Nat.le_of_ble_eq_true rfl) rfl rfl (fun _ _ h => h.elim) ?_
      rintro _ _ ⟨_, ⟨⟨_, rfl⟩, _, rfl⟩, rfl⟩
      refine j_iret dX8_rest_52 rfl rfl ?_ (Nat.le_of_ble_eq_true rfl) (Nat.le_of_ble_eq_true rfl)
      exact ⟨rfl, rfl, ⟨_, rfl⟩, (z_wk (by first | assumption | exact z_m20z) (by first | assumption | exact z_m20z) (by first | assumption | exact z_m20z) (by first | assumption | exact z_m20z) (by first | assumption | exact z_m20z) (by first | assumption | exact z_m20z))⟩
    · refine j_astore (lo' := [(5, _), (4, _), (0, _), (1, _), (2, _), (3, _)]) dX8_rest_12 rfl (by decide) rfl ?_
      refine j_iload_n dX8_rest_14 rfl ?_
      refine j_iconst (v := 0) dX8_rest_15 (by decide) ?_
      refine j_aload dX8_rest_16 rfl rfl ?_
      refine j_getf dX8_rest_18 fX8_68 rfl rfl ?_
      refine j_callS dX8_rest_21 kX8_checkRange lX8_72 stX8_checkRange (c_X8_checkRange hl _ _ _ _) (Nat.le_of_ble_eq_true rfl) ⟨(Nat.le_of_ble_eq_true rfl), (Nat.le_of_ble_eq_true rfl)⟩ rfl (Nat.le_of_ble_eq_true rfl) rfl rfl (fun _ _ h => by obtain ⟨h1, rfl⟩ := h; exact ⟨rfl, rfl, x_A_IA h1, rfl⟩) ?_
      rintro _ _ ⟨rfl, rfl⟩
      refine j_new (w' := (z_cw _ _ _ _ _ _ _ _ _ _ _ _ _ _ _ _ _ _ _ _ _ _ _ _ _ _ _ _ _ _ _ _ _ _ _ _ _ _ _ _ _ _ _ _ _ _ _ _ _ _ _ _ _ _ _ _ [.inr (7, [_, _, _, _, _])], z_no)) (n := 51) dX8_rest_24 nX8_91 rfl (z_al_l rfl rfl) (Nat.le_of_ble_eq_true rfl) (Nat.le_of_ble_eq_true rfl) ?_
      refine j_dup dX8_rest_27 rfl ?_
      refine j_aload dX8_rest_28 rfl rfl ?_
      refine j_callI dX8_rest_30 kX2_init rfl lX8_93 inX2_init rfl (z_frame [51, 6, 7, 8, 9] rfl (by decide) (Nat.le_of_ble_eq_true rfl) (c_X2_init hl _ _ _ _)) (Nat.le_of_ble_eq_true rfl) ⟨(Nat.le_of_ble_eq_true rfl), (Nat.le_of_ble_eq_true rfl)⟩ rfl (Nat.le_of_ble_eq_true rfl) rfl rfl (fun _ _ h => h.elim) ?_
      rintro _ _ ⟨_, _, ⟨rfl, _, rfl⟩, rfl, rfl⟩
      refine j_w (z_cw _ _ _ _ _ _ _ _ _ _ _ _ _ _ _ _ _ _ _ _ _ _ _ _ _ _ _ _ _ _ _ _ _ _ _ _ _ _ _ _ _ _ _ _ _ _ _ _ _ _ _ _ _ _ _ _ [.inr (7, [_, _, _, _, _])], z_no) rfl ?_
      refine j_astore (lo' := [(6, _), (5, _), (4, _), (0, _), (1, _), (2, _), (3, _)]) dX8_rest_33 rfl (by decide) rfl ?_
      refine j_aload dX8_rest_35 rfl rfl ?_
      refine j_iload_n dX8_rest_37 rfl ?_
      refine j_callS dX8_rest_38 kX8_passBy lX8_104 stX8_passBy (z_frame [51, 6, 7, 8, 9] rfl (by decide) (Nat.le_of_ble_eq_true rfl) (c_X8_passBy_X2 hl _ _ _ _ _ _ _ _)) (Nat.le_of_ble_eq_true rfl) ⟨(Nat.le_of_ble_eq_true rfl), (Nat.le_of_ble_eq_true rfl)⟩ rfl (Nat.le_of_ble_eq_true rfl) rfl rfl (fun _ _ h => h.elim) ?_
      rintro _ _ ⟨_, _, ⟨rfl, _, _, _, _, rfl⟩, rfl, rfl⟩
      refine j_w (z_cw _ _ _ _ _ _ _ _ _ _ _ _ _ _ _ _ _ _ _ _ _ _ _ _ _ _ _ _ _ _ _ _ _ _ _ _ _ _ _ _ _ _ _ _ _ _ _ _ _ _ _ _ _ _ _ _ [.inr (7, [_, _, _, _, _])], z_no) rfl ?_
      refine j_aload_n dX8_rest_41 rfl rfl ?_
      refine j_aload dX8_rest_42 rfl rfl ?_
      refine j_aload dX8_rest_44 rfl rfl ?_
      refine j_callS dX8_rest_46 kX8_hearOut lX8_96 stX8_hearOut (z_frame [51, 6, 7, 8, 9, 29, 30] rfl (by decide) (Nat.le_of_ble_eq_true rfl) (c_X8_hearOut_X2 hl _ _ _ _ _ _ _ _ _ _ _ _ _)) (Nat.le_of_ble_eq_true rfl) ⟨(Nat.le_of_ble_eq_true rfl), (Nat.le_of_ble_eq_true rfl)⟩ rfl (Nat.le_of_ble_eq_true rfl) rfl rfl (fun _ _ h => h.elim) ?_
      rintro _ _ ⟨_, _, ⟨_, rfl, _, _, _, _, _, _, _, _, _, rfl⟩, rfl, rfl⟩
      refine j_w (z_cw _ _ _ _ _ _ _ _ _ _ _ _ _ _ _ _ _ _ _ _ _ _ _ _ _ _ _ _ _ _ _ _ _ _ _ _ _ _ _ _ _ _ _ _ _ _ _ _ _ _ _ _ _ _ _ _ [.inr (7, [_, _, _, _, _])], z_no) rfl ?_
      refine j_lo (lo' := []) z_q0 ?_
      refine j_dropL (n := 51) rfl (Nat.le_of_ble_eq_true rfl) (Nat.le_of_ble_eq_true rfl) (Nat.le_of_ble_eq_true rfl) z_cwc rfl rfl ?_
      refine j_w (z_cw _ _ _ _ _ _ _ _ _ _ _ _ _ _ _ _ _ _ _ _ _ _ _ _ _ _ _ _ _ _ _ _ _ _ _ _ _ _ _ _ _ _ _ _ _ _ _ _ _ _ _ _ _ _ _ _ [], z_no) rfl ?_
      refine j_callV (q := (RX8, TX8, 9)) dX8_rest_49 kX8_answer lX8_100 inX8_answer seX8_answer rfl rfl (z_dirF (c_X8_answer hl _ _ _ _ _ _ _ _ _ _ _ _ _ _ _ _ _ _ _ _ _ _ _ _ _ _ _ _ _ _ _ _ _ _ _ _ _ _ _ _ _ _ _ _ _ _ _ _ _ _ _ _ _ _ _ _ _)) (Nat.le_of_ble_eq_true rfl) ⟨(Nat.le_of_ble_eq_true rfl), (Nat.le_of_ble_eq_true rfl)⟩ rfl (Nat.le_of_ble_eq_true rfl) rfl rfl (fun _ _ h => h.elim) ?_
      rintro _ _ ⟨_, ⟨⟨_, rfl⟩, _, rfl⟩, rfl⟩
      refine j_iret dX8_rest_52 rfl rfl ?_ (Nat.le_of_ble_eq_true rfl) (Nat.le_of_ble_eq_true rfl)
      exact ⟨rfl, rfl, ⟨_, rfl⟩, (z_wk (by first | assumption | exact z_m20z) (by first | assumption | exact z_m20z) (by first | assumption | exact z_m20z) (by first | assumption | exact z_m20z) (by first | assumption | exact z_m20z) (by first | assumption | exact z_m20z))⟩
set_option maxRecDepth 100000 in
set_option maxHeartbeats 8000000 in
theorem c_X8_removeIf (hl : l.stackTraces = false) (rf : Int32) (kn : Int32) (ma : Int32) (xa : Bool) (fa : Nat → Int32) (ca : Nat → Int32) (mb : Int32) (xb : Bool) (fb : Nat → Int32) (cb : Nat → Int32) (mt : Int32) (xt : Bool) (ft : Nat → Int32) (ct : Nat → Int32) (f0 : Nat → Int32) (g0 : Nat → Int32) (c0 : Nat → Int32) (m0 : Int32) (s0 : Int32) (f1 : Nat → Int32) (g1 : Nat → Int32) (c1 : Nat → Int32) (m1 : Int32) (s1 : Int32) (f2 : Nat → Int32) (g2 : Nat → Int32) (c2 : Nat → Int32) (m2 : Int32) (s2 : Int32) (f3 : Nat → Int32) (g3 : Nat → Int32) (c3 : Nat → Int32) (m3 : Int32) (s3 : Int32) (f4 : Nat → Int32) (g4 : Nat → Int32) (c4 : Nat → Int32) (m4 : Int32) (s4 : Int32) (f5 : Nat → Int32) (g5 : Nat → Int32) (c5 : Nat → Int32) (m5 : Int32) (s5 : Int32) (ek0 : Int32) (em0 : Int32) (es0 : Int32) (el0 : Int32) (b0 : Int32) (ef0 : Nat → Int32) (ek1 : Int32) (em1 : Int32) (es1 : Int32) (el1 : Int32) (b1 : Int32) (ef1 : Nat → Int32) (r p q : Int32) (h0 : z_m20 m0) (h1 : z_m20 m1) (h2 : z_m20 m2) (h3 : z_m20 m3) (h4 : z_m20 m4) (h5 : z_m20 m5) : z_CX G l mX8_removeIf 20 14 120 (z_cw rf kn ma xa fa ca mb xb fb cb mt xt ft ct f0 g0 c0 m0 s0 f1 g1 c1 m1 s1 f2 g2 c2 m2 s2 f3 g3 c3 m3 s3 f4 g4 c4 m4 s4 f5 g5 c5 m5 s5 ek0 em0 es0 el0 b0 ef0 ek1 em1 es1 el1 b1 ef1 []) [.ref 0, .int r, .int p, .int q] (fun v L => (∃ x : Int32, v = some (.int x)) ∧ z_Wk kn xa xb b0 b1 L) (fun E L => z_xIA E ∧ L = (z_cw rf kn ma xa fa ca mb xb fb cb mt xt ft ct f0 g0 c0 m0 s0 f1 g1 c1 m1 s1 f2 g2 c2 m2 s2 f3 g3 c3 m3 s3 f4 g4 c4 m4 s4 f5 g5 c5 m5 s5 ek0 em0 es0 el0 b0 ef0 ek1 em1 es1 el1 b1 ef1 [])) := by
  refine z_body hl (by decide) rfl (Nat.le_of_ble_eq_true rfl) ?_
  show z_J G l mX8_removeIf (z_SX 20 14 120 (z_cw rf kn ma xa fa ca mb xb fb cb mt xt ft ct f0 g0 c0 m0 s0 f1 g1 c1 m1 s1 f2 g2 c2 m2 s2 f3 g3 c3 m3 s3 f4 g4 c4 m4 s4 f5 g5 c5 m5 s5 ek0 em0 es0 el0 b0 ef0 ek1 em1 es1 el1 b1 ef1 []) (fun v L => (∃ x : Int32, v = some (.int x)) ∧ z_Wk kn xa xb b0 b1 L) (fun E L => z_xIA E ∧ L = (z_cw rf kn ma xa fa ca mb xb fb cb mt xt ft ct f0 g0 c0 m0 s0 f1 g1 c1 m1 s1 f2 g2 c2 m2 s2 f3 g3 c3 m3 s3 f4 g4 c4 m4 s4 f5 g5 c5 m5 s5 ek0 em0 es0 el0 b0 ef0 ek1 em1 es1 el1 b1 ef1 []))) 0 [(0, _), (1, _), (2, _), (3, _)] [] _ 0 0
  refine j_aload_n dX8_removeIf_0 rfl rfl ?_
  refine j_iload_n dX8_removeIf_1 rfl ?_
  refine j_callV (q := (RX8, TX8, 9)) dX8_removeIf_2 kX8_rowFor lX8_46 inX8_rowFor seX8_rowFor rfl rfl (z_dirX (c_X8_rowFor hl _ _ _ _ _ _ _ _ _ _ _ _ _ _ _ _ _ _ _ _ _ _ _ _ _ _ _ _ _ _ _ _ _ _ _ _ _ _ _ _ _ _ _ _ _ _ _ _ _ _ _ _ _ _ _ _ _)) (Nat.le_of_ble_eq_true rfl) ⟨(Nat.le_of_ble_eq_true rfl), (Nat.le_of_ble_eq_true rfl)⟩ rfl (Nat.le_of_ble_eq_true rfl) rfl rfl (fun _ _ h => by obtain ⟨_, ⟨h1, rfl⟩, rfl⟩ := h; exact ⟨rfl, rfl, x_I_IA h1, rfl⟩) ?_
  rintro _ _ ⟨_, ⟨_, rfl, hr, rfl⟩, rfl⟩
  have hq_2 := hr
  rcases hr with ⟨e_2, rfl⟩ | ⟨e_2, rfl⟩
  · refine j_astore (lo' := [(4, _), (0, _), (1, _), (2, _), (3, _)]) dX8_removeIf_5 rfl (by decide) rfl ?_
    refine j_iload_n dX8_removeIf_7 rfl ?_
    refine j_iconst (v := 0) dX8_removeIf_8 (by decide) ?_
    refine j_iconst (v := 5) dX8_removeIf_9 (by decide) ?_
    refine j_callS dX8_removeIf_10 kX8_checkRange lX8_72 stX8_checkRange (c_X8_checkRange hl _ _ _ _) (Nat.le_of_ble_eq_true rfl) ⟨(Nat.le_of_ble_eq_true rfl), (Nat.le_of_ble_eq_true rfl)⟩ rfl (Nat.le_of_ble_eq_true rfl) rfl rfl (fun _ _ h => by obtain ⟨h1, rfl⟩ := h; exact ⟨rfl, rfl, x_A_IA h1, rfl⟩) ?_
    rintro _ _ ⟨rfl, rfl⟩
    refine j_iload_n dX8_removeIf_13 rfl ?_
    refine j_callS dX8_removeIf_14 kX8_checkValue lX8_50 stX8_checkValue (c_X8_checkValue hl _ _) (Nat.le_of_ble_eq_true rfl) ⟨(Nat.le_of_ble_eq_true rfl), (Nat.le_of_ble_eq_true rfl)⟩ rfl (Nat.le_of_ble_eq_true rfl) rfl rfl (fun _ _ h => by obtain ⟨h1, rfl⟩ := h; exact ⟨rfl, rfl, x_A_IA h1, rfl⟩) ?_
    rintro _ _ ⟨rfl, rfl⟩
    refine j_aload_n dX8_removeIf_17 rfl rfl ?_
    refine j_new (w' := (z_cw _ _ _ _ _ _ _ _ _ _ _ _ _ _ _ _ _ _ _ _ _ _ _ _ _ _ _ _ _ _ _ _ _ _ _ _ _ _ _ _ _ _ _ _ _ _ _ _ _ _ _ _ _ _ _ _ [.inr (7, [_, _, _, _, _])], z_no)) (n := 51) dX8_removeIf_18 nX8_91 rfl (z_al_l rfl rfl) (Nat.le_of_ble_eq_true rfl) (Nat.le_of_ble_eq_true rfl) ?_
    refine j_dup dX8_removeIf_21 rfl ?_
    refine j_aload dX8_removeIf_22 rfl rfl ?_
    refine j_callI dX8_removeIf_24 kX2_init rfl lX8_93 inX2_init rfl (z_frame [51, 2, 3, 4, 5] rfl (by decide) (Nat.le_of_ble_eq_true rfl) (c_X2_init hl _ _ _ _)) (Nat.le_of_ble_eq_true rfl) ⟨(Nat.le_of_ble_eq_true rfl), (Nat.le_of_ble_eq_true rfl)⟩ rfl (Nat.le_of_ble_eq_true rfl) rfl rfl (fun _ _ h => h.elim) ?_
    rintro _ _ ⟨_, _, ⟨rfl, _, rfl⟩, rfl, rfl⟩
    refine j_w (z_cw _ _ _ _ _ _ _ _ _ _ _ _ _ _ _ _ _ _ _ _ _ _ _ _ _ _ _ _ _ _ _ _ _ _ _ _ _ _ _ _ _ _ _ _ _ _ _ _ _ _ _ _ _ _ _ _ [.inr (7, [_, _, _, _, _])], z_no) rfl ?_
    refine j_iload_n dX8_removeIf_27 rfl ?_
    refine j_iload_n dX8_removeIf_28 rfl ?_
    refine j_callS dX8_removeIf_29 kX8_takeEach lX8_108 stX8_takeEach (z_frame [51, 2, 3, 4, 5] rfl (by decide) (Nat.le_of_ble_eq_true rfl) (c_X8_takeEach hl _ _ _ _ _ _ _ _ _)) (Nat.le_of_ble_eq_true rfl) ⟨(Nat.le_of_ble_eq_true rfl), (Nat.le_of_ble_eq_true rfl)⟩ rfl (Nat.le_of_ble_eq_true rfl) rfl rfl (fun _ _ h => h.elim) ?_
    rintro _ _ ⟨_, _, ⟨⟨_, rfl⟩, _, _, _, _, _, _, rfl⟩, rfl, rfl⟩
    refine j_w (z_cw _ _ _ _ _ _ _ _ _ _ _ _ _ _ _ _ _ _ _ _ _ _ _ _ _ _ _ _ _ _ _ _ _ _ _ _ _ _ _ _ _ _ _ _ _ _ _ _ _ _ _ _ _ _ _ _ [.inr (7, [_, _, _, _, _])], z_no) rfl ?_
    refine j_lo (lo' := []) z_q0 ?_
    refine j_dropL (n := 51) rfl (Nat.le_of_ble_eq_true rfl) (Nat.le_of_ble_eq_true rfl) (Nat.le_of_ble_eq_true rfl) z_cwc rfl rfl ?_
    refine j_w (z_cw _ _ _ _ _ _ _ _ _ _ _ _ _ _ _ _ _ _ _ _ _ _ _ _ _ _ _ _ _ _ _ _ _ _ _ _ _ _ _ _ _ _ _ _ _ _ _ _ _ _ _ _ _ _ _ _ [], z_no) rfl ?_
    refine j_callV (q := (RX8, TX8, 9)) dX8_removeIf_32 kX8_answer lX8_100 inX8_answer seX8_answer rfl rfl (z_dirF (c_X8_answer hl _ _ _ _ _ _ _ _ _ _ _ _ _ _ _ _ _ _ _ _ _ _ _ _ _ _ _ _ _ _ _ _ _ _ _ _ _ _ _ _ _ _ _ _ _ _ _ _ _ _ _ _ _ _ _ _ _)) (Nat.le_of_ble_eq_true rfl) ⟨(Nat.le_of_ble_eq_true rfl), (Nat.le_of_ble_eq_true rfl)⟩ rfl (Nat.le_of_ble_eq_true rfl) rfl rfl (fun _ _ h => h.elim) ?_
    rintro _ _ ⟨_, ⟨⟨_, rfl⟩, _, rfl⟩, rfl⟩
    refine j_iret dX8_removeIf_35 rfl rfl ?_ (Nat.le_of_ble_eq_true rfl) (Nat.le_of_ble_eq_true rfl)
    exact ⟨rfl, rfl, ⟨_, rfl⟩, (z_wk (by first | assumption | exact z_m20z) (by first | assumption | exact z_m20z) (by first | assumption | exact z_m20z) (by first | assumption | exact z_m20z) (by first | assumption | exact z_m20z) (by first | assumption | exact z_m20z))⟩
  · refine j_astore (lo' := [(4, _), (0, _), (1, _), (2, _), (3, _)]) dX8_removeIf_5 rfl (by decide) rfl ?_
    refine j_iload_n dX8_removeIf_7 rfl ?_
    refine j_iconst (v := 0) dX8_removeIf_8 (by decide) ?_
    refine j_iconst (v := 5) dX8_removeIf_9 (by decide) ?_
    refine j_callS dX8_removeIf_10 kX8_checkRange lX8_72 stX8_checkRange (c_X8_checkRange hl _ _ _ _) (Nat.le_of_ble_eq_true rfl) ⟨(Nat.le_of_ble_eq_true rfl), (Nat.le_of_ble_eq_true rfl)⟩ rfl (Nat.le_of_ble_eq_true rfl) rfl rfl (fun _ _ h => by obtain ⟨h1, rfl⟩ := h; exact ⟨rfl, rfl, x_A_IA h1, rfl⟩) ?_
    rintro _ _ ⟨rfl, rfl⟩
    refine j_iload_n dX8_removeIf_13 rfl ?_
    refine j_callS dX8_removeIf_14 kX8_checkValue lX8_50 stX8_checkValue (c_X8_checkValue hl _ _) (Nat.le_of_ble_eq_true rfl) ⟨(Nat.le_of_ble_eq_true rfl), (Nat.le_of_ble_eq_true rfl)⟩ rfl (Nat.le_of_ble_eq_true rfl) rfl rfl (fun _ _ h => by obtain ⟨h1, rfl⟩ := h; exact ⟨rfl, rfl, x_A_IA h1, rfl⟩) ?_
    rintro _ _ ⟨rfl, rfl⟩
    refine j_aload_n dX8_removeIf_17 rfl rfl ?_
    refine j_new (w' := (z_cw _ _ _ _ _ _ _ _ _ _ _ _ _ _ _ _ _ _ _ _ _ _ _ _ _ _ _ _ _ _ _ _ _ _ _ _ _ _ _ _ _ _ _ _ _ _ _ _ _ _ _ _ _ _ _ _ [.inr (7, [_, _, _, _, _])], z_no)) (n := 51) dX8_removeIf_18 nX8_91 rfl (z_al_l rfl rfl) (Nat.le_of_ble_eq_true rfl) (Nat.le_of_ble_eq_true rfl) ?_
    refine j_dup dX8_removeIf_21 rfl ?_
    refine j_aload dX8_removeIf_22 rfl rfl ?_
    refine j_callI dX8_removeIf_24 kX2_init rfl lX8_93 inX2_init rfl (z_frame [51, 6, 7, 8, 9] rfl (by decide) (Nat.le_of_ble_eq_true rfl) (c_X2_init hl _ _ _ _)) (Nat.le_of_ble_eq_true rfl) ⟨(Nat.le_of_ble_eq_true rfl), (Nat.le_of_ble_eq_true rfl)⟩ rfl (Nat.le_of_ble_eq_true rfl) rfl rfl (fun _ _ h => h.elim) ?_
    rintro _ _ ⟨_, _, ⟨rfl, _, rfl⟩, rfl, rfl⟩
    refine j_w (z_cw _ _ _ _ _ _ _ _ _ _ _ _ _ _ _ _ _ _ _ _ _ _ _ _ _ _ _ _ _ _ _ _ _ _ _ _ _ _ _ _ _ _ _ _ _ _ _ _ _ _ _ _ _ _ _ _ [.inr (7, [_, _, _, _, _])], z_no) rfl ?_
    refine j_iload_n dX8_removeIf_27 rfl ?_
    refine j_iload_n dX8_removeIf_28 rfl ?_
    refine j_callS dX8_removeIf_29 kX8_takeEach lX8_108 stX8_takeEach (z_frame [51, 6, 7, 8, 9] rfl (by decide) (Nat.le_of_ble_eq_true rfl) (c_X8_takeEach hl _ _ _ _ _ _ _ _ _)) (Nat.le_of_ble_eq_true rfl) ⟨(Nat.le_of_ble_eq_true rfl), (Nat.le_of_ble_eq_true rfl)⟩ rfl (Nat.le_of_ble_eq_true rfl) rfl rfl (fun _ _ h => h.elim) ?_
    rintro _ _ ⟨_, _, ⟨⟨_, rfl⟩, _, _, _, _, _, _, rfl⟩, rfl, rfl⟩
    refine j_w (z_cw _ _ _ _ _ _ _ _ _ _ _ _ _ _ _ _ _ _ _ _ _ _ _ _ _ _ _ _ _ _ _ _ _ _ _ _ _ _ _ _ _ _ _ _ _ _ _ _ _ _ _ _ _ _ _ _ [.inr (7, [_, _, _, _, _])], z_no) rfl ?_
    refine j_lo (lo' := []) z_q0 ?_
    refine j_dropL (n := 51) rfl (Nat.le_of_ble_eq_true rfl) (Nat.le_of_ble_eq_true rfl) (Nat.le_of_ble_eq_true rfl) z_cwc rfl rfl ?_
    refine j_w (z_cw _ _ _ _ _ _ _ _ _ _ _ _ _ _ _ _ _ _ _ _ _ _ _ _ _ _ _ _ _ _ _ _ _ _ _ _ _ _ _ _ _ _ _ _ _ _ _ _ _ _ _ _ _ _ _ _ [], z_no) rfl ?_
    refine j_callV (q := (RX8, TX8, 9)) dX8_removeIf_32 kX8_answer lX8_100 inX8_answer seX8_answer rfl rfl (z_dirF (c_X8_answer hl _ _ _ _ _ _ _ _ _ _ _ _ _ _ _ _ _ _ _ _ _ _ _ _ _ _ _ _ _ _ _ _ _ _ _ _ _ _ _ _ _ _ _ _ _ _ _ _ _ _ _ _ _ _ _ _ _)) (Nat.le_of_ble_eq_true rfl) ⟨(Nat.le_of_ble_eq_true rfl), (Nat.le_of_ble_eq_true rfl)⟩ rfl (Nat.le_of_ble_eq_true rfl) rfl rfl (fun _ _ h => h.elim) ?_
    rintro _ _ ⟨_, ⟨⟨_, rfl⟩, _, rfl⟩, rfl⟩
    refine j_iret dX8_removeIf_35 rfl rfl ?_ (Nat.le_of_ble_eq_true rfl) (Nat.le_of_ble_eq_true rfl)
    exact ⟨rfl, rfl, ⟨_, rfl⟩, (z_wk (by first | assumption | exact z_m20z) (by first | assumption | exact z_m20z) (by first | assumption | exact z_m20z) (by first | assumption | exact z_m20z) (by first | assumption | exact z_m20z) (by first | assumption | exact z_m20z))⟩
set_option maxRecDepth 100000 in
set_option maxHeartbeats 8000000 in
theorem c_X8_replaceAll (hl : l.stackTraces = false) (rf : Int32) (kn : Int32) (ma : Int32) (xa : Bool) (fa : Nat → Int32) (ca : Nat → Int32) (mb : Int32) (xb : Bool) (fb : Nat → Int32) (cb : Nat → Int32) (mt : Int32) (xt : Bool) (ft : Nat → Int32) (ct : Nat → Int32) (f0 : Nat → Int32) (g0 : Nat → Int32) (c0 : Nat → Int32) (m0 : Int32) (s0 : Int32) (f1 : Nat → Int32) (g1 : Nat → Int32) (c1 : Nat → Int32) (m1 : Int32) (s1 : Int32) (f2 : Nat → Int32) (g2 : Nat → Int32) (c2 : Nat → Int32) (m2 : Int32) (s2 : Int32) (f3 : Nat → Int32) (g3 : Nat → Int32) (c3 : Nat → Int32) (m3 : Int32) (s3 : Int32) (f4 : Nat → Int32) (g4 : Nat → Int32) (c4 : Nat → Int32) (m4 : Int32) (s4 : Int32) (f5 : Nat → Int32) (g5 : Nat → Int32) (c5 : Nat → Int32) (m5 : Int32) (s5 : Int32) (ek0 : Int32) (em0 : Int32) (es0 : Int32) (el0 : Int32) (b0 : Int32) (ef0 : Nat → Int32) (ek1 : Int32) (em1 : Int32) (es1 : Int32) (el1 : Int32) (b1 : Int32) (ef1 : Nat → Int32) (r p q : Int32) (h0 : z_m20 m0) (h1 : z_m20 m1) (h2 : z_m20 m2) (h3 : z_m20 m3) (h4 : z_m20 m4) (h5 : z_m20 m5) : z_CX G l mX8_replaceAll 20 14 120 (z_cw rf kn ma xa fa ca mb xb fb cb mt xt ft ct f0 g0 c0 m0 s0 f1 g1 c1 m1 s1 f2 g2 c2 m2 s2 f3 g3 c3 m3 s3 f4 g4 c4 m4 s4 f5 g5 c5 m5 s5 ek0 em0 es0 el0 b0 ef0 ek1 em1 es1 el1 b1 ef1 []) [.ref 0, .int r, .int p, .int q] (fun v L => (∃ x : Int32, v = some (.int x)) ∧ z_Wk kn xa xb b0 b1 L) (fun E L => z_xIA E ∧ L = (z_cw rf kn ma xa fa ca mb xb fb cb mt xt ft ct f0 g0 c0 m0 s0 f1 g1 c1 m1 s1 f2 g2 c2 m2 s2 f3 g3 c3 m3 s3 f4 g4 c4 m4 s4 f5 g5 c5 m5 s5 ek0 em0 es0 el0 b0 ef0 ek1 em1 es1 el1 b1 ef1 [])) := by
  refine z_body hl (by decide) rfl (Nat.le_of_ble_eq_true rfl) ?_
  show z_J G l mX8_replaceAll (z_SX 20 14 120 (z_cw rf kn ma xa fa ca mb xb fb cb mt xt ft ct f0 g0 c0 m0 s0 f1 g1 c1 m1 s1 f2 g2 c2 m2 s2 f3 g3 c3 m3 s3 f4 g4 c4 m4 s4 f5 g5 c5 m5 s5 ek0 em0 es0 el0 b0 ef0 ek1 em1 es1 el1 b1 ef1 []) (fun v L => (∃ x : Int32, v = some (.int x)) ∧ z_Wk kn xa xb b0 b1 L) (fun E L => z_xIA E ∧ L = (z_cw rf kn ma xa fa ca mb xb fb cb mt xt ft ct f0 g0 c0 m0 s0 f1 g1 c1 m1 s1 f2 g2 c2 m2 s2 f3 g3 c3 m3 s3 f4 g4 c4 m4 s4 f5 g5 c5 m5 s5 ek0 em0 es0 el0 b0 ef0 ek1 em1 es1 el1 b1 ef1 []))) 0 [(0, _), (1, _), (2, _), (3, _)] [] _ 0 0
  refine j_aload_n dX8_replaceAll_0 rfl rfl ?_
  refine j_iload_n dX8_replaceAll_1 rfl ?_
  refine j_callV (q := (RX8, TX8, 9)) dX8_replaceAll_2 kX8_rowFor lX8_46 inX8_rowFor seX8_rowFor rfl rfl (z_dirX (c_X8_rowFor hl _ _ _ _ _ _ _ _ _ _ _ _ _ _ _ _ _ _ _ _ _ _ _ _ _ _ _ _ _ _ _ _ _ _ _ _ _ _ _ _ _ _ _ _ _ _ _ _ _ _ _ _ _ _ _ _ _)) (Nat.le_of_ble_eq_true rfl) ⟨(Nat.le_of_ble_eq_true rfl), (Nat.le_of_ble_eq_true rfl)⟩ rfl (Nat.le_of_ble_eq_true rfl) rfl rfl (fun _ _ h => by obtain ⟨_, ⟨h1, rfl⟩, rfl⟩ := h; exact ⟨rfl, rfl, x_I_IA h1, rfl⟩) ?_
  rintro _ _ ⟨_, ⟨_, rfl, hr, rfl⟩, rfl⟩
  have hq_2 := hr
  rcases hr with ⟨e_2, rfl⟩ | ⟨e_2, rfl⟩
  · refine j_astore (lo' := [(4, _), (0, _), (1, _), (2, _), (3, _)]) dX8_replaceAll_5 rfl (by decide) rfl ?_
    refine j_iload_n dX8_replaceAll_7 rfl ?_
    refine j_if_eq (tgt := 21) dX8_replaceAll_8 (by decide) (fun c_8 => ?_) (fun c_8 => ?_)
    · refine j_iconst (v := 1) dX8_replaceAll_21 (by decide) ?_
      refine j_goto (tgt := 26) dX8_replaceAll_22 (by decide) ?_
      refine j_callS dX8_replaceAll_26 kX8_checkRule lX8_112 stX8_checkRule (c_X8_checkRule hl _ _) (Nat.le_of_ble_eq_true rfl) ⟨(Nat.le_of_ble_eq_true rfl), (Nat.le_of_ble_eq_true rfl)⟩ rfl (Nat.le_of_ble_eq_true rfl) rfl rfl (fun _ _ h => by obtain ⟨h1, rfl⟩ := h; exact ⟨rfl, rfl, x_A_IA h1, rfl⟩) ?_
      rintro _ _ ⟨rfl, rfl⟩
      refine j_iload_n dX8_replaceAll_29 rfl ?_
      refine j_callS dX8_replaceAll_30 kX8_checkValue lX8_50 stX8_checkValue (c_X8_checkValue hl _ _) (Nat.le_of_ble_eq_true rfl) ⟨(Nat.le_of_ble_eq_true rfl), (Nat.le_of_ble_eq_true rfl)⟩ rfl (Nat.le_of_ble_eq_true rfl) rfl rfl (fun _ _ h => by obtain ⟨h1, rfl⟩ := h; exact ⟨rfl, rfl, x_A_IA h1, rfl⟩) ?_
      rintro _ _ ⟨rfl, rfl⟩
      refine j_new (w' := (z_cw _ _ _ _ _ _ _ _ _ _ _ _ _ _ _ _ _ _ _ _ _ _ _ _ _ _ _ _ _ _ _ _ _ _ _ _ _ _ _ _ _ _ _ _ _ _ _ _ _ _ _ _ _ _ _ _ [.inr (7, [_, _, _, _, _])], z_no)) (n := 51) dX8_replaceAll_33 nX8_91 rfl (z_al_l rfl rfl) (Nat.le_of_ble_eq_true rfl) (Nat.le_of_ble_eq_true rfl) ?_
      refine j_dup dX8_replaceAll_36 rfl ?_
      refine j_aload dX8_replaceAll_37 rfl rfl ?_
      refine j_callI dX8_replaceAll_39 kX2_init rfl lX8_93 inX2_init rfl (z_frame [51, 2, 3, 4, 5] rfl (by decide) (Nat.le_of_ble_eq_true rfl) (c_X2_init hl _ _ _ _)) (Nat.le_of_ble_eq_true rfl) ⟨(Nat.le_of_ble_eq_true rfl), (Nat.le_of_ble_eq_true rfl)⟩ rfl (Nat.le_of_ble_eq_true rfl) rfl rfl (fun _ _ h => h.elim) ?_
      rintro _ _ ⟨_, _, ⟨rfl, _, rfl⟩, rfl, rfl⟩
      refine j_w (z_cw _ _ _ _ _ _ _ _ _ _ _ _ _ _ _ _ _ _ _ _ _ _ _ _ _ _ _ _ _ _ _ _ _ _ _ _ _ _ _ _ _ _ _ _ _ _ _ _ _ _ _ _ _ _ _ _ [.inr (7, [_, _, _, _, _])], z_no) rfl ?_
      refine j_iload_n dX8_replaceAll_42 rfl ?_
      refine j_iload_n dX8_replaceAll_43 rfl ?_
      refine j_callS dX8_replaceAll_44 kX8_changeEach lX8_115 stX8_changeEach (z_frame [51, 2, 3, 4, 5] rfl (by decide) (Nat.le_of_ble_eq_true rfl) (c_X8_changeEach_X2 hl _ _ _ _ _ _ _ _ _)) (Nat.le_of_ble_eq_true rfl) ⟨(Nat.le_of_ble_eq_true rfl), (Nat.le_of_ble_eq_true rfl)⟩ rfl (Nat.le_of_ble_eq_true rfl) rfl rfl (fun _ _ h => h.elim) ?_
      rintro _ _ ⟨_, _, ⟨⟨b, rfl⟩, _, _, _, _, _, rfl⟩, rfl, rfl⟩
      refine j_w (z_cw _ _ _ _ _ _ _ _ _ _ _ _ _ _ _ _ _ _ _ _ _ _ _ _ _ _ _ _ _ _ _ _ _ _ _ _ _ _ _ _ _ _ _ _ _ _ _ _ _ _ _ _ _ _ _ _ [.inr (7, [_, _, _, _, _])], z_no) rfl ?_
      refine j_istore (lo' := [(5, _), (4, _), (0, _), (1, _), (2, _), (3, _)]) dX8_replaceAll_47 (by decide) rfl ?_
      refine j_dropL (n := 51) rfl (Nat.le_of_ble_eq_true rfl) (Nat.le_of_ble_eq_true rfl) (Nat.le_of_ble_eq_true rfl) z_cwc rfl rfl ?_
      refine j_w (z_cw _ _ _ _ _ _ _ _ _ _ _ _ _ _ _ _ _ _ _ _ _ _ _ _ _ _ _ _ _ _ _ _ _ _ _ _ _ _ _ _ _ _ _ _ _ _ _ _ _ _ _ _ _ _ _ _ [], z_no) rfl ?_
      refine j_iload dX8_replaceAll_49 rfl ?_
      refine j_if_eq (tgt := 62) dX8_replaceAll_51 (by decide) (fun c_51 => ?_) (fun c_51 => ?_)
      · refine j_aload_n dX8_replaceAll_62 rfl rfl ?_
        refine j_callV (q := (RX8, TX8, 9)) dX8_replaceAll_63 kX8_refused lX8_119 inX8_refused seX8_refused rfl rfl (z_dirF (c_X8_refused hl _ _ _ _ _ _ _ _ _ _ _ _ _ _ _ _ _ _ _ _ _ _ _ _ _ _ _ _ _ _ _ _ _ _ _ _ _ _ _ _ _ _ _ _ _ _ _ _ _ _ _ _ _ _ _ _)) (Nat.le_of_ble_eq_true rfl) ⟨(Nat.le_of_ble_eq_true rfl), (Nat.le_of_ble_eq_true rfl)⟩ rfl (Nat.le_of_ble_eq_true rfl) rfl rfl (fun _ _ h => h.elim) ?_
        rintro _ _ ⟨_, ⟨⟨_, rfl⟩, _, rfl⟩, rfl⟩
        refine j_iret dX8_replaceAll_66 rfl rfl ?_ (Nat.le_of_ble_eq_true rfl) (Nat.le_of_ble_eq_true rfl)
        exact ⟨rfl, rfl, ⟨_, rfl⟩, (z_wk (by first | assumption | exact z_m20z) (by first | assumption | exact z_m20z) (by first | assumption | exact z_m20z) (by first | assumption | exact z_m20z) (by first | assumption | exact z_m20z) (by first | assumption | exact z_m20z))⟩
      · refine j_aload dX8_replaceAll_54 rfl rfl ?_
        refine j_getf dX8_replaceAll_56 fX8_68 rfl rfl ?_
        refine j_goto (tgt := 66) dX8_replaceAll_59 (by decide) ?_
        refine j_iret dX8_replaceAll_66 rfl rfl ?_ (Nat.le_of_ble_eq_true rfl) (Nat.le_of_ble_eq_true rfl)
        exact ⟨rfl, rfl, ⟨_, rfl⟩, (z_wk (by first | assumption | exact z_m20z) (by first | assumption | exact z_m20z) (by first | assumption | exact z_m20z) (by first | assumption | exact z_m20z) (by first | assumption | exact z_m20z) (by first | assumption | exact z_m20z))⟩
    · refine j_iload_n dX8_replaceAll_11 rfl ?_
      refine j_iconst (v := 1) dX8_replaceAll_12 (by decide) ?_
      refine j_icmp_eq (tgt := 21) dX8_replaceAll_13 (by decide) (fun c_13 => ?_) (fun c_13 => ?_)
      · refine j_iconst (v := 1) dX8_replaceAll_21 (by decide) ?_
        refine j_goto (tgt := 26) dX8_replaceAll_22 (by decide) ?_
        refine j_callS dX8_replaceAll_26 kX8_checkRule lX8_112 stX8_checkRule (c_X8_checkRule hl _ _) (Nat.le_of_ble_eq_true rfl) ⟨(Nat.le_of_ble_eq_true rfl), (Nat.le_of_ble_eq_true rfl)⟩ rfl (Nat.le_of_ble_eq_true rfl) rfl rfl (fun _ _ h => by obtain ⟨h1, rfl⟩ := h; exact ⟨rfl, rfl, x_A_IA h1, rfl⟩) ?_
        rintro _ _ ⟨rfl, rfl⟩
        refine j_iload_n dX8_replaceAll_29 rfl ?_
        refine j_callS dX8_replaceAll_30 kX8_checkValue lX8_50 stX8_checkValue (c_X8_checkValue hl _ _) (Nat.le_of_ble_eq_true rfl) ⟨(Nat.le_of_ble_eq_true rfl), (Nat.le_of_ble_eq_true rfl)⟩ rfl (Nat.le_of_ble_eq_true rfl) rfl rfl (fun _ _ h => by obtain ⟨h1, rfl⟩ := h; exact ⟨rfl, rfl, x_A_IA h1, rfl⟩) ?_
        rintro _ _ ⟨rfl, rfl⟩
        refine j_new (w' := (z_cw _ _ _ _ _ _ _ _ _ _ _ _ _ _ _ _ _ _ _ _ _ _ _ _ _ _ _ _ _ _ _ _ _ _ _ _ _ _ _ _ _ _ _ _ _ _ _ _ _ _ _ _ _ _ _ _ [.inr (7, [_, _, _, _, _])], z_no)) (n := 51) dX8_replaceAll_33 nX8_91 rfl (z_al_l rfl rfl) (Nat.le_of_ble_eq_true rfl) (Nat.le_of_ble_eq_true rfl) ?_
        refine j_dup dX8_replaceAll_36 rfl ?_
        refine j_aload dX8_replaceAll_37 rfl rfl ?_
        refine j_callI dX8_replaceAll_39 kX2_init rfl lX8_93 inX2_init rfl (z_frame [51, 2, 3, 4, 5] rfl (by decide) (Nat.le_of_ble_eq_true rfl) (c_X2_init hl _ _ _ _)) (Nat.le_of_ble_eq_true rfl) ⟨(Nat.le_of_ble_eq_true rfl), (Nat.le_of_ble_eq_true rfl)⟩ rfl (Nat.le_of_ble_eq_true rfl) rfl rfl (fun _ _ h => h.elim) ?_
        rintro _ _ ⟨_, _, ⟨rfl, _, rfl⟩, rfl, rfl⟩
        refine j_w (z_cw _ _ _ _ _ _ _ _ _ _ _ _ _ _ _ _ _ _ _ _ _ _ _ _ _ _ _ _ _ _ _ _ _ _ _ _ _ _ _ _ _ _ _ _ _ _ _ _ _ _ _ _ _ _ _ _ [.inr (7, [_, _, _, _, _])], z_no) rfl ?_
        refine j_iload_n dX8_replaceAll_42 rfl ?_
        refine j_iload_n dX8_replaceAll_43 rfl ?_
        refine j_callS dX8_replaceAll_44 kX8_changeEach lX8_115 stX8_changeEach (z_frame [51, 2, 3, 4, 5] rfl (by decide) (Nat.le_of_ble_eq_true rfl) (c_X8_changeEach_X2 hl _ _ _ _ _ _ _ _ _)) (Nat.le_of_ble_eq_true rfl) ⟨(Nat.le_of_ble_eq_true rfl), (Nat.le_of_ble_eq_true rfl)⟩ rfl (Nat.le_of_ble_eq_true rfl) rfl rfl (fun _ _ h => h.elim) ?_
        rintro _ _ ⟨_, _, ⟨⟨b, rfl⟩, _, _, _, _, _, rfl⟩, rfl, rfl⟩
        refine j_w (z_cw _ _ _ _ _ _ _ _ _ _ _ _ _ _ _ _ _ _ _ _ _ _ _ _ _ _ _ _ _ _ _ _ _ _ _ _ _ _ _ _ _ _ _ _ _ _ _ _ _ _ _ _ _ _ _ _ [.inr (7, [_, _, _, _, _])], z_no) rfl ?_
        refine j_istore (lo' := [(5, _), (4, _), (0, _), (1, _), (2, _), (3, _)]) dX8_replaceAll_47 (by decide) rfl ?_
        refine j_dropL (n := 51) rfl (Nat.le_of_ble_eq_true rfl) (Nat.le_of_ble_eq_true rfl) (Nat.le_of_ble_eq_true rfl) z_cwc rfl rfl ?_
        refine j_w (z_cw _ _ _ _ _ _ _ _ _ _ _ _ _ _ _ _ _ _ _ _ _ _ _ _ _ _ _ _ _ _ _ _ _ _ _ _ _ _ _ _ _ _ _ _ _ _ _ _ _ _ _ _ _ _ _ _ [], z_no) rfl ?_
        refine j_iload dX8_replaceAll_49 rfl ?_
        refine j_if_eq (tgt := 62) dX8_replaceAll_51 (by decide) (fun c_51 => ?_) (fun c_51 => ?_)
        · refine j_aload_n dX8_replaceAll_62 rfl rfl ?_
          refine j_callV (q := (RX8, TX8, 9)) dX8_replaceAll_63 kX8_refused lX8_119 inX8_refused seX8_refused rfl rfl (z_dirF (c_X8_refused hl _ _ _ _ _ _ _ _ _ _ _ _ _ _ _ _ _ _ _ _ _ _ _ _ _ _ _ _ _ _ _ _ _ _ _ _ _ _ _ _ _ _ _ _ _ _ _ _ _ _ _ _ _ _ _ _)) (Nat.le_of_ble_eq_true rfl) ⟨(Nat.le_of_ble_eq_true rfl), (Nat.le_of_ble_eq_true rfl)⟩ rfl (Nat.le_of_ble_eq_true rfl) rfl rfl (fun _ _ h => h.elim) ?_
          rintro _ _ ⟨_, ⟨⟨_, rfl⟩, _, rfl⟩, rfl⟩
          refine j_iret dX8_replaceAll_66 rfl rfl ?_ (Nat.le_of_ble_eq_true rfl) (Nat.le_of_ble_eq_true rfl)
          exact ⟨rfl, rfl, ⟨_, rfl⟩, (z_wk (by first | assumption | exact z_m20z) (by first | assumption | exact z_m20z) (by first | assumption | exact z_m20z) (by first | assumption | exact z_m20z) (by first | assumption | exact z_m20z) (by first | assumption | exact z_m20z))⟩
        · refine j_aload dX8_replaceAll_54 rfl rfl ?_
          refine j_getf dX8_replaceAll_56 fX8_68 rfl rfl ?_
          refine j_goto (tgt := 66) dX8_replaceAll_59 (by decide) ?_
          refine j_iret dX8_replaceAll_66 rfl rfl ?_ (Nat.le_of_ble_eq_true rfl) (Nat.le_of_ble_eq_true rfl)
          exact ⟨rfl, rfl, ⟨_, rfl⟩, (z_wk (by first | assumption | exact z_m20z) (by first | assumption | exact z_m20z) (by first | assumption | exact z_m20z) (by first | assumption | exact z_m20z) (by first | assumption | exact z_m20z) (by first | assumption | exact z_m20z))⟩
      · refine j_iload_n dX8_replaceAll_16 rfl ?_
        refine j_iconst (v := 4) dX8_replaceAll_17 (by decide) ?_
        refine j_icmp_ne (tgt := 25) dX8_replaceAll_18 (by decide) (fun c_18 => ?_) (fun c_18 => ?_)
        · refine j_iconst (v := 0) dX8_replaceAll_25 (by decide) ?_
          refine j_callS dX8_replaceAll_26 kX8_checkRule lX8_112 stX8_checkRule (c_X8_checkRule hl _ _) (Nat.le_of_ble_eq_true rfl) ⟨(Nat.le_of_ble_eq_true rfl), (Nat.le_of_ble_eq_true rfl)⟩ rfl (Nat.le_of_ble_eq_true rfl) rfl rfl (fun _ _ h => by obtain ⟨h1, rfl⟩ := h; exact ⟨rfl, rfl, x_A_IA h1, rfl⟩) ?_
          rintro _ _ ⟨rfl, rfl⟩
          refine j_iload_n dX8_replaceAll_29 rfl ?_
          refine j_callS dX8_replaceAll_30 kX8_checkValue lX8_50 stX8_checkValue (c_X8_checkValue hl _ _) (Nat.le_of_ble_eq_true rfl) ⟨(Nat.le_of_ble_eq_true rfl), (Nat.le_of_ble_eq_true rfl)⟩ rfl (Nat.le_of_ble_eq_true rfl) rfl rfl (fun _ _ h => by obtain ⟨h1, rfl⟩ := h; exact ⟨rfl, rfl, x_A_IA h1, rfl⟩) ?_
          rintro _ _ ⟨rfl, rfl⟩
          refine j_new (w' := (z_cw _ _ _ _ _ _ _ _ _ _ _ _ _ _ _ _ _ _ _ _ _ _ _ _ _ _ _ _ _ _ _ _ _ _ _ _ _ _ _ _ _ _ _ _ _ _ _ _ _ _ _ _ _ _ _ _ [.inr (7, [_, _, _, _, _])], z_no)) (n := 51) dX8_replaceAll_33 nX8_91 rfl (z_al_l rfl rfl) (Nat.le_of_ble_eq_true rfl) (Nat.le_of_ble_eq_true rfl) ?_
          refine j_dup dX8_replaceAll_36 rfl ?_
          refine j_aload dX8_replaceAll_37 rfl rfl ?_
          refine j_callI dX8_replaceAll_39 kX2_init rfl lX8_93 inX2_init rfl (z_frame [51, 2, 3, 4, 5] rfl (by decide) (Nat.le_of_ble_eq_true rfl) (c_X2_init hl _ _ _ _)) (Nat.le_of_ble_eq_true rfl) ⟨(Nat.le_of_ble_eq_true rfl), (Nat.le_of_ble_eq_true rfl)⟩ rfl (Nat.le_of_ble_eq_true rfl) rfl rfl (fun _ _ h => h.elim) ?_
          rintro _ _ ⟨_, _, ⟨rfl, _, rfl⟩, rfl, rfl⟩
          refine j_w (z_cw _ _ _ _ _ _ _ _ _ _ _ _ _ _ _ _ _ _ _ _ _ _ _ _ _ _ _ _ _ _ _ _ _ _ _ _ _ _ _ _ _ _ _ _ _ _ _ _ _ _ _ _ _ _ _ _ [.inr (7, [_, _, _, _, _])], z_no) rfl ?_
          refine j_iload_n dX8_replaceAll_42 rfl ?_
          refine j_iload_n dX8_replaceAll_43 rfl ?_
          refine j_callS dX8_replaceAll_44 kX8_changeEach lX8_115 stX8_changeEach (z_frame [51, 2, 3, 4, 5] rfl (by decide) (Nat.le_of_ble_eq_true rfl) (c_X8_changeEach_X2 hl _ _ _ _ _ _ _ _ _)) (Nat.le_of_ble_eq_true rfl) ⟨(Nat.le_of_ble_eq_true rfl), (Nat.le_of_ble_eq_true rfl)⟩ rfl (Nat.le_of_ble_eq_true rfl) rfl rfl (fun _ _ h => h.elim) ?_
          rintro _ _ ⟨_, _, ⟨⟨b, rfl⟩, _, _, _, _, _, rfl⟩, rfl, rfl⟩
          refine j_w (z_cw _ _ _ _ _ _ _ _ _ _ _ _ _ _ _ _ _ _ _ _ _ _ _ _ _ _ _ _ _ _ _ _ _ _ _ _ _ _ _ _ _ _ _ _ _ _ _ _ _ _ _ _ _ _ _ _ [.inr (7, [_, _, _, _, _])], z_no) rfl ?_
          refine j_istore (lo' := [(5, _), (4, _), (0, _), (1, _), (2, _), (3, _)]) dX8_replaceAll_47 (by decide) rfl ?_
          refine j_dropL (n := 51) rfl (Nat.le_of_ble_eq_true rfl) (Nat.le_of_ble_eq_true rfl) (Nat.le_of_ble_eq_true rfl) z_cwc rfl rfl ?_
          refine j_w (z_cw _ _ _ _ _ _ _ _ _ _ _ _ _ _ _ _ _ _ _ _ _ _ _ _ _ _ _ _ _ _ _ _ _ _ _ _ _ _ _ _ _ _ _ _ _ _ _ _ _ _ _ _ _ _ _ _ [], z_no) rfl ?_
          refine j_iload dX8_replaceAll_49 rfl ?_
          refine j_if_eq (tgt := 62) dX8_replaceAll_51 (by decide) (fun c_51 => ?_) (fun c_51 => ?_)
          · refine j_aload_n dX8_replaceAll_62 rfl rfl ?_
            refine j_callV (q := (RX8, TX8, 9)) dX8_replaceAll_63 kX8_refused lX8_119 inX8_refused seX8_refused rfl rfl (z_dirF (c_X8_refused hl _ _ _ _ _ _ _ _ _ _ _ _ _ _ _ _ _ _ _ _ _ _ _ _ _ _ _ _ _ _ _ _ _ _ _ _ _ _ _ _ _ _ _ _ _ _ _ _ _ _ _ _ _ _ _ _)) (Nat.le_of_ble_eq_true rfl) ⟨(Nat.le_of_ble_eq_true rfl), (Nat.le_of_ble_eq_true rfl)⟩ rfl (Nat.le_of_ble_eq_true rfl) rfl rfl (fun _ _ h => h.elim) ?_
            rintro _ _ ⟨_, ⟨⟨_, rfl⟩, _, rfl⟩, rfl⟩
            refine j_iret dX8_replaceAll_66 rfl rfl ?_ (Nat.le_of_ble_eq_true rfl) (Nat.le_of_ble_eq_true rfl)
            exact ⟨rfl, rfl, ⟨_, rfl⟩, (z_wk (by first | assumption | exact z_m20z) (by first | assumption | exact z_m20z) (by first | assumption | exact z_m20z) (by first | assumption | exact z_m20z) (by first | assumption | exact z_m20z) (by first | assumption | exact z_m20z))⟩
          · refine j_aload dX8_replaceAll_54 rfl rfl ?_
            refine j_getf dX8_replaceAll_56 fX8_68 rfl rfl ?_
            refine j_goto (tgt := 66) dX8_replaceAll_59 (by decide) ?_
            refine j_iret dX8_replaceAll_66 rfl rfl ?_ (Nat.le_of_ble_eq_true rfl) (Nat.le_of_ble_eq_true rfl)
            exact ⟨rfl, rfl, ⟨_, rfl⟩, (z_wk (by first | assumption | exact z_m20z) (by first | assumption | exact z_m20z) (by first | assumption | exact z_m20z) (by first | assumption | exact z_m20z) (by first | assumption | exact z_m20z) (by first | assumption | exact z_m20z))⟩
        · refine j_iconst (v := 1) dX8_replaceAll_21 (by decide) ?_
          refine j_goto (tgt := 26) dX8_replaceAll_22 (by decide) ?_
          refine j_callS dX8_replaceAll_26 kX8_checkRule lX8_112 stX8_checkRule (c_X8_checkRule hl _ _) (Nat.le_of_ble_eq_true rfl) ⟨(Nat.le_of_ble_eq_true rfl), (Nat.le_of_ble_eq_true rfl)⟩ rfl (Nat.le_of_ble_eq_true rfl) rfl rfl (fun _ _ h => by obtain ⟨h1, rfl⟩ := h; exact ⟨rfl, rfl, x_A_IA h1, rfl⟩) ?_
          rintro _ _ ⟨rfl, rfl⟩
          refine j_iload_n dX8_replaceAll_29 rfl ?_
          refine j_callS dX8_replaceAll_30 kX8_checkValue lX8_50 stX8_checkValue (c_X8_checkValue hl _ _) (Nat.le_of_ble_eq_true rfl) ⟨(Nat.le_of_ble_eq_true rfl), (Nat.le_of_ble_eq_true rfl)⟩ rfl (Nat.le_of_ble_eq_true rfl) rfl rfl (fun _ _ h => by obtain ⟨h1, rfl⟩ := h; exact ⟨rfl, rfl, x_A_IA h1, rfl⟩) ?_
          rintro _ _ ⟨rfl, rfl⟩
          refine j_new (w' := (z_cw _ _ _ _ _ _ _ _ _ _ _ _ _ _ _ _ _ _ _ _ _ _ _ _ _ _ _ _ _ _ _ _ _ _ _ _ _ _ _ _ _ _ _ _ _ _ _ _ _ _ _ _ _ _ _ _ [.inr (7, [_, _, _, _, _])], z_no)) (n := 51) dX8_replaceAll_33 nX8_91 rfl (z_al_l rfl rfl) (Nat.le_of_ble_eq_true rfl) (Nat.le_of_ble_eq_true rfl) ?_
          refine j_dup dX8_replaceAll_36 rfl ?_
          refine j_aload dX8_replaceAll_37 rfl rfl ?_
          refine j_callI dX8_replaceAll_39 kX2_init rfl lX8_93 inX2_init rfl (z_frame [51, 2, 3, 4, 5] rfl (by decide) (Nat.le_of_ble_eq_true rfl) (c_X2_init hl _ _ _ _)) (Nat.le_of_ble_eq_true rfl) ⟨(Nat.le_of_ble_eq_true rfl), (Nat.le_of_ble_eq_true rfl)⟩ rfl (Nat.le_of_ble_eq_true rfl) rfl rfl (fun _ _ h => h.elim) ?_
          rintro _ _ ⟨_, _, ⟨rfl, _, rfl⟩, rfl, rfl⟩
          refine j_w (z_cw _ _ _ _ _ _ _ _ _ _ _ _ _ _ _ _ _ _ _ _ _ _ _ _ _ _ _ _ _ _ _ _ _ _ _ _ _ _ _ _ _ _ _ _ _ _ _ _ _ _ _ _ _ _ _ _ [.inr (7, [_, _, _, _, _])], z_no) rfl ?_
          refine j_iload_n dX8_replaceAll_42 rfl ?_
          refine j_iload_n dX8_replaceAll_43 rfl ?_
          refine j_callS dX8_replaceAll_44 kX8_changeEach lX8_115 stX8_changeEach (z_frame [51, 2, 3, 4, 5] rfl (by decide) (Nat.le_of_ble_eq_true rfl) (c_X8_changeEach_X2 hl _ _ _ _ _ _ _ _ _)) (Nat.le_of_ble_eq_true rfl) ⟨(Nat.le_of_ble_eq_true rfl), (Nat.le_of_ble_eq_true rfl)⟩ rfl (Nat.le_of_ble_eq_true rfl) rfl rfl (fun _ _ h => h.elim) ?_
          rintro _ _ ⟨_, _, ⟨⟨b, rfl⟩, _, _, _, _, _, rfl⟩, rfl, rfl⟩
          refine j_w (z_cw _ _ _ _ _ _ _ _ _ _ _ _ _ _ _ _ _ _ _ _ _ _ _ _ _ _ _ _ _ _ _ _ _ _ _ _ _ _ _ _ _ _ _ _ _ _ _ _ _ _ _ _ _ _ _ _ [.inr (7, [_, _, _, _, _])], z_no) rfl ?_
          refine j_istore (lo' := [(5, _), (4, _), (0, _), (1, _), (2, _), (3, _)]) dX8_replaceAll_47 (by decide) rfl ?_
          refine j_dropL (n := 51) rfl (Nat.le_of_ble_eq_true rfl) (Nat.le_of_ble_eq_true rfl) (Nat.le_of_ble_eq_true rfl) z_cwc rfl rfl ?_
          refine j_w (z_cw _ _ _ _ _ _ _ _ _ _ _ _ _ _ _ _ _ _ _ _ _ _ _ _ _ _ _ _ _ _ _ _ _ _ _ _ _ _ _ _ _ _ _ _ _ _ _ _ _ _ _ _ _ _ _ _ [], z_no) rfl ?_
          refine j_iload dX8_replaceAll_49 rfl ?_
          refine j_if_eq (tgt := 62) dX8_replaceAll_51 (by decide) (fun c_51 => ?_) (fun c_51 => ?_)
          · refine j_aload_n dX8_replaceAll_62 rfl rfl ?_
            refine j_callV (q := (RX8, TX8, 9)) dX8_replaceAll_63 kX8_refused lX8_119 inX8_refused seX8_refused rfl rfl (z_dirF (c_X8_refused hl _ _ _ _ _ _ _ _ _ _ _ _ _ _ _ _ _ _ _ _ _ _ _ _ _ _ _ _ _ _ _ _ _ _ _ _ _ _ _ _ _ _ _ _ _ _ _ _ _ _ _ _ _ _ _ _)) (Nat.le_of_ble_eq_true rfl) ⟨(Nat.le_of_ble_eq_true rfl), (Nat.le_of_ble_eq_true rfl)⟩ rfl (Nat.le_of_ble_eq_true rfl) rfl rfl (fun _ _ h => h.elim) ?_
            rintro _ _ ⟨_, ⟨⟨_, rfl⟩, _, rfl⟩, rfl⟩
            refine j_iret dX8_replaceAll_66 rfl rfl ?_ (Nat.le_of_ble_eq_true rfl) (Nat.le_of_ble_eq_true rfl)
            exact ⟨rfl, rfl, ⟨_, rfl⟩, (z_wk (by first | assumption | exact z_m20z) (by first | assumption | exact z_m20z) (by first | assumption | exact z_m20z) (by first | assumption | exact z_m20z) (by first | assumption | exact z_m20z) (by first | assumption | exact z_m20z))⟩
          · refine j_aload dX8_replaceAll_54 rfl rfl ?_
            refine j_getf dX8_replaceAll_56 fX8_68 rfl rfl ?_
            refine j_goto (tgt := 66) dX8_replaceAll_59 (by decide) ?_
            refine j_iret dX8_replaceAll_66 rfl rfl ?_ (Nat.le_of_ble_eq_true rfl) (Nat.le_of_ble_eq_true rfl)
            exact ⟨rfl, rfl, ⟨_, rfl⟩, (z_wk (by first | assumption | exact z_m20z) (by first | assumption | exact z_m20z) (by first | assumption | exact z_m20z) (by first | assumption | exact z_m20z) (by first | assumption | exact z_m20z) (by first | assumption | exact z_m20z))⟩
  · refine j_astore (lo' := [(4, _), (0, _), (1, _), (2, _), (3, _)]) dX8_replaceAll_5 rfl (by decide) rfl ?_
    refine j_iload_n dX8_replaceAll_7 rfl ?_
    refine j_if_eq (tgt := 21) dX8_replaceAll_8 (by decide) (fun c_8 => ?_) (fun c_8 => ?_)
    · refine j_iconst (v := 1) dX8_replaceAll_21 (by decide) ?_
      refine j_goto (tgt := 26) dX8_replaceAll_22 (by decide) ?_
      refine j_callS dX8_replaceAll_26 kX8_checkRule lX8_112 stX8_checkRule (c_X8_checkRule hl _ _) (Nat.le_of_ble_eq_true rfl) ⟨(Nat.le_of_ble_eq_true rfl), (Nat.le_of_ble_eq_true rfl)⟩ rfl (Nat.le_of_ble_eq_true rfl) rfl rfl (fun _ _ h => by obtain ⟨h1, rfl⟩ := h; exact ⟨rfl, rfl, x_A_IA h1, rfl⟩) ?_
      rintro _ _ ⟨rfl, rfl⟩
      refine j_iload_n dX8_replaceAll_29 rfl ?_
      refine j_callS dX8_replaceAll_30 kX8_checkValue lX8_50 stX8_checkValue (c_X8_checkValue hl _ _) (Nat.le_of_ble_eq_true rfl) ⟨(Nat.le_of_ble_eq_true rfl), (Nat.le_of_ble_eq_true rfl)⟩ rfl (Nat.le_of_ble_eq_true rfl) rfl rfl (fun _ _ h => by obtain ⟨h1, rfl⟩ := h; exact ⟨rfl, rfl, x_A_IA h1, rfl⟩) ?_
      rintro _ _ ⟨rfl, rfl⟩
      refine j_new (w' := (z_cw _ _ _ _ _ _ _ _ _ _ _ _ _ _ _ _ _ _ _ _ _ _ _ _ _ _ _ _ _ _ _ _ _ _ _ _ _ _ _ _ _ _ _ _ _ _ _ _ _ _ _ _ _ _ _ _ [.inr (7, [_, _, _, _, _])], z_no)) (n := 51) dX8_replaceAll_33 nX8_91 rfl (z_al_l rfl rfl) (Nat.le_of_ble_eq_true rfl) (Nat.le_of_ble_eq_true rfl) ?_
      refine j_dup dX8_replaceAll_36 rfl ?_
      refine j_aload dX8_replaceAll_37 rfl rfl ?_
      refine j_callI dX8_replaceAll_39 kX2_init rfl lX8_93 inX2_init rfl (z_frame [51, 6, 7, 8, 9] rfl (by decide) (Nat.le_of_ble_eq_true rfl) (c_X2_init hl _ _ _ _)) (Nat.le_of_ble_eq_true rfl) ⟨(Nat.le_of_ble_eq_true rfl), (Nat.le_of_ble_eq_true rfl)⟩ rfl (Nat.le_of_ble_eq_true rfl) rfl rfl (fun _ _ h => h.elim) ?_
      rintro _ _ ⟨_, _, ⟨rfl, _, rfl⟩, rfl, rfl⟩
      refine j_w (z_cw _ _ _ _ _ _ _ _ _ _ _ _ _ _ _ _ _ _ _ _ _ _ _ _ _ _ _ _ _ _ _ _ _ _ _ _ _ _ _ _ _ _ _ _ _ _ _ _ _ _ _ _ _ _ _ _ [.inr (7, [_, _, _, _, _])], z_no) rfl ?_
      refine j_iload_n dX8_replaceAll_42 rfl ?_
      refine j_iload_n dX8_replaceAll_43 rfl ?_
      refine j_callS dX8_replaceAll_44 kX8_changeEach lX8_115 stX8_changeEach (z_frame [51, 6, 7, 8, 9] rfl (by decide) (Nat.le_of_ble_eq_true rfl) (c_X8_changeEach_X2 hl _ _ _ _ _ _ _ _ _)) (Nat.le_of_ble_eq_true rfl) ⟨(Nat.le_of_ble_eq_true rfl), (Nat.le_of_ble_eq_true rfl)⟩ rfl (Nat.le_of_ble_eq_true rfl) rfl rfl (fun _ _ h => h.elim) ?_
      rintro _ _ ⟨_, _, ⟨⟨b, rfl⟩, _, _, _, _, _, rfl⟩, rfl, rfl⟩
      refine j_w (z_cw _ _ _ _ _ _ _ _ _ _ _ _ _ _ _ _ _ _ _ _ _ _ _ _ _ _ _ _ _ _ _ _ _ _ _ _ _ _ _ _ _ _ _ _ _ _ _ _ _ _ _ _ _ _ _ _ [.inr (7, [_, _, _, _, _])], z_no) rfl ?_
      refine j_istore (lo' := [(5, _), (4, _), (0, _), (1, _), (2, _), (3, _)]) dX8_replaceAll_47 (by decide) rfl ?_
      refine j_dropL (n := 51) rfl (Nat.le_of_ble_eq_true rfl) (Nat.le_of_ble_eq_true rfl) (Nat.le_of_ble_eq_true rfl) z_cwc rfl rfl ?_
      refine j_w (z_cw _ _ _ _ _ _ _ _ _ _ _ _ _ _ _ _ _ _ _ _ _ _ _ _ _ _ _ _ _ _ _ _ _ _ _ _ _ _ _ _ _ _ _ _ _ _ _ _ _ _ _ _ _ _ _ _ [], z_no) rfl ?_
      refine j_iload dX8_replaceAll_49 rfl ?_
      refine j_if_eq (tgt := 62) dX8_replaceAll_51 (by decide) (fun c_51 => ?_) (fun c_51 => ?_)
      · refine j_aload_n dX8_replaceAll_62 rfl rfl ?_
        refine j_callV (q := (RX8, TX8, 9)) dX8_replaceAll_63 kX8_refused lX8_119 inX8_refused seX8_refused rfl rfl (z_dirF (c_X8_refused hl _ _ _ _ _ _ _ _ _ _ _ _ _ _ _ _ _ _ _ _ _ _ _ _ _ _ _ _ _ _ _ _ _ _ _ _ _ _ _ _ _ _ _ _ _ _ _ _ _ _ _ _ _ _ _ _)) (Nat.le_of_ble_eq_true rfl) ⟨(Nat.le_of_ble_eq_true rfl), (Nat.le_of_ble_eq_true rfl)⟩ rfl (Nat.le_of_ble_eq_true rfl) rfl rfl (fun _ _ h => h.elim) ?_
        rintro _ _ ⟨_, ⟨⟨_, rfl⟩, _, rfl⟩, rfl⟩
        refine j_iret dX8_replaceAll_66 rfl rfl ?_ (Nat.le_of_ble_eq_true rfl) (Nat.le_of_ble_eq_true rfl)
        exact ⟨rfl, rfl, ⟨_, rfl⟩, (z_wk (by first | assumption | exact z_m20z) (by first | assumption | exact z_m20z) (by first | assumption | exact z_m20z) (by first | assumption | exact z_m20z) (by first | assumption | exact z_m20z) (by first | assumption | exact z_m20z))⟩
      · refine j_aload dX8_replaceAll_54 rfl rfl ?_
        refine j_getf dX8_replaceAll_56 fX8_68 rfl rfl ?_
        refine j_goto (tgt := 66) dX8_replaceAll_59 (by decide) ?_
        refine j_iret dX8_replaceAll_66 rfl rfl ?_ (Nat.le_of_ble_eq_true rfl) (Nat.le_of_ble_eq_true rfl)
        exact ⟨rfl, rfl, ⟨_, rfl⟩, (z_wk (by first | assumption | exact z_m20z) (by first | assumption | exact z_m20z) (by first | assumption | exact z_m20z) (by first | assumption | exact z_m20z) (by first | assumption | exact z_m20z) (by first | assumption | exact z_m20z))⟩
    · refine j_iload_n dX8_replaceAll_11 rfl ?_
      refine j_iconst (v := 1) dX8_replaceAll_12 (by decide) ?_
      refine j_icmp_eq (tgt := 21) dX8_replaceAll_13 (by decide) (fun c_13 => ?_) (fun c_13 => ?_)
      · refine j_iconst (v := 1) dX8_replaceAll_21 (by decide) ?_
        refine j_goto (tgt := 26) dX8_replaceAll_22 (by decide) ?_
        refine j_callS dX8_replaceAll_26 kX8_checkRule lX8_112 stX8_checkRule (c_X8_checkRule hl _ _) (Nat.le_of_ble_eq_true rfl) ⟨(Nat.le_of_ble_eq_true rfl), (Nat.le_of_ble_eq_true rfl)⟩ rfl (Nat.le_of_ble_eq_true rfl) rfl rfl (fun _ _ h => by obtain ⟨h1, rfl⟩ := h; exact ⟨rfl, rfl, x_A_IA h1, rfl⟩) ?_
        rintro _ _ ⟨rfl, rfl⟩
        refine j_iload_n dX8_replaceAll_29 rfl ?_
        refine j_callS dX8_replaceAll_30 kX8_checkValue lX8_50 stX8_checkValue (c_X8_checkValue hl _ _) (Nat.le_of_ble_eq_true rfl) ⟨(Nat.le_of_ble_eq_true rfl), (Nat.le_of_ble_eq_true rfl)⟩ rfl (Nat.le_of_ble_eq_true rfl) rfl rfl (fun _ _ h => by obtain ⟨h1, rfl⟩ := h; exact ⟨rfl, rfl, x_A_IA h1, rfl⟩) ?_
        rintro _ _ ⟨rfl, rfl⟩
        refine j_new (w' := (z_cw _ _ _ _ _ _ _ _ _ _ _ _ _ _ _ _ _ _ _ _ _ _ _ _ _ _ _ _ _ _ _ _ _ _ _ _ _ _ _ _ _ _ _ _ _ _ _ _ _ _ _ _ _ _ _ _ [.inr (7, [_, _, _, _, _])], z_no)) (n := 51) dX8_replaceAll_33 nX8_91 rfl (z_al_l rfl rfl) (Nat.le_of_ble_eq_true rfl) (Nat.le_of_ble_eq_true rfl) ?_
        refine j_dup dX8_replaceAll_36 rfl ?_
        refine j_aload dX8_replaceAll_37 rfl rfl ?_
        refine j_callI dX8_replaceAll_39 kX2_init rfl lX8_93 inX2_init rfl (z_frame [51, 6, 7, 8, 9] rfl (by decide) (Nat.le_of_ble_eq_true rfl) (c_X2_init hl _ _ _ _)) (Nat.le_of_ble_eq_true rfl) ⟨(Nat.le_of_ble_eq_true rfl), (Nat.le_of_ble_eq_true rfl)⟩ rfl (Nat.le_of_ble_eq_true rfl) rfl rfl (fun _ _ h => h.elim) ?_
        rintro _ _ ⟨_, _, ⟨rfl, _, rfl⟩, rfl, rfl⟩
        refine j_w (z_cw _ _ _ _ _ _ _ _ _ _ _ _ _ _ _ _ _ _ _ _ _ _ _ _ _ _ _ _ _ _ _ _ _ _ _ _ _ _ _ _ _ _ _ _ _ _ _ _ _ _ _ _ _ _ _ _ [.inr (7, [_, _, _, _, _])], z_no) rfl ?_
        refine j_iload_n dX8_replaceAll_42 rfl ?_
        refine j_iload_n dX8_replaceAll_43 rfl ?_
        refine j_callS dX8_replaceAll_44 kX8_changeEach lX8_115 stX8_changeEach (z_frame [51, 6, 7, 8, 9] rfl (by decide) (Nat.le_of_ble_eq_true rfl) (c_X8_changeEach_X2 hl _ _ _ _ _ _ _ _ _)) (Nat.le_of_ble_eq_true rfl) ⟨(Nat.le_of_ble_eq_true rfl), (Nat.le_of_ble_eq_true rfl)⟩ rfl (Nat.le_of_ble_eq_true rfl) rfl rfl (fun _ _ h => h.elim) ?_
        rintro _ _ ⟨_, _, ⟨⟨b, rfl⟩, _, _, _, _, _, rfl⟩, rfl, rfl⟩
        refine j_w (z_cw _ _ _ _ _ _ _ _ _ _ _ _ _ _ _ _ _ _ _ _ _ _ _ _ _ _ _ _ _ _ _ _ _ _ _ _ _ _ _ _ _ _ _ _ _ _ _ _ _ _ _ _ _ _ _ _ [.inr (7, [_, _, _, _, _])], z_no) rfl ?_
        refine j_istore (lo' := [(5, _), (4, _), (0, _), (1, _), (2, _), (3, _)]) dX8_replaceAll_47 (by decide) rfl ?_
        refine j_dropL (n := 51) rfl (Nat.le_of_ble_eq_true rfl) (Nat.le_of_ble_eq_true rfl) (Nat.le_of_ble_eq_true rfl) z_cwc rfl rfl ?_
        refine j_w (z_cw _ _ _ _ _ _ _ _ _ _ _ _ _ _ _ _ _ _ _ _ _ _ _ _ _ _ _ _ _ _ _ _ _ _ _ _ _ _ _ _ _ _ _ _ _ _ _ _ _ _ _ _ _ _ _ _ [], z_no) rfl ?_
        refine j_iload dX8_replaceAll_49 rfl ?_
        refine j_if_eq (tgt := 62) dX8_replaceAll_51 (by decide) (fun c_51 => ?_) (fun c_51 => ?_)
        · refine j_aload_n dX8_replaceAll_62 rfl rfl ?_
          refine j_callV (q := (RX8, TX8, 9)) dX8_replaceAll_63 kX8_refused lX8_119 inX8_refused seX8_refused rfl rfl (z_dirF (c_X8_refused hl _ _ _ _ _ _ _ _ _ _ _ _ _ _ _ _ _ _ _ _ _ _ _ _ _ _ _ _ _ _ _ _ _ _ _ _ _ _ _ _ _ _ _ _ _ _ _ _ _ _ _ _ _ _ _ _)) (Nat.le_of_ble_eq_true rfl) ⟨(Nat.le_of_ble_eq_true rfl), (Nat.le_of_ble_eq_true rfl)⟩ rfl (Nat.le_of_ble_eq_true rfl) rfl rfl (fun _ _ h => h.elim) ?_
          rintro _ _ ⟨_, ⟨⟨_, rfl⟩, _, rfl⟩, rfl⟩
          refine j_iret dX8_replaceAll_66 rfl rfl ?_ (Nat.le_of_ble_eq_true rfl) (Nat.le_of_ble_eq_true rfl)
          exact ⟨rfl, rfl, ⟨_, rfl⟩, (z_wk (by first | assumption | exact z_m20z) (by first | assumption | exact z_m20z) (by first | assumption | exact z_m20z) (by first | assumption | exact z_m20z) (by first | assumption | exact z_m20z) (by first | assumption | exact z_m20z))⟩
        · refine j_aload dX8_replaceAll_54 rfl rfl ?_
          refine j_getf dX8_replaceAll_56 fX8_68 rfl rfl ?_
          refine j_goto (tgt := 66) dX8_replaceAll_59 (by decide) ?_
          refine j_iret dX8_replaceAll_66 rfl rfl ?_ (Nat.le_of_ble_eq_true rfl) (Nat.le_of_ble_eq_true rfl)
          exact ⟨rfl, rfl, ⟨_, rfl⟩, (z_wk (by first | assumption | exact z_m20z) (by first | assumption | exact z_m20z) (by first | assumption | exact z_m20z) (by first | assumption | exact z_m20z) (by first | assumption | exact z_m20z) (by first | assumption | exact z_m20z))⟩
      · refine j_iload_n dX8_replaceAll_16 rfl ?_
        refine j_iconst (v := 4) dX8_replaceAll_17 (by decide) ?_
        refine j_icmp_ne (tgt := 25) dX8_replaceAll_18 (by decide) (fun c_18 => ?_) (fun c_18 => ?_)
        · refine j_iconst (v := 0) dX8_replaceAll_25 (by decide) ?_
          refine j_callS dX8_replaceAll_26 kX8_checkRule lX8_112 stX8_checkRule (c_X8_checkRule hl _ _) (Nat.le_of_ble_eq_true rfl) ⟨(Nat.le_of_ble_eq_true rfl), (Nat.le_of_ble_eq_true rfl)⟩ rfl (Nat.le_of_ble_eq_true rfl) rfl rfl (fun _ _ h => by obtain ⟨h1, rfl⟩ := h; exact ⟨rfl, rfl, x_A_IA h1, rfl⟩) ?_
          rintro _ _ ⟨rfl, rfl⟩
          refine j_iload_n dX8_replaceAll_29 rfl ?_
          refine j_callS dX8_replaceAll_30 kX8_checkValue lX8_50 stX8_checkValue (c_X8_checkValue hl _ _) (Nat.le_of_ble_eq_true rfl) ⟨(Nat.le_of_ble_eq_true rfl), (Nat.le_of_ble_eq_true rfl)⟩ rfl (Nat.le_of_ble_eq_true rfl) rfl rfl (fun _ _ h => by obtain ⟨h1, rfl⟩ := h; exact ⟨rfl, rfl, x_A_IA h1, rfl⟩) ?_
          rintro _ _ ⟨rfl, rfl⟩
          refine j_new (w' := (z_cw _ _ _ _ _ _ _ _ _ _ _ _ _ _ _ _ _ _ _ _ _ _ _ _ _ _ _ _ _ _ _ _ _ _ _ _ _ _ _ _ _ _ _ _ _ _ _ _ _ _ _ _ _ _ _ _ [.inr (7, [_, _, _, _, _])], z_no)) (n := 51) dX8_replaceAll_33 nX8_91 rfl (z_al_l rfl rfl) (Nat.le_of_ble_eq_true rfl) (Nat.le_of_ble_eq_true rfl) ?_
          refine j_dup dX8_replaceAll_36 rfl ?_
          refine j_aload dX8_replaceAll_37 rfl rfl ?_
          refine j_callI dX8_replaceAll_39 kX2_init rfl lX8_93 inX2_init rfl (z_frame [51, 6, 7, 8, 9] rfl (by decide) (Nat.le_of_ble_eq_true rfl) (c_X2_init hl _ _ _ _)) (Nat.le_of_ble_eq_true rfl) ⟨(Nat.le_of_ble_eq_true rfl), (Nat.le_of_ble_eq_true rfl)⟩ rfl (Nat.le_of_ble_eq_true rfl) rfl rfl (fun _ _ h => h.elim) ?_
          rintro _ _ ⟨_, _, ⟨rfl, _, rfl⟩, rfl, rfl⟩
          refine j_w (z_cw _ _ _ _ _ _ _ _ _ _ _ _ _ _ _ _ _ _ _ _ _ _ _ _ _ _ _ _ _ _ _ _ _ _ _ _ _ _ _ _ _ _ _ _ _ _ _ _ _ _ _ _ _ _ _ _ [.inr (7, [_, _, _, _, _])], z_no) rfl ?_
          refine j_iload_n dX8_replaceAll_42 rfl ?_
          refine j_iload_n dX8_replaceAll_43 rfl ?_
          refine j_callS dX8_replaceAll_44 kX8_changeEach lX8_115 stX8_changeEach (z_frame [51, 6, 7, 8, 9] rfl (by decide) (Nat.le_of_ble_eq_true rfl) (c_X8_changeEach_X2 hl _ _ _ _ _ _ _ _ _)) (Nat.le_of_ble_eq_true rfl) ⟨(Nat.le_of_ble_eq_true rfl), (Nat.le_of_ble_eq_true rfl)⟩ rfl (Nat.le_of_ble_eq_true rfl) rfl rfl (fun _ _ h => h.elim) ?_
          rintro _ _ ⟨_, _, ⟨⟨b, rfl⟩, _, _, _, _, _, rfl⟩, rfl, rfl⟩
          refine j_w (z_cw _ _ _ _ _ _ _ _ _ _ _ _ _ _ _ _ _ _ _ _ _ _ _ _ _ _ _ _ _ _ _ _ _ _ _ _ _ _ _ _ _ _ _ _ _ _ _ _ _ _ _ _ _ _ _ _ [.inr (7, [_, _, _, _, _])], z_no) rfl ?_
          refine j_istore (lo' := [(5, _), (4, _), (0, _), (1, _), (2, _), (3, _)]) dX8_replaceAll_47 (by decide) rfl ?_
          refine j_dropL (n := 51) rfl (Nat.le_of_ble_eq_true rfl) (Nat.le_of_ble_eq_true rfl) (Nat.le_of_ble_eq_true rfl) z_cwc rfl rfl ?_
          refine j_w (z_cw _ _ _ _ _ _ _ _ _ _ _ _ _ _ _ _ _ _ _ _ _ _ _ _ _ _ _ _ _ _ _ _ _ _ _ _ _ _ _ _ _ _ _ _ _ _ _ _ _ _ _ _ _ _ _ _ [], z_no) rfl ?_
          refine j_iload dX8_replaceAll_49 rfl ?_
          refine j_if_eq (tgt := 62) dX8_replaceAll_51 (by decide) (fun c_51 => ?_) (fun c_51 => ?_)
          · refine j_aload_n dX8_replaceAll_62 rfl rfl ?_
            refine j_callV (q := (RX8, TX8, 9)) dX8_replaceAll_63 kX8_refused lX8_119 inX8_refused seX8_refused rfl rfl (z_dirF (c_X8_refused hl _ _ _ _ _ _ _ _ _ _ _ _ _ _ _ _ _ _ _ _ _ _ _ _ _ _ _ _ _ _ _ _ _ _ _ _ _ _ _ _ _ _ _ _ _ _ _ _ _ _ _ _ _ _ _ _)) (Nat.le_of_ble_eq_true rfl) ⟨(Nat.le_of_ble_eq_true rfl), (Nat.le_of_ble_eq_true rfl)⟩ rfl (Nat.le_of_ble_eq_true rfl) rfl rfl (fun _ _ h => h.elim) ?_
            rintro _ _ ⟨_, ⟨⟨_, rfl⟩, _, rfl⟩, rfl⟩
            refine j_iret dX8_replaceAll_66 rfl rfl ?_ (Nat.le_of_ble_eq_true rfl) (Nat.le_of_ble_eq_true rfl)
            exact ⟨rfl, rfl, ⟨_, rfl⟩, (z_wk (by first | assumption | exact z_m20z) (by first | assumption | exact z_m20z) (by first | assumption | exact z_m20z) (by first | assumption | exact z_m20z) (by first | assumption | exact z_m20z) (by first | assumption | exact z_m20z))⟩
          · refine j_aload dX8_replaceAll_54 rfl rfl ?_
            refine j_getf dX8_replaceAll_56 fX8_68 rfl rfl ?_
            refine j_goto (tgt := 66) dX8_replaceAll_59 (by decide) ?_
            refine j_iret dX8_replaceAll_66 rfl rfl ?_ (Nat.le_of_ble_eq_true rfl) (Nat.le_of_ble_eq_true rfl)
            exact ⟨rfl, rfl, ⟨_, rfl⟩, (z_wk (by first | assumption | exact z_m20z) (by first | assumption | exact z_m20z) (by first | assumption | exact z_m20z) (by first | assumption | exact z_m20z) (by first | assumption | exact z_m20z) (by first | assumption | exact z_m20z))⟩
        · refine j_iconst (v := 1) dX8_replaceAll_21 (by decide) ?_
          refine j_goto (tgt := 26) dX8_replaceAll_22 (by decide) ?_
          refine j_callS dX8_replaceAll_26 kX8_checkRule lX8_112 stX8_checkRule (c_X8_checkRule hl _ _) (Nat.le_of_ble_eq_true rfl) ⟨(Nat.le_of_ble_eq_true rfl), (Nat.le_of_ble_eq_true rfl)⟩ rfl (Nat.le_of_ble_eq_true rfl) rfl rfl (fun _ _ h => by obtain ⟨h1, rfl⟩ := h; exact ⟨rfl, rfl, x_A_IA h1, rfl⟩) ?_
          rintro _ _ ⟨rfl, rfl⟩
          refine j_iload_n dX8_replaceAll_29 rfl ?_
          refine j_callS dX8_replaceAll_30 kX8_checkValue lX8_50 stX8_checkValue (c_X8_checkValue hl _ _) (Nat.le_of_ble_eq_true rfl) ⟨(Nat.le_of_ble_eq_true rfl), (Nat.le_of_ble_eq_true rfl)⟩ rfl (Nat.le_of_ble_eq_true rfl) rfl rfl (fun _ _ h => by obtain ⟨h1, rfl⟩ := h; exact ⟨rfl, rfl, x_A_IA h1, rfl⟩) ?_
          rintro _ _ ⟨rfl, rfl⟩
          refine j_new (w' := (z_cw _ _ _ _ _ _ _ _ _ _ _ _ _ _ _ _ _ _ _ _ _ _ _ _ _ _ _ _ _ _ _ _ _ _ _ _ _ _ _ _ _ _ _ _ _ _ _ _ _ _ _ _ _ _ _ _ [.inr (7, [_, _, _, _, _])], z_no)) (n := 51) dX8_replaceAll_33 nX8_91 rfl (z_al_l rfl rfl) (Nat.le_of_ble_eq_true rfl) (Nat.le_of_ble_eq_true rfl) ?_
          refine j_dup dX8_replaceAll_36 rfl ?_
          refine j_aload dX8_replaceAll_37 rfl rfl ?_
          refine j_callI dX8_replaceAll_39 kX2_init rfl lX8_93 inX2_init rfl (z_frame [51, 6, 7, 8, 9] rfl (by decide) (Nat.le_of_ble_eq_true rfl) (c_X2_init hl _ _ _ _)) (Nat.le_of_ble_eq_true rfl) ⟨(Nat.le_of_ble_eq_true rfl), (Nat.le_of_ble_eq_true rfl)⟩ rfl (Nat.le_of_ble_eq_true rfl) rfl rfl (fun _ _ h => h.elim) ?_
          rintro _ _ ⟨_, _, ⟨rfl, _, rfl⟩, rfl, rfl⟩
          refine j_w (z_cw _ _ _ _ _ _ _ _ _ _ _ _ _ _ _ _ _ _ _ _ _ _ _ _ _ _ _ _ _ _ _ _ _ _ _ _ _ _ _ _ _ _ _ _ _ _ _ _ _ _ _ _ _ _ _ _ [.inr (7, [_, _, _, _, _])], z_no) rfl ?_
          refine j_iload_n dX8_replaceAll_42 rfl ?_
          refine j_iload_n dX8_replaceAll_43 rfl ?_
          refine j_callS dX8_replaceAll_44 kX8_changeEach lX8_115 stX8_changeEach (z_frame [51, 6, 7, 8, 9] rfl (by decide) (Nat.le_of_ble_eq_true rfl) (c_X8_changeEach_X2 hl _ _ _ _ _ _ _ _ _)) (Nat.le_of_ble_eq_true rfl) ⟨(Nat.le_of_ble_eq_true rfl), (Nat.le_of_ble_eq_true rfl)⟩ rfl (Nat.le_of_ble_eq_true rfl) rfl rfl (fun _ _ h => h.elim) ?_
          rintro _ _ ⟨_, _, ⟨⟨b, rfl⟩, _, _, _, _, _, rfl⟩, rfl, rfl⟩
          refine j_w (z_cw _ _ _ _ _ _ _ _ _ _ _ _ _ _ _ _ _ _ _ _ _ _ _ _ _ _ _ _ _ _ _ _ _ _ _ _ _ _ _ _ _ _ _ _ _ _ _ _ _ _ _ _ _ _ _ _ [.inr (7, [_, _, _, _, _])], z_no) rfl ?_
          refine j_istore (lo' := [(5, _), (4, _), (0, _), (1, _), (2, _), (3, _)]) dX8_replaceAll_47 (by decide) rfl ?_
          refine j_dropL (n := 51) rfl (Nat.le_of_ble_eq_true rfl) (Nat.le_of_ble_eq_true rfl) (Nat.le_of_ble_eq_true rfl) z_cwc rfl rfl ?_
          refine j_w (z_cw _ _ _ _ _ _ _ _ _ _ _ _ _ _ _ _ _ _ _ _ _ _ _ _ _ _ _ _ _ _ _ _ _ _ _ _ _ _ _ _ _ _ _ _ _ _ _ _ _ _ _ _ _ _ _ _ [], z_no) rfl ?_
          refine j_iload dX8_replaceAll_49 rfl ?_
          refine j_if_eq (tgt := 62) dX8_replaceAll_51 (by decide) (fun c_51 => ?_) (fun c_51 => ?_)
          · refine j_aload_n dX8_replaceAll_62 rfl rfl ?_
            refine j_callV (q := (RX8, TX8, 9)) dX8_replaceAll_63 kX8_refused lX8_119 inX8_refused seX8_refused rfl rfl (z_dirF (c_X8_refused hl _ _ _ _ _ _ _ _ _ _ _ _ _ _ _ _ _ _ _ _ _ _ _ _ _ _ _ _ _ _ _ _ _ _ _ _ _ _ _ _ _ _ _ _ _ _ _ _ _ _ _ _ _ _ _ _)) (Nat.le_of_ble_eq_true rfl) ⟨(Nat.le_of_ble_eq_true rfl), (Nat.le_of_ble_eq_true rfl)⟩ rfl (Nat.le_of_ble_eq_true rfl) rfl rfl (fun _ _ h => h.elim) ?_
            rintro _ _ ⟨_, ⟨⟨_, rfl⟩, _, rfl⟩, rfl⟩
            refine j_iret dX8_replaceAll_66 rfl rfl ?_ (Nat.le_of_ble_eq_true rfl) (Nat.le_of_ble_eq_true rfl)
            exact ⟨rfl, rfl, ⟨_, rfl⟩, (z_wk (by first | assumption | exact z_m20z) (by first | assumption | exact z_m20z) (by first | assumption | exact z_m20z) (by first | assumption | exact z_m20z) (by first | assumption | exact z_m20z) (by first | assumption | exact z_m20z))⟩
          · refine j_aload dX8_replaceAll_54 rfl rfl ?_
            refine j_getf dX8_replaceAll_56 fX8_68 rfl rfl ?_
            refine j_goto (tgt := 66) dX8_replaceAll_59 (by decide) ?_
            refine j_iret dX8_replaceAll_66 rfl rfl ?_ (Nat.le_of_ble_eq_true rfl) (Nat.le_of_ble_eq_true rfl)
            exact ⟨rfl, rfl, ⟨_, rfl⟩, (z_wk (by first | assumption | exact z_m20z) (by first | assumption | exact z_m20z) (by first | assumption | exact z_m20z) (by first | assumption | exact z_m20z) (by first | assumption | exact z_m20z) (by first | assumption | exact z_m20z))⟩
end ZL6
