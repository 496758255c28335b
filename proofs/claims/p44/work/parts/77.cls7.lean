section ZL7
variable {G : z_G} {l : Launch}
set_option maxRecDepth 100000 in
set_option maxHeartbeats 8000000 in
theorem c_X8_copy (hl : l.stackTraces = false) (rf : Int32) (kn : Int32) (ma : Int32) (xa : Bool) (fa : Nat → Int32) (ca : Nat → Int32) (mb : Int32) (xb : Bool) (fb : Nat → Int32) (cb : Nat → Int32) (mt : Int32) (xt : Bool) (ft : Nat → Int32) (ct : Nat → Int32) (f0 : Nat → Int32) (g0 : Nat → Int32) (c0 : Nat → Int32) (m0 : Int32) (s0 : Int32) (f1 : Nat → Int32) (g1 : Nat → Int32) (c1 : Nat → Int32) (m1 : Int32) (s1 : Int32) (f2 : Nat → Int32) (g2 : Nat → Int32) (c2 : Nat → Int32) (m2 : Int32) (s2 : Int32) (f3 : Nat → Int32) (g3 : Nat → Int32) (c3 : Nat → Int32) (m3 : Int32) (s3 : Int32) (f4 : Nat → Int32) (g4 : Nat → Int32) (c4 : Nat → Int32) (m4 : Int32) (s4 : Int32) (f5 : Nat → Int32) (g5 : Nat → Int32) (c5 : Nat → Int32) (m5 : Int32) (s5 : Int32) (ek0 : Int32) (em0 : Int32) (es0 : Int32) (el0 : Int32) (b0 : Int32) (ef0 : Nat → Int32) (ek1 : Int32) (em1 : Int32) (es1 : Int32) (el1 : Int32) (b1 : Int32) (ef1 : Nat → Int32) (r : Int32) (h0 : z_m20 m0) (h1 : z_m20 m1) (h2 : z_m20 m2) (h3 : z_m20 m3) (h4 : z_m20 m4) (h5 : z_m20 m5) : z_CX G l mX8_copy 20 14 120 (z_cw rf kn ma xa fa ca mb xb fb cb mt xt ft ct f0 g0 c0 m0 s0 f1 g1 c1 m1 s1 f2 g2 c2 m2 s2 f3 g3 c3 m3 s3 f4 g4 c4 m4 s4 f5 g5 c5 m5 s5 ek0 em0 es0 el0 b0 ef0 ek1 em1 es1 el1 b1 ef1 []) [.ref 0, .int r] (fun v L => (∃ x : Int32, v = some (.int x)) ∧ z_Wk kn xa xb b0 b1 L) (fun E L => z_xI E ∧ L = (z_cw rf kn ma xa fa ca mb xb fb cb mt xt ft ct f0 g0 c0 m0 s0 f1 g1 c1 m1 s1 f2 g2 c2 m2 s2 f3 g3 c3 m3 s3 f4 g4 c4 m4 s4 f5 g5 c5 m5 s5 ek0 em0 es0 el0 b0 ef0 ek1 em1 es1 el1 b1 ef1 [])) := by
  refine z_body hl (by decide) rfl (Nat.le_of_ble_eq_true rfl) ?_
  show z_J G l mX8_copy (z_SX 20 14 120 (z_cw rf kn ma xa fa ca mb xb fb cb mt xt ft ct f0 g0 c0 m0 s0 f1 g1 c1 m1 s1 f2 g2 c2 m2 s2 f3 g3 c3 m3 s3 f4 g4 c4 m4 s4 f5 g5 c5 m5 s5 ek0 em0 es0 el0 b0 ef0 ek1 em1 es1 el1 b1 ef1 []) (fun v L => (∃ x : Int32, v = some (.int x)) ∧ z_Wk kn xa xb b0 b1 L) (fun E L => z_xI E ∧ L = (z_cw rf kn ma xa fa ca mb xb fb cb mt xt ft ct f0 g0 c0 m0 s0 f1 g1 c1 m1 s1 f2 g2 c2 m2 s2 f3 g3 c3 m3 s3 f4 g4 c4 m4 s4 f5 g5 c5 m5 s5 ek0 em0 es0 el0 b0 ef0 ek1 em1 es1 el1 b1 ef1 []))) 0 [(0, _), (1, _)] [] _ 0 0
  refine j_aload_n dX8_copy_0 rfl rfl ?_
  refine j_iload_n dX8_copy_1 rfl ?_
  refine j_callV (q := (RX8, TX8, 9)) dX8_copy_2 kX8_rowFor lX8_46 inX8_rowFor seX8_rowFor rfl rfl (z_dirX (c_X8_rowFor hl _ _ _ _ _ _ _ _ _ _ _ _ _ _ _ _ _ _ _ _ _ _ _ _ _ _ _ _ _ _ _ _ _ _ _ _ _ _ _ _ _ _ _ _ _ _ _ _ _ _ _ _ _ _ _ _ _)) (Nat.le_of_ble_eq_true rfl) ⟨(Nat.le_of_ble_eq_true rfl), (Nat.le_of_ble_eq_true rfl)⟩ rfl (Nat.le_of_ble_eq_true rfl) rfl rfl (fun _ _ h => by obtain ⟨_, ⟨h1, rfl⟩, rfl⟩ := h; exact ⟨rfl, rfl, x_I_I h1, rfl⟩) ?_
  rintro _ _ ⟨_, ⟨_, rfl, hr, rfl⟩, rfl⟩
  have hq_2 := hr
  rcases hr with ⟨e_2, rfl⟩ | ⟨e_2, rfl⟩
  · refine j_astore_n (lo' := [(2, _), (0, _), (1, _)]) dX8_copy_5 rfl (by decide) rfl ?_
    refine j_aload_n dX8_copy_6 rfl rfl ?_
    refine j_aload_n dX8_copy_7 rfl rfl ?_
    refine j_iconst (v := 1) dX8_copy_8 (by decide) ?_
    refine j_iload_n dX8_copy_9 rfl ?_
    refine j_isub dX8_copy_10 ?_
    refine j_callV (q := (RX8, TX8, 9)) dX8_copy_11 kX8_rowFor lX8_46 inX8_rowFor seX8_rowFor rfl rfl (z_dirX (c_X8_rowFor hl _ _ _ _ _ _ _ _ _ _ _ _ _ _ _ _ _ _ _ _ _ _ _ _ _ _ _ _ _ _ _ _ _ _ _ _ _ _ _ _ _ _ _ _ _ _ _ _ _ _ _ _ _ _ _ _ _)) (Nat.le_of_ble_eq_true rfl) ⟨(Nat.le_of_ble_eq_true rfl), (Nat.le_of_ble_eq_true rfl)⟩ rfl (Nat.le_of_ble_eq_true rfl) rfl rfl (fun _ _ h => by obtain ⟨_, ⟨h1, rfl⟩, rfl⟩ := h; exact ⟨rfl, rfl, x_I_I h1, rfl⟩) ?_
    rintro _ _ ⟨_, ⟨_, rfl, hr, rfl⟩, rfl⟩
    have hq_11 := hr
    rcases hr with ⟨e_11, rfl⟩ | ⟨e_11, rfl⟩
    · exact absurd (show (1 : Int32) - _ = _ from e_11) (by rw [e_2]; decide)
    · refine j_callV (q := (RX1, TX1, 4)) dX8_copy_14 kX1_become lX8_123 inX1_become seX1_become rfl rfl (z_frame [2, 3, 4, 5, 6, 7, 8, 9] rfl (by decide) (Nat.le_of_ble_eq_true rfl) (c_X1_become hl _ _ _ _ _ _ _ _)) (Nat.le_of_ble_eq_true rfl) ⟨(Nat.le_of_ble_eq_true rfl), (Nat.le_of_ble_eq_true rfl)⟩ rfl (Nat.le_of_ble_eq_true rfl) rfl rfl (fun _ _ h => h.elim) ?_
      rintro _ _ ⟨_, _, ⟨rfl, _, rfl⟩, rfl, rfl⟩
      refine j_w (z_cw _ _ _ _ _ _ _ _ _ _ _ _ _ _ _ _ _ _ _ _ _ _ _ _ _ _ _ _ _ _ _ _ _ _ _ _ _ _ _ _ _ _ _ _ _ _ _ _ _ _ _ _ _ _ _ _ [], z_no) rfl ?_
      refine j_aload_n dX8_copy_17 rfl rfl ?_
      refine j_getf dX8_copy_18 fX8_68 rfl rfl ?_
      refine j_iret dX8_copy_21 rfl rfl ?_ (Nat.le_of_ble_eq_true rfl) (Nat.le_of_ble_eq_true rfl)
      exact ⟨rfl, rfl, ⟨_, rfl⟩, (z_wk (by first | assumption | exact z_m20z) (by first | assumption | exact z_m20z) (by first | assumption | exact z_m20z) (by first | assumption | exact z_m20z) (by first | assumption | exact z_m20z) (by first | assumption | exact z_m20z))⟩
  · refine j_astore_n (lo' := [(2, _), (0, _), (1, _)]) dX8_copy_5 rfl (by decide) rfl ?_
    refine j_aload_n dX8_copy_6 rfl rfl ?_
    refine j_aload_n dX8_copy_7 rfl rfl ?_
    refine j_iconst (v := 1) dX8_copy_8 (by decide) ?_
    refine j_iload_n dX8_copy_9 rfl ?_
    refine j_isub dX8_copy_10 ?_
    refine j_callV (q := (RX8, TX8, 9)) dX8_copy_11 kX8_rowFor lX8_46 inX8_rowFor seX8_rowFor rfl rfl (z_dirX (c_X8_rowFor hl _ _ _ _ _ _ _ _ _ _ _ _ _ _ _ _ _ _ _ _ _ _ _ _ _ _ _ _ _ _ _ _ _ _ _ _ _ _ _ _ _ _ _ _ _ _ _ _ _ _ _ _ _ _ _ _ _)) (Nat.le_of_ble_eq_true rfl) ⟨(Nat.le_of_ble_eq_true rfl), (Nat.le_of_ble_eq_true rfl)⟩ rfl (Nat.le_of_ble_eq_true rfl) rfl rfl (fun _ _ h => by obtain ⟨_, ⟨h1, rfl⟩, rfl⟩ := h; exact ⟨rfl, rfl, x_I_I h1, rfl⟩) ?_
    rintro _ _ ⟨_, ⟨_, rfl, hr, rfl⟩, rfl⟩
    have hq_11 := hr
    rcases hr with ⟨e_11, rfl⟩ | ⟨e_11, rfl⟩
    · refine j_callV (q := (RX1, TX1, 4)) dX8_copy_14 kX1_become lX8_123 inX1_become seX1_become rfl rfl (z_frame [6, 7, 8, 9, 2, 3, 4, 5] rfl (by decide) (Nat.le_of_ble_eq_true rfl) (c_X1_become hl _ _ _ _ _ _ _ _)) (Nat.le_of_ble_eq_true rfl) ⟨(Nat.le_of_ble_eq_true rfl), (Nat.le_of_ble_eq_true rfl)⟩ rfl (Nat.le_of_ble_eq_true rfl) rfl rfl (fun _ _ h => h.elim) ?_
      rintro _ _ ⟨_, _, ⟨rfl, _, rfl⟩, rfl, rfl⟩
      refine j_w (z_cw _ _ _ _ _ _ _ _ _ _ _ _ _ _ _ _ _ _ _ _ _ _ _ _ _ _ _ _ _ _ _ _ _ _ _ _ _ _ _ _ _ _ _ _ _ _ _ _ _ _ _ _ _ _ _ _ [], z_no) rfl ?_
      refine j_aload_n dX8_copy_17 rfl rfl ?_
      refine j_getf dX8_copy_18 fX8_68 rfl rfl ?_
      refine j_iret dX8_copy_21 rfl rfl ?_ (Nat.le_of_ble_eq_true rfl) (Nat.le_of_ble_eq_true rfl)
      exact ⟨rfl, rfl, ⟨_, rfl⟩, (z_wk (by first | assumption | exact z_m20z) (by first | assumption | exact z_m20z) (by first | assumption | exact z_m20z) (by first | assumption | exact z_m20z) (by first | assumption | exact z_m20z) (by first | assumption | exact z_m20z))⟩
    · exact absurd (show (1 : Int32) - _ = _ from e_11) (by rw [e_2]; decide)
set_option maxRecDepth 100000 in
set_option maxHeartbeats 8000000 in
theorem c_X8_put (hl : l.stackTraces = false) (rf : Int32) (kn : Int32) (ma : Int32) (xa : Bool) (fa : Nat → Int32) (ca : Nat → Int32) (mb : Int32) (xb : Bool) (fb : Nat → Int32) (cb : Nat → Int32) (mt : Int32) (xt : Bool) (ft : Nat → Int32) (ct : Nat → Int32) (f0 : Nat → Int32) (g0 : Nat → Int32) (c0 : Nat → Int32) (m0 : Int32) (s0 : Int32) (f1 : Nat → Int32) (g1 : Nat → Int32) (c1 : Nat → Int32) (m1 : Int32) (s1 : Int32) (f2 : Nat → Int32) (g2 : Nat → Int32) (c2 : Nat → Int32) (m2 : Int32) (s2 : Int32) (f3 : Nat → Int32) (g3 : Nat → Int32) (c3 : Nat → Int32) (m3 : Int32) (s3 : Int32) (f4 : Nat → Int32) (g4 : Nat → Int32) (c4 : Nat → Int32) (m4 : Int32) (s4 : Int32) (f5 : Nat → Int32) (g5 : Nat → Int32) (c5 : Nat → Int32) (m5 : Int32) (s5 : Int32) (ek0 : Int32) (em0 : Int32) (es0 : Int32) (el0 : Int32) (b0 : Int32) (ef0 : Nat → Int32) (ek1 : Int32) (em1 : Int32) (es1 : Int32) (el1 : Int32) (b1 : Int32) (ef1 : Nat → Int32) (r p q : Int32) (h0 : z_m20 m0) (h1 : z_m20 m1) (h2 : z_m20 m2) (h3 : z_m20 m3) (h4 : z_m20 m4) (h5 : z_m20 m5) : z_CX G l mX8_put 20 14 120 (z_cw rf kn ma xa fa ca mb xb fb cb mt xt ft ct f0 g0 c0 m0 s0 f1 g1 c1 m1 s1 f2 g2 c2 m2 s2 f3 g3 c3 m3 s3 f4 g4 c4 m4 s4 f5 g5 c5 m5 s5 ek0 em0 es0 el0 b0 ef0 ek1 em1 es1 el1 b1 ef1 []) [.ref 0, .int r, .int p, .int q] (fun v L => (∃ x : Int32, v = some (.int x)) ∧ z_Wk kn xa xb b0 b1 L) (fun E L => z_xIA E ∧ L = (z_cw rf kn ma xa fa ca mb xb fb cb mt xt ft ct f0 g0 c0 m0 s0 f1 g1 c1 m1 s1 f2 g2 c2 m2 s2 f3 g3 c3 m3 s3 f4 g4 c4 m4 s4 f5 g5 c5 m5 s5 ek0 em0 es0 el0 b0 ef0 ek1 em1 es1 el1 b1 ef1 [])) := by
  refine z_body hl (by decide) rfl (Nat.le_of_ble_eq_true rfl) ?_
  show z_J G l mX8_put (z_SX 20 14 120 (z_cw rf kn ma xa fa ca mb xb fb cb mt xt ft ct f0 g0 c0 m0 s0 f1 g1 c1 m1 s1 f2 g2 c2 m2 s2 f3 g3 c3 m3 s3 f4 g4 c4 m4 s4 f5 g5 c5 m5 s5 ek0 em0 es0 el0 b0 ef0 ek1 em1 es1 el1 b1 ef1 []) (fun v L => (∃ x : Int32, v = some (.int x)) ∧ z_Wk kn xa xb b0 b1 L) (fun E L => z_xIA E ∧ L = (z_cw rf kn ma xa fa ca mb xb fb cb mt xt ft ct f0 g0 c0 m0 s0 f1 g1 c1 m1 s1 f2 g2 c2 m2 s2 f3 g3 c3 m3 s3 f4 g4 c4 m4 s4 f5 g5 c5 m5 s5 ek0 em0 es0 el0 b0 ef0 ek1 em1 es1 el1 b1 ef1 []))) 0 [(0, _), (1, _), (2, _), (3, _)] [] _ 0 0
  refine j_aload_n dX8_put_0 rfl rfl ?_
  refine j_iload_n dX8_put_1 rfl ?_
  refine j_iload_n dX8_put_2 rfl ?_
  refine j_callV (q := (RX8, TX8, 9)) dX8_put_3 kX8_tableFor_ lX8_126 inX8_tableFor_ seX8_tableFor_ rfl rfl (z_dirX (c_X8_tableFor_ hl _ _ _ _ _ _ _ _ _ _ _ _ _ _ _ _ _ _ _ _ _ _ _ _ _ _ _ _ _ _ _ _ _ _ _ _ _ _ _ _ _ _ _ _ _ _ _ _ _ _ _ _ _ _ _ _ _ _)) (Nat.le_of_ble_eq_true rfl) ⟨(Nat.le_of_ble_eq_true rfl), (Nat.le_of_ble_eq_true rfl)⟩ rfl (Nat.le_of_ble_eq_true rfl) rfl rfl (fun _ _ h => by obtain ⟨_, ⟨h1, rfl⟩, rfl⟩ := h; exact ⟨rfl, rfl, x_IA_IA h1, rfl⟩) ?_
  rintro _ _ ⟨_, ⟨_, rfl, hr, rfl⟩, rfl⟩
  have hq_3 := hr
  rcases hr with ⟨e_3, rfl⟩ | ⟨e_3, rfl⟩ | ⟨e_3, rfl⟩
  · refine j_astore (lo' := [(4, _), (0, _), (1, _), (2, _), (3, _)]) dX8_put_6 rfl (by decide) rfl ?_
    refine j_iload_n dX8_put_8 rfl ?_
    refine j_callS dX8_put_9 kX8_checkValue lX8_50 stX8_checkValue (c_X8_checkValue hl _ _) (Nat.le_of_ble_eq_true rfl) ⟨(Nat.le_of_ble_eq_true rfl), (Nat.le_of_ble_eq_true rfl)⟩ rfl (Nat.le_of_ble_eq_true rfl) rfl rfl (fun _ _ h => by obtain ⟨h1, rfl⟩ := h; exact ⟨rfl, rfl, x_A_IA h1, rfl⟩) ?_
    rintro _ _ ⟨rfl, rfl⟩
    refine j_aload dX8_put_12 rfl rfl ?_
    refine j_iload_n dX8_put_14 rfl ?_
    refine j_iload_n dX8_put_15 rfl ?_
    refine j_callV (q := (RX4, TX4, 5)) dX8_put_16 kX4_store lX8_130 inX4_store seX4_store rfl rfl (z_frame [10, 11, 12, 13, 14] rfl (by decide) (Nat.le_of_ble_eq_true rfl) (c_X4_store hl _ _ _ _ _ _ _ (by assumption))) (Nat.le_of_ble_eq_true rfl) ⟨(Nat.le_of_ble_eq_true rfl), (Nat.le_of_ble_eq_true rfl)⟩ rfl (Nat.le_of_ble_eq_true rfl) rfl rfl (fun _ _ h => h.elim) ?_
    rintro _ _ ⟨_, _, ⟨_, rfl, _, _, _, _, hm, rfl⟩, rfl, rfl⟩
    refine j_w (z_cw _ _ _ _ _ _ _ _ _ _ _ _ _ _ _ _ _ _ _ _ _ _ _ _ _ _ _ _ _ _ _ _ _ _ _ _ _ _ _ _ _ _ _ _ _ _ _ _ _ _ _ _ _ _ _ _ [], z_no) rfl ?_
    refine j_iret dX8_put_19 rfl rfl ?_ (Nat.le_of_ble_eq_true rfl) (Nat.le_of_ble_eq_true rfl)
    exact ⟨rfl, rfl, ⟨_, rfl⟩, (z_wk (by first | assumption | exact z_m20z) (by first | assumption | exact z_m20z) (by first | assumption | exact z_m20z) (by first | assumption | exact z_m20z) (by first | assumption | exact z_m20z) (by first | assumption | exact z_m20z))⟩
  · refine j_astore (lo' := [(4, _), (0, _), (1, _), (2, _), (3, _)]) dX8_put_6 rfl (by decide) rfl ?_
    refine j_iload_n dX8_put_8 rfl ?_
    refine j_callS dX8_put_9 kX8_checkValue lX8_50 stX8_checkValue (c_X8_checkValue hl _ _) (Nat.le_of_ble_eq_true rfl) ⟨(Nat.le_of_ble_eq_true rfl), (Nat.le_of_ble_eq_true rfl)⟩ rfl (Nat.le_of_ble_eq_true rfl) rfl rfl (fun _ _ h => by obtain ⟨h1, rfl⟩ := h; exact ⟨rfl, rfl, x_A_IA h1, rfl⟩) ?_
    rintro _ _ ⟨rfl, rfl⟩
    refine j_aload dX8_put_12 rfl rfl ?_
    refine j_iload_n dX8_put_14 rfl ?_
    refine j_iload_n dX8_put_15 rfl ?_
    refine j_callV (q := (RX4, TX4, 5)) dX8_put_16 kX4_store lX8_130 inX4_store seX4_store rfl rfl (z_frame [16, 17, 18, 19, 20] rfl (by decide) (Nat.le_of_ble_eq_true rfl) (c_X4_store hl _ _ _ _ _ _ _ (by assumption))) (Nat.le_of_ble_eq_true rfl) ⟨(Nat.le_of_ble_eq_true rfl), (Nat.le_of_ble_eq_true rfl)⟩ rfl (Nat.le_of_ble_eq_true rfl) rfl rfl (fun _ _ h => h.elim) ?_
    rintro _ _ ⟨_, _, ⟨_, rfl, _, _, _, _, hm, rfl⟩, rfl, rfl⟩
    refine j_w (z_cw _ _ _ _ _ _ _ _ _ _ _ _ _ _ _ _ _ _ _ _ _ _ _ _ _ _ _ _ _ _ _ _ _ _ _ _ _ _ _ _ _ _ _ _ _ _ _ _ _ _ _ _ _ _ _ _ [], z_no) rfl ?_
    refine j_iret dX8_put_19 rfl rfl ?_ (Nat.le_of_ble_eq_true rfl) (Nat.le_of_ble_eq_true rfl)
    exact ⟨rfl, rfl, ⟨_, rfl⟩, (z_wk (by first | assumption | exact z_m20z) (by first | assumption | exact z_m20z) (by first | assumption | exact z_m20z) (by first | assumption | exact z_m20z) (by first | assumption | exact z_m20z) (by first | assumption | exact z_m20z))⟩
  · refine j_astore (lo' := [(4, _), (0, _), (1, _), (2, _), (3, _)]) dX8_put_6 rfl (by decide) rfl ?_
    refine j_iload_n dX8_put_8 rfl ?_
    refine j_callS dX8_put_9 kX8_checkValue lX8_50 stX8_checkValue (c_X8_checkValue hl _ _) (Nat.le_of_ble_eq_true rfl) ⟨(Nat.le_of_ble_eq_true rfl), (Nat.le_of_ble_eq_true rfl)⟩ rfl (Nat.le_of_ble_eq_true rfl) rfl rfl (fun _ _ h => by obtain ⟨h1, rfl⟩ := h; exact ⟨rfl, rfl, x_A_IA h1, rfl⟩) ?_
    rintro _ _ ⟨rfl, rfl⟩
    refine j_aload dX8_put_12 rfl rfl ?_
    refine j_iload_n dX8_put_14 rfl ?_
    refine j_iload_n dX8_put_15 rfl ?_
    refine j_callV (q := (RX4, TX4, 5)) dX8_put_16 kX4_store lX8_130 inX4_store seX4_store rfl rfl (z_frame [21, 22, 23, 24, 25] rfl (by decide) (Nat.le_of_ble_eq_true rfl) (c_X4_store hl _ _ _ _ _ _ _ (by assumption))) (Nat.le_of_ble_eq_true rfl) ⟨(Nat.le_of_ble_eq_true rfl), (Nat.le_of_ble_eq_true rfl)⟩ rfl (Nat.le_of_ble_eq_true rfl) rfl rfl (fun _ _ h => h.elim) ?_
    rintro _ _ ⟨_, _, ⟨_, rfl, _, _, _, _, hm, rfl⟩, rfl, rfl⟩
    refine j_w (z_cw _ _ _ _ _ _ _ _ _ _ _ _ _ _ _ _ _ _ _ _ _ _ _ _ _ _ _ _ _ _ _ _ _ _ _ _ _ _ _ _ _ _ _ _ _ _ _ _ _ _ _ _ _ _ _ _ [], z_no) rfl ?_
    refine j_iret dX8_put_19 rfl rfl ?_ (Nat.le_of_ble_eq_true rfl) (Nat.le_of_ble_eq_true rfl)
    exact ⟨rfl, rfl, ⟨_, rfl⟩, (z_wk (by first | assumption | exact z_m20z) (by first | assumption | exact z_m20z) (by first | assumption | exact z_m20z) (by first | assumption | exact z_m20z) (by first | assumption | exact z_m20z) (by first | assumption | exact z_m20z))⟩
set_option maxRecDepth 100000 in
set_option maxHeartbeats 8000000 in
theorem c_X8_putIfAbsent (hl : l.stackTraces = false) (rf : Int32) (kn : Int32) (ma : Int32) (xa : Bool) (fa : Nat → Int32) (ca : Nat → Int32) (mb : Int32) (xb : Bool) (fb : Nat → Int32) (cb : Nat → Int32) (mt : Int32) (xt : Bool) (ft : Nat → Int32) (ct : Nat → Int32) (f0 : Nat → Int32) (g0 : Nat → Int32) (c0 : Nat → Int32) (m0 : Int32) (s0 : Int32) (f1 : Nat → Int32) (g1 : Nat → Int32) (c1 : Nat → Int32) (m1 : Int32) (s1 : Int32) (f2 : Nat → Int32) (g2 : Nat → Int32) (c2 : Nat → Int32) (m2 : Int32) (s2 : Int32) (f3 : Nat → Int32) (g3 : Nat → Int32) (c3 : Nat → Int32) (m3 : Int32) (s3 : Int32) (f4 : Nat → Int32) (g4 : Nat → Int32) (c4 : Nat → Int32) (m4 : Int32) (s4 : Int32) (f5 : Nat → Int32) (g5 : Nat → Int32) (c5 : Nat → Int32) (m5 : Int32) (s5 : Int32) (ek0 : Int32) (em0 : Int32) (es0 : Int32) (el0 : Int32) (b0 : Int32) (ef0 : Nat → Int32) (ek1 : Int32) (em1 : Int32) (es1 : Int32) (el1 : Int32) (b1 : Int32) (ef1 : Nat → Int32) (r p q : Int32) (h0 : z_m20 m0) (h1 : z_m20 m1) (h2 : z_m20 m2) (h3 : z_m20 m3) (h4 : z_m20 m4) (h5 : z_m20 m5) : z_CX G l mX8_putIfAbsent 20 14 120 (z_cw rf kn ma xa fa ca mb xb fb cb mt xt ft ct f0 g0 c0 m0 s0 f1 g1 c1 m1 s1 f2 g2 c2 m2 s2 f3 g3 c3 m3 s3 f4 g4 c4 m4 s4 f5 g5 c5 m5 s5 ek0 em0 es0 el0 b0 ef0 ek1 em1 es1 el1 b1 ef1 []) [.ref 0, .int r, .int p, .int q] (fun v L => (∃ x : Int32, v = some (.int x)) ∧ z_Wk kn xa xb b0 b1 L) (fun E L => z_xIA E ∧ L = (z_cw rf kn ma xa fa ca mb xb fb cb mt xt ft ct f0 g0 c0 m0 s0 f1 g1 c1 m1 s1 f2 g2 c2 m2 s2 f3 g3 c3 m3 s3 f4 g4 c4 m4 s4 f5 g5 c5 m5 s5 ek0 em0 es0 el0 b0 ef0 ek1 em1 es1 el1 b1 ef1 [])) := by
  refine z_body hl (by decide) rfl (Nat.le_of_ble_eq_true rfl) ?_
  show z_J G l mX8_putIfAbsent (z_SX 20 14 120 (z_cw rf kn ma xa fa ca mb xb fb cb mt xt ft ct f0 g0 c0 m0 s0 f1 g1 c1 m1 s1 f2 g2 c2 m2 s2 f3 g3 c3 m3 s3 f4 g4 c4 m4 s4 f5 g5 c5 m5 s5 ek0 em0 es0 el0 b0 ef0 ek1 em1 es1 el1 b1 ef1 []) (fun v L => (∃ x : Int32, v = some (.int x)) ∧ z_Wk kn xa xb b0 b1 L) (fun E L => z_xIA E ∧ L = (z_cw rf kn ma xa fa ca mb xb fb cb mt xt ft ct f0 g0 c0 m0 s0 f1 g1 c1 m1 s1 f2 g2 c2 m2 s2 f3 g3 c3 m3 s3 f4 g4 c4 m4 s4 f5 g5 c5 m5 s5 ek0 em0 es0 el0 b0 ef0 ek1 em1 es1 el1 b1 ef1 []))) 0 [(0, _), (1, _), (2, _), (3, _)] [] _ 0 0
  refine j_aload_n dX8_putIfAbsent_0 rfl rfl ?_
  refine j_iload_n dX8_putIfAbsent_1 rfl ?_
  refine j_iload_n dX8_putIfAbsent_2 rfl ?_
  refine j_callV (q := (RX8, TX8, 9)) dX8_putIfAbsent_3 kX8_tableFor_ lX8_126 inX8_tableFor_ seX8_tableFor_ rfl rfl (z_dirX (c_X8_tableFor_ hl _ _ _ _ _ _ _ _ _ _ _ _ _ _ _ _ _ _ _ _ _ _ _ _ _ _ _ _ _ _ _ _ _ _ _ _ _ _ _ _ _ _ _ _ _ _ _ _ _ _ _ _ _ _ _ _ _ _)) (Nat.le_of_ble_eq_true rfl) ⟨(Nat.le_of_ble_eq_true rfl), (Nat.le_of_ble_eq_true rfl)⟩ rfl (Nat.le_of_ble_eq_true rfl) rfl rfl (fun _ _ h => by obtain ⟨_, ⟨h1, rfl⟩, rfl⟩ := h; exact ⟨rfl, rfl, x_IA_IA h1, rfl⟩) ?_
  rintro _ _ ⟨_, ⟨_, rfl, hr, rfl⟩, rfl⟩
  have hq_3 := hr
  rcases hr with ⟨e_3, rfl⟩ | ⟨e_3, rfl⟩ | ⟨e_3, rfl⟩
  · refine j_astore (lo' := [(4, _), (0, _), (1, _), (2, _), (3, _)]) dX8_putIfAbsent_6 rfl (by decide) rfl ?_
    refine j_iload_n dX8_putIfAbsent_8 rfl ?_
    refine j_callS dX8_putIfAbsent_9 kX8_checkValue lX8_50 stX8_checkValue (c_X8_checkValue hl _ _) (Nat.le_of_ble_eq_true rfl) ⟨(Nat.le_of_ble_eq_true rfl), (Nat.le_of_ble_eq_true rfl)⟩ rfl (Nat.le_of_ble_eq_true rfl) rfl rfl (fun _ _ h => by obtain ⟨h1, rfl⟩ := h; exact ⟨rfl, rfl, x_A_IA h1, rfl⟩) ?_
    rintro _ _ ⟨rfl, rfl⟩
    refine j_aload dX8_putIfAbsent_12 rfl rfl ?_
    refine j_iload_n dX8_putIfAbsent_14 rfl ?_
    refine j_callV (q := (RX4, TX4, 5)) dX8_putIfAbsent_15 kX4_look lX8_137 inX4_look seX4_look rfl rfl (z_frame [10, 11, 12, 13, 14] rfl (by decide) (Nat.le_of_ble_eq_true rfl) (c_X4_look hl _ _ _ _ _ _)) (Nat.le_of_ble_eq_true rfl) ⟨(Nat.le_of_ble_eq_true rfl), (Nat.le_of_ble_eq_true rfl)⟩ rfl (Nat.le_of_ble_eq_true rfl) rfl rfl (fun _ _ h => h.elim) ?_
    rintro _ _ ⟨_, _, ⟨_, rfl, rfl⟩, rfl, rfl⟩
    refine j_w (z_cw _ _ _ _ _ _ _ _ _ _ _ _ _ _ _ _ _ _ _ _ _ _ _ _ _ _ _ _ _ _ _ _ _ _ _ _ _ _ _ _ _ _ _ _ _ _ _ _ _ _ _ _ _ _ _ _ [], z_no) rfl ?_
    refine j_istore (lo' := [(5, _), (4, _), (0, _), (1, _), (2, _), (3, _)]) dX8_putIfAbsent_18 (by decide) rfl ?_
    refine j_iload dX8_putIfAbsent_20 rfl ?_
    refine j_sipush (v := (-1000)) dX8_putIfAbsent_22 (by decide) ?_
    refine j_icmp_ne (tgt := 38) dX8_putIfAbsent_25 (by decide) (fun c_25 => ?_) (fun c_25 => ?_)
    · refine j_iload dX8_putIfAbsent_38 rfl ?_
      refine j_iret dX8_putIfAbsent_40 rfl rfl ?_ (Nat.le_of_ble_eq_true rfl) (Nat.le_of_ble_eq_true rfl)
      exact ⟨rfl, rfl, ⟨_, rfl⟩, (z_wk (by first | assumption | exact z_m20z) (by first | assumption | exact z_m20z) (by first | assumption | exact z_m20z) (by first | assumption | exact z_m20z) (by first | assumption | exact z_m20z) (by first | assumption | exact z_m20z))⟩
    · refine j_aload dX8_putIfAbsent_28 rfl rfl ?_
      refine j_iload_n dX8_putIfAbsent_30 rfl ?_
      refine j_iload_n dX8_putIfAbsent_31 rfl ?_
      refine j_callV (q := (RX4, TX4, 5)) dX8_putIfAbsent_32 kX4_store lX8_130 inX4_store seX4_store rfl rfl (z_frame [10, 11, 12, 13, 14] rfl (by decide) (Nat.le_of_ble_eq_true rfl) (c_X4_store hl _ _ _ _ _ _ _ (by assumption))) (Nat.le_of_ble_eq_true rfl) ⟨(Nat.le_of_ble_eq_true rfl), (Nat.le_of_ble_eq_true rfl)⟩ rfl (Nat.le_of_ble_eq_true rfl) rfl rfl (fun _ _ h => h.elim) ?_
      rintro _ _ ⟨_, _, ⟨_, rfl, _, _, _, _, hm, rfl⟩, rfl, rfl⟩
      refine j_w (z_cw _ _ _ _ _ _ _ _ _ _ _ _ _ _ _ _ _ _ _ _ _ _ _ _ _ _ _ _ _ _ _ _ _ _ _ _ _ _ _ _ _ _ _ _ _ _ _ _ _ _ _ _ _ _ _ _ [], z_no) rfl ?_
      refine j_goto (tgt := 40) dX8_putIfAbsent_35 (by decide) ?_
      refine j_iret dX8_putIfAbsent_40 rfl rfl ?_ (Nat.le_of_ble_eq_true rfl) (Nat.le_of_ble_eq_true rfl)
      exact ⟨rfl, rfl, ⟨_, rfl⟩, (z_wk (by first | assumption | exact z_m20z) (by first | assumption | exact z_m20z) (by first | assumption | exact z_m20z) (by first | assumption | exact z_m20z) (by first | assumption | exact z_m20z) (by first | assumption | exact z_m20z))⟩
  · refine j_astore (lo' := [(4, _), (0, _), (1, _), (2, _), (3, _)]) dX8_putIfAbsent_6 rfl (by decide) rfl ?_
    refine j_iload_n dX8_putIfAbsent_8 rfl ?_
    refine j_callS dX8_putIfAbsent_9 kX8_checkValue lX8_50 stX8_checkValue (c_X8_checkValue hl _ _) (Nat.le_of_ble_eq_true rfl) ⟨(Nat.le_of_ble_eq_true rfl), (Nat.le_of_ble_eq_true rfl)⟩ rfl (Nat.le_of_ble_eq_true rfl) rfl rfl (fun _ _ h => by obtain ⟨h1, rfl⟩ := h; exact ⟨rfl, rfl, x_A_IA h1, rfl⟩) ?_
    rintro _ _ ⟨rfl, rfl⟩
    refine j_aload dX8_putIfAbsent_12 rfl rfl ?_
    refine j_iload_n dX8_putIfAbsent_14 rfl ?_
    refine j_callV (q := (RX4, TX4, 5)) dX8_putIfAbsent_15 kX4_look lX8_137 inX4_look seX4_look rfl rfl (z_frame [16, 17, 18, 19, 20] rfl (by decide) (Nat.le_of_ble_eq_true rfl) (c_X4_look hl _ _ _ _ _ _)) (Nat.le_of_ble_eq_true rfl) ⟨(Nat.le_of_ble_eq_true rfl), (Nat.le_of_ble_eq_true rfl)⟩ rfl (Nat.le_of_ble_eq_true rfl) rfl rfl (fun _ _ h => h.elim) ?_
    rintro _ _ ⟨_, _, ⟨_, rfl, rfl⟩, rfl, rfl⟩
    refine j_w (z_cw _ _ _ _ _ _ _ _ _ _ _ _ _ _ _ _ _ _ _ _ _ _ _ _ _ _ _ _ _ _ _ _ _ _ _ _ _ _ _ _ _ _ _ _ _ _ _ _ _ _ _ _ _ _ _ _ [], z_no) rfl ?_
    refine j_istore (lo' := [(5, _), (4, _), (0, _), (1, _), (2, _), (3, _)]) dX8_putIfAbsent_18 (by decide) rfl ?_
    refine j_iload dX8_putIfAbsent_20 rfl ?_
    refine j_sipush (v := (-1000)) dX8_putIfAbsent_22 (by decide) ?_
    refine j_icmp_ne (tgt := 38) dX8_putIfAbsent_25 (by decide) (fun c_25 => ?_) (fun c_25 => ?_)
    · refine j_iload dX8_putIfAbsent_38 rfl ?_
      refine j_iret dX8_putIfAbsent_40 rfl rfl ?_ (Nat.le_of_ble_eq_true rfl) (Nat.le_of_ble_eq_true rfl)
      exact ⟨rfl, rfl, ⟨_, rfl⟩, (z_wk (by first | assumption | exact z_m20z) (by first | assumption | exact z_m20z) (by first | assumption | exact z_m20z) (by first | assumption | exact z_m20z) (by first | assumption | exact z_m20z) (by first | assumption | exact z_m20z))⟩
    · refine j_aload dX8_putIfAbsent_28 rfl rfl ?_
      refine j_iload_n dX8_putIfAbsent_30 rfl ?_
      refine j_iload_n dX8_putIfAbsent_31 rfl ?_
      refine j_callV (q := (RX4, TX4, 5)) dX8_putIfAbsent_32 kX4_store lX8_130 inX4_store seX4_store rfl rfl (z_frame [16, 17, 18, 19, 20] rfl (by decide) (Nat.le_of_ble_eq_true rfl) (c_X4_store hl _ _ _ _ _ _ _ (by assumption))) (Nat.le_of_ble_eq_true rfl) ⟨(Nat.le_of_ble_eq_true rfl), (Nat.le_of_ble_eq_true rfl)⟩ rfl (Nat.le_of_ble_eq_true rfl) rfl rfl (fun _ _ h => h.elim) ?_
      rintro _ _ ⟨_, _, ⟨_, rfl, _, _, _, _, hm, rfl⟩, rfl, rfl⟩
      refine j_w (z_cw _ _ _ _ _ _ _ _ _ _ _ _ _ _ _ _ _ _ _ _ _ _ _ _ _ _ _ _ _ _ _ _ _ _ _ _ _ _ _ _ _ _ _ _ _ _ _ _ _ _ _ _ _ _ _ _ [], z_no) rfl ?_
      refine j_goto (tgt := 40) dX8_putIfAbsent_35 (by decide) ?_
      refine j_iret dX8_putIfAbsent_40 rfl rfl ?_ (Nat.le_of_ble_eq_true rfl) (Nat.le_of_ble_eq_true rfl)
      exact ⟨rfl, rfl, ⟨_, rfl⟩, (z_wk (by first | assumption | exact z_m20z) (by first | assumption | exact z_m20z) (by first | assumption | exact z_m20z) (by first | assumption | exact z_m20z) (by first | assumption | exact z_m20z) (by first | assumption | exact z_m20z))⟩
  · refine j_astore (lo' := [(4, _), (0, _), (1, _), (2, _), (3, _)]) dX8_putIfAbsent_6 rfl (by decide) rfl ?_
    refine j_iload_n dX8_putIfAbsent_8 rfl ?_
    refine j_callS dX8_putIfAbsent_9 kX8_checkValue lX8_50 stX8_checkValue (c_X8_checkValue hl _ _) (Nat.le_of_ble_eq_true rfl) ⟨(Nat.le_of_ble_eq_true rfl), (Nat.le_of_ble_eq_true rfl)⟩ rfl (Nat.le_of_ble_eq_true rfl) rfl rfl (fun _ _ h => by obtain ⟨h1, rfl⟩ := h; exact ⟨rfl, rfl, x_A_IA h1, rfl⟩) ?_
    rintro _ _ ⟨rfl, rfl⟩
    refine j_aload dX8_putIfAbsent_12 rfl rfl ?_
    refine j_iload_n dX8_putIfAbsent_14 rfl ?_
    refine j_callV (q := (RX4, TX4, 5)) dX8_putIfAbsent_15 kX4_look lX8_137 inX4_look seX4_look rfl rfl (z_frame [21, 22, 23, 24, 25] rfl (by decide) (Nat.le_of_ble_eq_true rfl) (c_X4_look hl _ _ _ _ _ _)) (Nat.le_of_ble_eq_true rfl) ⟨(Nat.le_of_ble_eq_true rfl), (Nat.le_of_ble_eq_true rfl)⟩ rfl (Nat.le_of_ble_eq_true rfl) rfl rfl (fun _ _ h => h.elim) ?_
    rintro _ _ ⟨_, _, ⟨_, rfl, rfl⟩, rfl, rfl⟩
    refine j_w (z_cw _ _ _ _ _ _ _ _ _ _ _ _ _ _ _ _ _ _ _ _ _ _ _ _ _ _ _ _ _ _ _ _ _ _ _ _ _ _ _ _ _ _ _ _ _ _ _ _ _ _ _ _ _ _ _ _ [], z_no) rfl ?_
    refine j_istore (lo' := [(5, _), (4, _), (0, _), (1, _), (2, _), (3, _)]) dX8_putIfAbsent_18 (by decide) rfl ?_
    refine j_iload dX8_putIfAbsent_20 rfl ?_
    refine j_sipush (v := (-1000)) dX8_putIfAbsent_22 (by decide) ?_
    refine j_icmp_ne (tgt := 38) dX8_putIfAbsent_25 (by decide) (fun c_25 => ?_) (fun c_25 => ?_)
    · refine j_iload dX8_putIfAbsent_38 rfl ?_
      refine j_iret dX8_putIfAbsent_40 rfl rfl ?_ (Nat.le_of_ble_eq_true rfl) (Nat.le_of_ble_eq_true rfl)
      exact ⟨rfl, rfl, ⟨_, rfl⟩, (z_wk (by first | assumption | exact z_m20z) (by first | assumption | exact z_m20z) (by first | assumption | exact z_m20z) (by first | assumption | exact z_m20z) (by first | assumption | exact z_m20z) (by first | assumption | exact z_m20z))⟩
    · refine j_aload dX8_putIfAbsent_28 rfl rfl ?_
      refine j_iload_n dX8_putIfAbsent_30 rfl ?_
      refine j_iload_n dX8_putIfAbsent_31 rfl ?_
      refine j_callV (q := (RX4, TX4, 5)) dX8_putIfAbsent_32 kX4_store lX8_130 inX4_store seX4_store rfl rfl (z_frame [21, 22, 23, 24, 25] rfl (by decide) (Nat.le_of_ble_eq_true rfl) (c_X4_store hl _ _ _ _ _ _ _ (by assumption))) (Nat.le_of_ble_eq_true rfl) ⟨(Nat.le_of_ble_eq_true rfl), (Nat.le_of_ble_eq_true rfl)⟩ rfl (Nat.le_of_ble_eq_true rfl) rfl rfl (fun _ _ h => h.elim) ?_
      rintro _ _ ⟨_, _, ⟨_, rfl, _, _, _, _, hm, rfl⟩, rfl, rfl⟩
      refine j_w (z_cw _ _ _ _ _ _ _ _ _ _ _ _ _ _ _ _ _ _ _ _ _ _ _ _ _ _ _ _ _ _ _ _ _ _ _ _ _ _ _ _ _ _ _ _ _ _ _ _ _ _ _ _ _ _ _ _ [], z_no) rfl ?_
      refine j_goto (tgt := 40) dX8_putIfAbsent_35 (by decide) ?_
      refine j_iret dX8_putIfAbsent_40 rfl rfl ?_ (Nat.le_of_ble_eq_true rfl) (Nat.le_of_ble_eq_true rfl)
      exact ⟨rfl, rfl, ⟨_, rfl⟩, (z_wk (by first | assumption | exact z_m20z) (by first | assumption | exact z_m20z) (by first | assumption | exact z_m20z) (by first | assumption | exact z_m20z) (by first | assumption | exact z_m20z) (by first | assumption | exact z_m20z))⟩
set_option maxRecDepth 100000 in
set_option maxHeartbeats 8000000 in
theorem c_X8_replace (hl : l.stackTraces = false) (rf : Int32) (kn : Int32) (ma : Int32) (xa : Bool) (fa : Nat → Int32) (ca : Nat → Int32) (mb : Int32) (xb : Bool) (fb : Nat → Int32) (cb : Nat → Int32) (mt : Int32) (xt : Bool) (ft : Nat → Int32) (ct : Nat → Int32) (f0 : Nat → Int32) (g0 : Nat → Int32) (c0 : Nat → Int32) (m0 : Int32) (s0 : Int32) (f1 : Nat → Int32) (g1 : Nat → Int32) (c1 : Nat → Int32) (m1 : Int32) (s1 : Int32) (f2 : Nat → Int32) (g2 : Nat → Int32) (c2 : Nat → Int32) (m2 : Int32) (s2 : Int32) (f3 : Nat → Int32) (g3 : Nat → Int32) (c3 : Nat → Int32) (m3 : Int32) (s3 : Int32) (f4 : Nat → Int32) (g4 : Nat → Int32) (c4 : Nat → Int32) (m4 : Int32) (s4 : Int32) (f5 : Nat → Int32) (g5 : Nat → Int32) (c5 : Nat → Int32) (m5 : Int32) (s5 : Int32) (ek0 : Int32) (em0 : Int32) (es0 : Int32) (el0 : Int32) (b0 : Int32) (ef0 : Nat → Int32) (ek1 : Int32) (em1 : Int32) (es1 : Int32) (el1 : Int32) (b1 : Int32) (ef1 : Nat → Int32) (r p q : Int32) (h0 : z_m20 m0) (h1 : z_m20 m1) (h2 : z_m20 m2) (h3 : z_m20 m3) (h4 : z_m20 m4) (h5 : z_m20 m5) : z_CX G l mX8_replace 20 14 120 (z_cw rf kn ma xa fa ca mb xb fb cb mt xt ft ct f0 g0 c0 m0 s0 f1 g1 c1 m1 s1 f2 g2 c2 m2 s2 f3 g3 c3 m3 s3 f4 g4 c4 m4 s4 f5 g5 c5 m5 s5 ek0 em0 es0 el0 b0 ef0 ek1 em1 es1 el1 b1 ef1 []) [.ref 0, .int r, .int p, .int q] (fun v L => (∃ x : Int32, v = some (.int x)) ∧ z_Wk kn xa xb b0 b1 L) (fun E L => z_xIA E ∧ L = (z_cw rf kn ma xa fa ca mb xb fb cb mt xt ft ct f0 g0 c0 m0 s0 f1 g1 c1 m1 s1 f2 g2 c2 m2 s2 f3 g3 c3 m3 s3 f4 g4 c4 m4 s4 f5 g5 c5 m5 s5 ek0 em0 es0 el0 b0 ef0 ek1 em1 es1 el1 b1 ef1 [])) := by
  refine z_body hl (by decide) rfl (Nat.le_of_ble_eq_true rfl) ?_
  show z_J G l mX8_replace (z_SX 20 14 120 (z_cw rf kn ma xa fa ca mb xb fb cb mt xt ft ct f0 g0 c0 m0 s0 f1 g1 c1 m1 s1 f2 g2 c2 m2 s2 f3 g3 c3 m3 s3 f4 g4 c4 m4 s4 f5 g5 c5 m5 s5 ek0 em0 es0 el0 b0 ef0 ek1 em1 es1 el1 b1 ef1 []) (fun v L => (∃ x : Int32, v = some (.int x)) ∧ z_Wk kn xa xb b0 b1 L) (fun E L => z_xIA E ∧ L = (z_cw rf kn ma xa fa ca mb xb fb cb mt xt ft ct f0 g0 c0 m0 s0 f1 g1 c1 m1 s1 f2 g2 c2 m2 s2 f3 g3 c3 m3 s3 f4 g4 c4 m4 s4 f5 g5 c5 m5 s5 ek0 em0 es0 el0 b0 ef0 ek1 em1 es1 el1 b1 ef1 []))) 0 [(0, _), (1, _), (2, _), (3, _)] [] _ 0 0
  refine j_aload_n dX8_replace_0 rfl rfl ?_
  refine j_iload_n dX8_replace_1 rfl ?_
  refine j_iload_n dX8_replace_2 rfl ?_
  refine j_callV (q := (RX8, TX8, 9)) dX8_replace_3 kX8_tableFor_ lX8_126 inX8_tableFor_ seX8_tableFor_ rfl rfl (z_dirX (c_X8_tableFor_ hl _ _ _ _ _ _ _ _ _ _ _ _ _ _ _ _ _ _ _ _ _ _ _ _ _ _ _ _ _ _ _ _ _ _ _ _ _ _ _ _ _ _ _ _ _ _ _ _ _ _ _ _ _ _ _ _ _ _)) (Nat.le_of_ble_eq_true rfl) ⟨(Nat.le_of_ble_eq_true rfl), (Nat.le_of_ble_eq_true rfl)⟩ rfl (Nat.le_of_ble_eq_true rfl) rfl rfl (fun _ _ h => by obtain ⟨_, ⟨h1, rfl⟩, rfl⟩ := h; exact ⟨rfl, rfl, x_IA_IA h1, rfl⟩) ?_
  rintro _ _ ⟨_, ⟨_, rfl, hr, rfl⟩, rfl⟩
  have hq_3 := hr
  rcases hr with ⟨e_3, rfl⟩ | ⟨e_3, rfl⟩ | ⟨e_3, rfl⟩
  · refine j_astore (lo' := [(4, _), (0, _), (1, _), (2, _), (3, _)]) dX8_replace_6 rfl (by decide) rfl ?_
    refine j_iload_n dX8_replace_8 rfl ?_
    refine j_callS dX8_replace_9 kX8_checkValue lX8_50 stX8_checkValue (c_X8_checkValue hl _ _) (Nat.le_of_ble_eq_true rfl) ⟨(Nat.le_of_ble_eq_true rfl), (Nat.le_of_ble_eq_true rfl)⟩ rfl (Nat.le_of_ble_eq_true rfl) rfl rfl (fun _ _ h => by obtain ⟨h1, rfl⟩ := h; exact ⟨rfl, rfl, x_A_IA h1, rfl⟩) ?_
    rintro _ _ ⟨rfl, rfl⟩
    refine j_aload dX8_replace_12 rfl rfl ?_
    refine j_iload_n dX8_replace_14 rfl ?_
    refine j_callV (q := (RX4, TX4, 5)) dX8_replace_15 kX4_look lX8_137 inX4_look seX4_look rfl rfl (z_frame [10, 11, 12, 13, 14] rfl (by decide) (Nat.le_of_ble_eq_true rfl) (c_X4_look hl _ _ _ _ _ _)) (Nat.le_of_ble_eq_true rfl) ⟨(Nat.le_of_ble_eq_true rfl), (Nat.le_of_ble_eq_true rfl)⟩ rfl (Nat.le_of_ble_eq_true rfl) rfl rfl (fun _ _ h => h.elim) ?_
    rintro _ _ ⟨_, _, ⟨_, rfl, rfl⟩, rfl, rfl⟩
    refine j_w (z_cw _ _ _ _ _ _ _ _ _ _ _ _ _ _ _ _ _ _ _ _ _ _ _ _ _ _ _ _ _ _ _ _ _ _ _ _ _ _ _ _ _ _ _ _ _ _ _ _ _ _ _ _ _ _ _ _ [], z_no) rfl ?_
    refine j_sipush (v := (-1000)) dX8_replace_18 (by decide) ?_
    refine j_icmp_ne (tgt := 30) dX8_replace_21 (by decide) (fun c_21 => ?_) (fun c_21 => ?_)
    · refine j_aload dX8_replace_30 rfl rfl ?_
      refine j_iload_n dX8_replace_32 rfl ?_
      refine j_iload_n dX8_replace_33 rfl ?_
      refine j_callV (q := (RX4, TX4, 5)) dX8_replace_34 kX4_store lX8_130 inX4_store seX4_store rfl rfl (z_frame [10, 11, 12, 13, 14] rfl (by decide) (Nat.le_of_ble_eq_true rfl) (c_X4_store hl _ _ _ _ _ _ _ (by assumption))) (Nat.le_of_ble_eq_true rfl) ⟨(Nat.le_of_ble_eq_true rfl), (Nat.le_of_ble_eq_true rfl)⟩ rfl (Nat.le_of_ble_eq_true rfl) rfl rfl (fun _ _ h => h.elim) ?_
      rintro _ _ ⟨_, _, ⟨_, rfl, _, _, _, _, hm, rfl⟩, rfl, rfl⟩
      refine j_w (z_cw _ _ _ _ _ _ _ _ _ _ _ _ _ _ _ _ _ _ _ _ _ _ _ _ _ _ _ _ _ _ _ _ _ _ _ _ _ _ _ _ _ _ _ _ _ _ _ _ _ _ _ _ _ _ _ _ [], z_no) rfl ?_
      refine j_iret dX8_replace_37 rfl rfl ?_ (Nat.le_of_ble_eq_true rfl) (Nat.le_of_ble_eq_true rfl)
      exact ⟨rfl, rfl, ⟨_, rfl⟩, (z_wk (by first | assumption | exact z_m20z) (by first | assumption | exact z_m20z) (by first | assumption | exact z_m20z) (by first | assumption | exact z_m20z) (by first | assumption | exact z_m20z) (by first | assumption | exact z_m20z))⟩
    · refine j_sipush (v := (-1000)) dX8_replace_24 (by decide) ?_
      refine j_goto (tgt := 37) dX8_replace_27 (by decide) ?_
      refine j_iret dX8_replace_37 rfl rfl ?_ (Nat.le_of_ble_eq_true rfl) (Nat.le_of_ble_eq_true rfl)
      exact ⟨rfl, rfl, ⟨_, rfl⟩, (z_wk (by first | assumption | exact z_m20z) (by first | assumption | exact z_m20z) (by first | assumption | exact z_m20z) (by first | assumption | exact z_m20z) (by first | assumption | exact z_m20z) (by first | assumption | exact z_m20z))⟩
  · refine j_astore (lo' := [(4, _), (0, _), (1, _), (2, _), (3, _)]) dX8_replace_6 rfl (by decide) rfl ?_
    refine j_iload_n dX8_replace_8 rfl ?_
    refine j_callS dX8_replace_9 kX8_checkValue lX8_50 stX8_checkValue (c_X8_checkValue hl _ _) (Nat.le_of_ble_eq_true rfl) ⟨(Nat.le_of_ble_eq_true rfl), (Nat.le_of_ble_eq_true rfl)⟩ rfl (Nat.le_of_ble_eq_true rfl) rfl rfl (fun _ _ h => by obtain ⟨h1, rfl⟩ := h; exact ⟨rfl, rfl, x_A_IA h1, rfl⟩) ?_
    rintro _ _ ⟨rfl, rfl⟩
    refine j_aload dX8_replace_12 rfl rfl ?_
    refine j_iload_n dX8_replace_14 rfl ?_
    refine j_callV (q := (RX4, TX4, 5)) dX8_replace_15 kX4_look lX8_137 inX4_look seX4_look rfl rfl (z_frame [16, 17, 18, 19, 20] rfl (by decide) (Nat.le_of_ble_eq_true rfl) (c_X4_look hl _ _ _ _ _ _)) (Nat.le_of_ble_eq_true rfl) ⟨(Nat.le_of_ble_eq_true rfl), (Nat.le_of_ble_eq_true rfl)⟩ rfl (Nat.le_of_ble_eq_true rfl) rfl rfl (fun _ _ h => h.elim) ?_
    rintro _ _ ⟨_, _, ⟨_, rfl, rfl⟩, rfl, rfl⟩
    refine j_w (z_cw _ _ _ _ _ _ _ _ _ _ _ _ _ _ _ _ _ _ _ _ _ _ _ _ _ _ _ _ _ _ _ _ _ _ _ _ _ _ _ _ _ _ _ _ _ _ _ _ _ _ _ _ _ _ _ _ [], z_no) rfl ?_
    refine j_sipush (v := (-1000)) dX8_replace_18 (by decide) ?_
    refine j_icmp_ne (tgt := 30) dX8_replace_21 (by decide) (fun c_21 => ?_) (fun c_21 => ?_)
    · refine j_aload dX8_replace_30 rfl rfl ?_
      refine j_iload_n dX8_replace_32 rfl ?_
      refine j_iload_n dX8_replace_33 rfl ?_
      refine j_callV (q := (RX4, TX4, 5)) dX8_replace_34 kX4_store lX8_130 inX4_store seX4_store rfl rfl (z_frame [16, 17, 18, 19, 20] rfl (by decide) (Nat.le_of_ble_eq_true rfl) (c_X4_store hl _ _ _ _ _ _ _ (by assumption))) (Nat.le_of_ble_eq_true rfl) ⟨(Nat.le_of_ble_eq_true rfl), (Nat.le_of_ble_eq_true rfl)⟩ rfl (Nat.le_of_ble_eq_true rfl) rfl rfl (fun _ _ h => h.elim) ?_
      rintro _ _ ⟨_, _, ⟨_, rfl, _, _, _, _, hm, rfl⟩, rfl, rfl⟩
      refine j_w (z_cw _ _ _ _ _ _ _ _ _ _ _ _ _ _ _ _ _ _ _ _ _ _ _ _ _ _ _ _ _ _ _ _ _ _ _ _ _ _ _ _ _ _ _ _ _ _ _ _ _ _ _ _ _ _ _ _ [], z_no) rfl ?_
      refine j_iret dX8_replace_37 rfl rfl ?_ (Nat.le_of_ble_eq_true rfl) (Nat.le_of_ble_eq_true rfl)
      exact ⟨rfl, rfl, ⟨_, rfl⟩, (z_wk (by first | assumption | exact z_m20z) (by first | assumption | exact z_m20z) (by first | assumption | exact z_m20z) (by first | assumption | exact z_m20z) (by first | assumption | exact z_m20z) (by first | assumption | exact z_m20z))⟩
    · refine j_sipush (v := (-1000)) dX8_replace_24 (by decide) ?_
      refine j_goto (tgt := 37) dX8_replace_27 (by decide) ?_
      refine j_iret dX8_replace_37 rfl rfl ?_ (Nat.le_of_ble_eq_true rfl) (Nat.le_of_ble_eq_true rfl)
      exact ⟨rfl, rfl, ⟨_, rfl⟩, (z_wk (by first | assumption | exact z_m20z) (by first | assumption | exact z_m20z) (by first | assumption | exact z_m20z) (by first | assumption | exact z_m20z) (by first | assumption | exact z_m20z) (by first | assumption | exact z_m20z))⟩
  · refine j_astore (lo' := [(4, _), (0, _), (1, _), (2, _), (3, _)]) dX8_replace_6 rfl (by decide) rfl ?_
    refine j_iload_n dX8_replace_8 rfl ?_
    refine j_callS dX8_replace_9 kX8_checkValue lX8_50 stX8_checkValue (c_X8_checkValue hl _ _) (Nat.le_of_ble_eq_true rfl) ⟨(Nat.le_of_ble_eq_true rfl), (Nat.le_of_ble_eq_true rfl)⟩ rfl (Nat.le_of_ble_eq_true rfl) rfl rfl (fun _ _ h => by obtain ⟨h1, rfl⟩ := h; exact ⟨rfl, rfl, x_A_IA h1, rfl⟩) ?_
    rintro _ _ ⟨rfl, rfl⟩
    refine j_aload dX8_replace_12 rfl rfl ?_
    refine j_iload_n dX8_replace_14 rfl ?_
    refine j_callV (q := (RX4, TX4, 5)) dX8_replace_15 kX4_look lX8_137 inX4_look seX4_look rfl rfl (z_frame [21, 22, 23, 24, 25] rfl (by decide) (Nat.le_of_ble_eq_true rfl) (c_X4_look hl _ _ _ _ _ _)) (Nat.le_of_ble_eq_true rfl) ⟨(Nat.le_of_ble_eq_true rfl), (Nat.le_of_ble_eq_true rfl)⟩ rfl (Nat.le_of_ble_eq_true rfl) rfl rfl (fun _ _ h => h.elim) ?_
    rintro _ _ ⟨_, _, ⟨_, rfl, rfl⟩, rfl, rfl⟩
    refine j_w (z_cw _ _ _ _ _ _ _ _ _ _ _ _ _ _ _ _ _ _ _ _ _ _ _ _ _ _ _ _ _ _ _ _ _ _ _ _ _ _ _ _ _ _ _ _ _ _ _ _ _ _ _ _ _ _ _ _ [], z_no) rfl ?_
    refine j_sipush (v := (-1000)) dX8_replace_18 (by decide) ?_
    refine j_icmp_ne (tgt := 30) dX8_replace_21 (by decide) (fun c_21 => ?_) (fun c_21 => ?_)
    · refine j_aload dX8_replace_30 rfl rfl ?_
      refine j_iload_n dX8_replace_32 rfl ?_
      refine j_iload_n dX8_replace_33 rfl ?_
      refine j_callV (q := (RX4, TX4, 5)) dX8_replace_34 kX4_store lX8_130 inX4_store seX4_store rfl rfl (z_frame [21, 22, 23, 24, 25] rfl (by decide) (Nat.le_of_ble_eq_true rfl) (c_X4_store hl _ _ _ _ _ _ _ (by assumption))) (Nat.le_of_ble_eq_true rfl) ⟨(Nat.le_of_ble_eq_true rfl), (Nat.le_of_ble_eq_true rfl)⟩ rfl (Nat.le_of_ble_eq_true rfl) rfl rfl (fun _ _ h => h.elim) ?_
      rintro _ _ ⟨_, _, ⟨_, rfl, _, _, _, _, hm, rfl⟩, rfl, rfl⟩
      refine j_w (z_cw _ _ _ _ _ _ _ _ _ _ _ _ _ _ _ _ _ _ _ _ _ _ _ _ _ _ _ _ _ _ _ _ _ _ _ _ _ _ _ _ _ _ _ _ _ _ _ _ _ _ _ _ _ _ _ _ [], z_no) rfl ?_
      refine j_iret dX8_replace_37 rfl rfl ?_ (Nat.le_of_ble_eq_true rfl) (Nat.le_of_ble_eq_true rfl)
      exact ⟨rfl, rfl, ⟨_, rfl⟩, (z_wk (by first | assumption | exact z_m20z) (by first | assumption | exact z_m20z) (by first | assumption | exact z_m20z) (by first | assumption | exact z_m20z) (by first | assumption | exact z_m20z) (by first | assumption | exact z_m20z))⟩
    · refine j_sipush (v := (-1000)) dX8_replace_24 (by decide) ?_
      refine j_goto (tgt := 37) dX8_replace_27 (by decide) ?_
      refine j_iret dX8_replace_37 rfl rfl ?_ (Nat.le_of_ble_eq_true rfl) (Nat.le_of_ble_eq_true rfl)
      exact ⟨rfl, rfl, ⟨_, rfl⟩, (z_wk (by first | assumption | exact z_m20z) (by first | assumption | exact z_m20z) (by first | assumption | exact z_m20z) (by first | assumption | exact z_m20z) (by first | assumption | exact z_m20z) (by first | assumption | exact z_m20z))⟩
set_option maxRecDepth 100000 in
set_option maxHeartbeats 8000000 in
theorem c_X8_remove (hl : l.stackTraces = false) (rf : Int32) (kn : Int32) (ma : Int32) (xa : Bool) (fa : Nat → Int32) (ca : Nat → Int32) (mb : Int32) (xb : Bool) (fb : Nat → Int32) (cb : Nat → Int32) (mt : Int32) (xt : Bool) (ft : Nat → Int32) (ct : Nat → Int32) (f0 : Nat → Int32) (g0 : Nat → Int32) (c0 : Nat → Int32) (m0 : Int32) (s0 : Int32) (f1 : Nat → Int32) (g1 : Nat → Int32) (c1 : Nat → Int32) (m1 : Int32) (s1 : Int32) (f2 : Nat → Int32) (g2 : Nat → Int32) (c2 : Nat → Int32) (m2 : Int32) (s2 : Int32) (f3 : Nat → Int32) (g3 : Nat → Int32) (c3 : Nat → Int32) (m3 : Int32) (s3 : Int32) (f4 : Nat → Int32) (g4 : Nat → Int32) (c4 : Nat → Int32) (m4 : Int32) (s4 : Int32) (f5 : Nat → Int32) (g5 : Nat → Int32) (c5 : Nat → Int32) (m5 : Int32) (s5 : Int32) (ek0 : Int32) (em0 : Int32) (es0 : Int32) (el0 : Int32) (b0 : Int32) (ef0 : Nat → Int32) (ek1 : Int32) (em1 : Int32) (es1 : Int32) (el1 : Int32) (b1 : Int32) (ef1 : Nat → Int32) (r p : Int32) (h0 : z_m20 m0) (h1 : z_m20 m1) (h2 : z_m20 m2) (h3 : z_m20 m3) (h4 : z_m20 m4) (h5 : z_m20 m5) : z_CX G l mX8_remove 20 14 120 (z_cw rf kn ma xa fa ca mb xb fb cb mt xt ft ct f0 g0 c0 m0 s0 f1 g1 c1 m1 s1 f2 g2 c2 m2 s2 f3 g3 c3 m3 s3 f4 g4 c4 m4 s4 f5 g5 c5 m5 s5 ek0 em0 es0 el0 b0 ef0 ek1 em1 es1 el1 b1 ef1 []) [.ref 0, .int r, .int p] (fun v L => (∃ x : Int32, v = some (.int x)) ∧ z_Wk kn xa xb b0 b1 L) (fun E L => z_xIA E ∧ L = (z_cw rf kn ma xa fa ca mb xb fb cb mt xt ft ct f0 g0 c0 m0 s0 f1 g1 c1 m1 s1 f2 g2 c2 m2 s2 f3 g3 c3 m3 s3 f4 g4 c4 m4 s4 f5 g5 c5 m5 s5 ek0 em0 es0 el0 b0 ef0 ek1 em1 es1 el1 b1 ef1 [])) := by
  refine z_body hl (by decide) rfl (Nat.le_of_ble_eq_true rfl) ?_
  show z_J G l mX8_remove (z_SX 20 14 120 (z_cw rf kn ma xa fa ca mb xb fb cb mt xt ft ct f0 g0 c0 m0 s0 f1 g1 c1 m1 s1 f2 g2 c2 m2 s2 f3 g3 c3 m3 s3 f4 g4 c4 m4 s4 f5 g5 c5 m5 s5 ek0 em0 es0 el0 b0 ef0 ek1 em1 es1 el1 b1 ef1 []) (fun v L => (∃ x : Int32, v = some (.int x)) ∧ z_Wk kn xa xb b0 b1 L) (fun E L => z_xIA E ∧ L = (z_cw rf kn ma xa fa ca mb xb fb cb mt xt ft ct f0 g0 c0 m0 s0 f1 g1 c1 m1 s1 f2 g2 c2 m2 s2 f3 g3 c3 m3 s3 f4 g4 c4 m4 s4 f5 g5 c5 m5 s5 ek0 em0 es0 el0 b0 ef0 ek1 em1 es1 el1 b1 ef1 []))) 0 [(0, _), (1, _), (2, _)] [] _ 0 0
  refine j_aload_n dX8_remove_0 rfl rfl ?_
  refine j_iload_n dX8_remove_1 rfl ?_
  refine j_iload_n dX8_remove_2 rfl ?_
  refine j_callV (q := (RX8, TX8, 9)) dX8_remove_3 kX8_tableFor_ lX8_126 inX8_tableFor_ seX8_tableFor_ rfl rfl (z_dirX (c_X8_tableFor_ hl _ _ _ _ _ _ _ _ _ _ _ _ _ _ _ _ _ _ _ _ _ _ _ _ _ _ _ _ _ _ _ _ _ _ _ _ _ _ _ _ _ _ _ _ _ _ _ _ _ _ _ _ _ _ _ _ _ _)) (Nat.le_of_ble_eq_true rfl) ⟨(Nat.le_of_ble_eq_true rfl), (Nat.le_of_ble_eq_true rfl)⟩ rfl (Nat.le_of_ble_eq_true rfl) rfl rfl (fun _ _ h => by obtain ⟨_, ⟨h1, rfl⟩, rfl⟩ := h; exact ⟨rfl, rfl, x_IA_IA h1, rfl⟩) ?_
  rintro _ _ ⟨_, ⟨_, rfl, hr, rfl⟩, rfl⟩
  have hq_3 := hr
  rcases hr with ⟨e_3, rfl⟩ | ⟨e_3, rfl⟩ | ⟨e_3, rfl⟩
  · refine j_iload_n dX8_remove_6 rfl ?_
    refine j_callV (q := (RX4, TX4, 5)) dX8_remove_7 kX4_sendAway lX8_134 inX4_sendAway seX4_sendAway rfl rfl (z_frame [10, 11, 12, 13, 14] rfl (by decide) (Nat.le_of_ble_eq_true rfl) (c_X4_sendAway hl _ _ _ _ _ _ (by assumption))) (Nat.le_of_ble_eq_true rfl) ⟨(Nat.le_of_ble_eq_true rfl), (Nat.le_of_ble_eq_true rfl)⟩ rfl (Nat.le_of_ble_eq_true rfl) rfl rfl (fun _ _ h => h.elim) ?_
    rintro _ _ ⟨_, _, ⟨_, rfl, _, _, _, _, hm, rfl⟩, rfl, rfl⟩
    refine j_w (z_cw _ _ _ _ _ _ _ _ _ _ _ _ _ _ _ _ _ _ _ _ _ _ _ _ _ _ _ _ _ _ _ _ _ _ _ _ _ _ _ _ _ _ _ _ _ _ _ _ _ _ _ _ _ _ _ _ [], z_no) rfl ?_
    refine j_iret dX8_remove_10 rfl rfl ?_ (Nat.le_of_ble_eq_true rfl) (Nat.le_of_ble_eq_true rfl)
    exact ⟨rfl, rfl, ⟨_, rfl⟩, (z_wk (by first | assumption | exact z_m20z) (by first | assumption | exact z_m20z) (by first | assumption | exact z_m20z) (by first | assumption | exact z_m20z) (by first | assumption | exact z_m20z) (by first | assumption | exact z_m20z))⟩
  · refine j_iload_n dX8_remove_6 rfl ?_
    refine j_callV (q := (RX4, TX4, 5)) dX8_remove_7 kX4_sendAway lX8_134 inX4_sendAway seX4_sendAway rfl rfl (z_frame [16, 17, 18, 19, 20] rfl (by decide) (Nat.le_of_ble_eq_true rfl) (c_X4_sendAway hl _ _ _ _ _ _ (by assumption))) (Nat.le_of_ble_eq_true rfl) ⟨(Nat.le_of_ble_eq_true rfl), (Nat.le_of_ble_eq_true rfl)⟩ rfl (Nat.le_of_ble_eq_true rfl) rfl rfl (fun _ _ h => h.elim) ?_
    rintro _ _ ⟨_, _, ⟨_, rfl, _, _, _, _, hm, rfl⟩, rfl, rfl⟩
    refine j_w (z_cw _ _ _ _ _ _ _ _ _ _ _ _ _ _ _ _ _ _ _ _ _ _ _ _ _ _ _ _ _ _ _ _ _ _ _ _ _ _ _ _ _ _ _ _ _ _ _ _ _ _ _ _ _ _ _ _ [], z_no) rfl ?_
    refine j_iret dX8_remove_10 rfl rfl ?_ (Nat.le_of_ble_eq_true rfl) (Nat.le_of_ble_eq_true rfl)
    exact ⟨rfl, rfl, ⟨_, rfl⟩, (z_wk (by first | assumption | exact z_m20z) (by first | assumption | exact z_m20z) (by first | assumption | exact z_m20z) (by first | assumption | exact z_m20z) (by first | assumption | exact z_m20z) (by first | assumption | exact z_m20z))⟩
  · refine j_iload_n dX8_remove_6 rfl ?_
    refine j_callV (q := (RX4, TX4, 5)) dX8_remove_7 kX4_sendAway lX8_134 inX4_sendAway seX4_sendAway rfl rfl (z_frame [21, 22, 23, 24, 25] rfl (by decide) (Nat.le_of_ble_eq_true rfl) (c_X4_sendAway hl _ _ _ _ _ _ (by assumption))) (Nat.le_of_ble_eq_true rfl) ⟨(Nat.le_of_ble_eq_true rfl), (Nat.le_of_ble_eq_true rfl)⟩ rfl (Nat.le_of_ble_eq_true rfl) rfl rfl (fun _ _ h => h.elim) ?_
    rintro _ _ ⟨_, _, ⟨_, rfl, _, _, _, _, hm, rfl⟩, rfl, rfl⟩
    refine j_w (z_cw _ _ _ _ _ _ _ _ _ _ _ _ _ _ _ _ _ _ _ _ _ _ _ _ _ _ _ _ _ _ _ _ _ _ _ _ _ _ _ _ _ _ _ _ _ _ _ _ _ _ _ _ _ _ _ _ [], z_no) rfl ?_
    refine j_iret dX8_remove_10 rfl rfl ?_ (Nat.le_of_ble_eq_true rfl) (Nat.le_of_ble_eq_true rfl)
    exact ⟨rfl, rfl, ⟨_, rfl⟩, (z_wk (by first | assumption | exact z_m20z) (by first | assumption | exact z_m20z) (by first | assumption | exact z_m20z) (by first | assumption | exact z_m20z) (by first | assumption | exact z_m20z) (by first | assumption | exact z_m20z))⟩
set_option maxRecDepth 100000 in
set_option maxHeartbeats 8000000 in
theorem c_X8_replaceIf (hl : l.stackTraces = false) (rf : Int32) (kn : Int32) (ma : Int32) (xa : Bool) (fa : Nat → Int32) (ca : Nat → Int32) (mb : Int32) (xb : Bool) (fb : Nat → Int32) (cb : Nat → Int32) (mt : Int32) (xt : Bool) (ft : Nat → Int32) (ct : Nat → Int32) (f0 : Nat → Int32) (g0 : Nat → Int32) (c0 : Nat → Int32) (m0 : Int32) (s0 : Int32) (f1 : Nat → Int32) (g1 : Nat → Int32) (c1 : Nat → Int32) (m1 : Int32) (s1 : Int32) (f2 : Nat → Int32) (g2 : Nat → Int32) (c2 : Nat → Int32) (m2 : Int32) (s2 : Int32) (f3 : Nat → Int32) (g3 : Nat → Int32) (c3 : Nat → Int32) (m3 : Int32) (s3 : Int32) (f4 : Nat → Int32) (g4 : Nat → Int32) (c4 : Nat → Int32) (m4 : Int32) (s4 : Int32) (f5 : Nat → Int32) (g5 : Nat → Int32) (c5 : Nat → Int32) (m5 : Int32) (s5 : Int32) (ek0 : Int32) (em0 : Int32) (es0 : Int32) (el0 : Int32) (b0 : Int32) (ef0 : Nat → Int32) (ek1 : Int32) (em1 : Int32) (es1 : Int32) (el1 : Int32) (b1 : Int32) (ef1 : Nat → Int32) (r p q t : Int32) (h0 : z_m20 m0) (h1 : z_m20 m1) (h2 : z_m20 m2) (h3 : z_m20 m3) (h4 : z_m20 m4) (h5 : z_m20 m5) : z_CX G l mX8_replaceIf 20 14 120 (z_cw rf kn ma xa fa ca mb xb fb cb mt xt ft ct f0 g0 c0 m0 s0 f1 g1 c1 m1 s1 f2 g2 c2 m2 s2 f3 g3 c3 m3 s3 f4 g4 c4 m4 s4 f5 g5 c5 m5 s5 ek0 em0 es0 el0 b0 ef0 ek1 em1 es1 el1 b1 ef1 []) [.ref 0, .int r, .int p, .int q, .int t] (fun v L => (∃ b9 : Bool, v = some (.int (z_bi b9))) ∧ z_Wk kn xa xb b0 b1 L) (fun E L => z_xIA E ∧ L = (z_cw rf kn ma xa fa ca mb xb fb cb mt xt ft ct f0 g0 c0 m0 s0 f1 g1 c1 m1 s1 f2 g2 c2 m2 s2 f3 g3 c3 m3 s3 f4 g4 c4 m4 s4 f5 g5 c5 m5 s5 ek0 em0 es0 el0 b0 ef0 ek1 em1 es1 el1 b1 ef1 [])) := by
  refine z_body hl (by decide) rfl (Nat.le_of_ble_eq_true rfl) ?_
  show z_J G l mX8_replaceIf (z_SX 20 14 120 (z_cw rf kn ma xa fa ca mb xb fb cb mt xt ft ct f0 g0 c0 m0 s0 f1 g1 c1 m1 s1 f2 g2 c2 m2 s2 f3 g3 c3 m3 s3 f4 g4 c4 m4 s4 f5 g5 c5 m5 s5 ek0 em0 es0 el0 b0 ef0 ek1 em1 es1 el1 b1 ef1 []) (fun v L => (∃ b9 : Bool, v = some (.int (z_bi b9))) ∧ z_Wk kn xa xb b0 b1 L) (fun E L => z_xIA E ∧ L = (z_cw rf kn ma xa fa ca mb xb fb cb mt xt ft ct f0 g0 c0 m0 s0 f1 g1 c1 m1 s1 f2 g2 c2 m2 s2 f3 g3 c3 m3 s3 f4 g4 c4 m4 s4 f5 g5 c5 m5 s5 ek0 em0 es0 el0 b0 ef0 ek1 em1 es1 el1 b1 ef1 []))) 0 [(0, _), (1, _), (2, _), (3, _), (4, _)] [] _ 0 0
  refine j_aload_n dX8_replaceIf_0 rfl rfl ?_
  refine j_iload_n dX8_replaceIf_1 rfl ?_
  refine j_iload_n dX8_replaceIf_2 rfl ?_
  refine j_callV (q := (RX8, TX8, 9)) dX8_replaceIf_3 kX8_tableFor_ lX8_126 inX8_tableFor_ seX8_tableFor_ rfl rfl (z_dirX (c_X8_tableFor_ hl _ _ _ _ _ _ _ _ _ _ _ _ _ _ _ _ _ _ _ _ _ _ _ _ _ _ _ _ _ _ _ _ _ _ _ _ _ _ _ _ _ _ _ _ _ _ _ _ _ _ _ _ _ _ _ _ _ _)) (Nat.le_of_ble_eq_true rfl) ⟨(Nat.le_of_ble_eq_true rfl), (Nat.le_of_ble_eq_true rfl)⟩ rfl (Nat.le_of_ble_eq_true rfl) rfl rfl (fun _ _ h => by obtain ⟨_, ⟨h1, rfl⟩, rfl⟩ := h; exact ⟨rfl, rfl, x_IA_IA h1, rfl⟩) ?_
  rintro _ _ ⟨_, ⟨_, rfl, hr, rfl⟩, rfl⟩
  have hq_3 := hr
  rcases hr with ⟨e_3, rfl⟩ | ⟨e_3, rfl⟩ | ⟨e_3, rfl⟩
  · refine j_astore (lo' := [(5, _), (0, _), (1, _), (2, _), (3, _), (4, _)]) dX8_replaceIf_6 rfl (by decide) rfl ?_
    refine j_iload_n dX8_replaceIf_8 rfl ?_
    refine j_callS dX8_replaceIf_9 kX8_checkValue lX8_50 stX8_checkValue (c_X8_checkValue hl _ _) (Nat.le_of_ble_eq_true rfl) ⟨(Nat.le_of_ble_eq_true rfl), (Nat.le_of_ble_eq_true rfl)⟩ rfl (Nat.le_of_ble_eq_true rfl) rfl rfl (fun _ _ h => by obtain ⟨h1, rfl⟩ := h; exact ⟨rfl, rfl, x_A_IA h1, rfl⟩) ?_
    rintro _ _ ⟨rfl, rfl⟩
    refine j_iload dX8_replaceIf_12 rfl ?_
    refine j_callS dX8_replaceIf_14 kX8_checkValue lX8_50 stX8_checkValue (c_X8_checkValue hl _ _) (Nat.le_of_ble_eq_true rfl) ⟨(Nat.le_of_ble_eq_true rfl), (Nat.le_of_ble_eq_true rfl)⟩ rfl (Nat.le_of_ble_eq_true rfl) rfl rfl (fun _ _ h => by obtain ⟨h1, rfl⟩ := h; exact ⟨rfl, rfl, x_A_IA h1, rfl⟩) ?_
    rintro _ _ ⟨rfl, rfl⟩
    refine j_aload dX8_replaceIf_17 rfl rfl ?_
    refine j_iload_n dX8_replaceIf_19 rfl ?_
    refine j_callV (q := (RX4, TX4, 5)) dX8_replaceIf_20 kX4_look lX8_137 inX4_look seX4_look rfl rfl (z_frame [10, 11, 12, 13, 14] rfl (by decide) (Nat.le_of_ble_eq_true rfl) (c_X4_look hl _ _ _ _ _ _)) (Nat.le_of_ble_eq_true rfl) ⟨(Nat.le_of_ble_eq_true rfl), (Nat.le_of_ble_eq_true rfl)⟩ rfl (Nat.le_of_ble_eq_true rfl) rfl rfl (fun _ _ h => h.elim) ?_
    rintro _ _ ⟨_, _, ⟨_, rfl, rfl⟩, rfl, rfl⟩
    refine j_w (z_cw _ _ _ _ _ _ _ _ _ _ _ _ _ _ _ _ _ _ _ _ _ _ _ _ _ _ _ _ _ _ _ _ _ _ _ _ _ _ _ _ _ _ _ _ _ _ _ _ _ _ _ _ _ _ _ _ [], z_no) rfl ?_
    refine j_iload_n dX8_replaceIf_23 rfl ?_
    refine j_icmp_eq (tgt := 29) dX8_replaceIf_24 (by decide) (fun c_24 => ?_) (fun c_24 => ?_)
    · refine j_aload dX8_replaceIf_29 rfl rfl ?_
      refine j_iload_n dX8_replaceIf_31 rfl ?_
      refine j_iload dX8_replaceIf_32 rfl ?_
      refine j_callV (q := (RX4, TX4, 5)) dX8_replaceIf_34 kX4_store lX8_130 inX4_store seX4_store rfl rfl (z_frame [10, 11, 12, 13, 14] rfl (by decide) (Nat.le_of_ble_eq_true rfl) (c_X4_store hl _ _ _ _ _ _ _ (by assumption))) (Nat.le_of_ble_eq_true rfl) ⟨(Nat.le_of_ble_eq_true rfl), (Nat.le_of_ble_eq_true rfl)⟩ rfl (Nat.le_of_ble_eq_true rfl) rfl rfl (fun _ _ h => h.elim) ?_
      rintro _ _ ⟨_, _, ⟨_, rfl, _, _, _, _, hm, rfl⟩, rfl, rfl⟩
      refine j_w (z_cw _ _ _ _ _ _ _ _ _ _ _ _ _ _ _ _ _ _ _ _ _ _ _ _ _ _ _ _ _ _ _ _ _ _ _ _ _ _ _ _ _ _ _ _ _ _ _ _ _ _ _ _ _ _ _ _ [], z_no) rfl ?_
      refine j_pop dX8_replaceIf_37 rfl ?_
      refine j_iconst (v := 1) dX8_replaceIf_38 (by decide) ?_
      refine j_iret dX8_replaceIf_39 rfl rfl ?_ (Nat.le_of_ble_eq_true rfl) (Nat.le_of_ble_eq_true rfl)
      first | exact ⟨rfl, rfl, ⟨true, rfl⟩, (z_wk (by first | assumption | exact z_m20z) (by first | assumption | exact z_m20z) (by first | assumption | exact z_m20z) (by first | assumption | exact z_m20z) (by first | assumption | exact z_m20z) (by first | assumption | exact z_m20z))⟩ | exact ⟨rfl, rfl, ⟨false, rfl⟩, (z_wk (by first | assumption | exact z_m20z) (by first | assumption | exact z_m20z) (by first | assumption | exact z_m20z) (by first | assumption | exact z_m20z) (by first | assumption | exact z_m20z) (by first | assumption | exact z_m20z))⟩
    · refine j_iconst (v := 0) dX8_replaceIf_27 (by decide) ?_
      refine j_iret dX8_replaceIf_28 rfl rfl ?_ (Nat.le_of_ble_eq_true rfl) (Nat.le_of_ble_eq_true rfl)
      first | exact ⟨rfl, rfl, ⟨true, rfl⟩, (z_wk (by first | assumption | exact z_m20z) (by first | assumption | exact z_m20z) (by first | assumption | exact z_m20z) (by first | assumption | exact z_m20z) (by first | assumption | exact z_m20z) (by first | assumption | exact z_m20z))⟩ | exact ⟨rfl, rfl, ⟨false, rfl⟩, (z_wk (by first | assumption | exact z_m20z) (by first | assumption | exact z_m20z) (by first | assumption | exact z_m20z) (by first | assumption | exact z_m20z) (by first | assumption | exact z_m20z) (by first | assumption | exact z_m20z))⟩
  · refine j_astore (lo' := [(5, _), (0, _), (1, _), (2, _), (3, _), (4, _)]) dX8_replaceIf_6 rfl (by decide) rfl ?_
    refine j_iload_n dX8_replaceIf_8 rfl ?_
    refine j_callS dX8_replaceIf_9 kX8_checkValue lX8_50 stX8_checkValue (c_X8_checkValue hl _ _) (Nat.le_of_ble_eq_true rfl) ⟨(Nat.le_of_ble_eq_true rfl), (Nat.le_of_ble_eq_true rfl)⟩ rfl (Nat.le_of_ble_eq_true rfl) rfl rfl (fun _ _ h => by obtain ⟨h1, rfl⟩ := h; exact ⟨rfl, rfl, x_A_IA h1, rfl⟩) ?_
    rintro _ _ ⟨rfl, rfl⟩
    refine j_iload dX8_replaceIf_12 rfl ?_
    refine j_callS dX8_replaceIf_14 kX8_checkValue lX8_50 stX8_checkValue (c_X8_checkValue hl _ _) (Nat.le_of_ble_eq_true rfl) ⟨(Nat.le_of_ble_eq_true rfl), (Nat.le_of_ble_eq_true rfl)⟩ rfl (Nat.le_of_ble_eq_true rfl) rfl rfl (fun _ _ h => by obtain ⟨h1, rfl⟩ := h; exact ⟨rfl, rfl, x_A_IA h1, rfl⟩) ?_
    rintro _ _ ⟨rfl, rfl⟩
    refine j_aload dX8_replaceIf_17 rfl rfl ?_
    refine j_iload_n dX8_replaceIf_19 rfl ?_
    refine j_callV (q := (RX4, TX4, 5)) dX8_replaceIf_20 kX4_look lX8_137 inX4_look seX4_look rfl rfl (z_frame [16, 17, 18, 19, 20] rfl (by decide) (Nat.le_of_ble_eq_true rfl) (c_X4_look hl _ _ _ _ _ _)) (Nat.le_of_ble_eq_true rfl) ⟨(Nat.le_of_ble_eq_true rfl), (Nat.le_of_ble_eq_true rfl)⟩ rfl (Nat.le_of_ble_eq_true rfl) rfl rfl (fun _ _ h => h.elim) ?_
    rintro _ _ ⟨_, _, ⟨_, rfl, rfl⟩, rfl, rfl⟩
    refine j_w (z_cw _ _ _ _ _ _ _ _ _ _ _ _ _ _ _ _ _ _ _ _ _ _ _ _ _ _ _ _ _ _ _ _ _ _ _ _ _ _ _ _ _ _ _ _ _ _ _ _ _ _ _ _ _ _ _ _ [], z_no) rfl ?_
    refine j_iload_n dX8_replaceIf_23 rfl ?_
    refine j_icmp_eq (tgt := 29) dX8_replaceIf_24 (by decide) (fun c_24 => ?_) (fun c_24 => ?_)
    · refine j_aload dX8_replaceIf_29 rfl rfl ?_
      refine j_iload_n dX8_replaceIf_31 rfl ?_
      refine j_iload dX8_replaceIf_32 rfl ?_
      refine j_callV (q := (RX4, TX4, 5)) dX8_replaceIf_34 kX4_store lX8_130 inX4_store seX4_store rfl rfl (z_frame [16, 17, 18, 19, 20] rfl (by decide) (Nat.le_of_ble_eq_true rfl) (c_X4_store hl _ _ _ _ _ _ _ (by assumption))) (Nat.le_of_ble_eq_true rfl) ⟨(Nat.le_of_ble_eq_true rfl), (Nat.le_of_ble_eq_true rfl)⟩ rfl (Nat.le_of_ble_eq_true rfl) rfl rfl (fun _ _ h => h.elim) ?_
      rintro _ _ ⟨_, _, ⟨_, rfl, _, _, _, _, hm, rfl⟩, rfl, rfl⟩
      refine j_w (z_cw _ _ _ _ _ _ _ _ _ _ _ _ _ _ _ _ _ _ _ _ _ _ _ _ _ _ _ _ _ _ _ _ _ _ _ _ _ _ _ _ _ _ _ _ _ _ _ _ _ _ _ _ _ _ _ _ [], z_no) rfl ?_
      refine j_pop dX8_replaceIf_37 rfl ?_
      refine j_iconst (v := 1) dX8_replaceIf_38 (by decide) ?_
      refine j_iret dX8_replaceIf_39 rfl rfl ?_ (Nat.le_of_ble_eq_true rfl) (Nat.le_of_ble_eq_true rfl)
      first | exact ⟨rfl, rfl, ⟨true, rfl⟩, (z_wk (by first | assumption | exact z_m20z) (by first | assumption | exact z_m20z) (by first | assumption | exact z_m20z) (by first | assumption | exact z_m20z) (by first | assumption | exact z_m20z) (by first | assumption | exact z_m20z))⟩ | exact ⟨rfl, rfl, ⟨false, rfl⟩, (z_wk (by first | assumption | exact z_m20z) (by first | assumption | exact z_m20z) (by first | assumption | exact z_m20z) (by first | assumption | exact z_m20z) (by first | assumption | exact z_m20z) (by first | assumption | exact z_m20z))⟩
    · refine j_iconst (v := 0) dX8_replaceIf_27 (by decide) ?_
      refine j_iret dX8_replaceIf_28 rfl rfl ?_ (Nat.le_of_ble_eq_true rfl) (Nat.le_of_ble_eq_true rfl)
      first | exact ⟨rfl, rfl, ⟨true, rfl⟩, (z_wk (by first | assumption | exact z_m20z) (by first | assumption | exact z_m20z) (by first | assumption | exact z_m20z) (by first | assumption | exact z_m20z) (by first | assumption | exact z_m20z) (by first | assumption | exact z_m20z))⟩ | exact ⟨rfl, rfl, ⟨false, rfl⟩, (z_wk (by first | assumption | exact z_m20z) (by first | assumption | exact z_m20z) (by first | assumption | exact z_m20z) (by first | assumption | exact z_m20z) (by first | assumption | exact z_m20z) (by first | assumption | exact z_m20z))⟩
  · refine j_astore (lo' := [(5, _), (0, _), (1, _), (2, _), (3, _), (4, _)]) dX8_replaceIf_6 rfl (by decide) rfl ?_
    refine j_iload_n dX8_replaceIf_8 rfl ?_
    refine j_callS dX8_replaceIf_9 kX8_checkValue lX8_50 stX8_checkValue (c_X8_checkValue hl _ _) (Nat.le_of_ble_eq_true rfl) ⟨(Nat.le_of_ble_eq_true rfl), (Nat.le_of_ble_eq_true rfl)⟩ rfl (Nat.le_of_ble_eq_true rfl) rfl rfl (fun _ _ h => by obtain ⟨h1, rfl⟩ := h; exact ⟨rfl, rfl, x_A_IA h1, rfl⟩) ?_
    rintro _ _ ⟨rfl, rfl⟩
    refine j_iload dX8_replaceIf_12 rfl ?_
    refine j_callS dX8_replaceIf_14 kX8_checkValue lX8_50 stX8_checkValue (c_X8_checkValue hl _ _) (Nat.le_of_ble_eq_true rfl) ⟨(Nat.le_of_ble_eq_true rfl), (Nat.le_of_ble_eq_true rfl)⟩ rfl (Nat.le_of_ble_eq_true rfl) rfl rfl (fun _ _ h => by obtain ⟨h1, rfl⟩ := h; exact ⟨rfl, rfl, x_A_IA h1, rfl⟩) ?_
    rintro _ _ ⟨rfl, rfl⟩
    refine j_aload dX8_replaceIf_17 rfl rfl ?_
    refine j_iload_n dX8_replaceIf_19 rfl ?_
    refine j_callV (q := (RX4, TX4, 5)) dX8_replaceIf_20 kX4_look lX8_137 inX4_look seX4_look rfl rfl (z_frame [21, 22, 23, 24, 25] rfl (by decide) (Nat.le_of_ble_eq_true rfl) (c_X4_look hl _ _ _ _ _ _)) (Nat.le_of_ble_eq_true rfl) ⟨(Nat.le_of_ble_eq_true rfl), (Nat.le_of_ble_eq_true rfl)⟩ rfl (Nat.le_of_ble_eq_true rfl) rfl rfl (fun _ _ h => h.elim) ?_
    rintro _ _ ⟨_, _, ⟨_, rfl, rfl⟩, rfl, rfl⟩
    refine j_w (z_cw _ _ _ _ _ _ _ _ _ _ _ _ _ _ _ _ _ _ _ _ _ _ _ _ _ _ _ _ _ _ _ _ _ _ _ _ _ _ _ _ _ _ _ _ _ _ _ _ _ _ _ _ _ _ _ _ [], z_no) rfl ?_
    refine j_iload_n dX8_replaceIf_23 rfl ?_
    refine j_icmp_eq (tgt := 29) dX8_replaceIf_24 (by decide) (fun c_24 => ?_) (fun c_24 => ?_)
    · refine j_aload dX8_replaceIf_29 rfl rfl ?_
      refine j_iload_n dX8_replaceIf_31 rfl ?_
      refine j_iload dX8_replaceIf_32 rfl ?_
      refine j_callV (q := (RX4, TX4, 5)) dX8_replaceIf_34 kX4_store lX8_130 inX4_store seX4_store rfl rfl (z_frame [21, 22, 23, 24, 25] rfl (by decide) (Nat.le_of_ble_eq_true rfl) (c_X4_store hl _ _ _ _ _ _ _ (by assumption))) (Nat.le_of_ble_eq_true rfl) ⟨(Nat.le_of_ble_eq_true rfl), (Nat.le_of_ble_eq_true rfl)⟩ rfl (Nat.le_of_ble_eq_true rfl) rfl rfl (fun _ _ h => h.elim) ?_
      rintro _ _ ⟨_, _, ⟨_, rfl, _, _, _, _, hm, rfl⟩, rfl, rfl⟩
      refine j_w (z_cw _ _ _ _ _ _ _ _ _ _ _ _ _ _ _ _ _ _ _ _ _ _ _ _ _ _ _ _ _ _ _ _ _ _ _ _ _ _ _ _ _ _ _ _ _ _ _ _ _ _ _ _ _ _ _ _ [], z_no) rfl ?_
      refine j_pop dX8_replaceIf_37 rfl ?_
      refine j_iconst (v := 1) dX8_replaceIf_38 (by decide) ?_
      refine j_iret dX8_replaceIf_39 rfl rfl ?_ (Nat.le_of_ble_eq_true rfl) (Nat.le_of_ble_eq_true rfl)
      first | exact ⟨rfl, rfl, ⟨true, rfl⟩, (z_wk (by first | assumption | exact z_m20z) (by first | assumption | exact z_m20z) (by first | assumption | exact z_m20z) (by first | assumption | exact z_m20z) (by first | assumption | exact z_m20z) (by first | assumption | exact z_m20z))⟩ | exact ⟨rfl, rfl, ⟨false, rfl⟩, (z_wk (by first | assumption | exact z_m20z) (by first | assumption | exact z_m20z) (by first | assumption | exact z_m20z) (by first | assumption | exact z_m20z) (by first | assumption | exact z_m20z) (by first | assumption | exact z_m20z))⟩
    · refine j_iconst (v := 0) dX8_replaceIf_27 (by decide) ?_
      refine j_iret dX8_replaceIf_28 rfl rfl ?_ (Nat.le_of_ble_eq_true rfl) (Nat.le_of_ble_eq_true rfl)
      first | exact ⟨rfl, rfl, ⟨true, rfl⟩, (z_wk (by first | assumption | exact z_m20z) (by first | assumption | exact z_m20z) (by first | assumption | exact z_m20z) (by first | assumption | exact z_m20z) (by first | assumption | exact z_m20z) (by first | assumption | exact z_m20z))⟩ | exact ⟨rfl, rfl, ⟨false, rfl⟩, (z_wk (by first | assumption | exact z_m20z) (by first | assumption | exact z_m20z) (by first | assumption | exact z_m20z) (by first | assumption | exact z_m20z) (by first | assumption | exact z_m20z) (by first | assumption | exact z_m20z))⟩
set_option maxRecDepth 100000 in
set_option maxHeartbeats 8000000 in
theorem c_X8_removePair (hl : l.stackTraces = false) (rf : Int32) (kn : Int32) (ma : Int32) (xa : Bool) (fa : Nat → Int32) (ca : Nat → Int32) (mb : Int32) (xb : Bool) (fb : Nat → Int32) (cb : Nat → Int32) (mt : Int32) (xt : Bool) (ft : Nat → Int32) (ct : Nat → Int32) (f0 : Nat → Int32) (g0 : Nat → Int32) (c0 : Nat → Int32) (m0 : Int32) (s0 : Int32) (f1 : Nat → Int32) (g1 : Nat → Int32) (c1 : Nat → Int32) (m1 : Int32) (s1 : Int32) (f2 : Nat → Int32) (g2 : Nat → Int32) (c2 : Nat → Int32) (m2 : Int32) (s2 : Int32) (f3 : Nat → Int32) (g3 : Nat → Int32) (c3 : Nat → Int32) (m3 : Int32) (s3 : Int32) (f4 : Nat → Int32) (g4 : Nat → Int32) (c4 : Nat → Int32) (m4 : Int32) (s4 : Int32) (f5 : Nat → Int32) (g5 : Nat → Int32) (c5 : Nat → Int32) (m5 : Int32) (s5 : Int32) (ek0 : Int32) (em0 : Int32) (es0 : Int32) (el0 : Int32) (b0 : Int32) (ef0 : Nat → Int32) (ek1 : Int32) (em1 : Int32) (es1 : Int32) (el1 : Int32) (b1 : Int32) (ef1 : Nat → Int32) (r p q : Int32) (h0 : z_m20 m0) (h1 : z_m20 m1) (h2 : z_m20 m2) (h3 : z_m20 m3) (h4 : z_m20 m4) (h5 : z_m20 m5) : z_CX G l mX8_removePair 20 14 120 (z_cw rf kn ma xa fa ca mb xb fb cb mt xt ft ct f0 g0 c0 m0 s0 f1 g1 c1 m1 s1 f2 g2 c2 m2 s2 f3 g3 c3 m3 s3 f4 g4 c4 m4 s4 f5 g5 c5 m5 s5 ek0 em0 es0 el0 b0 ef0 ek1 em1 es1 el1 b1 ef1 []) [.ref 0, .int r, .int p, .int q] (fun v L => (∃ b9 : Bool, v = some (.int (z_bi b9))) ∧ z_Wk kn xa xb b0 b1 L) (fun E L => z_xIA E ∧ L = (z_cw rf kn ma xa fa ca mb xb fb cb mt xt ft ct f0 g0 c0 m0 s0 f1 g1 c1 m1 s1 f2 g2 c2 m2 s2 f3 g3 c3 m3 s3 f4 g4 c4 m4 s4 f5 g5 c5 m5 s5 ek0 em0 es0 el0 b0 ef0 ek1 em1 es1 el1 b1 ef1 [])) := by
  refine z_body hl (by decide) rfl (Nat.le_of_ble_eq_true rfl) ?_
  show z_J G l mX8_removePair (z_SX 20 14 120 (z_cw rf kn ma xa fa ca mb xb fb cb mt xt ft ct f0 g0 c0 m0 s0 f1 g1 c1 m1 s1 f2 g2 c2 m2 s2 f3 g3 c3 m3 s3 f4 g4 c4 m4 s4 f5 g5 c5 m5 s5 ek0 em0 es0 el0 b0 ef0 ek1 em1 es1 el1 b1 ef1 []) (fun v L => (∃ b9 : Bool, v = some (.int (z_bi b9))) ∧ z_Wk kn xa xb b0 b1 L) (fun E L => z_xIA E ∧ L = (z_cw rf kn ma xa fa ca mb xb fb cb mt xt ft ct f0 g0 c0 m0 s0 f1 g1 c1 m1 s1 f2 g2 c2 m2 s2 f3 g3 c3 m3 s3 f4 g4 c4 m4 s4 f5 g5 c5 m5 s5 ek0 em0 es0 el0 b0 ef0 ek1 em1 es1 el1 b1 ef1 []))) 0 [(0, _), (1, _), (2, _), (3, _)] [] _ 0 0
  refine j_aload_n dX8_removePair_0 rfl rfl ?_
  refine j_iload_n dX8_removePair_1 rfl ?_
  refine j_iload_n dX8_removePair_2 rfl ?_
  refine j_callV (q := (RX8, TX8, 9)) dX8_removePair_3 kX8_tableFor_ lX8_126 inX8_tableFor_ seX8_tableFor_ rfl rfl (z_dirX (c_X8_tableFor_ hl _ _ _ _ _ _ _ _ _ _ _ _ _ _ _ _ _ _ _ _ _ _ _ _ _ _ _ _ _ _ _ _ _ _ _ _ _ _ _ _ _ _ _ _ _ _ _ _ _ _ _ _ _ _ _ _ _ _)) (Nat.le_of_ble_eq_true rfl) ⟨(Nat.le_of_ble_eq_true rfl), (Nat.le_of_ble_eq_true rfl)⟩ rfl (Nat.le_of_ble_eq_true rfl) rfl rfl (fun _ _ h => by obtain ⟨_, ⟨h1, rfl⟩, rfl⟩ := h; exact ⟨rfl, rfl, x_IA_IA h1, rfl⟩) ?_
  rintro _ _ ⟨_, ⟨_, rfl, hr, rfl⟩, rfl⟩
  have hq_3 := hr
  rcases hr with ⟨e_3, rfl⟩ | ⟨e_3, rfl⟩ | ⟨e_3, rfl⟩
  · refine j_astore (lo' := [(4, _), (0, _), (1, _), (2, _), (3, _)]) dX8_removePair_6 rfl (by decide) rfl ?_
    refine j_iload_n dX8_removePair_8 rfl ?_
    refine j_callS dX8_removePair_9 kX8_checkValue lX8_50 stX8_checkValue (c_X8_checkValue hl _ _) (Nat.le_of_ble_eq_true rfl) ⟨(Nat.le_of_ble_eq_true rfl), (Nat.le_of_ble_eq_true rfl)⟩ rfl (Nat.le_of_ble_eq_true rfl) rfl rfl (fun _ _ h => by obtain ⟨h1, rfl⟩ := h; exact ⟨rfl, rfl, x_A_IA h1, rfl⟩) ?_
    rintro _ _ ⟨rfl, rfl⟩
    refine j_aload dX8_removePair_12 rfl rfl ?_
    refine j_iload_n dX8_removePair_14 rfl ?_
    refine j_callV (q := (RX4, TX4, 5)) dX8_removePair_15 kX4_look lX8_137 inX4_look seX4_look rfl rfl (z_frame [10, 11, 12, 13, 14] rfl (by decide) (Nat.le_of_ble_eq_true rfl) (c_X4_look hl _ _ _ _ _ _)) (Nat.le_of_ble_eq_true rfl) ⟨(Nat.le_of_ble_eq_true rfl), (Nat.le_of_ble_eq_true rfl)⟩ rfl (Nat.le_of_ble_eq_true rfl) rfl rfl (fun _ _ h => h.elim) ?_
    rintro _ _ ⟨_, _, ⟨_, rfl, rfl⟩, rfl, rfl⟩
    refine j_w (z_cw _ _ _ _ _ _ _ _ _ _ _ _ _ _ _ _ _ _ _ _ _ _ _ _ _ _ _ _ _ _ _ _ _ _ _ _ _ _ _ _ _ _ _ _ _ _ _ _ _ _ _ _ _ _ _ _ [], z_no) rfl ?_
    refine j_iload_n dX8_removePair_18 rfl ?_
    refine j_icmp_eq (tgt := 24) dX8_removePair_19 (by decide) (fun c_19 => ?_) (fun c_19 => ?_)
    · refine j_aload dX8_removePair_24 rfl rfl ?_
      refine j_iload_n dX8_removePair_26 rfl ?_
      refine j_callV (q := (RX4, TX4, 5)) dX8_removePair_27 kX4_sendAway lX8_134 inX4_sendAway seX4_sendAway rfl rfl (z_frame [10, 11, 12, 13, 14] rfl (by decide) (Nat.le_of_ble_eq_true rfl) (c_X4_sendAway hl _ _ _ _ _ _ (by assumption))) (Nat.le_of_ble_eq_true rfl) ⟨(Nat.le_of_ble_eq_true rfl), (Nat.le_of_ble_eq_true rfl)⟩ rfl (Nat.le_of_ble_eq_true rfl) rfl rfl (fun _ _ h => h.elim) ?_
      rintro _ _ ⟨_, _, ⟨_, rfl, _, _, _, _, hm, rfl⟩, rfl, rfl⟩
      refine j_w (z_cw _ _ _ _ _ _ _ _ _ _ _ _ _ _ _ _ _ _ _ _ _ _ _ _ _ _ _ _ _ _ _ _ _ _ _ _ _ _ _ _ _ _ _ _ _ _ _ _ _ _ _ _ _ _ _ _ [], z_no) rfl ?_
      refine j_pop dX8_removePair_30 rfl ?_
      refine j_iconst (v := 1) dX8_removePair_31 (by decide) ?_
      refine j_iret dX8_removePair_32 rfl rfl ?_ (Nat.le_of_ble_eq_true rfl) (Nat.le_of_ble_eq_true rfl)
      first | exact ⟨rfl, rfl, ⟨true, rfl⟩, (z_wk (by first | assumption | exact z_m20z) (by first | assumption | exact z_m20z) (by first | assumption | exact z_m20z) (by first | assumption | exact z_m20z) (by first | assumption | exact z_m20z) (by first | assumption | exact z_m20z))⟩ | exact ⟨rfl, rfl, ⟨false, rfl⟩, (z_wk (by first | assumption | exact z_m20z) (by first | assumption | exact z_m20z) (by first | assumption | exact z_m20z) (by first | assumption | exact z_m20z) (by first | assumption | exact z_m20z) (by first | assumption | exact z_m20z))⟩
    · refine j_iconst (v := 0) dX8_removePair_22 (by decide) ?_
      refine j_iret dX8_removePair_23 rfl rfl ?_ (Nat.le_of_ble_eq_true rfl) (Nat.le_of_ble_eq_true rfl)
      first | exact ⟨rfl, rfl, ⟨true, rfl⟩, (z_wk (by first | assumption | exact z_m20z) (by first | assumption | exact z_m20z) (by first | assumption | exact z_m20z) (by first | assumption | exact z_m20z) (by first | assumption | exact z_m20z) (by first | assumption | exact z_m20z))⟩ | exact ⟨rfl, rfl, ⟨false, rfl⟩, (z_wk (by first | assumption | exact z_m20z) (by first | assumption | exact z_m20z) (by first | assumption | exact z_m20z) (by first | assumption | exact z_m20z) (by first | assumption | exact z_m20z) (by first | assumption | exact z_m20z))⟩
  · refine j_astore (lo' := [(4, _), (0, _), (1, _), (2, _), (3, _)]) dX8_removePair_6 rfl (by decide) rfl ?_
    refine j_iload_n dX8_removePair_8 rfl ?_
    refine j_callS dX8_removePair_9 kX8_checkValue lX8_50 stX8_checkValue (c_X8_checkValue hl _ _) (Nat.le_of_ble_eq_true rfl) ⟨(Nat.le_of_ble_eq_true rfl), (Nat.le_of_ble_eq_true rfl)⟩ rfl (Nat.le_of_ble_eq_true rfl) rfl rfl (fun _ _ h => by obtain ⟨h1, rfl⟩ := h; exact ⟨rfl, rfl, x_A_IA h1, rfl⟩) ?_
    rintro _ _ ⟨rfl, rfl⟩
    refine j_aload dX8_removePair_12 rfl rfl ?_
    refine j_iload_n dX8_removePair_14 rfl ?_
    refine j_callV (q := (RX4, TX4, 5)) dX8_removePair_15 kX4_look lX8_137 inX4_look seX4_look rfl rfl (z_frame [16, 17, 18, 19, 20] rfl (by decide) (Nat.le_of_ble_eq_true rfl) (c_X4_look hl _ _ _ _ _ _)) (Nat.le_of_ble_eq_true rfl) ⟨(Nat.le_of_ble_eq_true rfl), (Nat.le_of_ble_eq_true rfl)⟩ rfl (Nat.le_of_ble_eq_true rfl) rfl rfl (fun _ _ h => h.elim) ?_
    rintro _ _ ⟨_, _, ⟨_, rfl, rfl⟩, rfl, rfl⟩
    refine j_w (z_cw _ _ _ _ _ _ _ _ _ _ _ _ _ _ _ _ _ _ _ _ _ _ _ _ _ _ _ _ _ _ _ _ _ _ _ _ _ _ _ _ _ _ _ _ _ _ _ _ _ _ _ _ _ _ _ _ [], z_no) rfl ?_
    refine j_iload_n dX8_removePair_18 rfl ?_
    refine j_icmp_eq (tgt := 24) dX8_removePair_19 (by decide) (fun c_19 => ?_) (fun c_19 => ?_)
    · refine j_aload dX8_removePair_24 rfl rfl ?_
      refine j_iload_n dX8_removePair_26 rfl ?_
      refine j_callV (q := (RX4, TX4, 5)) dX8_removePair_27 kX4_sendAway lX8_134 inX4_sendAway seX4_sendAway rfl rfl (z_frame [16, 17, 18, 19, 20] rfl (by decide) (Nat.le_of_ble_eq_true rfl) (c_X4_sendAway hl _ _ _ _ _ _ (by assumption))) (Nat.le_of_ble_eq_true rfl) ⟨(Nat.le_of_ble_eq_true rfl), (Nat.le_of_ble_eq_true rfl)⟩ rfl (Nat.le_of_ble_eq_true rfl) rfl rfl (fun _ _ h => h.elim) ?_
      rintro _ _ ⟨_, _, ⟨_, rfl, _, _, _, _, hm, rfl⟩, rfl, rfl⟩
      refine j_w (z_cw _ _ _ _ _ _ _ _ _ _ _ _ _ _ _ _ _ _ _ _ _ _ _ _ _ _ _ _ _ _ _ _ _ _ _ _ _ _ _ _ _ _ _ _ _ _ _ _ _ _ _ _ _ _ _ _ [], z_no) rfl ?_
      refine j_pop dX8_removePair_30 rfl ?_
      refine j_iconst (v := 1) dX8_removePair_31 (by decide) ?_
      refine j_iret dX8_removePair_32 rfl rfl ?_ (Nat.le_of_ble_eq_true rfl) (Nat.le_of_ble_eq_true rfl)
      first | exact ⟨rfl, rfl, ⟨true, rfl⟩, (z_wk (by first | assumption | exact z_m20z) (by first | assumption | exact z_m20z) (by first | assumption | exact z_m20z) (by first | assumption | exact z_m20z) (by first | assumption | exact z_m20z) (by first | assumption | exact z_m20z))⟩ | exact ⟨rfl, rfl, ⟨false, rfl⟩, (z_wk (by first | assumption | exact z_m20z) (by first | assumption | exact z_m20z) (by first | assumption | exact z_m20z) (by first | assumption | exact z_m20z) (by first | assumption | exact z_m20z) (by first | assumption | exact z_m20z))⟩
    · refine j_iconst (v := 0) dX8_removePair_22 (by decide) ?_
      refine j_iret dX8_removePair_23 rfl rfl ?_ (Nat.le_of_ble_eq_true rfl) (Nat.le_of_ble_eq_true rfl)
      first | exact ⟨rfl, rfl, ⟨true, rfl⟩, (z_wk (by first | assumption | exact z_m20z) (by first | assumption | exact z_m20z) (by first | assumption | exact z_m20z) (by first | assumption | exact z_m20z) (by first | assumption | exact z_m20z) (by first | assumption | exact z_m20z))⟩ | exact ⟨rfl, rfl, ⟨false, rfl⟩, (z_wk (by first | assumption | exact z_m20z) (by first | assumption | exact z_m20z) (by first | assumption | exact z_m20z) (by first | assumption | exact z_m20z) (by first | assumption | exact z_m20z) (by first | assumption | exact z_m20z))⟩
  · refine j_astore (lo' := [(4, _), (0, _), (1, _), (2, _), (3, _)]) dX8_removePair_6 rfl (by decide) rfl ?_
    refine j_iload_n dX8_removePair_8 rfl ?_
    refine j_callS dX8_removePair_9 kX8_checkValue lX8_50 stX8_checkValue (c_X8_checkValue hl _ _) (Nat.le_of_ble_eq_true rfl) ⟨(Nat.le_of_ble_eq_true rfl), (Nat.le_of_ble_eq_true rfl)⟩ rfl (Nat.le_of_ble_eq_true rfl) rfl rfl (fun _ _ h => by obtain ⟨h1, rfl⟩ := h; exact ⟨rfl, rfl, x_A_IA h1, rfl⟩) ?_
    rintro _ _ ⟨rfl, rfl⟩
    refine j_aload dX8_removePair_12 rfl rfl ?_
    refine j_iload_n dX8_removePair_14 rfl ?_
    refine j_callV (q := (RX4, TX4, 5)) dX8_removePair_15 kX4_look lX8_137 inX4_look seX4_look rfl rfl (z_frame [21, 22, 23, 24, 25] rfl (by decide) (Nat.le_of_ble_eq_true rfl) (c_X4_look hl _ _ _ _ _ _)) (Nat.le_of_ble_eq_true rfl) ⟨(Nat.le_of_ble_eq_true rfl), (Nat.le_of_ble_eq_true rfl)⟩ rfl (Nat.le_of_ble_eq_true rfl) rfl rfl (fun _ _ h => h.elim) ?_
    rintro _ _ ⟨_, _, ⟨_, rfl, rfl⟩, rfl, rfl⟩
    refine j_w (z_cw _ _ _ _ _ _ _ _ _ _ _ _ _ _ _ _ _ _ _ _ _ _ _ _ _ _ _ _ _ _ _ _ _ _ _ _ _ _ _ _ _ _ _ _ _ _ _ _ _ _ _ _ _ _ _ _ [], z_no) rfl ?_
    refine j_iload_n dX8_removePair_18 rfl ?_
    refine j_icmp_eq (tgt := 24) dX8_removePair_19 (by decide) (fun c_19 => ?_) (fun c_19 => ?_)
    · refine j_aload dX8_removePair_24 rfl rfl ?_
      refine j_iload_n dX8_removePair_26 rfl ?_
      refine j_callV (q := (RX4, TX4, 5)) dX8_removePair_27 kX4_sendAway lX8_134 inX4_sendAway seX4_sendAway rfl rfl (z_frame [21, 22, 23, 24, 25] rfl (by decide) (Nat.le_of_ble_eq_true rfl) (c_X4_sendAway hl _ _ _ _ _ _ (by assumption))) (Nat.le_of_ble_eq_true rfl) ⟨(Nat.le_of_ble_eq_true rfl), (Nat.le_of_ble_eq_true rfl)⟩ rfl (Nat.le_of_ble_eq_true rfl) rfl rfl (fun _ _ h => h.elim) ?_
      rintro _ _ ⟨_, _, ⟨_, rfl, _, _, _, _, hm, rfl⟩, rfl, rfl⟩
      refine j_w (z_cw _ _ _ _ _ _ _ _ _ _ _ _ _ _ _ _ _ _ _ _ _ _ _ _ _ _ _ _ _ _ _ _ _ _ _ _ _ _ _ _ _ _ _ _ _ _ _ _ _ _ _ _ _ _ _ _ [], z_no) rfl ?_
      refine j_pop dX8_removePair_30 rfl ?_
      refine j_iconst (v := 1) dX8_removePair_31 (by decide) ?_
      refine j_iret dX8_removePair_32 rfl rfl ?_ (Nat.le_of_ble_eq_true rfl) (Nat.le_of_ble_eq_true rfl)
      first | exact ⟨rfl, rfl, ⟨true, rfl⟩, (z_wk (by first | assumption | exact z_m20z) (by first | assumption | exact z_m20z) (by first | assumption | exact z_m20z) (by first | assumption | exact z_m20z) (by first | assumption | exact z_m20z) (by first | assumption | exact z_m20z))⟩ | exact ⟨rfl, rfl, ⟨false, rfl⟩, (z_wk (by first | assumption | exact z_m20z) (by first | assumption | exact z_m20z) (by first | assumption | exact z_m20z) (by first | assumption | exact z_m20z) (by first | assumption | exact z_m20z) (by first | assumption | exact z_m20z))⟩
    · refine j_iconst (v := 0) dX8_removePair_22 (by decide) ?_
      refine j_iret dX8_removePair_23 rfl rfl ?_ (Nat.le_of_ble_eq_true rfl) (Nat.le_of_ble_eq_true rfl)
      first | exact ⟨rfl, rfl, ⟨true, rfl⟩, (z_wk (by first | assumption | exact z_m20z) (by first | assumption | exact z_m20z) (by first | assumption | exact z_m20z) (by first | assumption | exact z_m20z) (by first | assumption | exact z_m20z) (by first | assumption | exact z_m20z))⟩ | exact ⟨rfl, rfl, ⟨false, rfl⟩, (z_wk (by first | assumption | exact z_m20z) (by first | assumption | exact z_m20z) (by first | assumption | exact z_m20z) (by first | assumption | exact z_m20z) (by first | assumption | exact z_m20z) (by first | assumption | exact z_m20z))⟩
set_option maxRecDepth 100000 in
set_option maxHeartbeats 8000000 in
theorem c_X8_computeIfAbsent (hl : l.stackTraces = false) (rf : Int32) (kn : Int32) (ma : Int32) (xa : Bool) (fa : Nat → Int32) (ca : Nat → Int32) (mb : Int32) (xb : Bool) (fb : Nat → Int32) (cb : Nat → Int32) (mt : Int32) (xt : Bool) (ft : Nat → Int32) (ct : Nat → Int32) (f0 : Nat → Int32) (g0 : Nat → Int32) (c0 : Nat → Int32) (m0 : Int32) (s0 : Int32) (f1 : Nat → Int32) (g1 : Nat → Int32) (c1 : Nat → Int32) (m1 : Int32) (s1 : Int32) (f2 : Nat → Int32) (g2 : Nat → Int32) (c2 : Nat → Int32) (m2 : Int32) (s2 : Int32) (f3 : Nat → Int32) (g3 : Nat → Int32) (c3 : Nat → Int32) (m3 : Int32) (s3 : Int32) (f4 : Nat → Int32) (g4 : Nat → Int32) (c4 : Nat → Int32) (m4 : Int32) (s4 : Int32) (f5 : Nat → Int32) (g5 : Nat → Int32) (c5 : Nat → Int32) (m5 : Int32) (s5 : Int32) (ek0 : Int32) (em0 : Int32) (es0 : Int32) (el0 : Int32) (b0 : Int32) (ef0 : Nat → Int32) (ek1 : Int32) (em1 : Int32) (es1 : Int32) (el1 : Int32) (b1 : Int32) (ef1 : Nat → Int32) (r p q t : Int32) (h0 : z_m20 m0) (h1 : z_m20 m1) (h2 : z_m20 m2) (h3 : z_m20 m3) (h4 : z_m20 m4) (h5 : z_m20 m5) : z_CX G l mX8_computeIfAbsent 20 14 120 (z_cw rf kn ma xa fa ca mb xb fb cb mt xt ft ct f0 g0 c0 m0 s0 f1 g1 c1 m1 s1 f2 g2 c2 m2 s2 f3 g3 c3 m3 s3 f4 g4 c4 m4 s4 f5 g5 c5 m5 s5 ek0 em0 es0 el0 b0 ef0 ek1 em1 es1 el1 b1 ef1 []) [.ref 0, .int r, .int p, .int q, .int t] (fun v L => (∃ x : Int32, v = some (.int x)) ∧ z_Wk kn xa xb b0 b1 L) (fun E L => z_xIA E ∧ L = (z_cw rf kn ma xa fa ca mb xb fb cb mt xt ft ct f0 g0 c0 m0 s0 f1 g1 c1 m1 s1 f2 g2 c2 m2 s2 f3 g3 c3 m3 s3 f4 g4 c4 m4 s4 f5 g5 c5 m5 s5 ek0 em0 es0 el0 b0 ef0 ek1 em1 es1 el1 b1 ef1 [])) := by
  refine z_body hl (by decide) rfl (Nat.le_of_ble_eq_true rfl) ?_
  show z_J G l mX8_computeIfAbsent (z_SX 20 14 120 (z_cw rf kn ma xa fa ca mb xb fb cb mt xt ft ct f0 g0 c0 m0 s0 f1 g1 c1 m1 s1 f2 g2 c2 m2 s2 f3 g3 c3 m3 s3 f4 g4 c4 m4 s4 f5 g5 c5 m5 s5 ek0 em0 es0 el0 b0 ef0 ek1 em1 es1 el1 b1 ef1 []) (fun v L => (∃ x : Int32, v = some (.int x)) ∧ z_Wk kn xa xb b0 b1 L) (fun E L => z_xIA E ∧ L = (z_cw rf kn ma xa fa ca mb xb fb cb mt xt ft ct f0 g0 c0 m0 s0 f1 g1 c1 m1 s1 f2 g2 c2 m2 s2 f3 g3 c3 m3 s3 f4 g4 c4 m4 s4 f5 g5 c5 m5 s5 ek0 em0 es0 el0 b0 ef0 ek1 em1 es1 el1 b1 ef1 []))) 0 [(0, _), (1, _), (2, _), (3, _), (4, _)] [] _ 0 0
  refine j_aload_n dX8_computeIfAbsent_0 rfl rfl ?_
  refine j_iload_n dX8_computeIfAbsent_1 rfl ?_
  refine j_iload_n dX8_computeIfAbsent_2 rfl ?_
  refine j_iload_n dX8_computeIfAbsent_3 rfl ?_
  refine j_iload dX8_computeIfAbsent_4 rfl ?_
  refine j_callV (q := (RX8, TX8, 9)) dX8_computeIfAbsent_6 kX8_tableToReckon lX8_140 inX8_tableToReckon seX8_tableToReckon rfl rfl (z_dirX (c_X8_tableToReckon hl _ _ _ _ _ _ _ _ _ _ _ _ _ _ _ _ _ _ _ _ _ _ _ _ _ _ _ _ _ _ _ _ _ _ _ _ _ _ _ _ _ _ _ _ _ _ _ _ _ _ _ _ _ _ _ _ _ _ _ _)) (Nat.le_of_ble_eq_true rfl) ⟨(Nat.le_of_ble_eq_true rfl), (Nat.le_of_ble_eq_true rfl)⟩ rfl (Nat.le_of_ble_eq_true rfl) rfl rfl (fun _ _ h => by obtain ⟨_, ⟨h1, rfl⟩, rfl⟩ := h; exact ⟨rfl, rfl, x_IA_IA h1, rfl⟩) ?_
  rintro _ _ ⟨_, ⟨_, rfl, hr, rfl⟩, rfl⟩
  have hq_6 := hr
  rcases hr with ⟨e_6, rfl⟩ | ⟨e_6, rfl⟩ | ⟨e_6, rfl⟩
  · refine j_astore (lo' := [(5, _), (0, _), (1, _), (2, _), (3, _), (4, _)]) dX8_computeIfAbsent_9 rfl (by decide) rfl ?_
    refine j_aload_n dX8_computeIfAbsent_11 rfl rfl ?_
    refine j_aload dX8_computeIfAbsent_12 rfl rfl ?_
    refine j_iload_n dX8_computeIfAbsent_14 rfl ?_
    refine j_iload_n dX8_computeIfAbsent_15 rfl ?_
    refine j_iload dX8_computeIfAbsent_16 rfl ?_
    refine j_callV (q := (RX4, TX4, 5)) dX8_computeIfAbsent_18 kX4_reckonAbsent lX8_144 inX4_reckonAbsent seX4_reckonAbsent rfl rfl (z_frame [10, 11, 12, 13, 14] rfl (by decide) (Nat.le_of_ble_eq_true rfl) (c_X4_reckonAbsent hl _ _ _ _ _ _ _ _ (by assumption))) (Nat.le_of_ble_eq_true rfl) ⟨(Nat.le_of_ble_eq_true rfl), (Nat.le_of_ble_eq_true rfl)⟩ rfl (Nat.le_of_ble_eq_true rfl) rfl rfl (fun _ _ h => h.elim) ?_
    rintro _ _ ⟨_, _, ⟨_, rfl, _, _, _, _, hm, rfl⟩, rfl, rfl⟩
    refine j_w (z_cw _ _ _ _ _ _ _ _ _ _ _ _ _ _ _ _ _ _ _ _ _ _ _ _ _ _ _ _ _ _ _ _ _ _ _ _ _ _ _ _ _ _ _ _ _ _ _ _ _ _ _ _ _ _ _ _ [], z_no) rfl ?_
    refine j_callV (q := (RX8, TX8, 9)) dX8_computeIfAbsent_21 kX8_answer lX8_100 inX8_answer seX8_answer rfl rfl (z_dirF (c_X8_answer hl _ _ _ _ _ _ _ _ _ _ _ _ _ _ _ _ _ _ _ _ _ _ _ _ _ _ _ _ _ _ _ _ _ _ _ _ _ _ _ _ _ _ _ _ _ _ _ _ _ _ _ _ _ _ _ _ _)) (Nat.le_of_ble_eq_true rfl) ⟨(Nat.le_of_ble_eq_true rfl), (Nat.le_of_ble_eq_true rfl)⟩ rfl (Nat.le_of_ble_eq_true rfl) rfl rfl (fun _ _ h => h.elim) ?_
    rintro _ _ ⟨_, ⟨⟨_, rfl⟩, _, rfl⟩, rfl⟩
    refine j_iret dX8_computeIfAbsent_24 rfl rfl ?_ (Nat.le_of_ble_eq_true rfl) (Nat.le_of_ble_eq_true rfl)
    exact ⟨rfl, rfl, ⟨_, rfl⟩, (z_wk (by first | assumption | exact z_m20z) (by first | assumption | exact z_m20z) (by first | assumption | exact z_m20z) (by first | assumption | exact z_m20z) (by first | assumption | exact z_m20z) (by first | assumption | exact z_m20z))⟩
  · refine j_astore (lo' := [(5, _), (0, _), (1, _), (2, _), (3, _), (4, _)]) dX8_computeIfAbsent_9 rfl (by decide) rfl ?_
    refine j_aload_n dX8_computeIfAbsent_11 rfl rfl ?_
    refine j_aload dX8_computeIfAbsent_12 rfl rfl ?_
    refine j_iload_n dX8_computeIfAbsent_14 rfl ?_
    refine j_iload_n dX8_computeIfAbsent_15 rfl ?_
    refine j_iload dX8_computeIfAbsent_16 rfl ?_
    refine j_callV (q := (RX4, TX4, 5)) dX8_computeIfAbsent_18 kX4_reckonAbsent lX8_144 inX4_reckonAbsent seX4_reckonAbsent rfl rfl (z_frame [16, 17, 18, 19, 20] rfl (by decide) (Nat.le_of_ble_eq_true rfl) (c_X4_reckonAbsent hl _ _ _ _ _ _ _ _ (by assumption))) (Nat.le_of_ble_eq_true rfl) ⟨(Nat.le_of_ble_eq_true rfl), (Nat.le_of_ble_eq_true rfl)⟩ rfl (Nat.le_of_ble_eq_true rfl) rfl rfl (fun _ _ h => h.elim) ?_
    rintro _ _ ⟨_, _, ⟨_, rfl, _, _, _, _, hm, rfl⟩, rfl, rfl⟩
    refine j_w (z_cw _ _ _ _ _ _ _ _ _ _ _ _ _ _ _ _ _ _ _ _ _ _ _ _ _ _ _ _ _ _ _ _ _ _ _ _ _ _ _ _ _ _ _ _ _ _ _ _ _ _ _ _ _ _ _ _ [], z_no) rfl ?_
    refine j_callV (q := (RX8, TX8, 9)) dX8_computeIfAbsent_21 kX8_answer lX8_100 inX8_answer seX8_answer rfl rfl (z_dirF (c_X8_answer hl _ _ _ _ _ _ _ _ _ _ _ _ _ _ _ _ _ _ _ _ _ _ _ _ _ _ _ _ _ _ _ _ _ _ _ _ _ _ _ _ _ _ _ _ _ _ _ _ _ _ _ _ _ _ _ _ _)) (Nat.le_of_ble_eq_true rfl) ⟨(Nat.le_of_ble_eq_true rfl), (Nat.le_of_ble_eq_true rfl)⟩ rfl (Nat.le_of_ble_eq_true rfl) rfl rfl (fun _ _ h => h.elim) ?_
    rintro _ _ ⟨_, ⟨⟨_, rfl⟩, _, rfl⟩, rfl⟩
    refine j_iret dX8_computeIfAbsent_24 rfl rfl ?_ (Nat.le_of_ble_eq_true rfl) (Nat.le_of_ble_eq_true rfl)
    exact ⟨rfl, rfl, ⟨_, rfl⟩, (z_wk (by first | assumption | exact z_m20z) (by first | assumption | exact z_m20z) (by first | assumption | exact z_m20z) (by first | assumption | exact z_m20z) (by first | assumption | exact z_m20z) (by first | assumption | exact z_m20z))⟩
  · refine j_astore (lo' := [(5, _), (0, _), (1, _), (2, _), (3, _), (4, _)]) dX8_computeIfAbsent_9 rfl (by decide) rfl ?_
    refine j_aload_n dX8_computeIfAbsent_11 rfl rfl ?_
    refine j_aload dX8_computeIfAbsent_12 rfl rfl ?_
    refine j_iload_n dX8_computeIfAbsent_14 rfl ?_
    refine j_iload_n dX8_computeIfAbsent_15 rfl ?_
    refine j_iload dX8_computeIfAbsent_16 rfl ?_
    refine j_callV (q := (RX4, TX4, 5)) dX8_computeIfAbsent_18 kX4_reckonAbsent lX8_144 inX4_reckonAbsent seX4_reckonAbsent rfl rfl (z_frame [21, 22, 23, 24, 25] rfl (by decide) (Nat.le_of_ble_eq_true rfl) (c_X4_reckonAbsent hl _ _ _ _ _ _ _ _ (by assumption))) (Nat.le_of_ble_eq_true rfl) ⟨(Nat.le_of_ble_eq_true rfl), (Nat.le_of_ble_eq_true rfl)⟩ rfl (Nat.le_of_ble_eq_true rfl) rfl rfl (fun _ _ h => h.elim) ?_
    rintro _ _ ⟨_, _, ⟨_, rfl, _, _, _, _, hm, rfl⟩, rfl, rfl⟩
    refine j_w (z_cw _ _ _ _ _ _ _ _ _ _ _ _ _ _ _ _ _ _ _ _ _ _ _ _ _ _ _ _ _ _ _ _ _ _ _ _ _ _ _ _ _ _ _ _ _ _ _ _ _ _ _ _ _ _ _ _ [], z_no) rfl ?_
    refine j_callV (q := (RX8, TX8, 9)) dX8_computeIfAbsent_21 kX8_answer lX8_100 inX8_answer seX8_answer rfl rfl (z_dirF (c_X8_answer hl _ _ _ _ _ _ _ _ _ _ _ _ _ _ _ _ _ _ _ _ _ _ _ _ _ _ _ _ _ _ _ _ _ _ _ _ _ _ _ _ _ _ _ _ _ _ _ _ _ _ _ _ _ _ _ _ _)) (Nat.le_of_ble_eq_true rfl) ⟨(Nat.le_of_ble_eq_true rfl), (Nat.le_of_ble_eq_true rfl)⟩ rfl (Nat.le_of_ble_eq_true rfl) rfl rfl (fun _ _ h => h.elim) ?_
    rintro _ _ ⟨_, ⟨⟨_, rfl⟩, _, rfl⟩, rfl⟩
    refine j_iret dX8_computeIfAbsent_24 rfl rfl ?_ (Nat.le_of_ble_eq_true rfl) (Nat.le_of_ble_eq_true rfl)
    exact ⟨rfl, rfl, ⟨_, rfl⟩, (z_wk (by first | assumption | exact z_m20z) (by first | assumption | exact z_m20z) (by first | assumption | exact z_m20z) (by first | assumption | exact z_m20z) (by first | assumption | exact z_m20z) (by first | assumption | exact z_m20z))⟩
set_option maxRecDepth 100000 in
set_option maxHeartbeats 8000000 in
theorem c_X8_computeIfPresent (hl : l.stackTraces = false) (rf : Int32) (kn : Int32) (ma : Int32) (xa : Bool) (fa : Nat → Int32) (ca : Nat → Int32) (mb : Int32) (xb : Bool) (fb : Nat → Int32) (cb : Nat → Int32) (mt : Int32) (xt : Bool) (ft : Nat → Int32) (ct : Nat → Int32) (f0 : Nat → Int32) (g0 : Nat → Int32) (c0 : Nat → Int32) (m0 : Int32) (s0 : Int32) (f1 : Nat → Int32) (g1 : Nat → Int32) (c1 : Nat → Int32) (m1 : Int32) (s1 : Int32) (f2 : Nat → Int32) (g2 : Nat → Int32) (c2 : Nat → Int32) (m2 : Int32) (s2 : Int32) (f3 : Nat → Int32) (g3 : Nat → Int32) (c3 : Nat → Int32) (m3 : Int32) (s3 : Int32) (f4 : Nat → Int32) (g4 : Nat → Int32) (c4 : Nat → Int32) (m4 : Int32) (s4 : Int32) (f5 : Nat → Int32) (g5 : Nat → Int32) (c5 : Nat → Int32) (m5 : Int32) (s5 : Int32) (ek0 : Int32) (em0 : Int32) (es0 : Int32) (el0 : Int32) (b0 : Int32) (ef0 : Nat → Int32) (ek1 : Int32) (em1 : Int32) (es1 : Int32) (el1 : Int32) (b1 : Int32) (ef1 : Nat → Int32) (r p q t : Int32) (h0 : z_m20 m0) (h1 : z_m20 m1) (h2 : z_m20 m2) (h3 : z_m20 m3) (h4 : z_m20 m4) (h5 : z_m20 m5) : z_CX G l mX8_computeIfPresent 20 14 120 (z_cw rf kn ma xa fa ca mb xb fb cb mt xt ft ct f0 g0 c0 m0 s0 f1 g1 c1 m1 s1 f2 g2 c2 m2 s2 f3 g3 c3 m3 s3 f4 g4 c4 m4 s4 f5 g5 c5 m5 s5 ek0 em0 es0 el0 b0 ef0 ek1 em1 es1 el1 b1 ef1 []) [.ref 0, .int r, .int p, .int q, .int t] (fun v L => (∃ x : Int32, v = some (.int x)) ∧ z_Wk kn xa xb b0 b1 L) (fun E L => z_xIA E ∧ L = (z_cw rf kn ma xa fa ca mb xb fb cb mt xt ft ct f0 g0 c0 m0 s0 f1 g1 c1 m1 s1 f2 g2 c2 m2 s2 f3 g3 c3 m3 s3 f4 g4 c4 m4 s4 f5 g5 c5 m5 s5 ek0 em0 es0 el0 b0 ef0 ek1 em1 es1 el1 b1 ef1 [])) := by
  refine z_body hl (by decide) rfl (Nat.le_of_ble_eq_true rfl) ?_
  show z_J G l mX8_computeIfPresent (z_SX 20 14 120 (z_cw rf kn ma xa fa ca mb xb fb cb mt xt ft ct f0 g0 c0 m0 s0 f1 g1 c1 m1 s1 f2 g2 c2 m2 s2 f3 g3 c3 m3 s3 f4 g4 c4 m4 s4 f5 g5 c5 m5 s5 ek0 em0 es0 el0 b0 ef0 ek1 em1 es1 el1 b1 ef1 []) (fun v L => (∃ x : Int32, v = some (.int x)) ∧ z_Wk kn xa xb b0 b1 L) (fun E L => z_xIA E ∧ L = (z_cw rf kn ma xa fa ca mb xb fb cb mt xt ft ct f0 g0 c0 m0 s0 f1 g1 c1 m1 s1 f2 g2 c2 m2 s2 f3 g3 c3 m3 s3 f4 g4 c4 m4 s4 f5 g5 c5 m5 s5 ek0 em0 es0 el0 b0 ef0 ek1 em1 es1 el1 b1 ef1 []))) 0 [(0, _), (1, _), (2, _), (3, _), (4, _)] [] _ 0 0
  refine j_aload_n dX8_computeIfPresent_0 rfl rfl ?_
  refine j_iload_n dX8_computeIfPresent_1 rfl ?_
  refine j_iload_n dX8_computeIfPresent_2 rfl ?_
  refine j_iload_n dX8_computeIfPresent_3 rfl ?_
  refine j_iload dX8_computeIfPresent_4 rfl ?_
  refine j_callV (q := (RX8, TX8, 9)) dX8_computeIfPresent_6 kX8_tableToReckon lX8_140 inX8_tableToReckon seX8_tableToReckon rfl rfl (z_dirX (c_X8_tableToReckon hl _ _ _ _ _ _ _ _ _ _ _ _ _ _ _ _ _ _ _ _ _ _ _ _ _ _ _ _ _ _ _ _ _ _ _ _ _ _ _ _ _ _ _ _ _ _ _ _ _ _ _ _ _ _ _ _ _ _ _ _)) (Nat.le_of_ble_eq_true rfl) ⟨(Nat.le_of_ble_eq_true rfl), (Nat.le_of_ble_eq_true rfl)⟩ rfl (Nat.le_of_ble_eq_true rfl) rfl rfl (fun _ _ h => by obtain ⟨_, ⟨h1, rfl⟩, rfl⟩ := h; exact ⟨rfl, rfl, x_IA_IA h1, rfl⟩) ?_
  rintro _ _ ⟨_, ⟨_, rfl, hr, rfl⟩, rfl⟩
  have hq_6 := hr
  rcases hr with ⟨e_6, rfl⟩ | ⟨e_6, rfl⟩ | ⟨e_6, rfl⟩
  · refine j_astore (lo' := [(5, _), (0, _), (1, _), (2, _), (3, _), (4, _)]) dX8_computeIfPresent_9 rfl (by decide) rfl ?_
    refine j_aload_n dX8_computeIfPresent_11 rfl rfl ?_
    refine j_aload dX8_computeIfPresent_12 rfl rfl ?_
    refine j_iload_n dX8_computeIfPresent_14 rfl ?_
    refine j_iload_n dX8_computeIfPresent_15 rfl ?_
    refine j_iload dX8_computeIfPresent_16 rfl ?_
    refine j_callV (q := (RX4, TX4, 5)) dX8_computeIfPresent_18 kX4_reckonPresent lX8_148 inX4_reckonPresent seX4_reckonPresent rfl rfl (z_frame [10, 11, 12, 13, 14] rfl (by decide) (Nat.le_of_ble_eq_true rfl) (c_X4_reckonPresent hl _ _ _ _ _ _ _ _ (by assumption))) (Nat.le_of_ble_eq_true rfl) ⟨(Nat.le_of_ble_eq_true rfl), (Nat.le_of_ble_eq_true rfl)⟩ rfl (Nat.le_of_ble_eq_true rfl) rfl rfl (fun _ _ h => h.elim) ?_
    rintro _ _ ⟨_, _, ⟨_, rfl, _, _, _, _, hm, rfl⟩, rfl, rfl⟩
    refine j_w (z_cw _ _ _ _ _ _ _ _ _ _ _ _ _ _ _ _ _ _ _ _ _ _ _ _ _ _ _ _ _ _ _ _ _ _ _ _ _ _ _ _ _ _ _ _ _ _ _ _ _ _ _ _ _ _ _ _ [], z_no) rfl ?_
    refine j_callV (q := (RX8, TX8, 9)) dX8_computeIfPresent_21 kX8_answer lX8_100 inX8_answer seX8_answer rfl rfl (z_dirF (c_X8_answer hl _ _ _ _ _ _ _ _ _ _ _ _ _ _ _ _ _ _ _ _ _ _ _ _ _ _ _ _ _ _ _ _ _ _ _ _ _ _ _ _ _ _ _ _ _ _ _ _ _ _ _ _ _ _ _ _ _)) (Nat.le_of_ble_eq_true rfl) ⟨(Nat.le_of_ble_eq_true rfl), (Nat.le_of_ble_eq_true rfl)⟩ rfl (Nat.le_of_ble_eq_true rfl) rfl rfl (fun _ _ h => h.elim) ?_
    rintro _ _ ⟨_, ⟨⟨_, rfl⟩, _, rfl⟩, rfl⟩
    refine j_iret dX8_computeIfPresent_24 rfl rfl ?_ (Nat.le_of_ble_eq_true rfl) (Nat.le_of_ble_eq_true rfl)
    exact ⟨rfl, rfl, ⟨_, rfl⟩, (z_wk (by first | assumption | exact z_m20z) (by first | assumption | exact z_m20z) (by first | assumption | exact z_m20z) (by first | assumption | exact z_m20z) (by first | assumption | exact z_m20z) (by first | assumption | exact z_m20z))⟩
  · refine j_astore (lo' := [(5, _), (0, _), (1, _), (2, _), (3, _), (4, _)]) dX8_computeIfPresent_9 rfl (by decide) rfl ?_
    refine j_aload_n dX8_computeIfPresent_11 rfl rfl ?_
    refine j_aload dX8_computeIfPresent_12 rfl rfl ?_
    refine j_iload_n dX8_computeIfPresent_14 rfl ?_
    refine j_iload_n dX8_computeIfPresent_15 rfl ?_
    refine j_iload dX8_computeIfPresent_16 rfl ?_
    refine j_callV (q := (RX4, TX4, 5)) dX8_computeIfPresent_18 kX4_reckonPresent lX8_148 inX4_reckonPresent seX4_reckonPresent rfl rfl (z_frame [16, 17, 18, 19, 20] rfl (by decide) (Nat.le_of_ble_eq_true rfl) (c_X4_reckonPresent hl _ _ _ _ _ _ _ _ (by assumption))) (Nat.le_of_ble_eq_true rfl) ⟨(Nat.le_of_ble_eq_true rfl), (Nat.le_of_ble_eq_true rfl)⟩ rfl (Nat.le_of_ble_eq_true rfl) rfl rfl (fun _ _ h => h.elim) ?_
    rintro _ _ ⟨_, _, ⟨_, rfl, _, _, _, _, hm, rfl⟩, rfl, rfl⟩
    refine j_w (z_cw _ _ _ _ _ _ _ _ _ _ _ _ _ _ _ _ _ _ _ _ _ _ _ _ _ _ _ _ _ _ _ _ _ _ _ _ _ _ _ _ _ _ _ _ _ _ _ _ _ _ _ _ _ _ _ _ [], z_no) rfl ?_
    refine j_callV (q := (RX8, TX8, 9)) dX8_computeIfPresent_21 kX8_answer lX8_100 inX8_answer seX8_answer rfl rfl (z_dirF (c_X8_answer hl _ _ _ _ _ _ _ _ _ _ _ _ _ _ _ _ _ _ _ _ _ _ _ _ _ _ _ _ _ _ _ _ _ _ _ _ _ _ _ _ _ _ _ _ _ _ _ _ _ _ _ _ _ _ _ _ _)) (Nat.le_of_ble_eq_true rfl) ⟨(Nat.le_of_ble_eq_true rfl), (Nat.le_of_ble_eq_true rfl)⟩ rfl (Nat.le_of_ble_eq_true rfl) rfl rfl (fun _ _ h => h.elim) ?_
    rintro _ _ ⟨_, ⟨⟨_, rfl⟩, _, rfl⟩, rfl⟩
    refine j_iret dX8_computeIfPresent_24 rfl rfl ?_ (Nat.le_of_ble_eq_true rfl) (Nat.le_of_ble_eq_true rfl)
    exact ⟨rfl, rfl, ⟨_, rfl⟩, (z_wk (by first | assumption | exact z_m20z) (by first | assumption | exact z_m20z) (by first | assumption | exact z_m20z) (by first | assumption | exact z_m20z) (by first | assumption | exact z_m20z) (by first | assumption | exact z_m20z))⟩
  · refine j_astore (lo' := [(5, _), (0, _), (1, _), (2, _), (3, _), (4, _)]) dX8_computeIfPresent_9 rfl (by decide) rfl ?_
    refine j_aload_n dX8_computeIfPresent_11 rfl rfl ?_
    refine j_aload dX8_computeIfPresent_12 rfl rfl ?_
    refine j_iload_n dX8_computeIfPresent_14 rfl ?_
    refine j_iload_n dX8_computeIfPresent_15 rfl ?_
    refine j_iload dX8_computeIfPresent_16 rfl ?_
    refine j_callV (q := (RX4, TX4, 5)) dX8_computeIfPresent_18 kX4_reckonPresent lX8_148 inX4_reckonPresent seX4_reckonPresent rfl rfl (z_frame [21, 22, 23, 24, 25] rfl (by decide) (Nat.le_of_ble_eq_true rfl) (c_X4_reckonPresent hl _ _ _ _ _ _ _ _ (by assumption))) (Nat.le_of_ble_eq_true rfl) ⟨(Nat.le_of_ble_eq_true rfl), (Nat.le_of_ble_eq_true rfl)⟩ rfl (Nat.le_of_ble_eq_true rfl) rfl rfl (fun _ _ h => h.elim) ?_
    rintro _ _ ⟨_, _, ⟨_, rfl, _, _, _, _, hm, rfl⟩, rfl, rfl⟩
    refine j_w (z_cw _ _ _ _ _ _ _ _ _ _ _ _ _ _ _ _ _ _ _ _ _ _ _ _ _ _ _ _ _ _ _ _ _ _ _ _ _ _ _ _ _ _ _ _ _ _ _ _ _ _ _ _ _ _ _ _ [], z_no) rfl ?_
    refine j_callV (q := (RX8, TX8, 9)) dX8_computeIfPresent_21 kX8_answer lX8_100 inX8_answer seX8_answer rfl rfl (z_dirF (c_X8_answer hl _ _ _ _ _ _ _ _ _ _ _ _ _ _ _ _ _ _ _ _ _ _ _ _ _ _ _ _ _ _ _ _ _ _ _ _ _ _ _ _ _ _ _ _ _ _ _ _ _ _ _ _ _ _ _ _ _)) (Nat.le_of_ble_eq_true rfl) ⟨(Nat.le_of_ble_eq_true rfl), (Nat.le_of_ble_eq_true rfl)⟩ rfl (Nat.le_of_ble_eq_true rfl) rfl rfl (fun _ _ h => h.elim) ?_
    rintro _ _ ⟨_, ⟨⟨_, rfl⟩, _, rfl⟩, rfl⟩
    refine j_iret dX8_computeIfPresent_24 rfl rfl ?_ (Nat.le_of_ble_eq_true rfl) (Nat.le_of_ble_eq_true rfl)
    exact ⟨rfl, rfl, ⟨_, rfl⟩, (z_wk (by first | assumption | exact z_m20z) (by first | assumption | exact z_m20z) (by first | assumption | exact z_m20z) (by first | assumption | exact z_m20z) (by first | assumption | exact z_m20z) (by first | assumption | exact z_m20z))⟩
set_option maxRecDepth 100000 in
set_option maxHeartbeats 8000000 in
theorem c_X8_compute (hl : l.stackTraces = false) (rf : Int32) (kn : Int32) (ma : Int32) (xa : Bool) (fa : Nat → Int32) (ca : Nat → Int32) (mb : Int32) (xb : Bool) (fb : Nat → Int32) (cb : Nat → Int32) (mt : Int32) (xt : Bool) (ft : Nat → Int32) (ct : Nat → Int32) (f0 : Nat → Int32) (g0 : Nat → Int32) (c0 : Nat → Int32) (m0 : Int32) (s0 : Int32) (f1 : Nat → Int32) (g1 : Nat → Int32) (c1 : Nat → Int32) (m1 : Int32) (s1 : Int32) (f2 : Nat → Int32) (g2 : Nat → Int32) (c2 : Nat → Int32) (m2 : Int32) (s2 : Int32) (f3 : Nat → Int32) (g3 : Nat → Int32) (c3 : Nat → Int32) (m3 : Int32) (s3 : Int32) (f4 : Nat → Int32) (g4 : Nat → Int32) (c4 : Nat → Int32) (m4 : Int32) (s4 : Int32) (f5 : Nat → Int32) (g5 : Nat → Int32) (c5 : Nat → Int32) (m5 : Int32) (s5 : Int32) (ek0 : Int32) (em0 : Int32) (es0 : Int32) (el0 : Int32) (b0 : Int32) (ef0 : Nat → Int32) (ek1 : Int32) (em1 : Int32) (es1 : Int32) (el1 : Int32) (b1 : Int32) (ef1 : Nat → Int32) (r p q t : Int32) (h0 : z_m20 m0) (h1 : z_m20 m1) (h2 : z_m20 m2) (h3 : z_m20 m3) (h4 : z_m20 m4) (h5 : z_m20 m5) : z_CX G l mX8_compute 20 14 120 (z_cw rf kn ma xa fa ca mb xb fb cb mt xt ft ct f0 g0 c0 m0 s0 f1 g1 c1 m1 s1 f2 g2 c2 m2 s2 f3 g3 c3 m3 s3 f4 g4 c4 m4 s4 f5 g5 c5 m5 s5 ek0 em0 es0 el0 b0 ef0 ek1 em1 es1 el1 b1 ef1 []) [.ref 0, .int r, .int p, .int q, .int t] (fun v L => (∃ x : Int32, v = some (.int x)) ∧ z_Wk kn xa xb b0 b1 L) (fun E L => z_xIA E ∧ L = (z_cw rf kn ma xa fa ca mb xb fb cb mt xt ft ct f0 g0 c0 m0 s0 f1 g1 c1 m1 s1 f2 g2 c2 m2 s2 f3 g3 c3 m3 s3 f4 g4 c4 m4 s4 f5 g5 c5 m5 s5 ek0 em0 es0 el0 b0 ef0 ek1 em1 es1 el1 b1 ef1 [])) := by
  refine z_body hl (by decide) rfl (Nat.le_of_ble_eq_true rfl) ?_
  show z_J G l mX8_compute (z_SX 20 14 120 (z_cw rf kn ma xa fa ca mb xb fb cb mt xt ft ct f0 g0 c0 m0 s0 f1 g1 c1 m1 s1 f2 g2 c2 m2 s2 f3 g3 c3 m3 s3 f4 g4 c4 m4 s4 f5 g5 c5 m5 s5 ek0 em0 es0 el0 b0 ef0 ek1 em1 es1 el1 b1 ef1 []) (fun v L => (∃ x : Int32, v = some (.int x)) ∧ z_Wk kn xa xb b0 b1 L) (fun E L => z_xIA E ∧ L = (z_cw rf kn ma xa fa ca mb xb fb cb mt xt ft ct f0 g0 c0 m0 s0 f1 g1 c1 m1 s1 f2 g2 c2 m2 s2 f3 g3 c3 m3 s3 f4 g4 c4 m4 s4 f5 g5 c5 m5 s5 ek0 em0 es0 el0 b0 ef0 ek1 em1 es1 el1 b1 ef1 []))) 0 [(0, _), (1, _), (2, _), (3, _), (4, _)] [] _ 0 0
  refine j_aload_n dX8_compute_0 rfl rfl ?_
  refine j_iload_n dX8_compute_1 rfl ?_
  refine j_iload_n dX8_compute_2 rfl ?_
  refine j_iload_n dX8_compute_3 rfl ?_
  refine j_iload dX8_compute_4 rfl ?_
  refine j_callV (q := (RX8, TX8, 9)) dX8_compute_6 kX8_tableToReckon lX8_140 inX8_tableToReckon seX8_tableToReckon rfl rfl (z_dirX (c_X8_tableToReckon hl _ _ _ _ _ _ _ _ _ _ _ _ _ _ _ _ _ _ _ _ _ _ _ _ _ _ _ _ _ _ _ _ _ _ _ _ _ _ _ _ _ _ _ _ _ _ _ _ _ _ _ _ _ _ _ _ _ _ _ _)) (Nat.le_of_ble_eq_true rfl) ⟨(Nat.le_of_ble_eq_true rfl), (Nat.le_of_ble_eq_true rfl)⟩ rfl (Nat.le_of_ble_eq_true rfl) rfl rfl (fun _ _ h => by obtain ⟨_, ⟨h1, rfl⟩, rfl⟩ := h; exact ⟨rfl, rfl, x_IA_IA h1, rfl⟩) ?_
  rintro _ _ ⟨_, ⟨_, rfl, hr, rfl⟩, rfl⟩
  have hq_6 := hr
  rcases hr with ⟨e_6, rfl⟩ | ⟨e_6, rfl⟩ | ⟨e_6, rfl⟩
  · refine j_astore (lo' := [(5, _), (0, _), (1, _), (2, _), (3, _), (4, _)]) dX8_compute_9 rfl (by decide) rfl ?_
    refine j_aload_n dX8_compute_11 rfl rfl ?_
    refine j_aload dX8_compute_12 rfl rfl ?_
    refine j_iload_n dX8_compute_14 rfl ?_
    refine j_iload_n dX8_compute_15 rfl ?_
    refine j_iload dX8_compute_16 rfl ?_
    refine j_callV (q := (RX4, TX4, 5)) dX8_compute_18 kX4_reckon lX8_151 inX4_reckon seX4_reckon rfl rfl (z_frame [10, 11, 12, 13, 14] rfl (by decide) (Nat.le_of_ble_eq_true rfl) (c_X4_reckon hl _ _ _ _ _ _ _ _ (by assumption))) (Nat.le_of_ble_eq_true rfl) ⟨(Nat.le_of_ble_eq_true rfl), (Nat.le_of_ble_eq_true rfl)⟩ rfl (Nat.le_of_ble_eq_true rfl) rfl rfl (fun _ _ h => h.elim) ?_
    rintro _ _ ⟨_, _, ⟨_, rfl, _, _, _, _, hm, rfl⟩, rfl, rfl⟩
    refine j_w (z_cw _ _ _ _ _ _ _ _ _ _ _ _ _ _ _ _ _ _ _ _ _ _ _ _ _ _ _ _ _ _ _ _ _ _ _ _ _ _ _ _ _ _ _ _ _ _ _ _ _ _ _ _ _ _ _ _ [], z_no) rfl ?_
    refine j_callV (q := (RX8, TX8, 9)) dX8_compute_21 kX8_answer lX8_100 inX8_answer seX8_answer rfl rfl (z_dirF (c_X8_answer hl _ _ _ _ _ _ _ _ _ _ _ _ _ _ _ _ _ _ _ _ _ _ _ _ _ _ _ _ _ _ _ _ _ _ _ _ _ _ _ _ _ _ _ _ _ _ _ _ _ _ _ _ _ _ _ _ _)) (Nat.le_of_ble_eq_true rfl) ⟨(Nat.le_of_ble_eq_true rfl), (Nat.le_of_ble_eq_true rfl)⟩ rfl (Nat.le_of_ble_eq_true rfl) rfl rfl (fun _ _ h => h.elim) ?_
    rintro _ _ ⟨_, ⟨⟨_, rfl⟩, _, rfl⟩, rfl⟩
    refine j_iret dX8_compute_24 rfl rfl ?_ (Nat.le_of_ble_eq_true rfl) (Nat.le_of_ble_eq_true rfl)
    exact ⟨rfl, rfl, ⟨_, rfl⟩, (z_wk (by first | assumption | exact z_m20z) (by first | assumption | exact z_m20z) (by first | assumption | exact z_m20z) (by first | assumption | exact z_m20z) (by first | assumption | exact z_m20z) (by first | assumption | exact z_m20z))⟩
  · refine j_astore (lo' := [(5, _), (0, _), (1, _), (2, _), (3, _), (4, _)]) dX8_compute_9 rfl (by decide) rfl ?_
    refine j_aload_n dX8_compute_11 rfl rfl ?_
    refine j_aload dX8_compute_12 rfl rfl ?_
    refine j_iload_n dX8_compute_14 rfl ?_
    refine j_iload_n dX8_compute_15 rfl ?_
    refine j_iload dX8_compute_16 rfl ?_
    refine j_callV (q := (RX4, TX4, 5)) dX8_compute_18 kX4_reckon lX8_151 inX4_reckon seX4_reckon rfl rfl (z_frame [16, 17, 18, 19, 20] rfl (by decide) (Nat.le_of_ble_eq_true rfl) (c_X4_reckon hl _ _ _ _ _ _ _ _ (by assumption))) (Nat.le_of_ble_eq_true rfl) ⟨(Nat.le_of_ble_eq_true rfl), (Nat.le_of_ble_eq_true rfl)⟩ rfl (Nat.le_of_ble_eq_true rfl) rfl rfl (fun _ _ h => h.elim) ?_
    rintro _ _ ⟨_, _, ⟨_, rfl, _, _, _, _, hm, rfl⟩, rfl, rfl⟩
    refine j_w (z_cw _ _ _ _ _ _ _ _ _ _ _ _ _ _ _ _ _ _ _ _ _ _ _ _ _ _ _ _ _ _ _ _ _ _ _ _ _ _ _ _ _ _ _ _ _ _ _ _ _ _ _ _ _ _ _ _ [], z_no) rfl ?_
    refine j_callV (q := (RX8, TX8, 9)) dX8_compute_21 kX8_answer lX8_100 inX8_answer seX8_answer rfl rfl (z_dirF (c_X8_answer hl _ _ _ _ _ _ _ _ _ _ _ _ _ _ _ _ _ _ _ _ _ _ _ _ _ _ _ _ _ _ _ _ _ _ _ _ _ _ _ _ _ _ _ _ _ _ _ _ _ _ _ _ _ _ _ _ _)) (Nat.le_of_ble_eq_true rfl) ⟨(Nat.le_of_ble_eq_true rfl), (Nat.le_of_ble_eq_true rfl)⟩ rfl (Nat.le_of_ble_eq_true rfl) rfl rfl (fun _ _ h => h.elim) ?_
    rintro _ _ ⟨_, ⟨⟨_, rfl⟩, _, rfl⟩, rfl⟩
    refine j_iret dX8_compute_24 rfl rfl ?_ (Nat.le_of_ble_eq_true rfl) (Nat.le_of_ble_eq_true rfl)
    exact ⟨rfl, rfl, ⟨_, rfl⟩, (z_wk (by first | assumption | exact z_m20z) (by first | assumption | exact z_m20z) (by first | assumption | exact z_m20z) (by first | assumption | exact z_m20z) (by first | assumption | exact z_m20z) (by first | assumption | exact z_m20z))⟩
  · refine j_astore (lo' := [(5, _), (0, _), (1, _), (2, _), (3, _), (4, _)]) dX8_compute_9 rfl (by decide) rfl ?_
    refine j_aload_n dX8_compute_11 rfl rfl ?_
    refine j_aload dX8_compute_12 rfl rfl ?_
    refine j_iload_n dX8_compute_14 rfl ?_
    refine j_iload_n dX8_compute_15 rfl ?_
    refine j_iload dX8_compute_16 rfl ?_
    refine j_callV (q := (RX4, TX4, 5)) dX8_compute_18 kX4_reckon lX8_151 inX4_reckon seX4_reckon rfl rfl (z_frame [21, 22, 23, 24, 25] rfl (by decide) (Nat.le_of_ble_eq_true rfl) (c_X4_reckon hl _ _ _ _ _ _ _ _ (by assumption))) (Nat.le_of_ble_eq_true rfl) ⟨(Nat.le_of_ble_eq_true rfl), (Nat.le_of_ble_eq_true rfl)⟩ rfl (Nat.le_of_ble_eq_true rfl) rfl rfl (fun _ _ h => h.elim) ?_
    rintro _ _ ⟨_, _, ⟨_, rfl, _, _, _, _, hm, rfl⟩, rfl, rfl⟩
    refine j_w (z_cw _ _ _ _ _ _ _ _ _ _ _ _ _ _ _ _ _ _ _ _ _ _ _ _ _ _ _ _ _ _ _ _ _ _ _ _ _ _ _ _ _ _ _ _ _ _ _ _ _ _ _ _ _ _ _ _ [], z_no) rfl ?_
    refine j_callV (q := (RX8, TX8, 9)) dX8_compute_21 kX8_answer lX8_100 inX8_answer seX8_answer rfl rfl (z_dirF (c_X8_answer hl _ _ _ _ _ _ _ _ _ _ _ _ _ _ _ _ _ _ _ _ _ _ _ _ _ _ _ _ _ _ _ _ _ _ _ _ _ _ _ _ _ _ _ _ _ _ _ _ _ _ _ _ _ _ _ _ _)) (Nat.le_of_ble_eq_true rfl) ⟨(Nat.le_of_ble_eq_true rfl), (Nat.le_of_ble_eq_true rfl)⟩ rfl (Nat.le_of_ble_eq_true rfl) rfl rfl (fun _ _ h => h.elim) ?_
    rintro _ _ ⟨_, ⟨⟨_, rfl⟩, _, rfl⟩, rfl⟩
    refine j_iret dX8_compute_24 rfl rfl ?_ (Nat.le_of_ble_eq_true rfl) (Nat.le_of_ble_eq_true rfl)
    exact ⟨rfl, rfl, ⟨_, rfl⟩, (z_wk (by first | assumption | exact z_m20z) (by first | assumption | exact z_m20z) (by first | assumption | exact z_m20z) (by first | assumption | exact z_m20z) (by first | assumption | exact z_m20z) (by first | assumption | exact z_m20z))⟩
set_option maxRecDepth 100000 in
set_option maxHeartbeats 8000000 in
theorem c_X8_merge (hl : l.stackTraces = false) (rf : Int32) (kn : Int32) (ma : Int32) (xa : Bool) (fa : Nat → Int32) (ca : Nat → Int32) (mb : Int32) (xb : Bool) (fb : Nat → Int32) (cb : Nat → Int32) (mt : Int32) (xt : Bool) (ft : Nat → Int32) (ct : Nat → Int32) (f0 : Nat → Int32) (g0 : Nat → Int32) (c0 : Nat → Int32) (m0 : Int32) (s0 : Int32) (f1 : Nat → Int32) (g1 : Nat → Int32) (c1 : Nat → Int32) (m1 : Int32) (s1 : Int32) (f2 : Nat → Int32) (g2 : Nat → Int32) (c2 : Nat → Int32) (m2 : Int32) (s2 : Int32) (f3 : Nat → Int32) (g3 : Nat → Int32) (c3 : Nat → Int32) (m3 : Int32) (s3 : Int32) (f4 : Nat → Int32) (g4 : Nat → Int32) (c4 : Nat → Int32) (m4 : Int32) (s4 : Int32) (f5 : Nat → Int32) (g5 : Nat → Int32) (c5 : Nat → Int32) (m5 : Int32) (s5 : Int32) (ek0 : Int32) (em0 : Int32) (es0 : Int32) (el0 : Int32) (b0 : Int32) (ef0 : Nat → Int32) (ek1 : Int32) (em1 : Int32) (es1 : Int32) (el1 : Int32) (b1 : Int32) (ef1 : Nat → Int32) (r p q t : Int32) (h0 : z_m20 m0) (h1 : z_m20 m1) (h2 : z_m20 m2) (h3 : z_m20 m3) (h4 : z_m20 m4) (h5 : z_m20 m5) : z_CX G l mX8_merge 20 14 120 (z_cw rf kn ma xa fa ca mb xb fb cb mt xt ft ct f0 g0 c0 m0 s0 f1 g1 c1 m1 s1 f2 g2 c2 m2 s2 f3 g3 c3 m3 s3 f4 g4 c4 m4 s4 f5 g5 c5 m5 s5 ek0 em0 es0 el0 b0 ef0 ek1 em1 es1 el1 b1 ef1 []) [.ref 0, .int r, .int p, .int q, .int t] (fun v L => (∃ x : Int32, v = some (.int x)) ∧ z_Wk kn xa xb b0 b1 L) (fun E L => z_xIA E ∧ L = (z_cw rf kn ma xa fa ca mb xb fb cb mt xt ft ct f0 g0 c0 m0 s0 f1 g1 c1 m1 s1 f2 g2 c2 m2 s2 f3 g3 c3 m3 s3 f4 g4 c4 m4 s4 f5 g5 c5 m5 s5 ek0 em0 es0 el0 b0 ef0 ek1 em1 es1 el1 b1 ef1 [])) := by
  refine z_body hl (by decide) rfl (Nat.le_of_ble_eq_true rfl) ?_
  show z_J G l mX8_merge (z_SX 20 14 120 (z_cw rf kn ma xa fa ca mb xb fb cb mt xt ft ct f0 g0 c0 m0 s0 f1 g1 c1 m1 s1 f2 g2 c2 m2 s2 f3 g3 c3 m3 s3 f4 g4 c4 m4 s4 f5 g5 c5 m5 s5 ek0 em0 es0 el0 b0 ef0 ek1 em1 es1 el1 b1 ef1 []) (fun v L => (∃ x : Int32, v = some (.int x)) ∧ z_Wk kn xa xb b0 b1 L) (fun E L => z_xIA E ∧ L = (z_cw rf kn ma xa fa ca mb xb fb cb mt xt ft ct f0 g0 c0 m0 s0 f1 g1 c1 m1 s1 f2 g2 c2 m2 s2 f3 g3 c3 m3 s3 f4 g4 c4 m4 s4 f5 g5 c5 m5 s5 ek0 em0 es0 el0 b0 ef0 ek1 em1 es1 el1 b1 ef1 []))) 0 [(0, _), (1, _), (2, _), (3, _), (4, _)] [] _ 0 0
  refine j_aload_n dX8_merge_0 rfl rfl ?_
  refine j_iload_n dX8_merge_1 rfl ?_
  refine j_iload_n dX8_merge_2 rfl ?_
  refine j_iload dX8_merge_3 rfl ?_
  refine j_iload_n dX8_merge_5 rfl ?_
  refine j_callV (q := (RX8, TX8, 9)) dX8_merge_6 kX8_tableToReckon lX8_140 inX8_tableToReckon seX8_tableToReckon rfl rfl (z_dirX (c_X8_tableToReckon hl _ _ _ _ _ _ _ _ _ _ _ _ _ _ _ _ _ _ _ _ _ _ _ _ _ _ _ _ _ _ _ _ _ _ _ _ _ _ _ _ _ _ _ _ _ _ _ _ _ _ _ _ _ _ _ _ _ _ _ _)) (Nat.le_of_ble_eq_true rfl) ⟨(Nat.le_of_ble_eq_true rfl), (Nat.le_of_ble_eq_true rfl)⟩ rfl (Nat.le_of_ble_eq_true rfl) rfl rfl (fun _ _ h => by obtain ⟨_, ⟨h1, rfl⟩, rfl⟩ := h; exact ⟨rfl, rfl, x_IA_IA h1, rfl⟩) ?_
  rintro _ _ ⟨_, ⟨_, rfl, hr, rfl⟩, rfl⟩
  have hq_6 := hr
  rcases hr with ⟨e_6, rfl⟩ | ⟨e_6, rfl⟩ | ⟨e_6, rfl⟩
  · refine j_astore (lo' := [(5, _), (0, _), (1, _), (2, _), (3, _), (4, _)]) dX8_merge_9 rfl (by decide) rfl ?_
    refine j_aload_n dX8_merge_11 rfl rfl ?_
    refine j_aload dX8_merge_12 rfl rfl ?_
    refine j_iload_n dX8_merge_14 rfl ?_
    refine j_iload_n dX8_merge_15 rfl ?_
    refine j_iload dX8_merge_16 rfl ?_
    refine j_callV (q := (RX4, TX4, 5)) dX8_merge_18 kX4_join lX8_154 inX4_join seX4_join rfl rfl (z_frame [10, 11, 12, 13, 14] rfl (by decide) (Nat.le_of_ble_eq_true rfl) (c_X4_join hl _ _ _ _ _ _ _ _ (by assumption))) (Nat.le_of_ble_eq_true rfl) ⟨(Nat.le_of_ble_eq_true rfl), (Nat.le_of_ble_eq_true rfl)⟩ rfl (Nat.le_of_ble_eq_true rfl) rfl rfl (fun _ _ h => h.elim) ?_
    rintro _ _ ⟨_, _, ⟨_, rfl, _, _, _, _, hm, rfl⟩, rfl, rfl⟩
    refine j_w (z_cw _ _ _ _ _ _ _ _ _ _ _ _ _ _ _ _ _ _ _ _ _ _ _ _ _ _ _ _ _ _ _ _ _ _ _ _ _ _ _ _ _ _ _ _ _ _ _ _ _ _ _ _ _ _ _ _ [], z_no) rfl ?_
    refine j_callV (q := (RX8, TX8, 9)) dX8_merge_21 kX8_answer lX8_100 inX8_answer seX8_answer rfl rfl (z_dirF (c_X8_answer hl _ _ _ _ _ _ _ _ _ _ _ _ _ _ _ _ _ _ _ _ _ _ _ _ _ _ _ _ _ _ _ _ _ _ _ _ _ _ _ _ _ _ _ _ _ _ _ _ _ _ _ _ _ _ _ _ _)) (Nat.le_of_ble_eq_true rfl) ⟨(Nat.le_of_ble_eq_true rfl), (Nat.le_of_ble_eq_true rfl)⟩ rfl (Nat.le_of_ble_eq_true rfl) rfl rfl (fun _ _ h => h.elim) ?_
    rintro _ _ ⟨_, ⟨⟨_, rfl⟩, _, rfl⟩, rfl⟩
    refine j_iret dX8_merge_24 rfl rfl ?_ (Nat.le_of_ble_eq_true rfl) (Nat.le_of_ble_eq_true rfl)
    exact ⟨rfl, rfl, ⟨_, rfl⟩, (z_wk (by first | assumption | exact z_m20z) (by first | assumption | exact z_m20z) (by first | assumption | exact z_m20z) (by first | assumption | exact z_m20z) (by first | assumption | exact z_m20z) (by first | assumption | exact z_m20z))⟩
  · refine j_astore (lo' := [(5, _), (0, _), (1, _), (2, _), (3, _), (4, _)]) dX8_merge_9 rfl (by decide) rfl ?_
    refine j_aload_n dX8_merge_11 rfl rfl ?_
    refine j_aload dX8_merge_12 rfl rfl ?_
    refine j_iload_n dX8_merge_14 rfl ?_
    refine j_iload_n dX8_merge_15 rfl ?_
    refine j_iload dX8_merge_16 rfl ?_
    refine j_callV (q := (RX4, TX4, 5)) dX8_merge_18 kX4_join lX8_154 inX4_join seX4_join rfl rfl (z_frame [16, 17, 18, 19, 20] rfl (by decide) (Nat.le_of_ble_eq_true rfl) (c_X4_join hl _ _ _ _ _ _ _ _ (by assumption))) (Nat.le_of_ble_eq_true rfl) ⟨(Nat.le_of_ble_eq_true rfl), (Nat.le_of_ble_eq_true rfl)⟩ rfl (Nat.le_of_ble_eq_true rfl) rfl rfl (fun _ _ h => h.elim) ?_
    rintro _ _ ⟨_, _, ⟨_, rfl, _, _, _, _, hm, rfl⟩, rfl, rfl⟩
    refine j_w (z_cw _ _ _ _ _ _ _ _ _ _ _ _ _ _ _ _ _ _ _ _ _ _ _ _ _ _ _ _ _ _ _ _ _ _ _ _ _ _ _ _ _ _ _ _ _ _ _ _ _ _ _ _ _ _ _ _ [], z_no) rfl ?_
    refine j_callV (q := (RX8, TX8, 9)) dX8_merge_21 kX8_answer lX8_100 inX8_answer seX8_answer rfl rfl (z_dirF (c_X8_answer hl _ _ _ _ _ _ _ _ _ _ _ _ _ _ _ _ _ _ _ _ _ _ _ _ _ _ _ _ _ _ _ _ _ _ _ _ _ _ _ _ _ _ _ _ _ _ _ _ _ _ _ _ _ _ _ _ _)) (Nat.le_of_ble_eq_true rfl) ⟨(Nat.le_of_ble_eq_true rfl), (Nat.le_of_ble_eq_true rfl)⟩ rfl (Nat.le_of_ble_eq_true rfl) rfl rfl (fun _ _ h => h.elim) ?_
    rintro _ _ ⟨_, ⟨⟨_, rfl⟩, _, rfl⟩, rfl⟩
    refine j_iret dX8_merge_24 rfl rfl ?_ (Nat.le_of_ble_eq_true rfl) (Nat.le_of_ble_eq_true rfl)
    exact ⟨rfl, rfl, ⟨_, rfl⟩, (z_wk (by first | assumption | exact z_m20z) (by first | assumption | exact z_m20z) (by first | assumption | exact z_m20z) (by first | assumption | exact z_m20z) (by first | assumption | exact z_m20z) (by first | assumption | exact z_m20z))⟩
  · refine j_astore (lo' := [(5, _), (0, _), (1, _), (2, _), (3, _), (4, _)]) dX8_merge_9 rfl (by decide) rfl ?_
    refine j_aload_n dX8_merge_11 rfl rfl ?_
    refine j_aload dX8_merge_12 rfl rfl ?_
    refine j_iload_n dX8_merge_14 rfl ?_
    refine j_iload_n dX8_merge_15 rfl ?_
    refine j_iload dX8_merge_16 rfl ?_
    refine j_callV (q := (RX4, TX4, 5)) dX8_merge_18 kX4_join lX8_154 inX4_join seX4_join rfl rfl (z_frame [21, 22, 23, 24, 25] rfl (by decide) (Nat.le_of_ble_eq_true rfl) (c_X4_join hl _ _ _ _ _ _ _ _ (by assumption))) (Nat.le_of_ble_eq_true rfl) ⟨(Nat.le_of_ble_eq_true rfl), (Nat.le_of_ble_eq_true rfl)⟩ rfl (Nat.le_of_ble_eq_true rfl) rfl rfl (fun _ _ h => h.elim) ?_
    rintro _ _ ⟨_, _, ⟨_, rfl, _, _, _, _, hm, rfl⟩, rfl, rfl⟩
    refine j_w (z_cw _ _ _ _ _ _ _ _ _ _ _ _ _ _ _ _ _ _ _ _ _ _ _ _ _ _ _ _ _ _ _ _ _ _ _ _ _ _ _ _ _ _ _ _ _ _ _ _ _ _ _ _ _ _ _ _ [], z_no) rfl ?_
    refine j_callV (q := (RX8, TX8, 9)) dX8_merge_21 kX8_answer lX8_100 inX8_answer seX8_answer rfl rfl (z_dirF (c_X8_answer hl _ _ _ _ _ _ _ _ _ _ _ _ _ _ _ _ _ _ _ _ _ _ _ _ _ _ _ _ _ _ _ _ _ _ _ _ _ _ _ _ _ _ _ _ _ _ _ _ _ _ _ _ _ _ _ _ _)) (Nat.le_of_ble_eq_true rfl) ⟨(Nat.le_of_ble_eq_true rfl), (Nat.le_of_ble_eq_true rfl)⟩ rfl (Nat.le_of_ble_eq_true rfl) rfl rfl (fun _ _ h => h.elim) ?_
    rintro _ _ ⟨_, ⟨⟨_, rfl⟩, _, rfl⟩, rfl⟩
    refine j_iret dX8_merge_24 rfl rfl ?_ (Nat.le_of_ble_eq_true rfl) (Nat.le_of_ble_eq_true rfl)
    exact ⟨rfl, rfl, ⟨_, rfl⟩, (z_wk (by first | assumption | exact z_m20z) (by first | assumption | exact z_m20z) (by first | assumption | exact z_m20z) (by first | assumption | exact z_m20z) (by first | assumption | exact z_m20z) (by first | assumption | exact z_m20z))⟩
set_option maxRecDepth 100000 in
set_option maxHeartbeats 8000000 in
theorem c_X8_clear (hl : l.stackTraces = false) (rf : Int32) (kn : Int32) (ma : Int32) (xa : Bool) (fa : Nat → Int32) (ca : Nat → Int32) (mb : Int32) (xb : Bool) (fb : Nat → Int32) (cb : Nat → Int32) (mt : Int32) (xt : Bool) (ft : Nat → Int32) (ct : Nat → Int32) (f0 : Nat → Int32) (g0 : Nat → Int32) (c0 : Nat → Int32) (m0 : Int32) (s0 : Int32) (f1 : Nat → Int32) (g1 : Nat → Int32) (c1 : Nat → Int32) (m1 : Int32) (s1 : Int32) (f2 : Nat → Int32) (g2 : Nat → Int32) (c2 : Nat → Int32) (m2 : Int32) (s2 : Int32) (f3 : Nat → Int32) (g3 : Nat → Int32) (c3 : Nat → Int32) (m3 : Int32) (s3 : Int32) (f4 : Nat → Int32) (g4 : Nat → Int32) (c4 : Nat → Int32) (m4 : Int32) (s4 : Int32) (f5 : Nat → Int32) (g5 : Nat → Int32) (c5 : Nat → Int32) (m5 : Int32) (s5 : Int32) (ek0 : Int32) (em0 : Int32) (es0 : Int32) (el0 : Int32) (b0 : Int32) (ef0 : Nat → Int32) (ek1 : Int32) (em1 : Int32) (es1 : Int32) (el1 : Int32) (b1 : Int32) (ef1 : Nat → Int32) (r : Int32) (h0 : z_m20 m0) (h1 : z_m20 m1) (h2 : z_m20 m2) (h3 : z_m20 m3) (h4 : z_m20 m4) (h5 : z_m20 m5) : z_CX G l mX8_clear 20 14 120 (z_cw rf kn ma xa fa ca mb xb fb cb mt xt ft ct f0 g0 c0 m0 s0 f1 g1 c1 m1 s1 f2 g2 c2 m2 s2 f3 g3 c3 m3 s3 f4 g4 c4 m4 s4 f5 g5 c5 m5 s5 ek0 em0 es0 el0 b0 ef0 ek1 em1 es1 el1 b1 ef1 []) [.ref 0, .int r] (fun v L => (∃ x : Int32, v = some (.int x)) ∧ z_Wk kn xa xb b0 b1 L) (fun E L => z_xI E ∧ L = (z_cw rf kn ma xa fa ca mb xb fb cb mt xt ft ct f0 g0 c0 m0 s0 f1 g1 c1 m1 s1 f2 g2 c2 m2 s2 f3 g3 c3 m3 s3 f4 g4 c4 m4 s4 f5 g5 c5 m5 s5 ek0 em0 es0 el0 b0 ef0 ek1 em1 es1 el1 b1 ef1 [])) := by
  refine z_body hl (by decide) rfl (Nat.le_of_ble_eq_true rfl) ?_
  show z_J G l mX8_clear (z_SX 20 14 120 (z_cw rf kn ma xa fa ca mb xb fb cb mt xt ft ct f0 g0 c0 m0 s0 f1 g1 c1 m1 s1 f2 g2 c2 m2 s2 f3 g3 c3 m3 s3 f4 g4 c4 m4 s4 f5 g5 c5 m5 s5 ek0 em0 es0 el0 b0 ef0 ek1 em1 es1 el1 b1 ef1 []) (fun v L => (∃ x : Int32, v = some (.int x)) ∧ z_Wk kn xa xb b0 b1 L) (fun E L => z_xI E ∧ L = (z_cw rf kn ma xa fa ca mb xb fb cb mt xt ft ct f0 g0 c0 m0 s0 f1 g1 c1 m1 s1 f2 g2 c2 m2 s2 f3 g3 c3 m3 s3 f4 g4 c4 m4 s4 f5 g5 c5 m5 s5 ek0 em0 es0 el0 b0 ef0 ek1 em1 es1 el1 b1 ef1 []))) 0 [(0, _), (1, _)] [] _ 0 0
  refine j_aload_n dX8_clear_0 rfl rfl ?_
  refine j_iload_n dX8_clear_1 rfl ?_
  refine j_callV (q := (RX8, TX8, 9)) dX8_clear_2 kX8_tableFor lX8_157 inX8_tableFor seX8_tableFor rfl rfl (z_dirX (c_X8_tableFor hl _ _ _ _ _ _ _ _ _ _ _ _ _ _ _ _ _ _ _ _ _ _ _ _ _ _ _ _ _ _ _ _ _ _ _ _ _ _ _ _ _ _ _ _ _ _ _ _ _ _ _ _ _ _ _ _ _)) (Nat.le_of_ble_eq_true rfl) ⟨(Nat.le_of_ble_eq_true rfl), (Nat.le_of_ble_eq_true rfl)⟩ rfl (Nat.le_of_ble_eq_true rfl) rfl rfl (fun _ _ h => by obtain ⟨_, ⟨h1, rfl⟩, rfl⟩ := h; exact ⟨rfl, rfl, x_I_I h1, rfl⟩) ?_
  rintro _ _ ⟨_, ⟨_, rfl, hr, rfl⟩, rfl⟩
  have hq_2 := hr
  rcases hr with ⟨e_2, rfl⟩ | ⟨e_2, rfl⟩ | ⟨e_2, rfl⟩
  · refine j_callV (q := (RX4, TX4, 5)) dX8_clear_5 kX4_makeEmpty lX8_166 inX4_makeEmpty seX4_makeEmpty rfl rfl (z_frame [10, 11, 12, 13, 14] rfl (by decide) (Nat.le_of_ble_eq_true rfl) (c_X4_makeEmpty hl _ _ _ _ _)) (Nat.le_of_ble_eq_true rfl) ⟨(Nat.le_of_ble_eq_true rfl), (Nat.le_of_ble_eq_true rfl)⟩ rfl (Nat.le_of_ble_eq_true rfl) rfl rfl (fun _ _ h => h.elim) ?_
    rintro _ _ ⟨_, _, ⟨_, rfl, _, rfl⟩, rfl, rfl⟩
    refine j_w (z_cw _ _ _ _ _ _ _ _ _ _ _ _ _ _ _ _ _ _ _ _ _ _ _ _ _ _ _ _ _ _ _ _ _ _ _ _ _ _ _ _ _ _ _ _ _ _ _ _ _ _ _ _ _ _ _ _ [], z_no) rfl ?_
    refine j_iret dX8_clear_8 rfl rfl ?_ (Nat.le_of_ble_eq_true rfl) (Nat.le_of_ble_eq_true rfl)
    exact ⟨rfl, rfl, ⟨_, rfl⟩, (z_wk (by first | assumption | exact z_m20z) (by first | assumption | exact z_m20z) (by first | assumption | exact z_m20z) (by first | assumption | exact z_m20z) (by first | assumption | exact z_m20z) (by first | assumption | exact z_m20z))⟩
  · refine j_callV (q := (RX4, TX4, 5)) dX8_clear_5 kX4_makeEmpty lX8_166 inX4_makeEmpty seX4_makeEmpty rfl rfl (z_frame [16, 17, 18, 19, 20] rfl (by decide) (Nat.le_of_ble_eq_true rfl) (c_X4_makeEmpty hl _ _ _ _ _)) (Nat.le_of_ble_eq_true rfl) ⟨(Nat.le_of_ble_eq_true rfl), (Nat.le_of_ble_eq_true rfl)⟩ rfl (Nat.le_of_ble_eq_true rfl) rfl rfl (fun _ _ h => h.elim) ?_
    rintro _ _ ⟨_, _, ⟨_, rfl, _, rfl⟩, rfl, rfl⟩
    refine j_w (z_cw _ _ _ _ _ _ _ _ _ _ _ _ _ _ _ _ _ _ _ _ _ _ _ _ _ _ _ _ _ _ _ _ _ _ _ _ _ _ _ _ _ _ _ _ _ _ _ _ _ _ _ _ _ _ _ _ [], z_no) rfl ?_
    refine j_iret dX8_clear_8 rfl rfl ?_ (Nat.le_of_ble_eq_true rfl) (Nat.le_of_ble_eq_true rfl)
    exact ⟨rfl, rfl, ⟨_, rfl⟩, (z_wk (by first | assumption | exact z_m20z) (by first | assumption | exact z_m20z) (by first | assumption | exact z_m20z) (by first | assumption | exact z_m20z) (by first | assumption | exact z_m20z) (by first | assumption | exact z_m20z))⟩
  · refine j_callV (q := (RX4, TX4, 5)) dX8_clear_5 kX4_makeEmpty lX8_166 inX4_makeEmpty seX4_makeEmpty rfl rfl (z_frame [21, 22, 23, 24, 25] rfl (by decide) (Nat.le_of_ble_eq_true rfl) (c_X4_makeEmpty hl _ _ _ _ _)) (Nat.le_of_ble_eq_true rfl) ⟨(Nat.le_of_ble_eq_true rfl), (Nat.le_of_ble_eq_true rfl)⟩ rfl (Nat.le_of_ble_eq_true rfl) rfl rfl (fun _ _ h => h.elim) ?_
    rintro _ _ ⟨_, _, ⟨_, rfl, _, rfl⟩, rfl, rfl⟩
    refine j_w (z_cw _ _ _ _ _ _ _ _ _ _ _ _ _ _ _ _ _ _ _ _ _ _ _ _ _ _ _ _ _ _ _ _ _ _ _ _ _ _ _ _ _ _ _ _ _ _ _ _ _ _ _ _ _ _ _ _ [], z_no) rfl ?_
    refine j_iret dX8_clear_8 rfl rfl ?_ (Nat.le_of_ble_eq_true rfl) (Nat.le_of_ble_eq_true rfl)
    exact ⟨rfl, rfl, ⟨_, rfl⟩, (z_wk (by first | assumption | exact z_m20z) (by first | assumption | exact z_m20z) (by first | assumption | exact z_m20z) (by first | assumption | exact z_m20z) (by first | assumption | exact z_m20z) (by first | assumption | exact z_m20z))⟩
set_option maxRecDepth 100000 in
set_option maxHeartbeats 8000000 in
theorem c_X8_hearTable (hl : l.stackTraces = false) (rf : Int32) (kn : Int32) (ma : Int32) (xa : Bool) (fa : Nat → Int32) (ca : Nat → Int32) (mb : Int32) (xb : Bool) (fb : Nat → Int32) (cb : Nat → Int32) (mt : Int32) (xt : Bool) (ft : Nat → Int32) (ct : Nat → Int32) (f0 : Nat → Int32) (g0 : Nat → Int32) (c0 : Nat → Int32) (m0 : Int32) (s0 : Int32) (f1 : Nat → Int32) (g1 : Nat → Int32) (c1 : Nat → Int32) (m1 : Int32) (s1 : Int32) (f2 : Nat → Int32) (g2 : Nat → Int32) (c2 : Nat → Int32) (m2 : Int32) (s2 : Int32) (f3 : Nat → Int32) (g3 : Nat → Int32) (c3 : Nat → Int32) (m3 : Int32) (s3 : Int32) (f4 : Nat → Int32) (g4 : Nat → Int32) (c4 : Nat → Int32) (m4 : Int32) (s4 : Int32) (f5 : Nat → Int32) (g5 : Nat → Int32) (c5 : Nat → Int32) (m5 : Int32) (s5 : Int32) (ek0 : Int32) (em0 : Int32) (es0 : Int32) (el0 : Int32) (b0 : Int32) (ef0 : Nat → Int32) (ek1 : Int32) (em1 : Int32) (es1 : Int32) (el1 : Int32) (b1 : Int32) (ef1 : Nat → Int32) (r p : Int32) (h0 : z_m20 m0) (h1 : z_m20 m1) (h2 : z_m20 m2) (h3 : z_m20 m3) (h4 : z_m20 m4) (h5 : z_m20 m5) : z_CX G l mX8_hearTable 20 14 120 (z_cw rf kn ma xa fa ca mb xb fb cb mt xt ft ct f0 g0 c0 m0 s0 f1 g1 c1 m1 s1 f2 g2 c2 m2 s2 f3 g3 c3 m3 s3 f4 g4 c4 m4 s4 f5 g5 c5 m5 s5 ek0 em0 es0 el0 b0 ef0 ek1 em1 es1 el1 b1 ef1 []) [.ref 0, .int r, .int p] (fun v L => (∃ x : Int32, v = some (.int x)) ∧ z_Wk kn xa xb b0 b1 L) (fun E L => z_xI E ∧ L = (z_cw rf kn ma xa fa ca mb xb fb cb mt xt ft ct f0 g0 c0 m0 s0 f1 g1 c1 m1 s1 f2 g2 c2 m2 s2 f3 g3 c3 m3 s3 f4 g4 c4 m4 s4 f5 g5 c5 m5 s5 ek0 em0 es0 el0 b0 ef0 ek1 em1 es1 el1 b1 ef1 [])) := by
  refine z_body hl (by decide) rfl (Nat.le_of_ble_eq_true rfl) ?_
  show z_J G l mX8_hearTable (z_SX 20 14 120 (z_cw rf kn ma xa fa ca mb xb fb cb mt xt ft ct f0 g0 c0 m0 s0 f1 g1 c1 m1 s1 f2 g2 c2 m2 s2 f3 g3 c3 m3 s3 f4 g4 c4 m4 s4 f5 g5 c5 m5 s5 ek0 em0 es0 el0 b0 ef0 ek1 em1 es1 el1 b1 ef1 []) (fun v L => (∃ x : Int32, v = some (.int x)) ∧ z_Wk kn xa xb b0 b1 L) (fun E L => z_xI E ∧ L = (z_cw rf kn ma xa fa ca mb xb fb cb mt xt ft ct f0 g0 c0 m0 s0 f1 g1 c1 m1 s1 f2 g2 c2 m2 s2 f3 g3 c3 m3 s3 f4 g4 c4 m4 s4 f5 g5 c5 m5 s5 ek0 em0 es0 el0 b0 ef0 ek1 em1 es1 el1 b1 ef1 []))) 0 [(0, _), (1, _), (2, _)] [] _ 0 0
  refine j_aload_n dX8_hearTable_0 rfl rfl ?_
  refine j_iload_n dX8_hearTable_1 rfl ?_
  refine j_callV (q := (RX8, TX8, 9)) dX8_hearTable_2 kX8_tableFor lX8_157 inX8_tableFor seX8_tableFor rfl rfl (z_dirX (c_X8_tableFor hl _ _ _ _ _ _ _ _ _ _ _ _ _ _ _ _ _ _ _ _ _ _ _ _ _ _ _ _ _ _ _ _ _ _ _ _ _ _ _ _ _ _ _ _ _ _ _ _ _ _ _ _ _ _ _ _ _)) (Nat.le_of_ble_eq_true rfl) ⟨(Nat.le_of_ble_eq_true rfl), (Nat.le_of_ble_eq_true rfl)⟩ rfl (Nat.le_of_ble_eq_true rfl) rfl rfl (fun _ _ h => by obtain ⟨_, ⟨h1, rfl⟩, rfl⟩ := h; exact ⟨rfl, rfl, x_I_I h1, rfl⟩) ?_
  rintro _ _ ⟨_, ⟨_, rfl, hr, rfl⟩, rfl⟩
  have hq_2 := hr
  rcases hr with ⟨e_2, rfl⟩ | ⟨e_2, rfl⟩ | ⟨e_2, rfl⟩
  · refine j_astore_n (lo' := [(3, _), (0, _), (1, _), (2, _)]) dX8_hearTable_5 rfl (by decide) rfl ?_
    refine j_aload_n dX8_hearTable_6 rfl rfl ?_
    refine j_iload_n dX8_hearTable_7 rfl ?_
    refine j_callV (q := (RX8, TX8, 9)) dX8_hearTable_8 kX8_hearerFor lX8_87 inX8_hearerFor seX8_hearerFor rfl rfl (z_dirX (c_X8_hearerFor hl _ _ _ _ _ _ _ _ _ _ _ _ _ _ _ _ _ _ _ _ _ _ _ _ _ _ _ _ _ _ _ _ _ _ _ _ _ _ _ _ _ _ _ _ _ _ _ _ _ _ _ _ _ _ _ _ _)) (Nat.le_of_ble_eq_true rfl) ⟨(Nat.le_of_ble_eq_true rfl), (Nat.le_of_ble_eq_true rfl)⟩ rfl (Nat.le_of_ble_eq_true rfl) rfl rfl (fun _ _ h => by obtain ⟨_, ⟨h1, rfl⟩, rfl⟩ := h; exact ⟨rfl, rfl, x_I_I h1, rfl⟩) ?_
    rintro _ _ ⟨_, ⟨_, rfl, hr, rfl⟩, rfl⟩
    have hq_8 := hr
    rcases hr with ⟨e_8, rfl⟩ | ⟨e_8, rfl⟩
    · refine j_astore (lo' := [(4, _), (3, _), (0, _), (1, _), (2, _)]) dX8_hearTable_11 rfl (by decide) rfl ?_
      refine j_aload_n dX8_hearTable_13 rfl rfl ?_
      refine j_new (w' := (z_cw _ _ _ _ _ _ _ _ _ _ _ _ _ _ _ _ _ _ _ _ _ _ _ _ _ _ _ _ _ _ _ _ _ _ _ _ _ _ _ _ _ _ _ _ _ _ _ _ _ _ _ _ _ _ _ _ [.inr (10, [_, _, _, _, _])], z_no)) (n := 51) dX8_hearTable_14 nX8_160 rfl (z_al_l rfl rfl) (Nat.le_of_ble_eq_true rfl) (Nat.le_of_ble_eq_true rfl) ?_
      refine j_dup dX8_hearTable_17 rfl ?_
      refine j_aload_n dX8_hearTable_18 rfl rfl ?_
      refine j_callI dX8_hearTable_19 kX5_init rfl lX8_162 inX5_init rfl (z_frame [51, 10, 11, 12, 13, 14] rfl (by decide) (Nat.le_of_ble_eq_true rfl) (c_X5_init hl _ _ _ _ _)) (Nat.le_of_ble_eq_true rfl) ⟨(Nat.le_of_ble_eq_true rfl), (Nat.le_of_ble_eq_true rfl)⟩ rfl (Nat.le_of_ble_eq_true rfl) rfl rfl (fun _ _ h => h.elim) ?_
      rintro _ _ ⟨_, _, ⟨rfl, _, rfl⟩, rfl, rfl⟩
      refine j_w (z_cw _ _ _ _ _ _ _ _ _ _ _ _ _ _ _ _ _ _ _ _ _ _ _ _ _ _ _ _ _ _ _ _ _ _ _ _ _ _ _ _ _ _ _ _ _ _ _ _ _ _ _ _ _ _ _ _ [.inr (10, [_, _, _, _, _])], z_no) rfl ?_
      refine j_aload dX8_hearTable_22 rfl rfl ?_
      refine j_callS dX8_hearTable_24 kX8_hearOut lX8_96 stX8_hearOut (z_frame [51, 10, 11, 12, 13, 14, 27, 28] rfl (by decide) (Nat.le_of_ble_eq_true rfl) (c_X8_hearOut_X5 hl _ _ _ _ _ _ _ _ _ _ _ _ _ _)) (Nat.le_of_ble_eq_true rfl) ⟨(Nat.le_of_ble_eq_true rfl), (Nat.le_of_ble_eq_true rfl)⟩ rfl (Nat.le_of_ble_eq_true rfl) rfl rfl (fun _ _ h => h.elim) ?_
      rintro _ _ ⟨_, _, ⟨_, rfl, _, _, _, _, _, _, _, _, _, rfl⟩, rfl, rfl⟩
      refine j_w (z_cw _ _ _ _ _ _ _ _ _ _ _ _ _ _ _ _ _ _ _ _ _ _ _ _ _ _ _ _ _ _ _ _ _ _ _ _ _ _ _ _ _ _ _ _ _ _ _ _ _ _ _ _ _ _ _ _ [.inr (10, [_, _, _, _, _])], z_no) rfl ?_
      refine j_lo (lo' := []) z_q0 ?_
      refine j_dropL (n := 51) rfl (Nat.le_of_ble_eq_true rfl) (Nat.le_of_ble_eq_true rfl) (Nat.le_of_ble_eq_true rfl) z_cwc rfl rfl ?_
      refine j_w (z_cw _ _ _ _ _ _ _ _ _ _ _ _ _ _ _ _ _ _ _ _ _ _ _ _ _ _ _ _ _ _ _ _ _ _ _ _ _ _ _ _ _ _ _ _ _ _ _ _ _ _ _ _ _ _ _ _ [], z_no) rfl ?_
      refine j_callV (q := (RX8, TX8, 9)) dX8_hearTable_27 kX8_answer lX8_100 inX8_answer seX8_answer rfl rfl (z_dirF (c_X8_answer hl _ _ _ _ _ _ _ _ _ _ _ _ _ _ _ _ _ _ _ _ _ _ _ _ _ _ _ _ _ _ _ _ _ _ _ _ _ _ _ _ _ _ _ _ _ _ _ _ _ _ _ _ _ _ _ _ _)) (Nat.le_of_ble_eq_true rfl) ⟨(Nat.le_of_ble_eq_true rfl), (Nat.le_of_ble_eq_true rfl)⟩ rfl (Nat.le_of_ble_eq_true rfl) rfl rfl (fun _ _ h => h.elim) ?_
      rintro _ _ ⟨_, ⟨⟨_, rfl⟩, _, rfl⟩, rfl⟩
      refine j_iret dX8_hearTable_30 rfl rfl ?_ (Nat.le_of_ble_eq_true rfl) (Nat.le_of_ble_eq_true rfl)
      exact ⟨rfl, rfl, ⟨_, rfl⟩, (z_wk (by first | assumption | exact z_m20z) (by first | assumption | exact z_m20z) (by first | assumption | exact z_m20z) (by first | assumption | exact z_m20z) (by first | assumption | exact z_m20z) (by first | assumption | exact z_m20z))⟩
    · refine j_astore (lo' := [(4, _), (3, _), (0, _), (1, _), (2, _)]) dX8_hearTable_11 rfl (by decide) rfl ?_
      refine j_aload_n dX8_hearTable_13 rfl rfl ?_
      refine j_new (w' := (z_cw _ _ _ _ _ _ _ _ _ _ _ _ _ _ _ _ _ _ _ _ _ _ _ _ _ _ _ _ _ _ _ _ _ _ _ _ _ _ _ _ _ _ _ _ _ _ _ _ _ _ _ _ _ _ _ _ [.inr (10, [_, _, _, _, _])], z_no)) (n := 51) dX8_hearTable_14 nX8_160 rfl (z_al_l rfl rfl) (Nat.le_of_ble_eq_true rfl) (Nat.le_of_ble_eq_true rfl) ?_
      refine j_dup dX8_hearTable_17 rfl ?_
      refine j_aload_n dX8_hearTable_18 rfl rfl ?_
      refine j_callI dX8_hearTable_19 kX5_init rfl lX8_162 inX5_init rfl (z_frame [51, 10, 11, 12, 13, 14] rfl (by decide) (Nat.le_of_ble_eq_true rfl) (c_X5_init hl _ _ _ _ _)) (Nat.le_of_ble_eq_true rfl) ⟨(Nat.le_of_ble_eq_true rfl), (Nat.le_of_ble_eq_true rfl)⟩ rfl (Nat.le_of_ble_eq_true rfl) rfl rfl (fun _ _ h => h.elim) ?_
      rintro _ _ ⟨_, _, ⟨rfl, _, rfl⟩, rfl, rfl⟩
      refine j_w (z_cw _ _ _ _ _ _ _ _ _ _ _ _ _ _ _ _ _ _ _ _ _ _ _ _ _ _ _ _ _ _ _ _ _ _ _ _ _ _ _ _ _ _ _ _ _ _ _ _ _ _ _ _ _ _ _ _ [.inr (10, [_, _, _, _, _])], z_no) rfl ?_
      refine j_aload dX8_hearTable_22 rfl rfl ?_
      refine j_callS dX8_hearTable_24 kX8_hearOut lX8_96 stX8_hearOut (z_frame [51, 10, 11, 12, 13, 14, 29, 30] rfl (by decide) (Nat.le_of_ble_eq_true rfl) (c_X8_hearOut_X5 hl _ _ _ _ _ _ _ _ _ _ _ _ _ _)) (Nat.le_of_ble_eq_true rfl) ⟨(Nat.le_of_ble_eq_true rfl), (Nat.le_of_ble_eq_true rfl)⟩ rfl (Nat.le_of_ble_eq_true rfl) rfl rfl (fun _ _ h => h.elim) ?_
      rintro _ _ ⟨_, _, ⟨_, rfl, _, _, _, _, _, _, _, _, _, rfl⟩, rfl, rfl⟩
      refine j_w (z_cw _ _ _ _ _ _ _ _ _ _ _ _ _ _ _ _ _ _ _ _ _ _ _ _ _ _ _ _ _ _ _ _ _ _ _ _ _ _ _ _ _ _ _ _ _ _ _ _ _ _ _ _ _ _ _ _ [.inr (10, [_, _, _, _, _])], z_no) rfl ?_
      refine j_lo (lo' := []) z_q0 ?_
      refine j_dropL (n := 51) rfl (Nat.le_of_ble_eq_true rfl) (Nat.le_of_ble_eq_true rfl) (Nat.le_of_ble_eq_true rfl) z_cwc rfl rfl ?_
      refine j_w (z_cw _ _ _ _ _ _ _ _ _ _ _ _ _ _ _ _ _ _ _ _ _ _ _ _ _ _ _ _ _ _ _ _ _ _ _ _ _ _ _ _ _ _ _ _ _ _ _ _ _ _ _ _ _ _ _ _ [], z_no) rfl ?_
      refine j_callV (q := (RX8, TX8, 9)) dX8_hearTable_27 kX8_answer lX8_100 inX8_answer seX8_answer rfl rfl (z_dirF (c_X8_answer hl _ _ _ _ _ _ _ _ _ _ _ _ _ _ _ _ _ _ _ _ _ _ _ _ _ _ _ _ _ _ _ _ _ _ _ _ _ _ _ _ _ _ _ _ _ _ _ _ _ _ _ _ _ _ _ _ _)) (Nat.le_of_ble_eq_true rfl) ⟨(Nat.le_of_ble_eq_true rfl), (Nat.le_of_ble_eq_true rfl)⟩ rfl (Nat.le_of_ble_eq_true rfl) rfl rfl (fun _ _ h => h.elim) ?_
      rintro _ _ ⟨_, ⟨⟨_, rfl⟩, _, rfl⟩, rfl⟩
      refine j_iret dX8_hearTable_30 rfl rfl ?_ (Nat.le_of_ble_eq_true rfl) (Nat.le_of_ble_eq_true rfl)
      exact ⟨rfl, rfl, ⟨_, rfl⟩, (z_wk (by first | assumption | exact z_m20z) (by first | assumption | exact z_m20z) (by first | assumption | exact z_m20z) (by first | assumption | exact z_m20z) (by first | assumption | exact z_m20z) (by first | assumption | exact z_m20z))⟩
  · refine j_astore_n (lo' := [(3, _), (0, _), (1, _), (2, _)]) dX8_hearTable_5 rfl (by decide) rfl ?_
    refine j_aload_n dX8_hearTable_6 rfl rfl ?_
    refine j_iload_n dX8_hearTable_7 rfl ?_
    refine j_callV (q := (RX8, TX8, 9)) dX8_hearTable_8 kX8_hearerFor lX8_87 inX8_hearerFor seX8_hearerFor rfl rfl (z_dirX (c_X8_hearerFor hl _ _ _ _ _ _ _ _ _ _ _ _ _ _ _ _ _ _ _ _ _ _ _ _ _ _ _ _ _ _ _ _ _ _ _ _ _ _ _ _ _ _ _ _ _ _ _ _ _ _ _ _ _ _ _ _ _)) (Nat.le_of_ble_eq_true rfl) ⟨(Nat.le_of_ble_eq_true rfl), (Nat.le_of_ble_eq_true rfl)⟩ rfl (Nat.le_of_ble_eq_true rfl) rfl rfl (fun _ _ h => by obtain ⟨_, ⟨h1, rfl⟩, rfl⟩ := h; exact ⟨rfl, rfl, x_I_I h1, rfl⟩) ?_
    rintro _ _ ⟨_, ⟨_, rfl, hr, rfl⟩, rfl⟩
    have hq_8 := hr
    rcases hr with ⟨e_8, rfl⟩ | ⟨e_8, rfl⟩
    · refine j_astore (lo' := [(4, _), (3, _), (0, _), (1, _), (2, _)]) dX8_hearTable_11 rfl (by decide) rfl ?_
      refine j_aload_n dX8_hearTable_13 rfl rfl ?_
      refine j_new (w' := (z_cw _ _ _ _ _ _ _ _ _ _ _ _ _ _ _ _ _ _ _ _ _ _ _ _ _ _ _ _ _ _ _ _ _ _ _ _ _ _ _ _ _ _ _ _ _ _ _ _ _ _ _ _ _ _ _ _ [.inr (10, [_, _, _, _, _])], z_no)) (n := 51) dX8_hearTable_14 nX8_160 rfl (z_al_l rfl rfl) (Nat.le_of_ble_eq_true rfl) (Nat.le_of_ble_eq_true rfl) ?_
      refine j_dup dX8_hearTable_17 rfl ?_
      refine j_aload_n dX8_hearTable_18 rfl rfl ?_
      refine j_callI dX8_hearTable_19 kX5_init rfl lX8_162 inX5_init rfl (z_frame [51, 16, 17, 18, 19, 20] rfl (by decide) (Nat.le_of_ble_eq_true rfl) (c_X5_init hl _ _ _ _ _)) (Nat.le_of_ble_eq_true rfl) ⟨(Nat.le_of_ble_eq_true rfl), (Nat.le_of_ble_eq_true rfl)⟩ rfl (Nat.le_of_ble_eq_true rfl) rfl rfl (fun _ _ h => h.elim) ?_
      rintro _ _ ⟨_, _, ⟨rfl, _, rfl⟩, rfl, rfl⟩
      refine j_w (z_cw _ _ _ _ _ _ _ _ _ _ _ _ _ _ _ _ _ _ _ _ _ _ _ _ _ _ _ _ _ _ _ _ _ _ _ _ _ _ _ _ _ _ _ _ _ _ _ _ _ _ _ _ _ _ _ _ [.inr (10, [_, _, _, _, _])], z_no) rfl ?_
      refine j_aload dX8_hearTable_22 rfl rfl ?_
      refine j_callS dX8_hearTable_24 kX8_hearOut lX8_96 stX8_hearOut (z_frame [51, 16, 17, 18, 19, 20, 27, 28] rfl (by decide) (Nat.le_of_ble_eq_true rfl) (c_X8_hearOut_X5 hl _ _ _ _ _ _ _ _ _ _ _ _ _ _)) (Nat.le_of_ble_eq_true rfl) ⟨(Nat.le_of_ble_eq_true rfl), (Nat.le_of_ble_eq_true rfl)⟩ rfl (Nat.le_of_ble_eq_true rfl) rfl rfl (fun _ _ h => h.elim) ?_
      rintro _ _ ⟨_, _, ⟨_, rfl, _, _, _, _, _, _, _, _, _, rfl⟩, rfl, rfl⟩
      refine j_w (z_cw _ _ _ _ _ _ _ _ _ _ _ _ _ _ _ _ _ _ _ _ _ _ _ _ _ _ _ _ _ _ _ _ _ _ _ _ _ _ _ _ _ _ _ _ _ _ _ _ _ _ _ _ _ _ _ _ [.inr (10, [_, _, _, _, _])], z_no) rfl ?_
      refine j_lo (lo' := []) z_q0 ?_
      refine j_dropL (n := 51) rfl (Nat.le_of_ble_eq_true rfl) (Nat.le_of_ble_eq_true rfl) (Nat.le_of_ble_eq_true rfl) z_cwc rfl rfl ?_
      refine j_w (z_cw _ _ _ _ _ _ _ _ _ _ _ _ _ _ _ _ _ _ _ _ _ _ _ _ _ _ _ _ _ _ _ _ _ _ _ _ _ _ _ _ _ _ _ _ _ _ _ _ _ _ _ _ _ _ _ _ [], z_no) rfl ?_
      refine j_callV (q := (RX8, TX8, 9)) dX8_hearTable_27 kX8_answer lX8_100 inX8_answer seX8_answer rfl rfl (z_dirF (c_X8_answer hl _ _ _ _ _ _ _ _ _ _ _ _ _ _ _ _ _ _ _ _ _ _ _ _ _ _ _ _ _ _ _ _ _ _ _ _ _ _ _ _ _ _ _ _ _ _ _ _ _ _ _ _ _ _ _ _ _)) (Nat.le_of_ble_eq_true rfl) ⟨(Nat.le_of_ble_eq_true rfl), (Nat.le_of_ble_eq_true rfl)⟩ rfl (Nat.le_of_ble_eq_true rfl) rfl rfl (fun _ _ h => h.elim) ?_
      rintro _ _ ⟨_, ⟨⟨_, rfl⟩, _, rfl⟩, rfl⟩
      refine j_iret dX8_hearTable_30 rfl rfl ?_ (Nat.le_of_ble_eq_true rfl) (Nat.le_of_ble_eq_true rfl)
      exact ⟨rfl, rfl, ⟨_, rfl⟩, (z_wk (by first | assumption | exact z_m20z) (by first | assumption | exact z_m20z) (by first | assumption | exact z_m20z) (by first | assumption | exact z_m20z) (by first | assumption | exact z_m20z) (by first | assumption | exact z_m20z))⟩
    · refine j_astore (lo' := [(4, _), (3, _), (0, _), (1, _), (2, _)]) dX8_hearTable_11 rfl (by decide) rfl ?_
      refine j_aload_n dX8_hearTable_13 rfl rfl ?_
      refine j_new (w' := (z_cw _ _ _ _ _ _ _ _ _ _ _ _ _ _ _ _ _ _ _ _ _ _ _ _ _ _ _ _ _ _ _ _ _ _ _ _ _ _ _ _ _ _ _ _ _ _ _ _ _ _ _ _ _ _ _ _ [.inr (10, [_, _, _, _, _])], z_no)) (n := 51) dX8_hearTable_14 nX8_160 rfl (z_al_l rfl rfl) (Nat.le_of_ble_eq_true rfl) (Nat.le_of_ble_eq_true rfl) ?_
      refine j_dup dX8_hearTable_17 rfl ?_
      refine j_aload_n dX8_hearTable_18 rfl rfl ?_
      refine j_callI dX8_hearTable_19 kX5_init rfl lX8_162 inX5_init rfl (z_frame [51, 16, 17, 18, 19, 20] rfl (by decide) (Nat.le_of_ble_eq_true rfl) (c_X5_init hl _ _ _ _ _)) (Nat.le_of_ble_eq_true rfl) ⟨(Nat.le_of_ble_eq_true rfl), (Nat.le_of_ble_eq_true rfl)⟩ rfl (Nat.le_of_ble_eq_true rfl) rfl rfl (fun _ _ h => h.elim) ?_
      rintro _ _ ⟨_, _, ⟨rfl, _, rfl⟩, rfl, rfl⟩
      refine j_w (z_cw _ _ _ _ _ _ _ _ _ _ _ _ _ _ _ _ _ _ _ _ _ _ _ _ _ _ _ _ _ _ _ _ _ _ _ _ _ _ _ _ _ _ _ _ _ _ _ _ _ _ _ _ _ _ _ _ [.inr (10, [_, _, _, _, _])], z_no) rfl ?_
      refine j_aload dX8_hearTable_22 rfl rfl ?_
      refine j_callS dX8_hearTable_24 kX8_hearOut lX8_96 stX8_hearOut (z_frame [51, 16, 17, 18, 19, 20, 29, 30] rfl (by decide) (Nat.le_of_ble_eq_true rfl) (c_X8_hearOut_X5 hl _ _ _ _ _ _ _ _ _ _ _ _ _ _)) (Nat.le_of_ble_eq_true rfl) ⟨(Nat.le_of_ble_eq_true rfl), (Nat.le_of_ble_eq_true rfl)⟩ rfl (Nat.le_of_ble_eq_true rfl) rfl rfl (fun _ _ h => h.elim) ?_
      rintro _ _ ⟨_, _, ⟨_, rfl, _, _, _, _, _, _, _, _, _, rfl⟩, rfl, rfl⟩
      refine j_w (z_cw _ _ _ _ _ _ _ _ _ _ _ _ _ _ _ _ _ _ _ _ _ _ _ _ _ _ _ _ _ _ _ _ _ _ _ _ _ _ _ _ _ _ _ _ _ _ _ _ _ _ _ _ _ _ _ _ [.inr (10, [_, _, _, _, _])], z_no) rfl ?_
      refine j_lo (lo' := []) z_q0 ?_
      refine j_dropL (n := 51) rfl (Nat.le_of_ble_eq_true rfl) (Nat.le_of_ble_eq_true rfl) (Nat.le_of_ble_eq_true rfl) z_cwc rfl rfl ?_
      refine j_w (z_cw _ _ _ _ _ _ _ _ _ _ _ _ _ _ _ _ _ _ _ _ _ _ _ _ _ _ _ _ _ _ _ _ _ _ _ _ _ _ _ _ _ _ _ _ _ _ _ _ _ _ _ _ _ _ _ _ [], z_no) rfl ?_
      refine j_callV (q := (RX8, TX8, 9)) dX8_hearTable_27 kX8_answer lX8_100 inX8_answer seX8_answer rfl rfl (z_dirF (c_X8_answer hl _ _ _ _ _ _ _ _ _ _ _ _ _ _ _ _ _ _ _ _ _ _ _ _ _ _ _ _ _ _ _ _ _ _ _ _ _ _ _ _ _ _ _ _ _ _ _ _ _ _ _ _ _ _ _ _ _)) (Nat.le_of_ble_eq_true rfl) ⟨(Nat.le_of_ble_eq_true rfl), (Nat.le_of_ble_eq_true rfl)⟩ rfl (Nat.le_of_ble_eq_true rfl) rfl rfl (fun _ _ h => h.elim) ?_
      rintro _ _ ⟨_, ⟨⟨_, rfl⟩, _, rfl⟩, rfl⟩
      refine j_iret dX8_hearTable_30 rfl rfl ?_ (Nat.le_of_ble_eq_true rfl) (Nat.le_of_ble_eq_true rfl)
      exact ⟨rfl, rfl, ⟨_, rfl⟩, (z_wk (by first | assumption | exact z_m20z) (by first | assumption | exact z_m20z) (by first | assumption | exact z_m20z) (by first | assumption | exact z_m20z) (by first | assumption | exact z_m20z) (by first | assumption | exact z_m20z))⟩
  · refine j_astore_n (lo' := [(3, _), (0, _), (1, _), (2, _)]) dX8_hearTable_5 rfl (by decide) rfl ?_
    refine j_aload_n dX8_hearTable_6 rfl rfl ?_
    refine j_iload_n dX8_hearTable_7 rfl ?_
    refine j_callV (q := (RX8, TX8, 9)) dX8_hearTable_8 kX8_hearerFor lX8_87 inX8_hearerFor seX8_hearerFor rfl rfl (z_dirX (c_X8_hearerFor hl _ _ _ _ _ _ _ _ _ _ _ _ _ _ _ _ _ _ _ _ _ _ _ _ _ _ _ _ _ _ _ _ _ _ _ _ _ _ _ _ _ _ _ _ _ _ _ _ _ _ _ _ _ _ _ _ _)) (Nat.le_of_ble_eq_true rfl) ⟨(Nat.le_of_ble_eq_true rfl), (Nat.le_of_ble_eq_true rfl)⟩ rfl (Nat.le_of_ble_eq_true rfl) rfl rfl (fun _ _ h => by obtain ⟨_, ⟨h1, rfl⟩, rfl⟩ := h; exact ⟨rfl, rfl, x_I_I h1, rfl⟩) ?_
    rintro _ _ ⟨_, ⟨_, rfl, hr, rfl⟩, rfl⟩
    have hq_8 := hr
    rcases hr with ⟨e_8, rfl⟩ | ⟨e_8, rfl⟩
    · refine j_astore (lo' := [(4, _), (3, _), (0, _), (1, _), (2, _)]) dX8_hearTable_11 rfl (by decide) rfl ?_
      refine j_aload_n dX8_hearTable_13 rfl rfl ?_
      refine j_new (w' := (z_cw _ _ _ _ _ _ _ _ _ _ _ _ _ _ _ _ _ _ _ _ _ _ _ _ _ _ _ _ _ _ _ _ _ _ _ _ _ _ _ _ _ _ _ _ _ _ _ _ _ _ _ _ _ _ _ _ [.inr (10, [_, _, _, _, _])], z_no)) (n := 51) dX8_hearTable_14 nX8_160 rfl (z_al_l rfl rfl) (Nat.le_of_ble_eq_true rfl) (Nat.le_of_ble_eq_true rfl) ?_
      refine j_dup dX8_hearTable_17 rfl ?_
      refine j_aload_n dX8_hearTable_18 rfl rfl ?_
      refine j_callI dX8_hearTable_19 kX5_init rfl lX8_162 inX5_init rfl (z_frame [51, 21, 22, 23, 24, 25] rfl (by decide) (Nat.le_of_ble_eq_true rfl) (c_X5_init hl _ _ _ _ _)) (Nat.le_of_ble_eq_true rfl) ⟨(Nat.le_of_ble_eq_true rfl), (Nat.le_of_ble_eq_true rfl)⟩ rfl (Nat.le_of_ble_eq_true rfl) rfl rfl (fun _ _ h => h.elim) ?_
      rintro _ _ ⟨_, _, ⟨rfl, _, rfl⟩, rfl, rfl⟩
      refine j_w (z_cw _ _ _ _ _ _ _ _ _ _ _ _ _ _ _ _ _ _ _ _ _ _ _ _ _ _ _ _ _ _ _ _ _ _ _ _ _ _ _ _ _ _ _ _ _ _ _ _ _ _ _ _ _ _ _ _ [.inr (10, [_, _, _, _, _])], z_no) rfl ?_
      refine j_aload dX8_hearTable_22 rfl rfl ?_
      refine j_callS dX8_hearTable_24 kX8_hearOut lX8_96 stX8_hearOut (z_frame [51, 21, 22, 23, 24, 25, 27, 28] rfl (by decide) (Nat.le_of_ble_eq_true rfl) (c_X8_hearOut_X5 hl _ _ _ _ _ _ _ _ _ _ _ _ _ _)) (Nat.le_of_ble_eq_true rfl) ⟨(Nat.le_of_ble_eq_true rfl), (Nat.le_of_ble_eq_true rfl)⟩ rfl (Nat.le_of_ble_eq_true rfl) rfl rfl (fun _ _ h => h.elim) ?_
      rintro _ _ ⟨_, _, ⟨_, rfl, _, _, _, _, _, _, _, _, _, rfl⟩, rfl, rfl⟩
      refine j_w (z_cw _ _ _ _ _ _ _ _ _ _ _ _ _ _ _ _ _ _ _ _ _ _ _ _ _ _ _ _ _ _ _ _ _ _ _ _ _ _ _ _ _ _ _ _ _ _ _ _ _ _ _ _ _ _ _ _ [.inr (10, [_, _, _, _, _])], z_no) rfl ?_
      refine j_lo (lo' := []) z_q0 ?_
      refine j_dropL (n := 51) rfl (Nat.le_of_ble_eq_true rfl) (Nat.le_of_ble_eq_true rfl) (Nat.le_of_ble_eq_true rfl) z_cwc rfl rfl ?_
      refine j_w (z_cw _ _ _ _ _ _ _ _ _ _ _ _ _ _ _ _ _ _ _ _ _ _ _ _ _ _ _ _ _ _ _ _ _ _ _ _ _ _ _ _ _ _ _ _ _ _ _ _ _ _ _ _ _ _ _ _ [], z_no) rfl ?_
      refine j_callV (q := (RX8, TX8, 9)) dX8_hearTable_27 kX8_answer lX8_100 inX8_answer seX8_answer rfl rfl (z_dirF (c_X8_answer hl _ _ _ _ _ _ _ _ _ _ _ _ _ _ _ _ _ _ _ _ _ _ _ _ _ _ _ _ _ _ _ _ _ _ _ _ _ _ _ _ _ _ _ _ _ _ _ _ _ _ _ _ _ _ _ _ _)) (Nat.le_of_ble_eq_true rfl) ⟨(Nat.le_of_ble_eq_true rfl), (Nat.le_of_ble_eq_true rfl)⟩ rfl (Nat.le_of_ble_eq_true rfl) rfl rfl (fun _ _ h => h.elim) ?_
      rintro _ _ ⟨_, ⟨⟨_, rfl⟩, _, rfl⟩, rfl⟩
      refine j_iret dX8_hearTable_30 rfl rfl ?_ (Nat.le_of_ble_eq_true rfl) (Nat.le_of_ble_eq_true rfl)
      exact ⟨rfl, rfl, ⟨_, rfl⟩, (z_wk (by first | assumption | exact z_m20z) (by first | assumption | exact z_m20z) (by first | assumption | exact z_m20z) (by first | assumption | exact z_m20z) (by first | assumption | exact z_m20z) (by first | assumption | exact z_m20z))⟩
    · refine j_astore (lo' := [(4, _), (3, _), (0, _), (1, _), (2, _)]) dX8_hearTable_11 rfl (by decide) rfl ?_
      refine j_aload_n dX8_hearTable_13 rfl rfl ?_
      refine j_new (w' := (z_cw _ _ _ _ _ _ _ _ _ _ _ _ _ _ _ _ _ _ _ _ _ _ _ _ _ _ _ _ _ _ _ _ _ _ _ _ _ _ _ _ _ _ _ _ _ _ _ _ _ _ _ _ _ _ _ _ [.inr (10, [_, _, _, _, _])], z_no)) (n := 51) dX8_hearTable_14 nX8_160 rfl (z_al_l rfl rfl) (Nat.le_of_ble_eq_true rfl) (Nat.le_of_ble_eq_true rfl) ?_
      refine j_dup dX8_hearTable_17 rfl ?_
      refine j_aload_n dX8_hearTable_18 rfl rfl ?_
      refine j_callI dX8_hearTable_19 kX5_init rfl lX8_162 inX5_init rfl (z_frame [51, 21, 22, 23, 24, 25] rfl (by decide) (Nat.le_of_ble_eq_true rfl) (c_X5_init hl _ _ _ _ _)) (Nat.le_of_ble_eq_true rfl) ⟨(Nat.le_of_ble_eq_true rfl), (Nat.le_of_ble_eq_true rfl)⟩ rfl (Nat.le_of_ble_eq_true rfl) rfl rfl (fun _ _ h => h.elim) ?_
      rintro _ _ ⟨_, _, ⟨rfl, _, rfl⟩, rfl, rfl⟩
      refine j_w (z_cw _ _ _ _ _ _ _ _ _ _ _ _ _ _ _ _ _ _ _ _ _ _ _ _ _ _ _ _ _ _ _ _ _ _ _ _ _ _ _ _ _ _ _ _ _ _ _ _ _ _ _ _ _ _ _ _ [.inr (10, [_, _, _, _, _])], z_no) rfl ?_
      refine j_aload dX8_hearTable_22 rfl rfl ?_
      refine j_callS dX8_hearTable_24 kX8_hearOut lX8_96 stX8_hearOut (z_frame [51, 21, 22, 23, 24, 25, 29, 30] rfl (by decide) (Nat.le_of_ble_eq_true rfl) (c_X8_hearOut_X5 hl _ _ _ _ _ _ _ _ _ _ _ _ _ _)) (Nat.le_of_ble_eq_true rfl) ⟨(Nat.le_of_ble_eq_true rfl), (Nat.le_of_ble_eq_true rfl)⟩ rfl (Nat.le_of_ble_eq_true rfl) rfl rfl (fun _ _ h => h.elim) ?_
      rintro _ _ ⟨_, _, ⟨_, rfl, _, _, _, _, _, _, _, _, _, rfl⟩, rfl, rfl⟩
      refine j_w (z_cw _ _ _ _ _ _ _ _ _ _ _ _ _ _ _ _ _ _ _ _ _ _ _ _ _ _ _ _ _ _ _ _ _ _ _ _ _ _ _ _ _ _ _ _ _ _ _ _ _ _ _ _ _ _ _ _ [.inr (10, [_, _, _, _, _])], z_no) rfl ?_
      refine j_lo (lo' := []) z_q0 ?_
      refine j_dropL (n := 51) rfl (Nat.le_of_ble_eq_true rfl) (Nat.le_of_ble_eq_true rfl) (Nat.le_of_ble_eq_true rfl) z_cwc rfl rfl ?_
      refine j_w (z_cw _ _ _ _ _ _ _ _ _ _ _ _ _ _ _ _ _ _ _ _ _ _ _ _ _ _ _ _ _ _ _ _ _ _ _ _ _ _ _ _ _ _ _ _ _ _ _ _ _ _ _ _ _ _ _ _ [], z_no) rfl ?_
      refine j_callV (q := (RX8, TX8, 9)) dX8_hearTable_27 kX8_answer lX8_100 inX8_answer seX8_answer rfl rfl (z_dirF (c_X8_answer hl _ _ _ _ _ _ _ _ _ _ _ _ _ _ _ _ _ _ _ _ _ _ _ _ _ _ _ _ _ _ _ _ _ _ _ _ _ _ _ _ _ _ _ _ _ _ _ _ _ _ _ _ _ _ _ _ _)) (Nat.le_of_ble_eq_true rfl) ⟨(Nat.le_of_ble_eq_true rfl), (Nat.le_of_ble_eq_true rfl)⟩ rfl (Nat.le_of_ble_eq_true rfl) rfl rfl (fun _ _ h => h.elim) ?_
      rintro _ _ ⟨_, ⟨⟨_, rfl⟩, _, rfl⟩, rfl⟩
      refine j_iret dX8_hearTable_30 rfl rfl ?_ (Nat.le_of_ble_eq_true rfl) (Nat.le_of_ble_eq_true rfl)
      exact ⟨rfl, rfl, ⟨_, rfl⟩, (z_wk (by first | assumption | exact z_m20z) (by first | assumption | exact z_m20z) (by first | assumption | exact z_m20z) (by first | assumption | exact z_m20z) (by first | assumption | exact z_m20z) (by first | assumption | exact z_m20z))⟩
set_option maxRecDepth 100000 in
set_option maxHeartbeats 8000000 in
theorem c_X8_replaceTable (hl : l.stackTraces = false) (rf : Int32) (kn : Int32) (ma : Int32) (xa : Bool) (fa : Nat → Int32) (ca : Nat → Int32) (mb : Int32) (xb : Bool) (fb : Nat → Int32) (cb : Nat → Int32) (mt : Int32) (xt : Bool) (ft : Nat → Int32) (ct : Nat → Int32) (f0 : Nat → Int32) (g0 : Nat → Int32) (c0 : Nat → Int32) (m0 : Int32) (s0 : Int32) (f1 : Nat → Int32) (g1 : Nat → Int32) (c1 : Nat → Int32) (m1 : Int32) (s1 : Int32) (f2 : Nat → Int32) (g2 : Nat → Int32) (c2 : Nat → Int32) (m2 : Int32) (s2 : Int32) (f3 : Nat → Int32) (g3 : Nat → Int32) (c3 : Nat → Int32) (m3 : Int32) (s3 : Int32) (f4 : Nat → Int32) (g4 : Nat → Int32) (c4 : Nat → Int32) (m4 : Int32) (s4 : Int32) (f5 : Nat → Int32) (g5 : Nat → Int32) (c5 : Nat → Int32) (m5 : Int32) (s5 : Int32) (ek0 : Int32) (em0 : Int32) (es0 : Int32) (el0 : Int32) (b0 : Int32) (ef0 : Nat → Int32) (ek1 : Int32) (em1 : Int32) (es1 : Int32) (el1 : Int32) (b1 : Int32) (ef1 : Nat → Int32) (r p q : Int32) (h0 : z_m20 m0) (h1 : z_m20 m1) (h2 : z_m20 m2) (h3 : z_m20 m3) (h4 : z_m20 m4) (h5 : z_m20 m5) : z_CX G l mX8_replaceTable 20 14 120 (z_cw rf kn ma xa fa ca mb xb fb cb mt xt ft ct f0 g0 c0 m0 s0 f1 g1 c1 m1 s1 f2 g2 c2 m2 s2 f3 g3 c3 m3 s3 f4 g4 c4 m4 s4 f5 g5 c5 m5 s5 ek0 em0 es0 el0 b0 ef0 ek1 em1 es1 el1 b1 ef1 []) [.ref 0, .int r, .int p, .int q] (fun v L => (∃ x : Int32, v = some (.int x)) ∧ z_Wk kn xa xb b0 b1 L) (fun E L => z_xIA E ∧ L = (z_cw rf kn ma xa fa ca mb xb fb cb mt xt ft ct f0 g0 c0 m0 s0 f1 g1 c1 m1 s1 f2 g2 c2 m2 s2 f3 g3 c3 m3 s3 f4 g4 c4 m4 s4 f5 g5 c5 m5 s5 ek0 em0 es0 el0 b0 ef0 ek1 em1 es1 el1 b1 ef1 [])) := by
  refine z_body hl (by decide) rfl (Nat.le_of_ble_eq_true rfl) ?_
  show z_J G l mX8_replaceTable (z_SX 20 14 120 (z_cw rf kn ma xa fa ca mb xb fb cb mt xt ft ct f0 g0 c0 m0 s0 f1 g1 c1 m1 s1 f2 g2 c2 m2 s2 f3 g3 c3 m3 s3 f4 g4 c4 m4 s4 f5 g5 c5 m5 s5 ek0 em0 es0 el0 b0 ef0 ek1 em1 es1 el1 b1 ef1 []) (fun v L => (∃ x : Int32, v = some (.int x)) ∧ z_Wk kn xa xb b0 b1 L) (fun E L => z_xIA E ∧ L = (z_cw rf kn ma xa fa ca mb xb fb cb mt xt ft ct f0 g0 c0 m0 s0 f1 g1 c1 m1 s1 f2 g2 c2 m2 s2 f3 g3 c3 m3 s3 f4 g4 c4 m4 s4 f5 g5 c5 m5 s5 ek0 em0 es0 el0 b0 ef0 ek1 em1 es1 el1 b1 ef1 []))) 0 [(0, _), (1, _), (2, _), (3, _)] [] _ 0 0
  refine j_aload_n dX8_replaceTable_0 rfl rfl ?_
  refine j_iload_n dX8_replaceTable_1 rfl ?_
  refine j_callV (q := (RX8, TX8, 9)) dX8_replaceTable_2 kX8_tableFor lX8_157 inX8_tableFor seX8_tableFor rfl rfl (z_dirX (c_X8_tableFor hl _ _ _ _ _ _ _ _ _ _ _ _ _ _ _ _ _ _ _ _ _ _ _ _ _ _ _ _ _ _ _ _ _ _ _ _ _ _ _ _ _ _ _ _ _ _ _ _ _ _ _ _ _ _ _ _ _)) (Nat.le_of_ble_eq_true rfl) ⟨(Nat.le_of_ble_eq_true rfl), (Nat.le_of_ble_eq_true rfl)⟩ rfl (Nat.le_of_ble_eq_true rfl) rfl rfl (fun _ _ h => by obtain ⟨_, ⟨h1, rfl⟩, rfl⟩ := h; exact ⟨rfl, rfl, x_I_IA h1, rfl⟩) ?_
  rintro _ _ ⟨_, ⟨_, rfl, hr, rfl⟩, rfl⟩
  have hq_2 := hr
  rcases hr with ⟨e_2, rfl⟩ | ⟨e_2, rfl⟩ | ⟨e_2, rfl⟩
  · refine j_astore (lo' := [(4, _), (0, _), (1, _), (2, _), (3, _)]) dX8_replaceTable_5 rfl (by decide) rfl ?_
    refine j_iload_n dX8_replaceTable_7 rfl ?_
    refine j_if_eq (tgt := 26) dX8_replaceTable_8 (by decide) (fun c_8 => ?_) (fun c_8 => ?_)
    · refine j_iconst (v := 1) dX8_replaceTable_26 (by decide) ?_
      refine j_goto (tgt := 31) dX8_replaceTable_27 (by decide) ?_
      refine j_callS dX8_replaceTable_31 kX8_checkRule lX8_112 stX8_checkRule (c_X8_checkRule hl _ _) (Nat.le_of_ble_eq_true rfl) ⟨(Nat.le_of_ble_eq_true rfl), (Nat.le_of_ble_eq_true rfl)⟩ rfl (Nat.le_of_ble_eq_true rfl) rfl rfl (fun _ _ h => by obtain ⟨h1, rfl⟩ := h; exact ⟨rfl, rfl, x_A_IA h1, rfl⟩) ?_
      rintro _ _ ⟨rfl, rfl⟩
      refine j_iload_n dX8_replaceTable_34 rfl ?_
      refine j_callS dX8_replaceTable_35 kX8_checkValue lX8_50 stX8_checkValue (c_X8_checkValue hl _ _) (Nat.le_of_ble_eq_true rfl) ⟨(Nat.le_of_ble_eq_true rfl), (Nat.le_of_ble_eq_true rfl)⟩ rfl (Nat.le_of_ble_eq_true rfl) rfl rfl (fun _ _ h => by obtain ⟨h1, rfl⟩ := h; exact ⟨rfl, rfl, x_A_IA h1, rfl⟩) ?_
      rintro _ _ ⟨rfl, rfl⟩
      refine j_new (w' := (z_cw _ _ _ _ _ _ _ _ _ _ _ _ _ _ _ _ _ _ _ _ _ _ _ _ _ _ _ _ _ _ _ _ _ _ _ _ _ _ _ _ _ _ _ _ _ _ _ _ _ _ _ _ _ _ _ _ [.inr (10, [_, _, _, _, _])], z_no)) (n := 51) dX8_replaceTable_38 nX8_160 rfl (z_al_l rfl rfl) (Nat.le_of_ble_eq_true rfl) (Nat.le_of_ble_eq_true rfl) ?_
      refine j_dup dX8_replaceTable_41 rfl ?_
      refine j_aload dX8_replaceTable_42 rfl rfl ?_
      refine j_callI dX8_replaceTable_44 kX5_init rfl lX8_162 inX5_init rfl (z_frame [51, 10, 11, 12, 13, 14] rfl (by decide) (Nat.le_of_ble_eq_true rfl) (c_X5_init hl _ _ _ _ _)) (Nat.le_of_ble_eq_true rfl) ⟨(Nat.le_of_ble_eq_true rfl), (Nat.le_of_ble_eq_true rfl)⟩ rfl (Nat.le_of_ble_eq_true rfl) rfl rfl (fun _ _ h => h.elim) ?_
      rintro _ _ ⟨_, _, ⟨rfl, _, rfl⟩, rfl, rfl⟩
      refine j_w (z_cw _ _ _ _ _ _ _ _ _ _ _ _ _ _ _ _ _ _ _ _ _ _ _ _ _ _ _ _ _ _ _ _ _ _ _ _ _ _ _ _ _ _ _ _ _ _ _ _ _ _ _ _ _ _ _ _ [.inr (10, [_, _, _, _, _])], z_no) rfl ?_
      refine j_iload_n dX8_replaceTable_47 rfl ?_
      refine j_iload_n dX8_replaceTable_48 rfl ?_
      refine j_callS dX8_replaceTable_49 kX8_changeEach lX8_115 stX8_changeEach (z_frame [51, 10, 11, 12, 13, 14] rfl (by decide) (Nat.le_of_ble_eq_true rfl) (c_X8_changeEach_X5 hl _ _ _ _ _ _ _ _ _ _)) (Nat.le_of_ble_eq_true rfl) ⟨(Nat.le_of_ble_eq_true rfl), (Nat.le_of_ble_eq_true rfl)⟩ rfl (Nat.le_of_ble_eq_true rfl) rfl rfl (fun _ _ h => h.elim) ?_
      rintro _ _ ⟨_, _, ⟨⟨b, rfl⟩, _, _, _, _, _, rfl⟩, rfl, rfl⟩
      refine j_w (z_cw _ _ _ _ _ _ _ _ _ _ _ _ _ _ _ _ _ _ _ _ _ _ _ _ _ _ _ _ _ _ _ _ _ _ _ _ _ _ _ _ _ _ _ _ _ _ _ _ _ _ _ _ _ _ _ _ [.inr (10, [_, _, _, _, _])], z_no) rfl ?_
      refine j_istore (lo' := [(5, _), (4, _), (0, _), (1, _), (2, _), (3, _)]) dX8_replaceTable_52 (by decide) rfl ?_
      refine j_dropL (n := 51) rfl (Nat.le_of_ble_eq_true rfl) (Nat.le_of_ble_eq_true rfl) (Nat.le_of_ble_eq_true rfl) z_cwc rfl rfl ?_
      refine j_w (z_cw _ _ _ _ _ _ _ _ _ _ _ _ _ _ _ _ _ _ _ _ _ _ _ _ _ _ _ _ _ _ _ _ _ _ _ _ _ _ _ _ _ _ _ _ _ _ _ _ _ _ _ _ _ _ _ _ [], z_no) rfl ?_
      refine j_iload dX8_replaceTable_54 rfl ?_
      refine j_if_eq (tgt := 67) dX8_replaceTable_56 (by decide) (fun c_56 => ?_) (fun c_56 => ?_)
      · refine j_aload_n dX8_replaceTable_67 rfl rfl ?_
        refine j_callV (q := (RX8, TX8, 9)) dX8_replaceTable_68 kX8_refused lX8_119 inX8_refused seX8_refused rfl rfl (z_dirF (c_X8_refused hl _ _ _ _ _ _ _ _ _ _ _ _ _ _ _ _ _ _ _ _ _ _ _ _ _ _ _ _ _ _ _ _ _ _ _ _ _ _ _ _ _ _ _ _ _ _ _ _ _ _ _ _ _ _ _ _)) (Nat.le_of_ble_eq_true rfl) ⟨(Nat.le_of_ble_eq_true rfl), (Nat.le_of_ble_eq_true rfl)⟩ rfl (Nat.le_of_ble_eq_true rfl) rfl rfl (fun _ _ h => h.elim) ?_
        rintro _ _ ⟨_, ⟨⟨_, rfl⟩, _, rfl⟩, rfl⟩
        refine j_iret dX8_replaceTable_71 rfl rfl ?_ (Nat.le_of_ble_eq_true rfl) (Nat.le_of_ble_eq_true rfl)
        exact ⟨rfl, rfl, ⟨_, rfl⟩, (z_wk (by first | assumption | exact z_m20z) (by first | assumption | exact z_m20z) (by first | assumption | exact z_m20z) (by first | assumption | exact z_m20z) (by first | assumption | exact z_m20z) (by first | assumption | exact z_m20z))⟩
      · refine j_aload dX8_replaceTable_59 rfl rfl ?_
        refine j_getf dX8_replaceTable_61 fX8_165 rfl rfl ?_
        refine j_goto (tgt := 71) dX8_replaceTable_64 (by decide) ?_
        refine j_iret dX8_replaceTable_71 rfl rfl ?_ (Nat.le_of_ble_eq_true rfl) (Nat.le_of_ble_eq_true rfl)
        exact ⟨rfl, rfl, ⟨_, rfl⟩, (z_wk (by first | assumption | exact z_m20z) (by first | assumption | exact z_m20z) (by first | assumption | exact z_m20z) (by first | assumption | exact z_m20z) (by first | assumption | exact z_m20z) (by first | assumption | exact z_m20z))⟩
    · refine j_iload_n dX8_replaceTable_11 rfl ?_
      refine j_iconst (v := 1) dX8_replaceTable_12 (by decide) ?_
      refine j_icmp_eq (tgt := 26) dX8_replaceTable_13 (by decide) (fun c_13 => ?_) (fun c_13 => ?_)
      · refine j_iconst (v := 1) dX8_replaceTable_26 (by decide) ?_
        refine j_goto (tgt := 31) dX8_replaceTable_27 (by decide) ?_
        refine j_callS dX8_replaceTable_31 kX8_checkRule lX8_112 stX8_checkRule (c_X8_checkRule hl _ _) (Nat.le_of_ble_eq_true rfl) ⟨(Nat.le_of_ble_eq_true rfl), (Nat.le_of_ble_eq_true rfl)⟩ rfl (Nat.le_of_ble_eq_true rfl) rfl rfl (fun _ _ h => by obtain ⟨h1, rfl⟩ := h; exact ⟨rfl, rfl, x_A_IA h1, rfl⟩) ?_
        rintro _ _ ⟨rfl, rfl⟩
        refine j_iload_n dX8_replaceTable_34 rfl ?_
        refine j_callS dX8_replaceTable_35 kX8_checkValue lX8_50 stX8_checkValue (c_X8_checkValue hl _ _) (Nat.le_of_ble_eq_true rfl) ⟨(Nat.le_of_ble_eq_true rfl), (Nat.le_of_ble_eq_true rfl)⟩ rfl (Nat.le_of_ble_eq_true rfl) rfl rfl (fun _ _ h => by obtain ⟨h1, rfl⟩ := h; exact ⟨rfl, rfl, x_A_IA h1, rfl⟩) ?_
        rintro _ _ ⟨rfl, rfl⟩
        refine j_new (w' := (z_cw _ _ _ _ _ _ _ _ _ _ _ _ _ _ _ _ _ _ _ _ _ _ _ _ _ _ _ _ _ _ _ _ _ _ _ _ _ _ _ _ _ _ _ _ _ _ _ _ _ _ _ _ _ _ _ _ [.inr (10, [_, _, _, _, _])], z_no)) (n := 51) dX8_replaceTable_38 nX8_160 rfl (z_al_l rfl rfl) (Nat.le_of_ble_eq_true rfl) (Nat.le_of_ble_eq_true rfl) ?_
        refine j_dup dX8_replaceTable_41 rfl ?_
        refine j_aload dX8_replaceTable_42 rfl rfl ?_
        refine j_callI dX8_replaceTable_44 kX5_init rfl lX8_162 inX5_init rfl (z_frame [51, 10, 11, 12, 13, 14] rfl (by decide) (Nat.le_of_ble_eq_true rfl) (c_X5_init hl _ _ _ _ _)) (Nat.le_of_ble_eq_true rfl) ⟨(Nat.le_of_ble_eq_true rfl), (Nat.le_of_ble_eq_true rfl)⟩ rfl (Nat.le_of_ble_eq_true rfl) rfl rfl (fun _ _ h => h.elim) ?_
        rintro _ _ ⟨_, _, ⟨rfl, _, rfl⟩, rfl, rfl⟩
        refine j_w (z_cw _ _ _ _ _ _ _ _ _ _ _ _ _ _ _ _ _ _ _ _ _ _ _ _ _ _ _ _ _ _ _ _ _ _ _ _ _ _ _ _ _ _ _ _ _ _ _ _ _ _ _ _ _ _ _ _ [.inr (10, [_, _, _, _, _])], z_no) rfl ?_
        refine j_iload_n dX8_replaceTable_47 rfl ?_
        refine j_iload_n dX8_replaceTable_48 rfl ?_
        refine j_callS dX8_replaceTable_49 kX8_changeEach lX8_115 stX8_changeEach (z_frame [51, 10, 11, 12, 13, 14] rfl (by decide) (Nat.le_of_ble_eq_true rfl) (c_X8_changeEach_X5 hl _ _ _ _ _ _ _ _ _ _)) (Nat.le_of_ble_eq_true rfl) ⟨(Nat.le_of_ble_eq_true rfl), (Nat.le_of_ble_eq_true rfl)⟩ rfl (Nat.le_of_ble_eq_true rfl) rfl rfl (fun _ _ h => h.elim) ?_
        rintro _ _ ⟨_, _, ⟨⟨b, rfl⟩, _, _, _, _, _, rfl⟩, rfl, rfl⟩
        refine j_w (z_cw _ _ _ _ _ _ _ _ _ _ _ _ _ _ _ _ _ _ _ _ _ _ _ _ _ _ _ _ _ _ _ _ _ _ _ _ _ _ _ _ _ _ _ _ _ _ _ _ _ _ _ _ _ _ _ _ [.inr (10, [_, _, _, _, _])], z_no) rfl ?_
        refine j_istore (lo' := [(5, _), (4, _), (0, _), (1, _), (2, _), (3, _)]) dX8_replaceTable_52 (by decide) rfl ?_
        refine j_dropL (n := 51) rfl (Nat.le_of_ble_eq_true rfl) (Nat.le_of_ble_eq_true rfl) (Nat.le_of_ble_eq_true rfl) z_cwc rfl rfl ?_
        refine j_w (z_cw _ _ _ _ _ _ _ _ _ _ _ _ _ _ _ _ _ _ _ _ _ _ _ _ _ _ _ _ _ _ _ _ _ _ _ _ _ _ _ _ _ _ _ _ _ _ _ _ _ _ _ _ _ _ _ _ [], z_no) rfl ?_
        refine j_iload dX8_replaceTable_54 rfl ?_
        refine j_if_eq (tgt := 67) dX8_replaceTable_56 (by decide) (fun c_56 => ?_) (fun c_56 => ?_)
        · refine j_aload_n dX8_replaceTable_67 rfl rfl ?_
          refine j_callV (q := (RX8, TX8, 9)) dX8_replaceTable_68 kX8_refused lX8_119 inX8_refused seX8_refused rfl rfl (z_dirF (c_X8_refused hl _ _ _ _ _ _ _ _ _ _ _ _ _ _ _ _ _ _ _ _ _ _ _ _ _ _ _ _ _ _ _ _ _ _ _ _ _ _ _ _ _ _ _ _ _ _ _ _ _ _ _ _ _ _ _ _)) (Nat.le_of_ble_eq_true rfl) ⟨(Nat.le_of_ble_eq_true rfl), (Nat.le_of_ble_eq_true rfl)⟩ rfl (Nat.le_of_ble_eq_true rfl) rfl rfl (fun _ _ h => h.elim) ?_
          rintro _ _ ⟨_, ⟨⟨_, rfl⟩, _, rfl⟩, rfl⟩
          refine j_iret dX8_replaceTable_71 rfl rfl ?_ (Nat.le_of_ble_eq_true rfl) (Nat.le_of_ble_eq_true rfl)
          exact ⟨rfl, rfl, ⟨_, rfl⟩, (z_wk (by first | assumption | exact z_m20z) (by first | assumption | exact z_m20z) (by first | assumption | exact z_m20z) (by first | assumption | exact z_m20z) (by first | assumption | exact z_m20z) (by first | assumption | exact z_m20z))⟩
        · refine j_aload dX8_replaceTable_59 rfl rfl ?_
          refine j_getf dX8_replaceTable_61 fX8_165 rfl rfl ?_
          refine j_goto (tgt := 71) dX8_replaceTable_64 (by decide) ?_
          refine j_iret dX8_replaceTable_71 rfl rfl ?_ (Nat.le_of_ble_eq_true rfl) (Nat.le_of_ble_eq_true rfl)
          exact ⟨rfl, rfl, ⟨_, rfl⟩, (z_wk (by first | assumption | exact z_m20z) (by first | assumption | exact z_m20z) (by first | assumption | exact z_m20z) (by first | assumption | exact z_m20z) (by first | assumption | exact z_m20z) (by first | assumption | exact z_m20z))⟩
      · refine j_iload_n dX8_replaceTable_16 rfl ?_
        refine j_iconst (v := 4) dX8_replaceTable_17 (by decide) ?_
        refine j_icmp_eq (tgt := 26) dX8_replaceTable_18 (by decide) (fun c_18 => ?_) (fun c_18 => ?_)
        · refine j_iconst (v := 1) dX8_replaceTable_26 (by decide) ?_
          refine j_goto (tgt := 31) dX8_replaceTable_27 (by decide) ?_
          refine j_callS dX8_replaceTable_31 kX8_checkRule lX8_112 stX8_checkRule (c_X8_checkRule hl _ _) (Nat.le_of_ble_eq_true rfl) ⟨(Nat.le_of_ble_eq_true rfl), (Nat.le_of_ble_eq_true rfl)⟩ rfl (Nat.le_of_ble_eq_true rfl) rfl rfl (fun _ _ h => by obtain ⟨h1, rfl⟩ := h; exact ⟨rfl, rfl, x_A_IA h1, rfl⟩) ?_
          rintro _ _ ⟨rfl, rfl⟩
          refine j_iload_n dX8_replaceTable_34 rfl ?_
          refine j_callS dX8_replaceTable_35 kX8_checkValue lX8_50 stX8_checkValue (c_X8_checkValue hl _ _) (Nat.le_of_ble_eq_true rfl) ⟨(Nat.le_of_ble_eq_true rfl), (Nat.le_of_ble_eq_true rfl)⟩ rfl (Nat.le_of_ble_eq_true rfl) rfl rfl (fun _ _ h => by obtain ⟨h1, rfl⟩ := h; exact ⟨rfl, rfl, x_A_IA h1, rfl⟩) ?_
          rintro _ _ ⟨rfl, rfl⟩
          refine j_new (w' := (z_cw _ _ _ _ _ _ _ _ _ _ _ _ _ _ _ _ _ _ _ _ _ _ _ _ _ _ _ _ _ _ _ _ _ _ _ _ _ _ _ _ _ _ _ _ _ _ _ _ _ _ _ _ _ _ _ _ [.inr (10, [_, _, _, _, _])], z_no)) (n := 51) dX8_replaceTable_38 nX8_160 rfl (z_al_l rfl rfl) (Nat.le_of_ble_eq_true rfl) (Nat.le_of_ble_eq_true rfl) ?_
          refine j_dup dX8_replaceTable_41 rfl ?_
          refine j_aload dX8_replaceTable_42 rfl rfl ?_
          refine j_callI dX8_replaceTable_44 kX5_init rfl lX8_162 inX5_init rfl (z_frame [51, 10, 11, 12, 13, 14] rfl (by decide) (Nat.le_of_ble_eq_true rfl) (c_X5_init hl _ _ _ _ _)) (Nat.le_of_ble_eq_true rfl) ⟨(Nat.le_of_ble_eq_true rfl), (Nat.le_of_ble_eq_true rfl)⟩ rfl (Nat.le_of_ble_eq_true rfl) rfl rfl (fun _ _ h => h.elim) ?_
          rintro _ _ ⟨_, _, ⟨rfl, _, rfl⟩, rfl, rfl⟩
          refine j_w (z_cw _ _ _ _ _ _ _ _ _ _ _ _ _ _ _ _ _ _ _ _ _ _ _ _ _ _ _ _ _ _ _ _ _ _ _ _ _ _ _ _ _ _ _ _ _ _ _ _ _ _ _ _ _ _ _ _ [.inr (10, [_, _, _, _, _])], z_no) rfl ?_
          refine j_iload_n dX8_replaceTable_47 rfl ?_
          refine j_iload_n dX8_replaceTable_48 rfl ?_
          refine j_callS dX8_replaceTable_49 kX8_changeEach lX8_115 stX8_changeEach (z_frame [51, 10, 11, 12, 13, 14] rfl (by decide) (Nat.le_of_ble_eq_true rfl) (c_X8_changeEach_X5 hl _ _ _ _ _ _ _ _ _ _)) (Nat.le_of_ble_eq_true rfl) ⟨(Nat.le_of_ble_eq_true rfl), (Nat.le_of_ble_eq_true rfl)⟩ rfl (Nat.le_of_ble_eq_true rfl) rfl rfl (fun _ _ h => h.elim) ?_
          rintro _ _ ⟨_, _, ⟨⟨b, rfl⟩, _, _, _, _, _, rfl⟩, rfl, rfl⟩
          refine j_w (z_cw _ _ _ _ _ _ _ _ _ _ _ _ _ _ _ _ _ _ _ _ _ _ _ _ _ _ _ _ _ _ _ _ _ _ _ _ _ _ _ _ _ _ _ _ _ _ _ _ _ _ _ _ _ _ _ _ [.inr (10, [_, _, _, _, _])], z_no) rfl ?_
          refine j_istore (lo' := [(5, _), (4, _), (0, _), (1, _), (2, _), (3, _)]) dX8_replaceTable_52 (by decide) rfl ?_
          refine j_dropL (n := 51) rfl (Nat.le_of_ble_eq_true rfl) (Nat.le_of_ble_eq_true rfl) (Nat.le_of_ble_eq_true rfl) z_cwc rfl rfl ?_
          refine j_w (z_cw _ _ _ _ _ _ _ _ _ _ _ _ _ _ _ _ _ _ _ _ _ _ _ _ _ _ _ _ _ _ _ _ _ _ _ _ _ _ _ _ _ _ _ _ _ _ _ _ _ _ _ _ _ _ _ _ [], z_no) rfl ?_
          refine j_iload dX8_replaceTable_54 rfl ?_
          refine j_if_eq (tgt := 67) dX8_replaceTable_56 (by decide) (fun c_56 => ?_) (fun c_56 => ?_)
          · refine j_aload_n dX8_replaceTable_67 rfl rfl ?_
            refine j_callV (q := (RX8, TX8, 9)) dX8_replaceTable_68 kX8_refused lX8_119 inX8_refused seX8_refused rfl rfl (z_dirF (c_X8_refused hl _ _ _ _ _ _ _ _ _ _ _ _ _ _ _ _ _ _ _ _ _ _ _ _ _ _ _ _ _ _ _ _ _ _ _ _ _ _ _ _ _ _ _ _ _ _ _ _ _ _ _ _ _ _ _ _)) (Nat.le_of_ble_eq_true rfl) ⟨(Nat.le_of_ble_eq_true rfl), (Nat.le_of_ble_eq_true rfl)⟩ rfl (Nat.le_of_ble_eq_true rfl) rfl rfl (fun _ _ h => h.elim) ?_
            rintro _ _ ⟨_, ⟨⟨_, rfl⟩, _, rfl⟩, rfl⟩
            refine j_iret dX8_replaceTable_71 rfl rfl ?_ (Nat.le_of_ble_eq_true rfl) (Nat.le_of_ble_eq_true rfl)
            exact ⟨rfl, rfl, ⟨_, rfl⟩, (z_wk (by first | assumption | exact z_m20z) (by first | assumption | exact z_m20z) (by first | assumption | exact z_m20z) (by first | assumption | exact z_m20z) (by first | assumption | exact z_m20z) (by first | assumption | exact z_m20z))⟩
          · refine j_aload dX8_replaceTable_59 rfl rfl ?_
            refine j_getf dX8_replaceTable_61 fX8_165 rfl rfl ?_
            refine j_goto (tgt := 71) dX8_replaceTable_64 (by decide) ?_
            refine j_iret dX8_replaceTable_71 rfl rfl ?_ (Nat.le_of_ble_eq_true rfl) (Nat.le_of_ble_eq_true rfl)
            exact ⟨rfl, rfl, ⟨_, rfl⟩, (z_wk (by first | assumption | exact z_m20z) (by first | assumption | exact z_m20z) (by first | assumption | exact z_m20z) (by first | assumption | exact z_m20z) (by first | assumption | exact z_m20z) (by first | assumption | exact z_m20z))⟩
        · refine j_iload_n dX8_replaceTable_21 rfl ?_
          refine j_iconst (v := 5) dX8_replaceTable_22 (by decide) ?_
          refine j_icmp_ne (tgt := 30) dX8_replaceTable_23 (by decide) (fun c_23 => ?_) (fun c_23 => ?_)
          · refine j_iconst (v := 0) dX8_replaceTable_30 (by decide) ?_
            refine j_callS dX8_replaceTable_31 kX8_checkRule lX8_112 stX8_checkRule (c_X8_checkRule hl _ _) (Nat.le_of_ble_eq_true rfl) ⟨(Nat.le_of_ble_eq_true rfl), (Nat.le_of_ble_eq_true rfl)⟩ rfl (Nat.le_of_ble_eq_true rfl) rfl rfl (fun _ _ h => by obtain ⟨h1, rfl⟩ := h; exact ⟨rfl, rfl, x_A_IA h1, rfl⟩) ?_
            rintro _ _ ⟨rfl, rfl⟩
            refine j_iload_n dX8_replaceTable_34 rfl ?_
            refine j_callS dX8_replaceTable_35 kX8_checkValue lX8_50 stX8_checkValue (c_X8_checkValue hl _ _) (Nat.le_of_ble_eq_true rfl) ⟨(Nat.le_of_ble_eq_true rfl), (Nat.le_of_ble_eq_true rfl)⟩ rfl (Nat.le_of_ble_eq_true rfl) rfl rfl (fun _ _ h => by obtain ⟨h1, rfl⟩ := h; exact ⟨rfl, rfl, x_A_IA h1, rfl⟩) ?_
            rintro _ _ ⟨rfl, rfl⟩
            refine j_new (w' := (z_cw _ _ _ _ _ _ _ _ _ _ _ _ _ _ _ _ _ _ _ _ _ _ _ _ _ _ _ _ _ _ _ _ _ _ _ _ _ _ _ _ _ _ _ _ _ _ _ _ _ _ _ _ _ _ _ _ [.inr (10, [_, _, _, _, _])], z_no)) (n := 51) dX8_replaceTable_38 nX8_160 rfl (z_al_l rfl rfl) (Nat.le_of_ble_eq_true rfl) (Nat.le_of_ble_eq_true rfl) ?_
            refine j_dup dX8_replaceTable_41 rfl ?_
            refine j_aload dX8_replaceTable_42 rfl rfl ?_
            refine j_callI dX8_replaceTable_44 kX5_init rfl lX8_162 inX5_init rfl (z_frame [51, 10, 11, 12, 13, 14] rfl (by decide) (Nat.le_of_ble_eq_true rfl) (c_X5_init hl _ _ _ _ _)) (Nat.le_of_ble_eq_true rfl) ⟨(Nat.le_of_ble_eq_true rfl), (Nat.le_of_ble_eq_true rfl)⟩ rfl (Nat.le_of_ble_eq_true rfl) rfl rfl (fun _ _ h => h.elim) ?_
            rintro _ _ ⟨_, _, ⟨rfl, _, rfl⟩, rfl, rfl⟩
            refine j_w (z_cw _ _ _ _ _ _ _ _ _ _ _ _ _ _ _ _ _ _ _ _ _ _ _ _ _ _ _ _ _ _ _ _ _ _ _ _ _ _ _ _ _ _ _ _ _ _ _ _ _ _ _ _ _ _ _ _ [.inr (10, [_, _, _, _, _])], z_no) rfl ?_
            refine j_iload_n dX8_replaceTable_47 rfl ?_
            refine j_iload_n dX8_replaceTable_48 rfl ?_
            refine j_callS dX8_replaceTable_49 kX8_changeEach lX8_115 stX8_changeEach (z_frame [51, 10, 11, 12, 13, 14] rfl (by decide) (Nat.le_of_ble_eq_true rfl) (c_X8_changeEach_X5 hl _ _ _ _ _ _ _ _ _ _)) (Nat.le_of_ble_eq_true rfl) ⟨(Nat.le_of_ble_eq_true rfl), (Nat.le_of_ble_eq_true rfl)⟩ rfl (Nat.le_of_ble_eq_true rfl) rfl rfl (fun _ _ h => h.elim) ?_
            rintro _ _ ⟨_, _, ⟨⟨b, rfl⟩, _, _, _, _, _, rfl⟩, rfl, rfl⟩
            refine j_w (z_cw _ _ _ _ _ _ _ _ _ _ _ _ _ _ _ _ _ _ _ _ _ _ _ _ _ _ _ _ _ _ _ _ _ _ _ _ _ _ _ _ _ _ _ _ _ _ _ _ _ _ _ _ _ _ _ _ [.inr (10, [_, _, _, _, _])], z_no) rfl ?_
            refine j_istore (lo' := [(5, _), (4, _), (0, _), (1, _), (2, _), (3, _)]) dX8_replaceTable_52 (by decide) rfl ?_
            refine j_dropL (n := 51) rfl (Nat.le_of_ble_eq_true rfl) (Nat.le_of_ble_eq_true rfl) (Nat.le_of_ble_eq_true rfl) z_cwc rfl rfl ?_
            refine j_w (z_cw _ _ _ _ _ _ _ _ _ _ _ _ _ _ _ _ _ _ _ _ _ _ _ _ _ _ _ _ _ _ _ _ _ _ _ _ _ _ _ _ _ _ _ _ _ _ _ _ _ _ _ _ _ _ _ _ [], z_no) rfl ?_
            refine j_iload dX8_replaceTable_54 rfl ?_
            refine j_if_eq (tgt := 67) dX8_replaceTable_56 (by decide) (fun c_56 => ?_) (fun c_56 => ?_)
            · refine j_aload_n dX8_replaceTable_67 rfl rfl ?_
              refine j_callV (q := (RX8, TX8, 9)) dX8_replaceTable_68 kX8_refused lX8_119 inX8_refused seX8_refused rfl rfl (z_dirF (c_X8_refused hl _ _ _ _ _ _ _ _ _ _ _ _ _ _ _ _ _ _ _ _ _ _ _ _ _ _ _ _ _ _ _ _ _ _ _ _ _ _ _ _ _ _ _ _ _ _ _ _ _ _ _ _ _ _ _ _)) (Nat.le_of_ble_eq_true rfl) ⟨(Nat.le_of_ble_eq_true rfl), (Nat.le_of_ble_eq_true rfl)⟩ rfl (Nat.le_of_ble_eq_true rfl) rfl rfl (fun _ _ h => h.elim) ?_
              rintro _ _ ⟨_, ⟨⟨_, rfl⟩, _, rfl⟩, rfl⟩
              refine j_iret dX8_replaceTable_71 rfl rfl ?_ (Nat.le_of_ble_eq_true rfl) (Nat.le_of_ble_eq_true rfl)
              exact ⟨rfl, rfl, ⟨_, rfl⟩, (z_wk (by first | assumption | exact z_m20z) (by first | assumption | exact z_m20z) (by first | assumption | exact z_m20z) (by first | assumption | exact z_m20z) (by first | assumption | exact z_m20z) (by first | assumption | exact z_m20z))⟩
            · refine j_aload dX8_replaceTable_59 rfl rfl ?_
              refine j_getf dX8_replaceTable_61 fX8_165 rfl rfl ?_
              refine j_goto (tgt := 71) dX8_replaceTable_64 (by decide) ?_
              refine j_iret dX8_replaceTable_71 rfl rfl ?_ (Nat.le_of_ble_eq_true rfl) (Nat.le_of_ble_eq_true rfl)
              exact ⟨rfl, rfl, ⟨_, rfl⟩, (z_wk (by first | assumption | exact z_m20z) (by first | assumption | exact z_m20z) (by first | assumption | exact z_m20z) (by first | assumption | exact z_m20z) (by first | assumption | exact z_m20z) (by first | assumption | exact z_m20z))⟩
          · refine j_iconst (v := 1) dX8_replaceTable_26 (by decide) ?_
            refine j_goto (tgt := 31) dX8_replaceTable_27 (by decide) ?_
            refine j_callS dX8_replaceTable_31 kX8_checkRule lX8_112 stX8_checkRule (c_X8_checkRule hl _ _) (Nat.le_of_ble_eq_true rfl) ⟨(Nat.le_of_ble_eq_true rfl), (Nat.le_of_ble_eq_true rfl)⟩ rfl (Nat.le_of_ble_eq_true rfl) rfl rfl (fun _ _ h => by obtain ⟨h1, rfl⟩ := h; exact ⟨rfl, rfl, x_A_IA h1, rfl⟩) ?_
            rintro _ _ ⟨rfl, rfl⟩
            refine j_iload_n dX8_replaceTable_34 rfl ?_
            refine j_callS dX8_replaceTable_35 kX8_checkValue lX8_50 stX8_checkValue (c_X8_checkValue hl _ _) (Nat.le_of_ble_eq_true rfl) ⟨(Nat.le_of_ble_eq_true rfl), (Nat.le_of_ble_eq_true rfl)⟩ rfl (Nat.le_of_ble_eq_true rfl) rfl rfl (fun _ _ h => by obtain ⟨h1, rfl⟩ := h; exact ⟨rfl, rfl, x_A_IA h1, rfl⟩) ?_
            rintro _ _ ⟨rfl, rfl⟩
            refine j_new (w' := (z_cw _ _ _ _ _ _ _ _ _ _ _ _ _ _ _ _ _ _ _ _ _ _ _ _ _ _ _ _ _ _ _ _ _ _ _ _ _ _ _ _ _ _ _ _ _ _ _ _ _ _ _ _ _ _ _ _ [.inr (10, [_, _, _, _, _])], z_no)) (n := 51) dX8_replaceTable_38 nX8_160 rfl (z_al_l rfl rfl) (Nat.le_of_ble_eq_true rfl) (Nat.le_of_ble_eq_true rfl) ?_
            refine j_dup dX8_replaceTable_41 rfl ?_
            refine j_aload dX8_replaceTable_42 rfl rfl ?_
            refine j_callI dX8_replaceTable_44 kX5_init rfl lX8_162 inX5_init rfl (z_frame [51, 10, 11, 12, 13, 14] rfl (by decide) (Nat.le_of_ble_eq_true rfl) (c_X5_init hl _ _ _ _ _)) (Nat.le_of_ble_eq_true rfl) ⟨(Nat.le_of_ble_eq_true rfl), (Nat.le_of_ble_eq_true rfl)⟩ rfl (Nat.le_of_ble_eq_true rfl) rfl rfl (fun _ _ h => h.elim) ?_
            rintro _ _ ⟨_, _, ⟨rfl, _, rfl⟩, rfl, rfl⟩
            refine j_w (z_cw _ _ _ _ _ _ _ _ _ _ _ _ _ _ _ _ _ _ _ _ _ _ _ _ _ _ _ _ _ _ _ _ _ _ _ _ _ _ _ _ _ _ _ _ _ _ _ _ _ _ _ _ _ _ _ _ [.inr (10, [_, _, _, _, _])], z_no) rfl ?_
            refine j_iload_n dX8_replaceTable_47 rfl ?_
            refine j_iload_n dX8_replaceTable_48 rfl ?_
            refine j_callS dX8_replaceTable_49 kX8_changeEach lX8_115 stX8_changeEach (z_frame [51, 10, 11, 12, 13, 14] rfl (by decide) (Nat.le_of_ble_eq_true rfl) (c_X8_changeEach_X5 hl _ _ _ _ _ _ _ _ _ _)) (Nat.le_of_ble_eq_true rfl) ⟨(Nat.le_of_ble_eq_true rfl), (Nat.le_of_ble_eq_true rfl)⟩ rfl (Nat.le_of_ble_eq_true rfl) rfl rfl (fun _ _ h => h.elim) ?_
            rintro _ _ ⟨_, _, ⟨⟨b, rfl⟩, _, _, _, _, _, rfl⟩, rfl, rfl⟩
            refine j_w (z_cw _ _ _ _ _ _ _ _ _ _ _ _ _ _ _ _ _ _ _ _ _ _ _ _ _ _ _ _ _ _ _ _ _ _ _ _ _ _ _ _ _ _ _ _ _ _ _ _ _ _ _ _ _ _ _ _ [.inr (10, [_, _, _, _, _])], z_no) rfl ?_
            refine j_istore (lo' := [(5, _), (4, _), (0, _), (1, _), (2, _), (3, _)]) dX8_replaceTable_52 (by decide) rfl ?_
            refine j_dropL (n := 51) rfl (Nat.le_of_ble_eq_true rfl) (Nat.le_of_ble_eq_true rfl) (Nat.le_of_ble_eq_true rfl) z_cwc rfl rfl ?_
            refine j_w (z_cw _ _ _ _ _ _ _ _ _ _ _ _ _ _ _ _ _ _ _ _ _ _ _ _ _ _ _ _ _ _ _ _ _ _ _ _ _ _ _ _ _ _ _ _ _ _ _ _ _ _ _ _ _ _ _ _ [], z_no) rfl ?_
            refine j_iload dX8_replaceTable_54 rfl ?_
            refine j_if_eq (tgt := 67) dX8_replaceTable_56 (by decide) (fun c_56 => ?_) (fun c_56 => ?_)
            · refine j_aload_n dX8_replaceTable_67 rfl rfl ?_
              refine j_callV (q := (RX8, TX8, 9)) dX8_replaceTable_68 kX8_refused lX8_119 inX8_refused seX8_refused rfl rfl (z_dirF (c_X8_refused hl _ _ _ _ _ _ _ _ _ _ _ _ _ _ _ _ _ _ _ _ _ _ _ _ _ _ _ _ _ _ _ _ _ _ _ _ _ _ _ _ _ _ _ _ _ _ _ _ _ _ _ _ _ _ _ _)) (Nat.le_of_ble_eq_true rfl) ⟨(Nat.le_of_ble_eq_true rfl), (Nat.le_of_ble_eq_true rfl)⟩ rfl (Nat.le_of_ble_eq_true rfl) rfl rfl (fun _ _ h => h.elim) ?_
              rintro _ _ ⟨_, ⟨⟨_, rfl⟩, _, rfl⟩, rfl⟩
              refine j_iret dX8_replaceTable_71 rfl rfl ?_ (Nat.le_of_ble_eq_true rfl) (Nat.le_of_ble_eq_true rfl)
              exact ⟨rfl, rfl, ⟨_, rfl⟩, (z_wk (by first | assumption | exact z_m20z) (by first | assumption | exact z_m20z) (by first | assumption | exact z_m20z) (by first | assumption | exact z_m20z) (by first | assumption | exact z_m20z) (by first | assumption | exact z_m20z))⟩
            · refine j_aload dX8_replaceTable_59 rfl rfl ?_
              refine j_getf dX8_replaceTable_61 fX8_165 rfl rfl ?_
              refine j_goto (tgt := 71) dX8_replaceTable_64 (by decide) ?_
              refine j_iret dX8_replaceTable_71 rfl rfl ?_ (Nat.le_of_ble_eq_true rfl) (Nat.le_of_ble_eq_true rfl)
              exact ⟨rfl, rfl, ⟨_, rfl⟩, (z_wk (by first | assumption | exact z_m20z) (by first | assumption | exact z_m20z) (by first | assumption | exact z_m20z) (by first | assumption | exact z_m20z) (by first | assumption | exact z_m20z) (by first | assumption | exact z_m20z))⟩
  · refine j_astore (lo' := [(4, _), (0, _), (1, _), (2, _), (3, _)]) dX8_replaceTable_5 rfl (by decide) rfl ?_
    refine j_iload_n dX8_replaceTable_7 rfl ?_
    refine j_if_eq (tgt := 26) dX8_replaceTable_8 (by decide) (fun c_8 => ?_) (fun c_8 => ?_)
    · refine j_iconst (v := 1) dX8_replaceTable_26 (by decide) ?_
      refine j_goto (tgt := 31) dX8_replaceTable_27 (by decide) ?_
      refine j_callS dX8_replaceTable_31 kX8_checkRule lX8_112 stX8_checkRule (c_X8_checkRule hl _ _) (Nat.le_of_ble_eq_true rfl) ⟨(Nat.le_of_ble_eq_true rfl), (Nat.le_of_ble_eq_true rfl)⟩ rfl (Nat.le_of_ble_eq_true rfl) rfl rfl (fun _ _ h => by obtain ⟨h1, rfl⟩ := h; exact ⟨rfl, rfl, x_A_IA h1, rfl⟩) ?_
      rintro _ _ ⟨rfl, rfl⟩
      refine j_iload_n dX8_replaceTable_34 rfl ?_
      refine j_callS dX8_replaceTable_35 kX8_checkValue lX8_50 stX8_checkValue (c_X8_checkValue hl _ _) (Nat.le_of_ble_eq_true rfl) ⟨(Nat.le_of_ble_eq_true rfl), (Nat.le_of_ble_eq_true rfl)⟩ rfl (Nat.le_of_ble_eq_true rfl) rfl rfl (fun _ _ h => by obtain ⟨h1, rfl⟩ := h; exact ⟨rfl, rfl, x_A_IA h1, rfl⟩) ?_
      rintro _ _ ⟨rfl, rfl⟩
      refine j_new (w' := (z_cw _ _ _ _ _ _ _ _ _ _ _ _ _ _ _ _ _ _ _ _ _ _ _ _ _ _ _ _ _ _ _ _ _ _ _ _ _ _ _ _ _ _ _ _ _ _ _ _ _ _ _ _ _ _ _ _ [.inr (10, [_, _, _, _, _])], z_no)) (n := 51) dX8_replaceTable_38 nX8_160 rfl (z_al_l rfl rfl) (Nat.le_of_ble_eq_true rfl) (Nat.le_of_ble_eq_true rfl) ?_
      refine j_dup dX8_replaceTable_41 rfl ?_
      refine j_aload dX8_replaceTable_42 rfl rfl ?_
      refine j_callI dX8_replaceTable_44 kX5_init rfl lX8_162 inX5_init rfl (z_frame [51, 16, 17, 18, 19, 20] rfl (by decide) (Nat.le_of_ble_eq_true rfl) (c_X5_init hl _ _ _ _ _)) (Nat.le_of_ble_eq_true rfl) ⟨(Nat.le_of_ble_eq_true rfl), (Nat.le_of_ble_eq_true rfl)⟩ rfl (Nat.le_of_ble_eq_true rfl) rfl rfl (fun _ _ h => h.elim) ?_
      rintro _ _ ⟨_, _, ⟨rfl, _, rfl⟩, rfl, rfl⟩
      refine j_w (z_cw _ _ _ _ _ _ _ _ _ _ _ _ _ _ _ _ _ _ _ _ _ _ _ _ _ _ _ _ _ _ _ _ _ _ _ _ _ _ _ _ _ _ _ _ _ _ _ _ _ _ _ _ _ _ _ _ [.inr (10, [_, _, _, _, _])], z_no) rfl ?_
      refine j_iload_n dX8_replaceTable_47 rfl ?_
      refine j_iload_n dX8_replaceTable_48 rfl ?_
      refine j_callS dX8_replaceTable_49 kX8_changeEach lX8_115 stX8_changeEach (z_frame [51, 16, 17, 18, 19, 20] rfl (by decide) (Nat.le_of_ble_eq_true rfl) (c_X8_changeEach_X5 hl _ _ _ _ _ _ _ _ _ _)) (Nat.le_of_ble_eq_true rfl) ⟨(Nat.le_of_ble_eq_true rfl), (Nat.le_of_ble_eq_true rfl)⟩ rfl (Nat.le_of_ble_eq_true rfl) rfl rfl (fun _ _ h => h.elim) ?_
      rintro _ _ ⟨_, _, ⟨⟨b, rfl⟩, _, _, _, _, _, rfl⟩, rfl, rfl⟩
      refine j_w (z_cw _ _ _ _ _ _ _ _ _ _ _ _ _ _ _ _ _ _ _ _ _ _ _ _ _ _ _ _ _ _ _ _ _ _ _ _ _ _ _ _ _ _ _ _ _ _ _ _ _ _ _ _ _ _ _ _ [.inr (10, [_, _, _, _, _])], z_no) rfl ?_
      refine j_istore (lo' := [(5, _), (4, _), (0, _), (1, _), (2, _), (3, _)]) dX8_replaceTable_52 (by decide) rfl ?_
      refine j_dropL (n := 51) rfl (Nat.le_of_ble_eq_true rfl) (Nat.le_of_ble_eq_true rfl) (Nat.le_of_ble_eq_true rfl) z_cwc rfl rfl ?_
      refine j_w (z_cw _ _ _ _ _ _ _ _ _ _ _ _ _ _ _ _ _ _ _ _ _ _ _ _ _ _ _ _ _ _ _ _ _ _ _ _ _ _ _ _ _ _ _ _ _ _ _ _ _ _ _ _ _ _ _ _ [], z_no) rfl ?_
      refine j_iload dX8_replaceTable_54 rfl ?_
      refine j_if_eq (tgt := 67) dX8_replaceTable_56 (by decide) (fun c_56 => ?_) (fun c_56 => ?_)
      · refine j_aload_n dX8_replaceTable_67 rfl rfl ?_
        refine j_callV (q := (RX8, TX8, 9)) dX8_replaceTable_68 kX8_refused lX8_119 inX8_refused seX8_refused rfl rfl (z_dirF (c_X8_refused hl _ _ _ _ _ _ _ _ _ _ _ _ _ _ _ _ _ _ _ _ _ _ _ _ _ _ _ _ _ _ _ _ _ _ _ _ _ _ _ _ _ _ _ _ _ _ _ _ _ _ _ _ _ _ _ _)) (Nat.le_of_ble_eq_true rfl) ⟨(Nat.le_of_ble_eq_true rfl), (Nat.le_of_ble_eq_true rfl)⟩ rfl (Nat.le_of_ble_eq_true rfl) rfl rfl (fun _ _ h => h.elim) ?_
        rintro _ _ ⟨_, ⟨⟨_, rfl⟩, _, rfl⟩, rfl⟩
        refine j_iret dX8_replaceTable_71 rfl rfl ?_ (Nat.le_of_ble_eq_true rfl) (Nat.le_of_ble_eq_true rfl)
        exact ⟨rfl, rfl, ⟨_, rfl⟩, (z_wk (by first | assumption | exact z_m20z) (by first | assumption | exact z_m20z) (by first | assumption | exact z_m20z) (by first | assumption | exact z_m20z) (by first | assumption | exact z_m20z) (by first | assumption | exact z_m20z))⟩
      · refine j_aload dX8_replaceTable_59 rfl rfl ?_
        refine j_getf dX8_replaceTable_61 fX8_165 rfl rfl ?_
        refine j_goto (tgt := 71) dX8_replaceTable_64 (by decide) ?_
        refine j_iret dX8_replaceTable_71 rfl rfl ?_ (Nat.le_of_ble_eq_true rfl) (Nat.le_of_ble_eq_true rfl)
        exact ⟨rfl, rfl, ⟨_, rfl⟩, (z_wk (by first | assumption | exact z_m20z) (by first | assumption | exact z_m20z) (by first | assumption | exact z_m20z) (by first | assumption | exact z_m20z) (by first | assumption | exact z_m20z) (by first | assumption | exact z_m20z))⟩
    · refine j_iload_n dX8_replaceTable_11 rfl ?_
      refine j_iconst (v := 1) dX8_replaceTable_12 (by decide) ?_
      refine j_icmp_eq (tgt := 26) dX8_replaceTable_13 (by decide) (fun c_13 => ?_) (fun c_13 => ?_)
      · refine j_iconst (v := 1) dX8_replaceTable_26 (by decide) ?_
        refine j_goto (tgt := 31) dX8_replaceTable_27 (by decide) ?_
        refine j_callS dX8_replaceTable_31 kX8_checkRule lX8_112 stX8_checkRule (c_X8_checkRule hl _ _) (Nat.le_of_ble_eq_true rfl) ⟨(Nat.le_of_ble_eq_true rfl), (Nat.le_of_ble_eq_true rfl)⟩ rfl (Nat.le_of_ble_eq_true rfl) rfl rfl (fun _ _ h => by obtain ⟨h1, rfl⟩ := h; exact ⟨rfl, rfl, x_A_IA h1, rfl⟩) ?_
        rintro _ _ ⟨rfl, rfl⟩
        refine j_iload_n dX8_replaceTable_34 rfl ?_
        refine j_callS dX8_replaceTable_35 kX8_checkValue lX8_50 stX8_checkValue (c_X8_checkValue hl _ _) (Nat.le_of_ble_eq_true rfl) ⟨(Nat.le_of_ble_eq_true rfl), (Nat.le_of_ble_eq_true rfl)⟩ rfl (Nat.le_of_ble_eq_true rfl) rfl rfl (fun _ _ h => by obtain ⟨h1, rfl⟩ := h; exact ⟨rfl, rfl, x_A_IA h1, rfl⟩) ?_
        rintro _ _ ⟨rfl, rfl⟩
        refine j_new (w' := (z_cw _ _ _ _ _ _ _ _ _ _ _ _ _ _ _ _ _ _ _ _ _ _ _ _ _ _ _ _ _ _ _ _ _ _ _ _ _ _ _ _ _ _ _ _ _ _ _ _ _ _ _ _ _ _ _ _ [.inr (10, [_, _, _, _, _])], z_no)) (n := 51) dX8_replaceTable_38 nX8_160 rfl (z_al_l rfl rfl) (Nat.le_of_ble_eq_true rfl) (Nat.le_of_ble_eq_true rfl) ?_
        refine j_dup dX8_replaceTable_41 rfl ?_
        refine j_aload dX8_replaceTable_42 rfl rfl ?_
        refine j_callI dX8_replaceTable_44 kX5_init rfl lX8_162 inX5_init rfl (z_frame [51, 16, 17, 18, 19, 20] rfl (by decide) (Nat.le_of_ble_eq_true rfl) (c_X5_init hl _ _ _ _ _)) (Nat.le_of_ble_eq_true rfl) ⟨(Nat.le_of_ble_eq_true rfl), (Nat.le_of_ble_eq_true rfl)⟩ rfl (Nat.le_of_ble_eq_true rfl) rfl rfl (fun _ _ h => h.elim) ?_
        rintro _ _ ⟨_, _, ⟨rfl, _, rfl⟩, rfl, rfl⟩
        refine j_w (z_cw _ _ _ _ _ _ _ _ _ _ _ _ _ _ _ _ _ _ _ _ _ _ _ _ _ _ _ _ _ _ _ _ _ _ _ _ _ _ _ _ _ _ _ _ _ _ _ _ _ _ _ _ _ _ _ _ [.inr (10, [_, _, _, _, _])], z_no) rfl ?_
        refine j_iload_n dX8_replaceTable_47 rfl ?_
        refine j_iload_n dX8_replaceTable_48 rfl ?_
        refine j_callS dX8_replaceTable_49 kX8_changeEach lX8_115 stX8_changeEach (z_frame [51, 16, 17, 18, 19, 20] rfl (by decide) (Nat.le_of_ble_eq_true rfl) (c_X8_changeEach_X5 hl _ _ _ _ _ _ _ _ _ _)) (Nat.le_of_ble_eq_true rfl) ⟨(Nat.le_of_ble_eq_true rfl), (Nat.le_of_ble_eq_true rfl)⟩ rfl (Nat.le_of_ble_eq_true rfl) rfl rfl (fun _ _ h => h.elim) ?_
        rintro _ _ ⟨_, _, ⟨⟨b, rfl⟩, _, _, _, _, _, rfl⟩, rfl, rfl⟩
        refine j_w (z_cw _ _ _ _ _ _ _ _ _ _ _ _ _ _ _ _ _ _ _ _ _ _ _ _ _ _ _ _ _ _ _ _ _ _ _ _ _ _ _ _ _ _ _ _ _ _ _ _ _ _ _ _ _ _ _ _ [.inr (10, [_, _, _, _, _])], z_no) rfl ?_
        refine j_istore (lo' := [(5, _), (4, _), (0, _), (1, _), (2, _), (3, _)]) dX8_replaceTable_52 (by decide) rfl ?_
        refine j_dropL (n := 51) rfl (Nat.le_of_ble_eq_true rfl) (Nat.le_of_ble_eq_true rfl) (Nat.le_of_ble_eq_true rfl) z_cwc rfl rfl ?_
        refine j_w (z_cw _ _ _ _ _ _ _ _ _ _ _ _ _ _ _ _ _ _ _ _ _ _ _ _ _ _ _ _ _ _ _ _ _ _ _ _ _ _ _ _ _ _ _ _ _ _ _ _ _ _ _ _ _ _ _ _ [], z_no) rfl ?_
        refine j_iload dX8_replaceTable_54 rfl ?_
        refine j_if_eq (tgt := 67) dX8_replaceTable_56 (by decide) (fun c_56 => ?_) (fun c_56 => ?_)
        · refine j_aload_n dX8_replaceTable_67 rfl rfl ?_
          refine j_callV (q := (RX8, TX8, 9)) dX8_replaceTable_68 kX8_refused lX8_119 inX8_refused seX8_refused rfl rfl (z_dirF (c_X8_refused hl _ _ _ _ _ _ _ _ _ _ _ _ _ _ _ _ _ _ _ _ _ _ _ _ _ _ _ _ _ _ _ _ _ _ _ _ _ _ _ _ _ _ _ _ _ _ _ _ _ _ _ _ _ _ _ _)) (Nat.le_of_ble_eq_true rfl) ⟨(Nat.le_of_ble_eq_true rfl), (Nat.le_of_ble_eq_true rfl)⟩ rfl (Nat.le_of_ble_eq_true rfl) rfl rfl (fun _ _ h => h.elim) ?_
          rintro _ _ ⟨_, ⟨⟨_, rfl⟩, _, rfl⟩, rfl⟩
          refine j_iret dX8_replaceTable_71 rfl rfl ?_ (Nat.le_of_ble_eq_true rfl) (Nat.le_of_ble_eq_true rfl)
          exact ⟨rfl, rfl, ⟨_, rfl⟩, (z_wk (by first | assumption | exact z_m20z) (by first | assumption | exact z_m20z) (by first | assumption | exact z_m20z) (by first | assumption | exact z_m20z) (by first | assumption | exact z_m20z) (by first | assumption | exact z_m20z))⟩
        · refine j_aload dX8_replaceTable_59 rfl rfl ?_
          refine j_getf dX8_replaceTable_61 fX8_165 rfl rfl ?_
          refine j_goto (tgt := 71) dX8_replaceTable_64 (by decide) ?_
          refine j_iret dX8_replaceTable_71 rfl rfl ?_ (Nat.le_of_ble_eq_true rfl) (Nat.le_of_ble_eq_true rfl)
          exact ⟨rfl, rfl, ⟨_, rfl⟩, (z_wk (by first | assumption | exact z_m20z) (by first | assumption | exact z_m20z) (by first | assumption | exact z_m20z) (by first | assumption | exact z_m20z) (by first | assumption | exact z_m20z) (by first | assumption | exact z_m20z))⟩
      · refine j_iload_n dX8_replaceTable_16 rfl ?_
        refine j_iconst (v := 4) dX8_replaceTable_17 (by decide) ?_
        refine j_icmp_eq (tgt := 26) dX8_replaceTable_18 (by decide) (fun c_18 => ?_) (fun c_18 => ?_)
        · refine j_iconst (v := 1) dX8_replaceTable_26 (by decide) ?_
          refine j_goto (tgt := 31) dX8_replaceTable_27 (by decide) ?_
          refine j_callS dX8_replaceTable_31 kX8_checkRule lX8_112 stX8_checkRule (c_X8_checkRule hl _ _) (Nat.le_of_ble_eq_true rfl) ⟨(Nat.le_of_ble_eq_true rfl), (Nat.le_of_ble_eq_true rfl)⟩ rfl (Nat.le_of_ble_eq_true rfl) rfl rfl (fun _ _ h => by obtain ⟨h1, rfl⟩ := h; exact ⟨rfl, rfl, x_A_IA h1, rfl⟩) ?_
          rintro _ _ ⟨rfl, rfl⟩
          refine j_iload_n dX8_replaceTable_34 rfl ?_
          refine j_callS dX8_replaceTable_35 kX8_checkValue lX8_50 stX8_checkValue (c_X8_checkValue hl _ _) (Nat.le_of_ble_eq_true rfl) ⟨(Nat.le_of_ble_eq_true rfl), (Nat.le_of_ble_eq_true rfl)⟩ rfl (Nat.le_of_ble_eq_true rfl) rfl rfl (fun _ _ h => by obtain ⟨h1, rfl⟩ := h; exact ⟨rfl, rfl, x_A_IA h1, rfl⟩) ?_
          rintro _ _ ⟨rfl, rfl⟩
          refine j_new (w' := (z_cw _ _ _ _ _ _ _ _ _ _ _ _ _ _ _ _ _ _ _ _ _ _ _ _ _ _ _ _ _ _ _ _ _ _ _ _ _ _ _ _ _ _ _ _ _ _ _ _ _ _ _ _ _ _ _ _ [.inr (10, [_, _, _, _, _])], z_no)) (n := 51) dX8_replaceTable_38 nX8_160 rfl (z_al_l rfl rfl) (Nat.le_of_ble_eq_true rfl) (Nat.le_of_ble_eq_true rfl) ?_
          refine j_dup dX8_replaceTable_41 rfl ?_
          refine j_aload dX8_replaceTable_42 rfl rfl ?_
          refine j_callI dX8_replaceTable_44 kX5_init rfl lX8_162 inX5_init rfl (z_frame [51, 16, 17, 18, 19, 20] rfl (by decide) (Nat.le_of_ble_eq_true rfl) (c_X5_init hl _ _ _ _ _)) (Nat.le_of_ble_eq_true rfl) ⟨(Nat.le_of_ble_eq_true rfl), (Nat.le_of_ble_eq_true rfl)⟩ rfl (Nat.le_of_ble_eq_true rfl) rfl rfl (fun _ _ h => h.elim) ?_
          rintro _ _ ⟨_, _, ⟨rfl, _, rfl⟩, rfl, rfl⟩
          refine j_w (z_cw _ _ _ _ _ _ _ _ _ _ _ _ _ _ _ _ _ _ _ _ _ _ _ _ _ _ _ _ _ _ _ _ _ _ _ _ _ _ _ _ _ _ _ _ _ _ _ _ _ _ _ _ _ _ _ _ [.inr (10, [_, _, _, _, _])], z_no) rfl ?_
          refine j_iload_n dX8_replaceTable_47 rfl ?_
          refine j_iload_n dX8_replaceTable_48 rfl ?_
          refine j_callS dX8_replaceTable_49 kX8_changeEach lX8_115 stX8_changeEach (z_frame [51, 16, 17, 18, 19, 20] rfl (by decide) (Nat.le_of_ble_eq_true rfl) (c_X8_changeEach_X5 hl _ _ _ _ _ _ _ _ _ _)) (Nat.le_of_ble_eq_true rfl) ⟨(Nat.le_of_ble_eq_true rfl), (Nat.le_of_ble_eq_true rfl)⟩ rfl (Nat.le_of_ble_eq_true rfl) rfl rfl (fun _ _ h => h.elim) ?_
          rintro _ _ ⟨_, _, ⟨⟨b, rfl⟩, _, _, _, _, _, rfl⟩, rfl, rfl⟩
          refine j_w (z_cw _ _ _ _ _ _ _ _ _ _ _ _ _ _ _ _ _ _ _ _ _ _ _ _ _ _ _ _ _ _ _ _ _ _ _ _ _ _ _ _ _ _ _ _ _ _ _ _ _ _ _ _ _ _ _ _ [.inr (10, [_, _, _, _, _])], z_no) rfl ?_
          refine j_istore (lo' := [(5, _), (4, _), (0, _), (1, _), (2, _), (3, _)]) dX8_replaceTable_52 (by decide) rfl ?_
          refine j_dropL (n := 51) rfl (Nat.le_of_ble_eq_true rfl) (Nat.le_of_ble_eq_true rfl) (Nat.le_of_ble_eq_true rfl) z_cwc rfl rfl ?_
          refine j_w (z_cw _ _ _ _ _ _ _ _ _ _ _ _ _ _ _ _ _ _ _ _ _ _ _ _ _ _ _ _ _ _ _ _ _ _ _ _ _ _ _ _ _ _ _ _ _ _ _ _ _ _ _ _ _ _ _ _ [], z_no) rfl ?_
          refine j_iload dX8_replaceTable_54 rfl ?_
          refine j_if_eq (tgt := 67) dX8_replaceTable_56 (by decide) (fun c_56 => ?_) (fun c_56 => ?_)
          · refine j_aload_n dX8_replaceTable_67 rfl rfl ?_
            refine j_callV (q := (RX8, TX8, 9)) dX8_replaceTable_68 kX8_refused lX8_119 inX8_refused seX8_refused rfl rfl (z_dirF (c_X8_refused hl _ _ _ _ _ _ _ _ _ _ _ _ _ _ _ _ _ _ _ _ _ _ _ _ _ _ _ _ _ _ _ _ _ _ _ _ _ _ _ _ _ _ _ _ _ _ _ _ _ _ _ _ _ _ _ _)) (Nat.le_of_ble_eq_true rfl) ⟨(Nat.le_of_ble_eq_true rfl), (Nat.le_of_ble_eq_true rfl)⟩ rfl (Nat.le_of_ble_eq_true rfl) rfl rfl (fun _ _ h => h.elim) ?_
            rintro _ _ ⟨_, ⟨⟨_, rfl⟩, _, rfl⟩, rfl⟩
            refine j_iret dX8_replaceTable_71 rfl rfl ?_ (Nat.le_of_ble_eq_true rfl) (Nat.le_of_ble_eq_true rfl)
            exact ⟨rfl, rfl, ⟨_, rfl⟩, (z_wk (by first | assumption | exact z_m20z) (by first | assumption | exact z_m20z) (by first | assumption | exact z_m20z) (by first | assumption | exact z_m20z) (by first | assumption | exact z_m20z) (by first | assumption | exact z_m20z))⟩
          · refine j_aload dX8_replaceTable_59 rfl rfl ?_
            refine j_getf dX8_replaceTable_61 fX8_165 rfl rfl ?_
            refine j_goto (tgt := 71) dX8_replaceTable_64 (by decide) ?_
            refine j_iret dX8_replaceTable_71 rfl rfl ?_ (Nat.le_of_ble_eq_true rfl) (Nat.le_of_ble_eq_true rfl)
            exact ⟨rfl, rfl, ⟨_, rfl⟩, (z_wk (by first | assumption | exact z_m20z) (by first | assumption | exact z_m20z) (by first | assumption | exact z_m20z) (by first | assumption | exact z_m20z) (by first | assumption | exact z_m20z) (by first | assumption | exact z_m20z))⟩
        · refine j_iload_n dX8_replaceTable_21 rfl ?_
          refine j_iconst (v := 5) dX8_replaceTable_22 (by decide) ?_
          refine j_icmp_ne (tgt := 30) dX8_replaceTable_23 (by decide) (fun c_23 => ?_) (fun c_23 => ?_)
          · refine j_iconst (v := 0) dX8_replaceTable_30 (by decide) ?_
            refine j_callS dX8_replaceTable_31 kX8_checkRule lX8_112 stX8_checkRule (c_X8_checkRule hl _ _) (Nat.le_of_ble_eq_true rfl) ⟨(Nat.le_of_ble_eq_true rfl), (Nat.le_of_ble_eq_true rfl)⟩ rfl (Nat.le_of_ble_eq_true rfl) rfl rfl (fun _ _ h => by obtain ⟨h1, rfl⟩ := h; exact ⟨rfl, rfl, x_A_IA h1, rfl⟩) ?_
            rintro _ _ ⟨rfl, rfl⟩
            refine j_iload_n dX8_replaceTable_34 rfl ?_
            refine j_callS dX8_replaceTable_35 kX8_checkValue lX8_50 stX8_checkValue (c_X8_checkValue hl _ _) (Nat.le_of_ble_eq_true rfl) ⟨(Nat.le_of_ble_eq_true rfl), (Nat.le_of_ble_eq_true rfl)⟩ rfl (Nat.le_of_ble_eq_true rfl) rfl rfl (fun _ _ h => by obtain ⟨h1, rfl⟩ := h; exact ⟨rfl, rfl, x_A_IA h1, rfl⟩) ?_
            rintro _ _ ⟨rfl, rfl⟩
            refine j_new (w' := (z_cw _ _ _ _ _ _ _ _ _ _ _ _ _ _ _ _ _ _ _ _ _ _ _ _ _ _ _ _ _ _ _ _ _ _ _ _ _ _ _ _ _ _ _ _ _ _ _ _ _ _ _ _ _ _ _ _ [.inr (10, [_, _, _, _, _])], z_no)) (n := 51) dX8_replaceTable_38 nX8_160 rfl (z_al_l rfl rfl) (Nat.le_of_ble_eq_true rfl) (Nat.le_of_ble_eq_true rfl) ?_
            refine j_dup dX8_replaceTable_41 rfl ?_
            refine j_aload dX8_replaceTable_42 rfl rfl ?_
            refine j_callI dX8_replaceTable_44 kX5_init rfl lX8_162 inX5_init rfl (z_frame [51, 16, 17, 18, 19, 20] rfl (by decide) (Nat.le_of_ble_eq_true rfl) (c_X5_init hl _ _ _ _ _)) (Nat.le_of_ble_eq_true rfl) ⟨(Nat.le_of_ble_eq_true rfl), (Nat.le_of_ble_eq_true rfl)⟩ rfl (Nat.le_of_ble_eq_true rfl) rfl rfl (fun _ _ h => h.elim) ?_
            rintro _ _ ⟨_, _, ⟨rfl, _, rfl⟩, rfl, rfl⟩
            refine j_w (z_cw _ _ _ _ _ _ _ _ _ _ _ _ _ _ _ _ _ _ _ _ _ _ _ _ _ _ _ _ _ _ _ _ _ _ _ _ _ _ _ _ _ _ _ _ _ _ _ _ _ _ _ _ _ _ _ _ [.inr (10, [_, _, _, _, _])], z_no) rfl ?_
            refine j_iload_n dX8_replaceTable_47 rfl ?_
            refine j_iload_n dX8_replaceTable_48 rfl ?_
            refine j_callS dX8_replaceTable_49 kX8_changeEach lX8_115 stX8_changeEach (z_frame [51, 16, 17, 18, 19, 20] rfl (by decide) (Nat.le_of_ble_eq_true rfl) (c_X8_changeEach_X5 hl _ _ _ _ _ _ _ _ _ _)) (Nat.le_of_ble_eq_true rfl) ⟨(Nat.le_of_ble_eq_true rfl), (Nat.le_of_ble_eq_true rfl)⟩ rfl (Nat.le_of_ble_eq_true rfl) rfl rfl (fun _ _ h => h.elim) ?_
            rintro _ _ ⟨_, _, ⟨⟨b, rfl⟩, _, _, _, _, _, rfl⟩, rfl, rfl⟩
            refine j_w (z_cw _ _ _ _ _ _ _ _ _ _ _ _ _ _ _ _ _ _ _ _ _ _ _ _ _ _ _ _ _ _ _ _ _ _ _ _ _ _ _ _ _ _ _ _ _ _ _ _ _ _ _ _ _ _ _ _ [.inr (10, [_, _, _, _, _])], z_no) rfl ?_
            refine j_istore (lo' := [(5, _), (4, _), (0, _), (1, _), (2, _), (3, _)]) dX8_replaceTable_52 (by decide) rfl ?_
            refine j_dropL (n := 51) rfl (Nat.le_of_ble_eq_true rfl) (Nat.le_of_ble_eq_true rfl) (Nat.le_of_ble_eq_true rfl) z_cwc rfl rfl ?_
            refine j_w (z_cw _ _ _ _ _ _ _ _ _ _ _ _ _ _ _ _ _ _ _ _ _ _ _ _ _ _ _ _ _ _ _ _ _ _ _ _ _ _ _ _ _ _ _ _ _ _ _ _ _ _ _ _ _ _ _ _ [], z_no) rfl ?_
            refine j_iload dX8_replaceTable_54 rfl ?_
            refine j_if_eq (tgt := 67) dX8_replaceTable_56 (by decide) (fun c_56 => ?_) (fun c_56 => ?_)
            · refine j_aload_n dX8_replaceTable_67 rfl rfl ?_
              refine j_callV (q := (RX8, TX8, 9)) dX8_replaceTable_68 kX8_refused lX8_119 inX8_refused seX8_refused rfl rfl (z_dirF (c_X8_refused hl _ _ _ _ _ _ _ _ _ _ _ _ _ _ _ _ _ _ _ _ _ _ _ _ _ _ _ _ _ _ _ _ _ _ _ _ _ _ _ _ _ _ _ _ _ _ _ _ _ _ _ _ _ _ _ _)) (Nat.le_of_ble_eq_true rfl) ⟨(Nat.le_of_ble_eq_true rfl), (Nat.le_of_ble_eq_true rfl)⟩ rfl (Nat.le_of_ble_eq_true rfl) rfl rfl (fun _ _ h => h.elim) ?_
              rintro _ _ ⟨_, ⟨⟨_, rfl⟩, _, rfl⟩, rfl⟩
              refine j_iret dX8_replaceTable_71 rfl rfl ?_ (Nat.le_of_ble_eq_true rfl) (Nat.le_of_ble_eq_true rfl)
              exact ⟨rfl, rfl, ⟨_, rfl⟩, (z_wk (by first | assumption | exact z_m20z) (by first | assumption | exact z_m20z) (by first | assumption | exact z_m20z) (by first | assumption | exact z_m20z) (by first | assumption | exact z_m20z) (by first | assumption | exact z_m20z))⟩
            · refine j_aload dX8_replaceTable_59 rfl rfl ?_
              refine j_getf dX8_replaceTable_61 fX8_165 rfl rfl ?_
              refine j_goto (tgt := 71) dX8_replaceTable_64 (by decide) ?_
              refine j_iret dX8_replaceTable_71 rfl rfl ?_ (Nat.le_of_ble_eq_true rfl) (Nat.le_of_ble_eq_true rfl)
              exact ⟨rfl, rfl, ⟨_, rfl⟩, (z_wk (by first | assumption | exact z_m20z) (by first | assumption | exact z_m20z) (by first | assumption | exact z_m20z) (by first | assumption | exact z_m20z) (by first | assumption | exact z_m20z) (by first | assumption | exact z_m20z))⟩
          · refine j_iconst (v := 1) dX8_replaceTable_26 (by decide) ?_
            refine j_goto (tgt := 31) dX8_replaceTable_27 (by decide) ?_
            refine j_callS dX8_replaceTable_31 kX8_checkRule lX8_112 stX8_checkRule (c_X8_checkRule hl _ _) (Nat.le_of_ble_eq_true rfl) ⟨(Nat.le_of_ble_eq_true rfl), (Nat.le_of_ble_eq_true rfl)⟩ rfl (Nat.le_of_ble_eq_true rfl) rfl rfl (fun _ _ h => by obtain ⟨h1, rfl⟩ := h; exact ⟨rfl, rfl, x_A_IA h1, rfl⟩) ?_
            rintro _ _ ⟨rfl, rfl⟩
            refine j_iload_n dX8_replaceTable_34 rfl ?_
            refine j_callS dX8_replaceTable_35 kX8_checkValue lX8_50 stX8_checkValue (c_X8_checkValue hl _ _) (Nat.le_of_ble_eq_true rfl) ⟨(Nat.le_of_ble_eq_true rfl), (Nat.le_of_ble_eq_true rfl)⟩ rfl (Nat.le_of_ble_eq_true rfl) rfl rfl (fun _ _ h => by obtain ⟨h1, rfl⟩ := h; exact ⟨rfl, rfl, x_A_IA h1, rfl⟩) ?_
            rintro _ _ ⟨rfl, rfl⟩
            refine j_new (w' := (z_cw _ _ _ _ _ _ _ _ _ _ _ _ _ _ _ _ _ _ _ _ _ _ _ _ _ _ _ _ _ _ _ _ _ _ _ _ _ _ _ _ _ _ _ _ _ _ _ _ _ _ _ _ _ _ _ _ [.inr (10, [_, _, _, _, _])], z_no)) (n := 51) dX8_replaceTable_38 nX8_160 rfl (z_al_l rfl rfl) (Nat.le_of_ble_eq_true rfl) (Nat.le_of_ble_eq_true rfl) ?_
            refine j_dup dX8_replaceTable_41 rfl ?_
            refine j_aload dX8_replaceTable_42 rfl rfl ?_
            refine j_callI dX8_replaceTable_44 kX5_init rfl lX8_162 inX5_init rfl (z_frame [51, 16, 17, 18, 19, 20] rfl (by decide) (Nat.le_of_ble_eq_true rfl) (c_X5_init hl _ _ _ _ _)) (Nat.le_of_ble_eq_true rfl) ⟨(Nat.le_of_ble_eq_true rfl), (Nat.le_of_ble_eq_true rfl)⟩ rfl (Nat.le_of_ble_eq_true rfl) rfl rfl (fun _ _ h => h.elim) ?_
            rintro _ _ ⟨_, _, ⟨rfl, _, rfl⟩, rfl, rfl⟩
            refine j_w (z_cw _ _ _ _ _ _ _ _ _ _ _ _ _ _ _ _ _ _ _ _ _ _ _ _ _ _ _ _ _ _ _ _ _ _ _ _ _ _ _ _ _ _ _ _ _ _ _ _ _ _ _ _ _ _ _ _ [.inr (10, [_, _, _, _, _])], z_no) rfl ?_
            refine j_iload_n dX8_replaceTable_47 rfl ?_
            refine j_iload_n dX8_replaceTable_48 rfl ?_
            refine j_callS dX8_replaceTable_49 kX8_changeEach lX8_115 stX8_changeEach (z_frame [51, 16, 17, 18, 19, 20] rfl (by decide) (Nat.le_of_ble_eq_true rfl) (c_X8_changeEach_X5 hl _ _ _ _ _ _ _ _ _ _)) (Nat.le_of_ble_eq_true rfl) ⟨(Nat.le_of_ble_eq_true rfl), (Nat.le_of_ble_eq_true rfl)⟩ rfl (Nat.le_of_ble_eq_true rfl) rfl rfl (fun _ _ h => h.elim) ?_
            rintro _ _ ⟨_, _, ⟨⟨b, rfl⟩, _, _, _, _, _, rfl⟩, rfl, rfl⟩
            refine j_w (z_cw _ _ _ _ _ _ _ _ _ _ _ _ _ _ _ _ _ _ _ _ _ _ _ _ _ _ _ _ _ _ _ _ _ _ _ _ _ _ _ _ _ _ _ _ _ _ _ _ _ _ _ _ _ _ _ _ [.inr (10, [_, _, _, _, _])], z_no) rfl ?_
            refine j_istore (lo' := [(5, _), (4, _), (0, _), (1, _), (2, _), (3, _)]) dX8_replaceTable_52 (by decide) rfl ?_
            refine j_dropL (n := 51) rfl (Nat.le_of_ble_eq_true rfl) (Nat.le_of_ble_eq_true rfl) (Nat.le_of_ble_eq_true rfl) z_cwc rfl rfl ?_
            refine j_w (z_cw _ _ _ _ _ _ _ _ _ _ _ _ _ _ _ _ _ _ _ _ _ _ _ _ _ _ _ _ _ _ _ _ _ _ _ _ _ _ _ _ _ _ _ _ _ _ _ _ _ _ _ _ _ _ _ _ [], z_no) rfl ?_
            refine j_iload dX8_replaceTable_54 rfl ?_
            refine j_if_eq (tgt := 67) dX8_replaceTable_56 (by decide) (fun c_56 => ?_) (fun c_56 => ?_)
            · refine j_aload_n dX8_replaceTable_67 rfl rfl ?_
              refine j_callV (q := (RX8, TX8, 9)) dX8_replaceTable_68 kX8_refused lX8_119 inX8_refused seX8_refused rfl rfl (z_dirF (c_X8_refused hl _ _ _ _ _ _ _ _ _ _ _ _ _ _ _ _ _ _ _ _ _ _ _ _ _ _ _ _ _ _ _ _ _ _ _ _ _ _ _ _ _ _ _ _ _ _ _ _ _ _ _ _ _ _ _ _)) (Nat.le_of_ble_eq_true rfl) ⟨(Nat.le_of_ble_eq_true rfl), (Nat.le_of_ble_eq_true rfl)⟩ rfl (Nat.le_of_ble_eq_true rfl) rfl rfl (fun _ _ h => h.elim) ?_
              rintro _ _ ⟨_, ⟨⟨_, rfl⟩, _, rfl⟩, rfl⟩
              refine j_iret dX8_replaceTable_71 rfl rfl ?_ (Nat.le_of_ble_eq_true rfl) (Nat.le_of_ble_eq_true rfl)
              exact ⟨rfl, rfl, ⟨_, rfl⟩, (z_wk (by first | assumption | exact z_m20z) (by first | assumption | exact z_m20z) (by first | assumption | exact z_m20z) (by first | assumption | exact z_m20z) (by first | assumption | exact z_m20z) (by first | assumption | exact z_m20z))⟩
            · refine j_aload dX8_replaceTable_59 rfl rfl ?_
              refine j_getf dX8_replaceTable_61 fX8_165 rfl rfl ?_
              refine j_goto (tgt := 71) dX8_replaceTable_64 (by decide) ?_
              refine j_iret dX8_replaceTable_71 rfl rfl ?_ (Nat.le_of_ble_eq_true rfl) (Nat.le_of_ble_eq_true rfl)
              exact ⟨rfl, rfl, ⟨_, rfl⟩, (z_wk (by first | assumption | exact z_m20z) (by first | assumption | exact z_m20z) (by first | assumption | exact z_m20z) (by first | assumption | exact z_m20z) (by first | assumption | exact z_m20z) (by first | assumption | exact z_m20z))⟩
  · refine j_astore (lo' := [(4, _), (0, _), (1, _), (2, _), (3, _)]) dX8_replaceTable_5 rfl (by decide) rfl ?_
    refine j_iload_n dX8_replaceTable_7 rfl ?_
    refine j_if_eq (tgt := 26) dX8_replaceTable_8 (by decide) (fun c_8 => ?_) (fun c_8 => ?_)
    · refine j_iconst (v := 1) dX8_replaceTable_26 (by decide) ?_
      refine j_goto (tgt := 31) dX8_replaceTable_27 (by decide) ?_
      refine j_callS dX8_replaceTable_31 kX8_checkRule lX8_112 stX8_checkRule (c_X8_checkRule hl _ _) (Nat.le_of_ble_eq_true rfl) ⟨(Nat.le_of_ble_eq_true rfl), (Nat.le_of_ble_eq_true rfl)⟩ rfl (Nat.le_of_ble_eq_true rfl) rfl rfl (fun _ _ h => by obtain ⟨h1, rfl⟩ := h; exact ⟨rfl, rfl, x_A_IA h1, rfl⟩) ?_
      rintro _ _ ⟨rfl, rfl⟩
      refine j_iload_n dX8_replaceTable_34 rfl ?_
      refine j_callS dX8_replaceTable_35 kX8_checkValue lX8_50 stX8_checkValue (c_X8_checkValue hl _ _) (Nat.le_of_ble_eq_true rfl) ⟨(Nat.le_of_ble_eq_true rfl), (Nat.le_of_ble_eq_true rfl)⟩ rfl (Nat.le_of_ble_eq_true rfl) rfl rfl (fun _ _ h => by obtain ⟨h1, rfl⟩ := h; exact ⟨rfl, rfl, x_A_IA h1, rfl⟩) ?_
      rintro _ _ ⟨rfl, rfl⟩
      refine j_new (w' := (z_cw _ _ _ _ _ _ _ _ _ _ _ _ _ _ _ _ _ _ _ _ _ _ _ _ _ _ _ _ _ _ _ _ _ _ _ _ _ _ _ _ _ _ _ _ _ _ _ _ _ _ _ _ _ _ _ _ [.inr (10, [_, _, _, _, _])], z_no)) (n := 51) dX8_replaceTable_38 nX8_160 rfl (z_al_l rfl rfl) (Nat.le_of_ble_eq_true rfl) (Nat.le_of_ble_eq_true rfl) ?_
      refine j_dup dX8_replaceTable_41 rfl ?_
      refine j_aload dX8_replaceTable_42 rfl rfl ?_
      refine j_callI dX8_replaceTable_44 kX5_init rfl lX8_162 inX5_init rfl (z_frame [51, 21, 22, 23, 24, 25] rfl (by decide) (Nat.le_of_ble_eq_true rfl) (c_X5_init hl _ _ _ _ _)) (Nat.le_of_ble_eq_true rfl) ⟨(Nat.le_of_ble_eq_true rfl), (Nat.le_of_ble_eq_true rfl)⟩ rfl (Nat.le_of_ble_eq_true rfl) rfl rfl (fun _ _ h => h.elim) ?_
      rintro _ _ ⟨_, _, ⟨rfl, _, rfl⟩, rfl, rfl⟩
      refine j_w (z_cw _ _ _ _ _ _ _ _ _ _ _ _ _ _ _ _ _ _ _ _ _ _ _ _ _ _ _ _ _ _ _ _ _ _ _ _ _ _ _ _ _ _ _ _ _ _ _ _ _ _ _ _ _ _ _ _ [.inr (10, [_, _, _, _, _])], z_no) rfl ?_
      refine j_iload_n dX8_replaceTable_47 rfl ?_
      refine j_iload_n dX8_replaceTable_48 rfl ?_
      refine j_callS dX8_replaceTable_49 kX8_changeEach lX8_115 stX8_changeEach (z_frame [51, 21, 22, 23, 24, 25] rfl (by decide) (Nat.le_of_ble_eq_true rfl) (c_X8_changeEach_X5 hl _ _ _ _ _ _ _ _ _ _)) (Nat.le_of_ble_eq_true rfl) ⟨(Nat.le_of_ble_eq_true rfl), (Nat.le_of_ble_eq_true rfl)⟩ rfl (Nat.le_of_ble_eq_true rfl) rfl rfl (fun _ _ h => h.elim) ?_
      rintro _ _ ⟨_, _, ⟨⟨b, rfl⟩, _, _, _, _, _, rfl⟩, rfl, rfl⟩
      refine j_w (z_cw _ _ _ _ _ _ _ _ _ _ _ _ _ _ _ _ _ _ _ _ _ _ _ _ _ _ _ _ _ _ _ _ _ _ _ _ _ _ _ _ _ _ _ _ _ _ _ _ _ _ _ _ _ _ _ _ [.inr (10, [_, _, _, _, _])], z_no) rfl ?_
      refine j_istore (lo' := [(5, _), (4, _), (0, _), (1, _), (2, _), (3, _)]) dX8_replaceTable_52 (by decide) rfl ?_
      refine j_dropL (n := 51) rfl (Nat.le_of_ble_eq_true rfl) (Nat.le_of_ble_eq_true rfl) (Nat.le_of_ble_eq_true rfl) z_cwc rfl rfl ?_
      refine j_w (z_cw _ _ _ _ _ _ _ _ _ _ _ _ _ _ _ _ _ _ _ _ _ _ _ _ _ _ _ _ _ _ _ _ _ _ _ _ _ _ _ _ _ _ _ _ _ _ _ _ _ _ _ _ _ _ _ _ [], z_no) rfl ?_
      refine j_iload dX8_replaceTable_54 rfl ?_
      refine j_if_eq (tgt := 67) dX8_replaceTable_56 (by decide) (fun c_56 => ?_) (fun c_56 => ?_)
      · refine j_aload_n dX8_replaceTable_67 rfl rfl ?_
        refine j_callV (q := (RX8, TX8, 9)) dX8_replaceTable_68 kX8_refused lX8_119 inX8_refused seX8_refused rfl rfl (z_dirF (c_X8_refused hl _ _ _ _ _ _ _ _ _ _ _ _ _ _ _ _ _ _ _ _ _ _ _ _ _ _ _ _ _ _ _ _ _ _ _ _ _ _ _ _ _ _ _ _ _ _ _ _ _ _ _ _ _ _ _ _)) (Nat.le_of_ble_eq_true rfl) ⟨(Nat.le_of_ble_eq_true rfl), (Nat.le_of_ble_eq_true rfl)⟩ rfl (Nat.le_of_ble_eq_true rfl) rfl rfl (fun _ _ h => h.elim) ?_
        rintro _ _ ⟨_, ⟨⟨_, rfl⟩, _, rfl⟩, rfl⟩
        refine j_iret dX8_replaceTable_71 rfl rfl ?_ (Nat.le_of_ble_eq_true rfl) (Nat.le_of_ble_eq_true rfl)
        exact ⟨rfl, rfl, ⟨_, rfl⟩, (z_wk (by first | assumption | exact z_m20z) (by first | assumption | exact z_m20z) (by first | assumption | exact z_m20z) (by first | assumption | exact z_m20z) (by first | assumption | exact z_m20z) (by first | assumption | exact z_m20z))⟩
      · refine j_aload dX8_replaceTable_59 rfl rfl ?_
        refine j_getf dX8_replaceTable_61 fX8_165 rfl rfl ?_
        refine j_goto (tgt := 71) dX8_replaceTable_64 (by decide) ?_
        refine j_iret dX8_replaceTable_71 rfl rfl ?_ (Nat.le_of_ble_eq_true rfl) (Nat.le_of_ble_eq_true rfl)
        exact ⟨rfl, rfl, ⟨_, rfl⟩, (z_wk (by first | assumption | exact z_m20z) (by first | assumption | exact z_m20z) (by first | assumption | exact z_m20z) (by first | assumption | exact z_m20z) (by first | assumption | exact z_m20z) (by first | assumption | exact z_m20z))⟩
    · refine j_iload_n dX8_replaceTable_11 rfl ?_
      refine j_iconst (v := 1) dX8_replaceTable_12 (by decide) ?_
      refine j_icmp_eq (tgt := 26) dX8_replaceTable_13 (by decide) (fun c_13 => ?_) (fun c_13 => ?_)
      · refine j_iconst (v := 1) dX8_replaceTable_26 (by decide) ?_
        refine j_goto (tgt := 31) dX8_replaceTable_27 (by decide) ?_
        refine j_callS dX8_replaceTable_31 kX8_checkRule lX8_112 stX8_checkRule (c_X8_checkRule hl _ _) (Nat.le_of_ble_eq_true rfl) ⟨(Nat.le_of_ble_eq_true rfl), (Nat.le_of_ble_eq_true rfl)⟩ rfl (Nat.le_of_ble_eq_true rfl) rfl rfl (fun _ _ h => by obtain ⟨h1, rfl⟩ := h; exact ⟨rfl, rfl, x_A_IA h1, rfl⟩) ?_
        rintro _ _ ⟨rfl, rfl⟩
        refine j_iload_n dX8_replaceTable_34 rfl ?_
        refine j_callS dX8_replaceTable_35 kX8_checkValue lX8_50 stX8_checkValue (c_X8_checkValue hl _ _) (Nat.le_of_ble_eq_true rfl) ⟨(Nat.le_of_ble_eq_true rfl), (Nat.le_of_ble_eq_true rfl)⟩ rfl (Nat.le_of_ble_eq_true rfl) rfl rfl (fun _ _ h => by obtain ⟨h1, rfl⟩ := h; exact ⟨rfl, rfl, x_A_IA h1, rfl⟩) ?_
        rintro _ _ ⟨rfl, rfl⟩
        refine j_new (w' := (z_cw _ _ _ _ _ _ _ _ _ _ _ _ _ _ _ _ _ _ _ _ _ _ _ _ _ _ _ _ _ _ _ _ _ _ _ _ _ _ _ _ _ _ _ _ _ _ _ _ _ _ _ _ _ _ _ _ [.inr (10, [_, _, _, _, _])], z_no)) (n := 51) dX8_replaceTable_38 nX8_160 rfl (z_al_l rfl rfl) (Nat.le_of_ble_eq_true rfl) (Nat.le_of_ble_eq_true rfl) ?_
        refine j_dup dX8_replaceTable_41 rfl ?_
        refine j_aload dX8_replaceTable_42 rfl rfl ?_
        refine j_callI dX8_replaceTable_44 kX5_init rfl lX8_162 inX5_init rfl (z_frame [51, 21, 22, 23, 24, 25] rfl (by decide) (Nat.le_of_ble_eq_true rfl) (c_X5_init hl _ _ _ _ _)) (Nat.le_of_ble_eq_true rfl) ⟨(Nat.le_of_ble_eq_true rfl), (Nat.le_of_ble_eq_true rfl)⟩ rfl (Nat.le_of_ble_eq_true rfl) rfl rfl (fun _ _ h => h.elim) ?_
        rintro _ _ ⟨_, _, ⟨rfl, _, rfl⟩, rfl, rfl⟩
        refine j_w (z_cw _ _ _ _ _ _ _ _ _ _ _ _ _ _ _ _ _ _ _ _ _ _ _ _ _ _ _ _ _ _ _ _ _ _ _ _ _ _ _ _ _ _ _ _ _ _ _ _ _ _ _ _ _ _ _ _ [.inr (10, [_, _, _, _, _])], z_no) rfl ?_
        refine j_iload_n dX8_replaceTable_47 rfl ?_
        refine j_iload_n dX8_replaceTable_48 rfl ?_
        refine j_callS dX8_replaceTable_49 kX8_changeEach lX8_115 stX8_changeEach (z_frame [51, 21, 22, 23, 24, 25] rfl (by decide) (Nat.le_of_ble_eq_true rfl) (c_X8_changeEach_X5 hl _ _ _ _ _ _ _ _ _ _)) (Nat.le_of_ble_eq_true rfl) ⟨(Nat.le_of_ble_eq_true rfl), (Nat.le_of_ble_eq_true rfl)⟩ rfl (Nat.le_of_ble_eq_true rfl) rfl rfl (fun _ _ h => h.elim) ?_
        rintro _ _ ⟨_, _, ⟨⟨b, rfl⟩, _, _, _, _, _, rfl⟩, rfl, rfl⟩
        refine j_w (z_cw _ _ _ _ _ _ _ _ _ _ _ _ _ _ _ _ _ _ _ _ _ _ _ _ _ _ _ _ _ _ _ _ _ _ _ _ _ _ _ _ _ _ _ _ _ _ _ _ _ _ _ _ _ _ _ _ [.inr (10, [_, _, _, _, _])], z_no) rfl ?_
        refine j_istore (lo' := [(5, _), (4, _), (0, _), (1, _), (2, _), (3, _)]) dX8_replaceTable_52 (by decide) rfl ?_
        refine j_dropL (n := 51) rfl (Nat.le_of_ble_eq_true rfl) (Nat.le_of_ble_eq_true rfl) (Nat.le_of_ble_eq_true rfl) z_cwc rfl rfl ?_
        refine j_w (z_cw _ _ _ _ _ _ _ _ _ _ _ _ _ _ _ _ _ _ _ _ _ _ _ _ _ _ _ _ _ _ _ _ _ _ _ _ _ _ _ _ _ _ _ _ _ _ _ _ _ _ _ _ _ _ _ _ [], z_no) rfl ?_
        refine j_iload dX8_replaceTable_54 rfl ?_
        refine j_if_eq (tgt := 67) dX8_replaceTable_56 (by decide) (fun c_56 => ?_) (fun c_56 => ?_)
        · refine j_aload_n dX8_replaceTable_67 rfl rfl ?_
          refine j_callV (q := (RX8, TX8, 9)) dX8_replaceTable_68 kX8_refused lX8_119 inX8_refused seX8_refused rfl rfl (z_dirF (c_X8_refused hl _ _ _ _ _ _ _ _ _ _ _ _ _ _ _ _ _ _ _ _ _ _ _ _ _ _ _ _ _ _ _ _ _ _ _ _ _ _ _ _ _ _ _ _ _ _ _ _ _ _ _ _ _ _ _ _)) (Nat.le_of_ble_eq_true rfl) ⟨(Nat.le_of_ble_eq_true rfl), (Nat.le_of_ble_eq_true rfl)⟩ rfl (Nat.le_of_ble_eq_true rfl) rfl rfl (fun _ _ h => h.elim) ?_
          rintro _ _ ⟨_, ⟨⟨_, rfl⟩, _, rfl⟩, rfl⟩
          refine j_iret dX8_replaceTable_71 rfl rfl ?_ (Nat.le_of_ble_eq_true rfl) (Nat.le_of_ble_eq_true rfl)
          exact ⟨rfl, rfl, ⟨_, rfl⟩, (z_wk (by first | assumption | exact z_m20z) (by first | assumption | exact z_m20z) (by first | assumption | exact z_m20z) (by first | assumption | exact z_m20z) (by first | assumption | exact z_m20z) (by first | assumption | exact z_m20z))⟩
        · refine j_aload dX8_replaceTable_59 rfl rfl ?_
          refine j_getf dX8_replaceTable_61 fX8_165 rfl rfl ?_
          refine j_goto (tgt := 71) dX8_replaceTable_64 (by decide) ?_
          refine j_iret dX8_replaceTable_71 rfl rfl ?_ (Nat.le_of_ble_eq_true rfl) (Nat.le_of_ble_eq_true rfl)
          exact ⟨rfl, rfl, ⟨_, rfl⟩, (z_wk (by first | assumption | exact z_m20z) (by first | assumption | exact z_m20z) (by first | assumption | exact z_m20z) (by first | assumption | exact z_m20z) (by first | assumption | exact z_m20z) (by first | assumption | exact z_m20z))⟩
      · refine j_iload_n dX8_replaceTable_16 rfl ?_
        refine j_iconst (v := 4) dX8_replaceTable_17 (by decide) ?_
        refine j_icmp_eq (tgt := 26) dX8_replaceTable_18 (by decide) (fun c_18 => ?_) (fun c_18 => ?_)
        · refine j_iconst (v := 1) dX8_replaceTable_26 (by decide) ?_
          refine j_goto (tgt := 31) dX8_replaceTable_27 (by decide) ?_
          refine j_callS dX8_replaceTable_31 kX8_checkRule lX8_112 stX8_checkRule (c_X8_checkRule hl _ _) (Nat.le_of_ble_eq_true rfl) ⟨(Nat.le_of_ble_eq_true rfl), (Nat.le_of_ble_eq_true rfl)⟩ rfl (Nat.le_of_ble_eq_true rfl) rfl rfl (fun _ _ h => by obtain ⟨h1, rfl⟩ := h; exact ⟨rfl, rfl, x_A_IA h1, rfl⟩) ?_
          rintro _ _ ⟨rfl, rfl⟩
          refine j_iload_n dX8_replaceTable_34 rfl ?_
          refine j_callS dX8_replaceTable_35 kX8_checkValue lX8_50 stX8_checkValue (c_X8_checkValue hl _ _) (Nat.le_of_ble_eq_true rfl) ⟨(Nat.le_of_ble_eq_true rfl), (Nat.le_of_ble_eq_true rfl)⟩ rfl (Nat.le_of_ble_eq_true rfl) rfl rfl (fun _ _ h => by obtain ⟨h1, rfl⟩ := h; exact ⟨rfl, rfl, x_A_IA h1, rfl⟩) ?_
          rintro _ _ ⟨rfl, rfl⟩
          refine j_new (w' := (z_cw _ _ _ _ _ _ _ _ _ _ _ _ _ _ _ _ _ _ _ _ _ _ _ _ _ _ _ _ _ _ _ _ _ _ _ _ _ _ _ _ _ _ _ _ _ _ _ _ _ _ _ _ _ _ _ _ [.inr (10, [_, _, _, _, _])], z_no)) (n := 51) dX8_replaceTable_38 nX8_160 rfl (z_al_l rfl rfl) (Nat.le_of_ble_eq_true rfl) (Nat.le_of_ble_eq_true rfl) ?_
          refine j_dup dX8_replaceTable_41 rfl ?_
          refine j_aload dX8_replaceTable_42 rfl rfl ?_
          refine j_callI dX8_replaceTable_44 kX5_init rfl lX8_162 inX5_init rfl (z_frame [51, 21, 22, 23, 24, 25] rfl (by decide) (Nat.le_of_ble_eq_true rfl) (c_X5_init hl _ _ _ _ _)) (Nat.le_of_ble_eq_true rfl) ⟨(Nat.le_of_ble_eq_true rfl), (Nat.le_of_ble_eq_true rfl)⟩ rfl (Nat.le_of_ble_eq_true rfl) rfl rfl (fun _ _ h => h.elim) ?_
          rintro _ _ ⟨_, _, ⟨rfl, _, rfl⟩, rfl, rfl⟩
          refine j_w (z_cw _ _ _ _ _ _ _ _ _ _ _ _ _ _ _ _ _ _ _ _ _ _ _ _ _ _ _ _ _ _ _ _ _ _ _ _ _ _ _ _ _ _ _ _ _ _ _ _ _ _ _ _ _ _ _ _ [.inr (10, [_, _, _, _, _])], z_no) rfl ?_
          refine j_iload_n dX8_replaceTable_47 rfl ?_
          refine j_iload_n dX8_replaceTable_48 rfl ?_
          refine j_callS dX8_replaceTable_49 kX8_changeEach lX8_115 stX8_changeEach (z_frame [51, 21, 22, 23, 24, 25] rfl (by decide) (Nat.le_of_ble_eq_true rfl) (c_X8_changeEach_X5 hl _ _ _ _ _ _ _ _ _ _)) (Nat.le_of_ble_eq_true rfl) ⟨(Nat.le_of_ble_eq_true rfl), (Nat.le_of_ble_eq_true rfl)⟩ rfl (Nat.le_of_ble_eq_true rfl) rfl rfl (fun _ _ h => h.elim) ?_
          rintro _ _ ⟨_, _, ⟨⟨b, rfl⟩, _, _, _, _, _, rfl⟩, rfl, rfl⟩
          refine j_w (z_cw _ _ _ _ _ _ _ _ _ _ _ _ _ _ _ _ _ _ _ _ _ _ _ _ _ _ _ _ _ _ _ _ _ _ _ _ _ _ _ _ _ _ _ _ _ _ _ _ _ _ _ _ _ _ _ _ [.inr (10, [_, _, _, _, _])], z_no) rfl ?_
          refine j_istore (lo' := [(5, _), (4, _), (0, _), (1, _), (2, _), (3, _)]) dX8_replaceTable_52 (by decide) rfl ?_
          refine j_dropL (n := 51) rfl (Nat.le_of_ble_eq_true rfl) (Nat.le_of_ble_eq_true rfl) (Nat.le_of_ble_eq_true rfl) z_cwc rfl rfl ?_
          refine j_w (z_cw _ _ _ _ _ _ _ _ _ _ _ _ _ _ _ _ _ _ _ _ _ _ _ _ _ _ _ _ _ _ _ _ _ _ _ _ _ _ _ _ _ _ _ _ _ _ _ _ _ _ _ _ _ _ _ _ [], z_no) rfl ?_
          refine j_iload dX8_replaceTable_54 rfl ?_
          refine j_if_eq (tgt := 67) dX8_replaceTable_56 (by decide) (fun c_56 => ?_) (fun c_56 => ?_)
          · refine j_aload_n dX8_replaceTable_67 rfl rfl ?_
            refine j_callV (q := (RX8, TX8, 9)) dX8_replaceTable_68 kX8_refused lX8_119 inX8_refused seX8_refused rfl rfl (z_dirF (c_X8_refused hl _ _ _ _ _ _ _ _ _ _ _ _ _ _ _ _ _ _ _ _ _ _ _ _ _ _ _ _ _ _ _ _ _ _ _ _ _ _ _ _ _ _ _ _ _ _ _ _ _ _ _ _ _ _ _ _)) (Nat.le_of_ble_eq_true rfl) ⟨(Nat.le_of_ble_eq_true rfl), (Nat.le_of_ble_eq_true rfl)⟩ rfl (Nat.le_of_ble_eq_true rfl) rfl rfl (fun _ _ h => h.elim) ?_
            rintro _ _ ⟨_, ⟨⟨_, rfl⟩, _, rfl⟩, rfl⟩
            refine j_iret dX8_replaceTable_71 rfl rfl ?_ (Nat.le_of_ble_eq_true rfl) (Nat.le_of_ble_eq_true rfl)
            exact ⟨rfl, rfl, ⟨_, rfl⟩, (z_wk (by first | assumption | exact z_m20z) (by first | assumption | exact z_m20z) (by first | assumption | exact z_m20z) (by first | assumption | exact z_m20z) (by first | assumption | exact z_m20z) (by first | assumption | exact z_m20z))⟩
          · refine j_aload dX8_replaceTable_59 rfl rfl ?_
            refine j_getf dX8_replaceTable_61 fX8_165 rfl rfl ?_
            refine j_goto (tgt := 71) dX8_replaceTable_64 (by decide) ?_
            refine j_iret dX8_replaceTable_71 rfl rfl ?_ (Nat.le_of_ble_eq_true rfl) (Nat.le_of_ble_eq_true rfl)
            exact ⟨rfl, rfl, ⟨_, rfl⟩, (z_wk (by first | assumption | exact z_m20z) (by first | assumption | exact z_m20z) (by first | assumption | exact z_m20z) (by first | assumption | exact z_m20z) (by first | assumption | exact z_m20z) (by first | assumption | exact z_m20z))⟩
        · refine j_iload_n dX8_replaceTable_21 rfl ?_
          refine j_iconst (v := 5) dX8_replaceTable_22 (by decide) ?_
          refine j_icmp_ne (tgt := 30) dX8_replaceTable_23 (by decide) (fun c_23 => ?_) (fun c_23 => ?_)
          · refine j_iconst (v := 0) dX8_replaceTable_30 (by decide) ?_
            refine j_callS dX8_replaceTable_31 kX8_checkRule lX8_112 stX8_checkRule (c_X8_checkRule hl _ _) (Nat.le_of_ble_eq_true rfl) ⟨(Nat.le_of_ble_eq_true rfl), (Nat.le_of_ble_eq_true rfl)⟩ rfl (Nat.le_of_ble_eq_true rfl) rfl rfl (fun _ _ h => by obtain ⟨h1, rfl⟩ := h; exact ⟨rfl, rfl, x_A_IA h1, rfl⟩) ?_
            rintro _ _ ⟨rfl, rfl⟩
            refine j_iload_n dX8_replaceTable_34 rfl ?_
            refine j_callS dX8_replaceTable_35 kX8_checkValue lX8_50 stX8_checkValue (c_X8_checkValue hl _ _) (Nat.le_of_ble_eq_true rfl) ⟨(Nat.le_of_ble_eq_true rfl), (Nat.le_of_ble_eq_true rfl)⟩ rfl (Nat.le_of_ble_eq_true rfl) rfl rfl (fun _ _ h => by obtain ⟨h1, rfl⟩ := h; exact ⟨rfl, rfl, x_A_IA h1, rfl⟩) ?_
            rintro _ _ ⟨rfl, rfl⟩
            refine j_new (w' := (z_cw _ _ _ _ _ _ _ _ _ _ _ _ _ _ _ _ _ _ _ _ _ _ _ _ _ _ _ _ _ _ _ _ _ _ _ _ _ _ _ _ _ _ _ _ _ _ _ _ _ _ _ _ _ _ _ _ [.inr (10, [_, _, _, _, _])], z_no)) (n := 51) dX8_replaceTable_38 nX8_160 rfl (z_al_l rfl rfl) (Nat.le_of_ble_eq_true rfl) (Nat.le_of_ble_eq_true rfl) ?_
            refine j_dup dX8_replaceTable_41 rfl ?_
            refine j_aload dX8_replaceTable_42 rfl rfl ?_
            refine j_callI dX8_replaceTable_44 kX5_init rfl lX8_162 inX5_init rfl (z_frame [51, 21, 22, 23, 24, 25] rfl (by decide) (Nat.le_of_ble_eq_true rfl) (c_X5_init hl _ _ _ _ _)) (Nat.le_of_ble_eq_true rfl) ⟨(Nat.le_of_ble_eq_true rfl), (Nat.le_of_ble_eq_true rfl)⟩ rfl (Nat.le_of_ble_eq_true rfl) rfl rfl (fun _ _ h => h.elim) ?_
            rintro _ _ ⟨_, _, ⟨rfl, _, rfl⟩, rfl, rfl⟩
            refine j_w (z_cw _ _ _ _ _ _ _ _ _ _ _ _ _ _ _ _ _ _ _ _ _ _ _ _ _ _ _ _ _ _ _ _ _ _ _ _ _ _ _ _ _ _ _ _ _ _ _ _ _ _ _ _ _ _ _ _ [.inr (10, [_, _, _, _, _])], z_no) rfl ?_
            refine j_iload_n dX8_replaceTable_47 rfl ?_
            refine j_iload_n dX8_replaceTable_48 rfl ?_
            refine j_callS dX8_replaceTable_49 kX8_changeEach lX8_115 stX8_changeEach (z_frame [51, 21, 22, 23, 24, 25] rfl (by decide) (Nat.le_of_ble_eq_true rfl) (c_X8_changeEach_X5 hl _ _ _ _ _ _ _ _ _ _)) (Nat.le_of_ble_eq_true rfl) ⟨(Nat.le_of_ble_eq_true rfl), (Nat.le_of_ble_eq_true rfl)⟩ rfl (Nat.le_of_ble_eq_true rfl) rfl rfl (fun _ _ h => h.elim) ?_
            rintro _ _ ⟨_, _, ⟨⟨b, rfl⟩, _, _, _, _, _, rfl⟩, rfl, rfl⟩
            refine j_w (z_cw _ _ _ _ _ _ _ _ _ _ _ _ _ _ _ _ _ _ _ _ _ _ _ _ _ _ _ _ _ _ _ _ _ _ _ _ _ _ _ _ _ _ _ _ _ _ _ _ _ _ _ _ _ _ _ _ [.inr (10, [_, _, _, _, _])], z_no) rfl ?_
            refine j_istore (lo' := [(5, _), (4, _), (0, _), (1, _), (2, _), (3, _)]) dX8_replaceTable_52 (by decide) rfl ?_
            refine j_dropL (n := 51) rfl (Nat.le_of_ble_eq_true rfl) (Nat.le_of_ble_eq_true rfl) (Nat.le_of_ble_eq_true rfl) z_cwc rfl rfl ?_
            refine j_w (z_cw _ _ _ _ _ _ _ _ _ _ _ _ _ _ _ _ _ _ _ _ _ _ _ _ _ _ _ _ _ _ _ _ _ _ _ _ _ _ _ _ _ _ _ _ _ _ _ _ _ _ _ _ _ _ _ _ [], z_no) rfl ?_
            refine j_iload dX8_replaceTable_54 rfl ?_
            refine j_if_eq (tgt := 67) dX8_replaceTable_56 (by decide) (fun c_56 => ?_) (fun c_56 => ?_)
            · refine j_aload_n dX8_replaceTable_67 rfl rfl ?_
              refine j_callV (q := (RX8, TX8, 9)) dX8_replaceTable_68 kX8_refused lX8_119 inX8_refused seX8_refused rfl rfl (z_dirF (c_X8_refused hl _ _ _ _ _ _ _ _ _ _ _ _ _ _ _ _ _ _ _ _ _ _ _ _ _ _ _ _ _ _ _ _ _ _ _ _ _ _ _ _ _ _ _ _ _ _ _ _ _ _ _ _ _ _ _ _)) (Nat.le_of_ble_eq_true rfl) ⟨(Nat.le_of_ble_eq_true rfl), (Nat.le_of_ble_eq_true rfl)⟩ rfl (Nat.le_of_ble_eq_true rfl) rfl rfl (fun _ _ h => h.elim) ?_
              rintro _ _ ⟨_, ⟨⟨_, rfl⟩, _, rfl⟩, rfl⟩
              refine j_iret dX8_replaceTable_71 rfl rfl ?_ (Nat.le_of_ble_eq_true rfl) (Nat.le_of_ble_eq_true rfl)
              exact ⟨rfl, rfl, ⟨_, rfl⟩, (z_wk (by first | assumption | exact z_m20z) (by first | assumption | exact z_m20z) (by first | assumption | exact z_m20z) (by first | assumption | exact z_m20z) (by first | assumption | exact z_m20z) (by first | assumption | exact z_m20z))⟩
            · refine j_aload dX8_replaceTable_59 rfl rfl ?_
              refine j_getf dX8_replaceTable_61 fX8_165 rfl rfl ?_
              refine j_goto (tgt := 71) dX8_replaceTable_64 (by decide) ?_
              refine j_iret dX8_replaceTable_71 rfl rfl ?_ (Nat.le_of_ble_eq_true rfl) (Nat.le_of_ble_eq_true rfl)
              exact ⟨rfl, rfl, ⟨_, rfl⟩, (z_wk (by first | assumption | exact z_m20z) (by first | assumption | exact z_m20z) (by first | assumption | exact z_m20z) (by first | assumption | exact z_m20z) (by first | assumption | exact z_m20z) (by first | assumption | exact z_m20z))⟩
          · refine j_iconst (v := 1) dX8_replaceTable_26 (by decide) ?_
            refine j_goto (tgt := 31) dX8_replaceTable_27 (by decide) ?_
            refine j_callS dX8_replaceTable_31 kX8_checkRule lX8_112 stX8_checkRule (c_X8_checkRule hl _ _) (Nat.le_of_ble_eq_true rfl) ⟨(Nat.le_of_ble_eq_true rfl), (Nat.le_of_ble_eq_true rfl)⟩ rfl (Nat.le_of_ble_eq_true rfl) rfl rfl (fun _ _ h => by obtain ⟨h1, rfl⟩ := h; exact ⟨rfl, rfl, x_A_IA h1, rfl⟩) ?_
            rintro _ _ ⟨rfl, rfl⟩
            refine j_iload_n dX8_replaceTable_34 rfl ?_
            refine j_callS dX8_replaceTable_35 kX8_checkValue lX8_50 stX8_checkValue (c_X8_checkValue hl _ _) (Nat.le_of_ble_eq_true rfl) ⟨(Nat.le_of_ble_eq_true rfl), (Nat.le_of_ble_eq_true rfl)⟩ rfl (Nat.le_of_ble_eq_true rfl) rfl rfl (fun _ _ h => by obtain ⟨h1, rfl⟩ := h; exact ⟨rfl, rfl, x_A_IA h1, rfl⟩) ?_
            rintro _ _ ⟨rfl, rfl⟩
            refine j_new (w' := (z_cw _ _ _ _ _ _ _ _ _ _ _ _ _ _ _ _ _ _ _ _ _ _ _ _ _ _ _ _ _ _ _ _ _ _ _ _ _ _ _ _ _ _ _ _ _ _ _ _ _ _ _ _ _ _ _ _ [.inr (10, [_, _, _, _, _])], z_no)) (n := 51) dX8_replaceTable_38 nX8_160 rfl (z_al_l rfl rfl) (Nat.le_of_ble_eq_true rfl) (Nat.le_of_ble_eq_true rfl) ?_
            refine j_dup dX8_replaceTable_41 rfl ?_
            refine j_aload dX8_replaceTable_42 rfl rfl ?_
            refine j_callI dX8_replaceTable_44 kX5_init rfl lX8_162 inX5_init rfl (z_frame [51, 21, 22, 23, 24, 25] rfl (by decide) (Nat.le_of_ble_eq_true rfl) (c_X5_init hl _ _ _ _ _)) (Nat.le_of_ble_eq_true rfl) ⟨(Nat.le_of_ble_eq_true rfl), (Nat.le_of_ble_eq_true rfl)⟩ rfl (Nat.le_of_ble_eq_true rfl) rfl rfl (fun _ _ h => h.elim) ?_
            rintro _ _ ⟨_, _, ⟨rfl, _, rfl⟩, rfl, rfl⟩
            refine j_w (z_cw _ _ _ _ _ _ _ _ _ _ _ _ _ _ _ _ _ _ _ _ _ _ _ _ _ _ _ _ _ _ _ _ _ _ _ _ _ _ _ _ _ _ _ _ _ _ _ _ _ _ _ _ _ _ _ _ [.inr (10, [_, _, _, _, _])], z_no) rfl ?_
            refine j_iload_n dX8_replaceTable_47 rfl ?_
            refine j_iload_n dX8_replaceTable_48 rfl ?_
            refine j_callS dX8_replaceTable_49 kX8_changeEach lX8_115 stX8_changeEach (z_frame [51, 21, 22, 23, 24, 25] rfl (by decide) (Nat.le_of_ble_eq_true rfl) (c_X8_changeEach_X5 hl _ _ _ _ _ _ _ _ _ _)) (Nat.le_of_ble_eq_true rfl) ⟨(Nat.le_of_ble_eq_true rfl), (Nat.le_of_ble_eq_true rfl)⟩ rfl (Nat.le_of_ble_eq_true rfl) rfl rfl (fun _ _ h => h.elim) ?_
            rintro _ _ ⟨_, _, ⟨⟨b, rfl⟩, _, _, _, _, _, rfl⟩, rfl, rfl⟩
            refine j_w (z_cw _ _ _ _ _ _ _ _ _ _ _ _ _ _ _ _ _ _ _ _ _ _ _ _ _ _ _ _ _ _ _ _ _ _ _ _ _ _ _ _ _ _ _ _ _ _ _ _ _ _ _ _ _ _ _ _ [.inr (10, [_, _, _, _, _])], z_no) rfl ?_
            refine j_istore (lo' := [(5, _), (4, _), (0, _), (1, _), (2, _), (3, _)]) dX8_replaceTable_52 (by decide) rfl ?_
            refine j_dropL (n := 51) rfl (Nat.le_of_ble_eq_true rfl) (Nat.le_of_ble_eq_true rfl) (Nat.le_of_ble_eq_true rfl) z_cwc rfl rfl ?_
            refine j_w (z_cw _ _ _ _ _ _ _ _ _ _ _ _ _ _ _ _ _ _ _ _ _ _ _ _ _ _ _ _ _ _ _ _ _ _ _ _ _ _ _ _ _ _ _ _ _ _ _ _ _ _ _ _ _ _ _ _ [], z_no) rfl ?_
            refine j_iload dX8_replaceTable_54 rfl ?_
            refine j_if_eq (tgt := 67) dX8_replaceTable_56 (by decide) (fun c_56 => ?_) (fun c_56 => ?_)
            · refine j_aload_n dX8_replaceTable_67 rfl rfl ?_
              refine j_callV (q := (RX8, TX8, 9)) dX8_replaceTable_68 kX8_refused lX8_119 inX8_refused seX8_refused rfl rfl (z_dirF (c_X8_refused hl _ _ _ _ _ _ _ _ _ _ _ _ _ _ _ _ _ _ _ _ _ _ _ _ _ _ _ _ _ _ _ _ _ _ _ _ _ _ _ _ _ _ _ _ _ _ _ _ _ _ _ _ _ _ _ _)) (Nat.le_of_ble_eq_true rfl) ⟨(Nat.le_of_ble_eq_true rfl), (Nat.le_of_ble_eq_true rfl)⟩ rfl (Nat.le_of_ble_eq_true rfl) rfl rfl (fun _ _ h => h.elim) ?_
              rintro _ _ ⟨_, ⟨⟨_, rfl⟩, _, rfl⟩, rfl⟩
              refine j_iret dX8_replaceTable_71 rfl rfl ?_ (Nat.le_of_ble_eq_true rfl) (Nat.le_of_ble_eq_true rfl)
              exact ⟨rfl, rfl, ⟨_, rfl⟩, (z_wk (by first | assumption | exact z_m20z) (by first | assumption | exact z_m20z) (by first | assumption | exact z_m20z) (by first | assumption | exact z_m20z) (by first | assumption | exact z_m20z) (by first | assumption | exact z_m20z))⟩
            · refine j_aload dX8_replaceTable_59 rfl rfl ?_
              refine j_getf dX8_replaceTable_61 fX8_165 rfl rfl ?_
              refine j_goto (tgt := 71) dX8_replaceTable_64 (by decide) ?_
              refine j_iret dX8_replaceTable_71 rfl rfl ?_ (Nat.le_of_ble_eq_true rfl) (Nat.le_of_ble_eq_true rfl)
              exact ⟨rfl, rfl, ⟨_, rfl⟩, (z_wk (by first | assumption | exact z_m20z) (by first | assumption | exact z_m20z) (by first | assumption | exact z_m20z) (by first | assumption | exact z_m20z) (by first | assumption | exact z_m20z) (by first | assumption | exact z_m20z))⟩
set_option maxRecDepth 100000 in
set_option maxHeartbeats 8000000 in
theorem c_X8_hearSpan (hl : l.stackTraces = false) (rf : Int32) (kn : Int32) (ma : Int32) (xa : Bool) (fa : Nat → Int32) (ca : Nat → Int32) (mb : Int32) (xb : Bool) (fb : Nat → Int32) (cb : Nat → Int32) (mt : Int32) (xt : Bool) (ft : Nat → Int32) (ct : Nat → Int32) (f0 : Nat → Int32) (g0 : Nat → Int32) (c0 : Nat → Int32) (m0 : Int32) (s0 : Int32) (f1 : Nat → Int32) (g1 : Nat → Int32) (c1 : Nat → Int32) (m1 : Int32) (s1 : Int32) (f2 : Nat → Int32) (g2 : Nat → Int32) (c2 : Nat → Int32) (m2 : Int32) (s2 : Int32) (f3 : Nat → Int32) (g3 : Nat → Int32) (c3 : Nat → Int32) (m3 : Int32) (s3 : Int32) (f4 : Nat → Int32) (g4 : Nat → Int32) (c4 : Nat → Int32) (m4 : Int32) (s4 : Int32) (f5 : Nat → Int32) (g5 : Nat → Int32) (c5 : Nat → Int32) (m5 : Int32) (s5 : Int32) (ek0 : Int32) (em0 : Int32) (es0 : Int32) (el0 : Int32) (b0 : Int32) (ef0 : Nat → Int32) (ek1 : Int32) (em1 : Int32) (es1 : Int32) (el1 : Int32) (b1 : Int32) (ef1 : Nat → Int32) (r p q t : Int32) (h0 : z_m20 m0) (h1 : z_m20 m1) (h2 : z_m20 m2) (h3 : z_m20 m3) (h4 : z_m20 m4) (h5 : z_m20 m5) : z_CX G l mX8_hearSpan 20 14 120 (z_cw rf kn ma xa fa ca mb xb fb cb mt xt ft ct f0 g0 c0 m0 s0 f1 g1 c1 m1 s1 f2 g2 c2 m2 s2 f3 g3 c3 m3 s3 f4 g4 c4 m4 s4 f5 g5 c5 m5 s5 ek0 em0 es0 el0 b0 ef0 ek1 em1 es1 el1 b1 ef1 []) [.ref 0, .int r, .int p, .int q, .int t] (fun v L => (∃ x : Int32, v = some (.int x)) ∧ z_Wk kn xa xb b0 b1 L) (fun E L => z_xIA E ∧ L = (z_cw rf kn ma xa fa ca mb xb fb cb mt xt ft ct f0 g0 c0 m0 s0 f1 g1 c1 m1 s1 f2 g2 c2 m2 s2 f3 g3 c3 m3 s3 f4 g4 c4 m4 s4 f5 g5 c5 m5 s5 ek0 em0 es0 el0 b0 ef0 ek1 em1 es1 el1 b1 ef1 [])) := by
  refine z_body hl (by decide) rfl (Nat.le_of_ble_eq_true rfl) ?_
  show z_J G l mX8_hearSpan (z_SX 20 14 120 (z_cw rf kn ma xa fa ca mb xb fb cb mt xt ft ct f0 g0 c0 m0 s0 f1 g1 c1 m1 s1 f2 g2 c2 m2 s2 f3 g3 c3 m3 s3 f4 g4 c4 m4 s4 f5 g5 c5 m5 s5 ek0 em0 es0 el0 b0 ef0 ek1 em1 es1 el1 b1 ef1 []) (fun v L => (∃ x : Int32, v = some (.int x)) ∧ z_Wk kn xa xb b0 b1 L) (fun E L => z_xIA E ∧ L = (z_cw rf kn ma xa fa ca mb xb fb cb mt xt ft ct f0 g0 c0 m0 s0 f1 g1 c1 m1 s1 f2 g2 c2 m2 s2 f3 g3 c3 m3 s3 f4 g4 c4 m4 s4 f5 g5 c5 m5 s5 ek0 em0 es0 el0 b0 ef0 ek1 em1 es1 el1 b1 ef1 []))) 0 [(0, _), (1, _), (2, _), (3, _), (4, _)] [] _ 0 0
  refine j_aload_n dX8_hearSpan_0 rfl rfl ?_
  refine j_iload dX8_hearSpan_1 rfl ?_
  refine j_callV (q := (RX8, TX8, 9)) dX8_hearSpan_3 kX8_hearerFor lX8_87 inX8_hearerFor seX8_hearerFor rfl rfl (z_dirX (c_X8_hearerFor hl _ _ _ _ _ _ _ _ _ _ _ _ _ _ _ _ _ _ _ _ _ _ _ _ _ _ _ _ _ _ _ _ _ _ _ _ _ _ _ _ _ _ _ _ _ _ _ _ _ _ _ _ _ _ _ _ _)) (Nat.le_of_ble_eq_true rfl) ⟨(Nat.le_of_ble_eq_true rfl), (Nat.le_of_ble_eq_true rfl)⟩ rfl (Nat.le_of_ble_eq_true rfl) rfl rfl (fun _ _ h => by obtain ⟨_, ⟨h1, rfl⟩, rfl⟩ := h; exact ⟨rfl, rfl, x_I_IA h1, rfl⟩) ?_
  rintro _ _ ⟨_, ⟨_, rfl, hr, rfl⟩, rfl⟩
  have hq_3 := hr
  rcases hr with ⟨e_3, rfl⟩ | ⟨e_3, rfl⟩
  · refine j_astore (lo' := [(5, _), (0, _), (1, _), (2, _), (3, _), (4, _)]) dX8_hearSpan_6 rfl (by decide) rfl ?_
    refine j_iload_n dX8_hearSpan_8 rfl ?_
    refine j_iload_n dX8_hearSpan_9 rfl ?_
    refine j_iload_n dX8_hearSpan_10 rfl ?_
    refine j_callS dX8_hearSpan_11 kX8_checkSpan lX8_169 stX8_checkSpan (c_X8_checkSpan hl _ _ _ _) (Nat.le_of_ble_eq_true rfl) ⟨(Nat.le_of_ble_eq_true rfl), (Nat.le_of_ble_eq_true rfl)⟩ rfl (Nat.le_of_ble_eq_true rfl) rfl rfl (fun _ _ h => by obtain ⟨h1, rfl⟩ := h; exact ⟨rfl, rfl, x_A_IA h1, rfl⟩) ?_
    rintro _ _ ⟨rfl, rfl⟩
    refine j_aload_n dX8_hearSpan_14 rfl rfl ?_
    refine j_new (w' := (z_cw _ _ _ _ _ _ _ _ _ _ _ _ _ _ _ _ _ _ _ _ _ _ _ _ _ _ _ _ _ _ _ _ _ _ _ _ _ _ _ _ _ _ _ _ _ _ _ _ _ _ _ _ _ _ _ _ [.inr (8, [_, _, _, _, _, _])], z_no)) (n := 51) dX8_hearSpan_15 nX8_172 rfl (z_al_l rfl rfl) (Nat.le_of_ble_eq_true rfl) (Nat.le_of_ble_eq_true rfl) ?_
    refine j_dup dX8_hearSpan_18 rfl ?_
    refine j_iload_n dX8_hearSpan_19 rfl ?_
    refine j_iload_n dX8_hearSpan_20 rfl ?_
    refine j_iload_n dX8_hearSpan_21 rfl ?_
    refine j_callI dX8_hearSpan_22 kX3_init rfl lX8_174 inX3_init rfl (z_frameN [51] rfl (by decide) (Nat.le_of_ble_eq_true rfl) (Nat.le_of_ble_eq_true rfl) (c_X3_init hl _ _ _)) (Nat.le_of_ble_eq_true rfl) ⟨(Nat.le_of_ble_eq_true rfl), (Nat.le_of_ble_eq_true rfl)⟩ rfl (Nat.le_of_ble_eq_true rfl) rfl rfl (fun _ _ h => h.elim) ?_
    rintro _ _ ⟨_, _, ⟨rfl, _, rfl⟩, rfl, rfl⟩
    refine j_w (z_cw _ _ _ _ _ _ _ _ _ _ _ _ _ _ _ _ _ _ _ _ _ _ _ _ _ _ _ _ _ _ _ _ _ _ _ _ _ _ _ _ _ _ _ _ _ _ _ _ _ _ _ _ _ _ _ _ [.inr (8, [_, _, _, _, _, _]), .inr (11, [_]), z_ia 7 _], z_no) rfl ?_
    refine j_aload dX8_hearSpan_25 rfl rfl ?_
    refine j_callS dX8_hearSpan_27 kX8_hearOut lX8_96 stX8_hearOut (z_frame [51, 52, 53, 27, 28] rfl (by decide) (Nat.le_of_ble_eq_true rfl) (c_X8_hearOut_X3 hl _ _ _ _ _ _ _ _ _ _ _ _)) (Nat.le_of_ble_eq_true rfl) ⟨(Nat.le_of_ble_eq_true rfl), (Nat.le_of_ble_eq_true rfl)⟩ rfl (Nat.le_of_ble_eq_true rfl) rfl rfl (fun _ _ h => h.elim) ?_
    rintro _ _ ⟨_, _, ⟨_, rfl, _, _, _, _, _, _, _, _, _, rfl⟩, rfl, rfl⟩
    refine j_w (z_cw _ _ _ _ _ _ _ _ _ _ _ _ _ _ _ _ _ _ _ _ _ _ _ _ _ _ _ _ _ _ _ _ _ _ _ _ _ _ _ _ _ _ _ _ _ _ _ _ _ _ _ _ _ _ _ _ [.inr (8, [_, _, _, _, _, _]), .inr (11, [_]), z_ia 7 _], z_no) rfl ?_
    refine j_lo (lo' := []) z_q0 ?_
    refine j_dropL (n := 51) rfl (Nat.le_of_ble_eq_true rfl) (Nat.le_of_ble_eq_true rfl) (Nat.le_of_ble_eq_true rfl) z_cwc rfl rfl ?_
    refine j_w (z_cw _ _ _ _ _ _ _ _ _ _ _ _ _ _ _ _ _ _ _ _ _ _ _ _ _ _ _ _ _ _ _ _ _ _ _ _ _ _ _ _ _ _ _ _ _ _ _ _ _ _ _ _ _ _ _ _ [], z_no) rfl ?_
    refine j_callV (q := (RX8, TX8, 9)) dX8_hearSpan_30 kX8_answer lX8_100 inX8_answer seX8_answer rfl rfl (z_dirF (c_X8_answer hl _ _ _ _ _ _ _ _ _ _ _ _ _ _ _ _ _ _ _ _ _ _ _ _ _ _ _ _ _ _ _ _ _ _ _ _ _ _ _ _ _ _ _ _ _ _ _ _ _ _ _ _ _ _ _ _ _)) (Nat.le_of_ble_eq_true rfl) ⟨(Nat.le_of_ble_eq_true rfl), (Nat.le_of_ble_eq_true rfl)⟩ rfl (Nat.le_of_ble_eq_true rfl) rfl rfl (fun _ _ h => h.elim) ?_
    rintro _ _ ⟨_, ⟨⟨_, rfl⟩, _, rfl⟩, rfl⟩
    refine j_iret dX8_hearSpan_33 rfl rfl ?_ (Nat.le_of_ble_eq_true rfl) (Nat.le_of_ble_eq_true rfl)
    exact ⟨rfl, rfl, ⟨_, rfl⟩, (z_wk (by first | assumption | exact z_m20z) (by first | assumption | exact z_m20z) (by first | assumption | exact z_m20z) (by first | assumption | exact z_m20z) (by first | assumption | exact z_m20z) (by first | assumption | exact z_m20z))⟩
  · refine j_astore (lo' := [(5, _), (0, _), (1, _), (2, _), (3, _), (4, _)]) dX8_hearSpan_6 rfl (by decide) rfl ?_
    refine j_iload_n dX8_hearSpan_8 rfl ?_
    refine j_iload_n dX8_hearSpan_9 rfl ?_
    refine j_iload_n dX8_hearSpan_10 rfl ?_
    refine j_callS dX8_hearSpan_11 kX8_checkSpan lX8_169 stX8_checkSpan (c_X8_checkSpan hl _ _ _ _) (Nat.le_of_ble_eq_true rfl) ⟨(Nat.le_of_ble_eq_true rfl), (Nat.le_of_ble_eq_true rfl)⟩ rfl (Nat.le_of_ble_eq_true rfl) rfl rfl (fun _ _ h => by obtain ⟨h1, rfl⟩ := h; exact ⟨rfl, rfl, x_A_IA h1, rfl⟩) ?_
    rintro _ _ ⟨rfl, rfl⟩
    refine j_aload_n dX8_hearSpan_14 rfl rfl ?_
    refine j_new (w' := (z_cw _ _ _ _ _ _ _ _ _ _ _ _ _ _ _ _ _ _ _ _ _ _ _ _ _ _ _ _ _ _ _ _ _ _ _ _ _ _ _ _ _ _ _ _ _ _ _ _ _ _ _ _ _ _ _ _ [.inr (8, [_, _, _, _, _, _])], z_no)) (n := 51) dX8_hearSpan_15 nX8_172 rfl (z_al_l rfl rfl) (Nat.le_of_ble_eq_true rfl) (Nat.le_of_ble_eq_true rfl) ?_
    refine j_dup dX8_hearSpan_18 rfl ?_
    refine j_iload_n dX8_hearSpan_19 rfl ?_
    refine j_iload_n dX8_hearSpan_20 rfl ?_
    refine j_iload_n dX8_hearSpan_21 rfl ?_
    refine j_callI dX8_hearSpan_22 kX3_init rfl lX8_174 inX3_init rfl (z_frameN [51] rfl (by decide) (Nat.le_of_ble_eq_true rfl) (Nat.le_of_ble_eq_true rfl) (c_X3_init hl _ _ _)) (Nat.le_of_ble_eq_true rfl) ⟨(Nat.le_of_ble_eq_true rfl), (Nat.le_of_ble_eq_true rfl)⟩ rfl (Nat.le_of_ble_eq_true rfl) rfl rfl (fun _ _ h => h.elim) ?_
    rintro _ _ ⟨_, _, ⟨rfl, _, rfl⟩, rfl, rfl⟩
    refine j_w (z_cw _ _ _ _ _ _ _ _ _ _ _ _ _ _ _ _ _ _ _ _ _ _ _ _ _ _ _ _ _ _ _ _ _ _ _ _ _ _ _ _ _ _ _ _ _ _ _ _ _ _ _ _ _ _ _ _ [.inr (8, [_, _, _, _, _, _]), .inr (11, [_]), z_ia 7 _], z_no) rfl ?_
    refine j_aload dX8_hearSpan_25 rfl rfl ?_
    refine j_callS dX8_hearSpan_27 kX8_hearOut lX8_96 stX8_hearOut (z_frame [51, 52, 53, 29, 30] rfl (by decide) (Nat.le_of_ble_eq_true rfl) (c_X8_hearOut_X3 hl _ _ _ _ _ _ _ _ _ _ _ _)) (Nat.le_of_ble_eq_true rfl) ⟨(Nat.le_of_ble_eq_true rfl), (Nat.le_of_ble_eq_true rfl)⟩ rfl (Nat.le_of_ble_eq_true rfl) rfl rfl (fun _ _ h => h.elim) ?_
    rintro _ _ ⟨_, _, ⟨_, rfl, _, _, _, _, _, _, _, _, _, rfl⟩, rfl, rfl⟩
    refine j_w (z_cw _ _ _ _ _ _ _ _ _ _ _ _ _ _ _ _ _ _ _ _ _ _ _ _ _ _ _ _ _ _ _ _ _ _ _ _ _ _ _ _ _ _ _ _ _ _ _ _ _ _ _ _ _ _ _ _ [.inr (8, [_, _, _, _, _, _]), .inr (11, [_]), z_ia 7 _], z_no) rfl ?_
    refine j_lo (lo' := []) z_q0 ?_
    refine j_dropL (n := 51) rfl (Nat.le_of_ble_eq_true rfl) (Nat.le_of_ble_eq_true rfl) (Nat.le_of_ble_eq_true rfl) z_cwc rfl rfl ?_
    refine j_w (z_cw _ _ _ _ _ _ _ _ _ _ _ _ _ _ _ _ _ _ _ _ _ _ _ _ _ _ _ _ _ _ _ _ _ _ _ _ _ _ _ _ _ _ _ _ _ _ _ _ _ _ _ _ _ _ _ _ [], z_no) rfl ?_
    refine j_callV (q := (RX8, TX8, 9)) dX8_hearSpan_30 kX8_answer lX8_100 inX8_answer seX8_answer rfl rfl (z_dirF (c_X8_answer hl _ _ _ _ _ _ _ _ _ _ _ _ _ _ _ _ _ _ _ _ _ _ _ _ _ _ _ _ _ _ _ _ _ _ _ _ _ _ _ _ _ _ _ _ _ _ _ _ _ _ _ _ _ _ _ _ _)) (Nat.le_of_ble_eq_true rfl) ⟨(Nat.le_of_ble_eq_true rfl), (Nat.le_of_ble_eq_true rfl)⟩ rfl (Nat.le_of_ble_eq_true rfl) rfl rfl (fun _ _ h => h.elim) ?_
    rintro _ _ ⟨_, ⟨⟨_, rfl⟩, _, rfl⟩, rfl⟩
    refine j_iret dX8_hearSpan_33 rfl rfl ?_ (Nat.le_of_ble_eq_true rfl) (Nat.le_of_ble_eq_true rfl)
    exact ⟨rfl, rfl, ⟨_, rfl⟩, (z_wk (by first | assumption | exact z_m20z) (by first | assumption | exact z_m20z) (by first | assumption | exact z_m20z) (by first | assumption | exact z_m20z) (by first | assumption | exact z_m20z) (by first | assumption | exact z_m20z))⟩
set_option maxRecDepth 100000 in
set_option maxHeartbeats 8000000 in
theorem c_X8_hearSteps (hl : l.stackTraces = false) (rf : Int32) (kn : Int32) (ma : Int32) (xa : Bool) (fa : Nat → Int32) (ca : Nat → Int32) (mb : Int32) (xb : Bool) (fb : Nat → Int32) (cb : Nat → Int32) (mt : Int32) (xt : Bool) (ft : Nat → Int32) (ct : Nat → Int32) (f0 : Nat → Int32) (g0 : Nat → Int32) (c0 : Nat → Int32) (m0 : Int32) (s0 : Int32) (f1 : Nat → Int32) (g1 : Nat → Int32) (c1 : Nat → Int32) (m1 : Int32) (s1 : Int32) (f2 : Nat → Int32) (g2 : Nat → Int32) (c2 : Nat → Int32) (m2 : Int32) (s2 : Int32) (f3 : Nat → Int32) (g3 : Nat → Int32) (c3 : Nat → Int32) (m3 : Int32) (s3 : Int32) (f4 : Nat → Int32) (g4 : Nat → Int32) (c4 : Nat → Int32) (m4 : Int32) (s4 : Int32) (f5 : Nat → Int32) (g5 : Nat → Int32) (c5 : Nat → Int32) (m5 : Int32) (s5 : Int32) (ek0 : Int32) (em0 : Int32) (es0 : Int32) (el0 : Int32) (b0 : Int32) (ef0 : Nat → Int32) (ek1 : Int32) (em1 : Int32) (es1 : Int32) (el1 : Int32) (b1 : Int32) (ef1 : Nat → Int32) (r p q t u9 : Int32) (h0 : z_m20 m0) (h1 : z_m20 m1) (h2 : z_m20 m2) (h3 : z_m20 m3) (h4 : z_m20 m4) (h5 : z_m20 m5) : z_CX G l mX8_hearSteps 20 14 120 (z_cw rf kn ma xa fa ca mb xb fb cb mt xt ft ct f0 g0 c0 m0 s0 f1 g1 c1 m1 s1 f2 g2 c2 m2 s2 f3 g3 c3 m3 s3 f4 g4 c4 m4 s4 f5 g5 c5 m5 s5 ek0 em0 es0 el0 b0 ef0 ek1 em1 es1 el1 b1 ef1 []) [.ref 0, .int r, .int p, .int q, .int t, .int u9] (fun v L => (∃ x : Int32, v = some (.int x)) ∧ z_Wk kn xa xb b0 b1 L) (fun E L => z_xIA E ∧ L = (z_cw rf kn ma xa fa ca mb xb fb cb mt xt ft ct f0 g0 c0 m0 s0 f1 g1 c1 m1 s1 f2 g2 c2 m2 s2 f3 g3 c3 m3 s3 f4 g4 c4 m4 s4 f5 g5 c5 m5 s5 ek0 em0 es0 el0 b0 ef0 ek1 em1 es1 el1 b1 ef1 [])) := by
  refine z_body hl (by decide) rfl (Nat.le_of_ble_eq_true rfl) ?_
  show z_J G l mX8_hearSteps (z_SX 20 14 120 (z_cw rf kn ma xa fa ca mb xb fb cb mt xt ft ct f0 g0 c0 m0 s0 f1 g1 c1 m1 s1 f2 g2 c2 m2 s2 f3 g3 c3 m3 s3 f4 g4 c4 m4 s4 f5 g5 c5 m5 s5 ek0 em0 es0 el0 b0 ef0 ek1 em1 es1 el1 b1 ef1 []) (fun v L => (∃ x : Int32, v = some (.int x)) ∧ z_Wk kn xa xb b0 b1 L) (fun E L => z_xIA E ∧ L = (z_cw rf kn ma xa fa ca mb xb fb cb mt xt ft ct f0 g0 c0 m0 s0 f1 g1 c1 m1 s1 f2 g2 c2 m2 s2 f3 g3 c3 m3 s3 f4 g4 c4 m4 s4 f5 g5 c5 m5 s5 ek0 em0 es0 el0 b0 ef0 ek1 em1 es1 el1 b1 ef1 []))) 0 [(0, _), (1, _), (2, _), (3, _), (4, _), (5, _)] [] _ 0 0
  refine j_aload_n dX8_hearSteps_0 rfl rfl ?_
  refine j_iload dX8_hearSteps_1 rfl ?_
  refine j_callV (q := (RX8, TX8, 9)) dX8_hearSteps_3 kX8_hearerFor lX8_87 inX8_hearerFor seX8_hearerFor rfl rfl (z_dirX (c_X8_hearerFor hl _ _ _ _ _ _ _ _ _ _ _ _ _ _ _ _ _ _ _ _ _ _ _ _ _ _ _ _ _ _ _ _ _ _ _ _ _ _ _ _ _ _ _ _ _ _ _ _ _ _ _ _ _ _ _ _ _)) (Nat.le_of_ble_eq_true rfl) ⟨(Nat.le_of_ble_eq_true rfl), (Nat.le_of_ble_eq_true rfl)⟩ rfl (Nat.le_of_ble_eq_true rfl) rfl rfl (fun _ _ h => by obtain ⟨_, ⟨h1, rfl⟩, rfl⟩ := h; exact ⟨rfl, rfl, x_I_IA h1, rfl⟩) ?_
  rintro _ _ ⟨_, ⟨_, rfl, hr, rfl⟩, rfl⟩
  have hq_3 := hr
  rcases hr with ⟨e_3, rfl⟩ | ⟨e_3, rfl⟩
  · refine j_astore (lo' := [(6, _), (0, _), (1, _), (2, _), (3, _), (4, _), (5, _)]) dX8_hearSteps_6 rfl (by decide) rfl ?_
    refine j_iload_n dX8_hearSteps_8 rfl ?_
    refine j_iload_n dX8_hearSteps_9 rfl ?_
    refine j_iload_n dX8_hearSteps_10 rfl ?_
    refine j_callS dX8_hearSteps_11 kX8_checkSpan lX8_169 stX8_checkSpan (c_X8_checkSpan hl _ _ _ _) (Nat.le_of_ble_eq_true rfl) ⟨(Nat.le_of_ble_eq_true rfl), (Nat.le_of_ble_eq_true rfl)⟩ rfl (Nat.le_of_ble_eq_true rfl) rfl rfl (fun _ _ h => by obtain ⟨h1, rfl⟩ := h; exact ⟨rfl, rfl, x_A_IA h1, rfl⟩) ?_
    rintro _ _ ⟨rfl, rfl⟩
    refine j_iload dX8_hearSteps_14 rfl ?_
    refine j_iconst (v := 0) dX8_hearSteps_16 (by decide) ?_
    refine j_iload_n dX8_hearSteps_17 rfl ?_
    refine j_iload_n dX8_hearSteps_18 rfl ?_
    refine j_iload_n dX8_hearSteps_19 rfl ?_
    refine j_callS dX8_hearSteps_20 kX8_spanLength lX8_176 stX8_spanLength (c_X8_spanLength hl _ _ _ _) (Nat.le_of_ble_eq_true rfl) ⟨(Nat.le_of_ble_eq_true rfl), (Nat.le_of_ble_eq_true rfl)⟩ rfl (Nat.le_of_ble_eq_true rfl) rfl rfl (fun _ _ h => h.elim) ?_
    rintro _ _ ⟨⟨_, rfl⟩, rfl⟩
    refine j_callS dX8_hearSteps_23 kX8_checkRange lX8_72 stX8_checkRange (c_X8_checkRange hl _ _ _ _) (Nat.le_of_ble_eq_true rfl) ⟨(Nat.le_of_ble_eq_true rfl), (Nat.le_of_ble_eq_true rfl)⟩ rfl (Nat.le_of_ble_eq_true rfl) rfl rfl (fun _ _ h => by obtain ⟨h1, rfl⟩ := h; exact ⟨rfl, rfl, x_A_IA h1, rfl⟩) ?_
    rintro _ _ ⟨rfl, rfl⟩
    refine j_new (w' := (z_cw _ _ _ _ _ _ _ _ _ _ _ _ _ _ _ _ _ _ _ _ _ _ _ _ _ _ _ _ _ _ _ _ _ _ _ _ _ _ _ _ _ _ _ _ _ _ _ _ _ _ _ _ _ _ _ _ [.inr (8, [_, _, _, _, _, _])], z_no)) (n := 51) dX8_hearSteps_26 nX8_172 rfl (z_al_l rfl rfl) (Nat.le_of_ble_eq_true rfl) (Nat.le_of_ble_eq_true rfl) ?_
    refine j_dup dX8_hearSteps_29 rfl ?_
    refine j_iload_n dX8_hearSteps_30 rfl ?_
    refine j_iload_n dX8_hearSteps_31 rfl ?_
    refine j_iload_n dX8_hearSteps_32 rfl ?_
    refine j_callI dX8_hearSteps_33 kX3_init rfl lX8_174 inX3_init rfl (z_frameN [51] rfl (by decide) (Nat.le_of_ble_eq_true rfl) (Nat.le_of_ble_eq_true rfl) (c_X3_init hl _ _ _)) (Nat.le_of_ble_eq_true rfl) ⟨(Nat.le_of_ble_eq_true rfl), (Nat.le_of_ble_eq_true rfl)⟩ rfl (Nat.le_of_ble_eq_true rfl) rfl rfl (fun _ _ h => h.elim) ?_
    rintro _ _ ⟨_, _, ⟨rfl, _, rfl⟩, rfl, rfl⟩
    refine j_w (z_cw _ _ _ _ _ _ _ _ _ _ _ _ _ _ _ _ _ _ _ _ _ _ _ _ _ _ _ _ _ _ _ _ _ _ _ _ _ _ _ _ _ _ _ _ _ _ _ _ _ _ _ _ _ _ _ _ [.inr (8, [_, _, _, _, _, _]), .inr (11, [_]), z_ia 7 _], z_no) rfl ?_
    refine j_astore (lo' := [(7, _), (6, _), (0, _), (1, _), (2, _), (3, _), (4, _), (5, _)]) dX8_hearSteps_36 rfl (by decide) rfl ?_
    refine j_aload dX8_hearSteps_38 rfl rfl ?_
    refine j_iload dX8_hearSteps_40 rfl ?_
    refine j_callS dX8_hearSteps_42 kX8_passBy lX8_104 stX8_passBy (z_frame [51, 52, 53] rfl (by decide) (Nat.le_of_ble_eq_true rfl) (c_X8_passBy_X3 hl _ _ _ _ _ _ _)) (Nat.le_of_ble_eq_true rfl) ⟨(Nat.le_of_ble_eq_true rfl), (Nat.le_of_ble_eq_true rfl)⟩ rfl (Nat.le_of_ble_eq_true rfl) rfl rfl (fun _ _ h => h.elim) ?_
    rintro _ _ ⟨_, _, ⟨rfl, _, _, _, _, rfl⟩, rfl, rfl⟩
    refine j_w (z_cw _ _ _ _ _ _ _ _ _ _ _ _ _ _ _ _ _ _ _ _ _ _ _ _ _ _ _ _ _ _ _ _ _ _ _ _ _ _ _ _ _ _ _ _ _ _ _ _ _ _ _ _ _ _ _ _ [.inr (8, [_, _, _, _, _, _]), .inr (11, [_]), z_ia 7 _], z_no) rfl ?_
    refine j_aload_n dX8_hearSteps_45 rfl rfl ?_
    refine j_aload dX8_hearSteps_46 rfl rfl ?_
    refine j_aload dX8_hearSteps_48 rfl rfl ?_
    refine j_callS dX8_hearSteps_50 kX8_hearOut lX8_96 stX8_hearOut (z_frame [51, 52, 53, 27, 28] rfl (by decide) (Nat.le_of_ble_eq_true rfl) (c_X8_hearOut_X3 hl _ _ _ _ _ _ _ _ _ _ _ _)) (Nat.le_of_ble_eq_true rfl) ⟨(Nat.le_of_ble_eq_true rfl), (Nat.le_of_ble_eq_true rfl)⟩ rfl (Nat.le_of_ble_eq_true rfl) rfl rfl (fun _ _ h => h.elim) ?_
    rintro _ _ ⟨_, _, ⟨_, rfl, _, _, _, _, _, _, _, _, _, rfl⟩, rfl, rfl⟩
    refine j_w (z_cw _ _ _ _ _ _ _ _ _ _ _ _ _ _ _ _ _ _ _ _ _ _ _ _ _ _ _ _ _ _ _ _ _ _ _ _ _ _ _ _ _ _ _ _ _ _ _ _ _ _ _ _ _ _ _ _ [.inr (8, [_, _, _, _, _, _]), .inr (11, [_]), z_ia 7 _], z_no) rfl ?_
    refine j_lo (lo' := []) z_q0 ?_
    refine j_dropL (n := 51) rfl (Nat.le_of_ble_eq_true rfl) (Nat.le_of_ble_eq_true rfl) (Nat.le_of_ble_eq_true rfl) z_cwc rfl rfl ?_
    refine j_w (z_cw _ _ _ _ _ _ _ _ _ _ _ _ _ _ _ _ _ _ _ _ _ _ _ _ _ _ _ _ _ _ _ _ _ _ _ _ _ _ _ _ _ _ _ _ _ _ _ _ _ _ _ _ _ _ _ _ [], z_no) rfl ?_
    refine j_callV (q := (RX8, TX8, 9)) dX8_hearSteps_53 kX8_answer lX8_100 inX8_answer seX8_answer rfl rfl (z_dirF (c_X8_answer hl _ _ _ _ _ _ _ _ _ _ _ _ _ _ _ _ _ _ _ _ _ _ _ _ _ _ _ _ _ _ _ _ _ _ _ _ _ _ _ _ _ _ _ _ _ _ _ _ _ _ _ _ _ _ _ _ _)) (Nat.le_of_ble_eq_true rfl) ⟨(Nat.le_of_ble_eq_true rfl), (Nat.le_of_ble_eq_true rfl)⟩ rfl (Nat.le_of_ble_eq_true rfl) rfl rfl (fun _ _ h => h.elim) ?_
    rintro _ _ ⟨_, ⟨⟨_, rfl⟩, _, rfl⟩, rfl⟩
    refine j_iret dX8_hearSteps_56 rfl rfl ?_ (Nat.le_of_ble_eq_true rfl) (Nat.le_of_ble_eq_true rfl)
    exact ⟨rfl, rfl, ⟨_, rfl⟩, (z_wk (by first | assumption | exact z_m20z) (by first | assumption | exact z_m20z) (by first | assumption | exact z_m20z) (by first | assumption | exact z_m20z) (by first | assumption | exact z_m20z) (by first | assumption | exact z_m20z))⟩
  · refine j_astore (lo' := [(6, _), (0, _), (1, _), (2, _), (3, _), (4, _), (5, _)]) dX8_hearSteps_6 rfl (by decide) rfl ?_
    refine j_iload_n dX8_hearSteps_8 rfl ?_
    refine j_iload_n dX8_hearSteps_9 rfl ?_
    refine j_iload_n dX8_hearSteps_10 rfl ?_
    refine j_callS dX8_hearSteps_11 kX8_checkSpan lX8_169 stX8_checkSpan (c_X8_checkSpan hl _ _ _ _) (Nat.le_of_ble_eq_true rfl) ⟨(Nat.le_of_ble_eq_true rfl), (Nat.le_of_ble_eq_true rfl)⟩ rfl (Nat.le_of_ble_eq_true rfl) rfl rfl (fun _ _ h => by obtain ⟨h1, rfl⟩ := h; exact ⟨rfl, rfl, x_A_IA h1, rfl⟩) ?_
    rintro _ _ ⟨rfl, rfl⟩
    refine j_iload dX8_hearSteps_14 rfl ?_
    refine j_iconst (v := 0) dX8_hearSteps_16 (by decide) ?_
    refine j_iload_n dX8_hearSteps_17 rfl ?_
    refine j_iload_n dX8_hearSteps_18 rfl ?_
    refine j_iload_n dX8_hearSteps_19 rfl ?_
    refine j_callS dX8_hearSteps_20 kX8_spanLength lX8_176 stX8_spanLength (c_X8_spanLength hl _ _ _ _) (Nat.le_of_ble_eq_true rfl) ⟨(Nat.le_of_ble_eq_true rfl), (Nat.le_of_ble_eq_true rfl)⟩ rfl (Nat.le_of_ble_eq_true rfl) rfl rfl (fun _ _ h => h.elim) ?_
    rintro _ _ ⟨⟨_, rfl⟩, rfl⟩
    refine j_callS dX8_hearSteps_23 kX8_checkRange lX8_72 stX8_checkRange (c_X8_checkRange hl _ _ _ _) (Nat.le_of_ble_eq_true rfl) ⟨(Nat.le_of_ble_eq_true rfl), (Nat.le_of_ble_eq_true rfl)⟩ rfl (Nat.le_of_ble_eq_true rfl) rfl rfl (fun _ _ h => by obtain ⟨h1, rfl⟩ := h; exact ⟨rfl, rfl, x_A_IA h1, rfl⟩) ?_
    rintro _ _ ⟨rfl, rfl⟩
    refine j_new (w' := (z_cw _ _ _ _ _ _ _ _ _ _ _ _ _ _ _ _ _ _ _ _ _ _ _ _ _ _ _ _ _ _ _ _ _ _ _ _ _ _ _ _ _ _ _ _ _ _ _ _ _ _ _ _ _ _ _ _ [.inr (8, [_, _, _, _, _, _])], z_no)) (n := 51) dX8_hearSteps_26 nX8_172 rfl (z_al_l rfl rfl) (Nat.le_of_ble_eq_true rfl) (Nat.le_of_ble_eq_true rfl) ?_
    refine j_dup dX8_hearSteps_29 rfl ?_
    refine j_iload_n dX8_hearSteps_30 rfl ?_
    refine j_iload_n dX8_hearSteps_31 rfl ?_
    refine j_iload_n dX8_hearSteps_32 rfl ?_
    refine j_callI dX8_hearSteps_33 kX3_init rfl lX8_174 inX3_init rfl (z_frameN [51] rfl (by decide) (Nat.le_of_ble_eq_true rfl) (Nat.le_of_ble_eq_true rfl) (c_X3_init hl _ _ _)) (Nat.le_of_ble_eq_true rfl) ⟨(Nat.le_of_ble_eq_true rfl), (Nat.le_of_ble_eq_true rfl)⟩ rfl (Nat.le_of_ble_eq_true rfl) rfl rfl (fun _ _ h => h.elim) ?_
    rintro _ _ ⟨_, _, ⟨rfl, _, rfl⟩, rfl, rfl⟩
    refine j_w (z_cw _ _ _ _ _ _ _ _ _ _ _ _ _ _ _ _ _ _ _ _ _ _ _ _ _ _ _ _ _ _ _ _ _ _ _ _ _ _ _ _ _ _ _ _ _ _ _ _ _ _ _ _ _ _ _ _ [.inr (8, [_, _, _, _, _, _]), .inr (11, [_]), z_ia 7 _], z_no) rfl ?_
    refine j_astore (lo' := [(7, _), (6, _), (0, _), (1, _), (2, _), (3, _), (4, _), (5, _)]) dX8_hearSteps_36 rfl (by decide) rfl ?_
    refine j_aload dX8_hearSteps_38 rfl rfl ?_
    refine j_iload dX8_hearSteps_40 rfl ?_
    refine j_callS dX8_hearSteps_42 kX8_passBy lX8_104 stX8_passBy (z_frame [51, 52, 53] rfl (by decide) (Nat.le_of_ble_eq_true rfl) (c_X8_passBy_X3 hl _ _ _ _ _ _ _)) (Nat.le_of_ble_eq_true rfl) ⟨(Nat.le_of_ble_eq_true rfl), (Nat.le_of_ble_eq_true rfl)⟩ rfl (Nat.le_of_ble_eq_true rfl) rfl rfl (fun _ _ h => h.elim) ?_
    rintro _ _ ⟨_, _, ⟨rfl, _, _, _, _, rfl⟩, rfl, rfl⟩
    refine j_w (z_cw _ _ _ _ _ _ _ _ _ _ _ _ _ _ _ _ _ _ _ _ _ _ _ _ _ _ _ _ _ _ _ _ _ _ _ _ _ _ _ _ _ _ _ _ _ _ _ _ _ _ _ _ _ _ _ _ [.inr (8, [_, _, _, _, _, _]), .inr (11, [_]), z_ia 7 _], z_no) rfl ?_
    refine j_aload_n dX8_hearSteps_45 rfl rfl ?_
    refine j_aload dX8_hearSteps_46 rfl rfl ?_
    refine j_aload dX8_hearSteps_48 rfl rfl ?_
    refine j_callS dX8_hearSteps_50 kX8_hearOut lX8_96 stX8_hearOut (z_frame [51, 52, 53, 29, 30] rfl (by decide) (Nat.le_of_ble_eq_true rfl) (c_X8_hearOut_X3 hl _ _ _ _ _ _ _ _ _ _ _ _)) (Nat.le_of_ble_eq_true rfl) ⟨(Nat.le_of_ble_eq_true rfl), (Nat.le_of_ble_eq_true rfl)⟩ rfl (Nat.le_of_ble_eq_true rfl) rfl rfl (fun _ _ h => h.elim) ?_
    rintro _ _ ⟨_, _, ⟨_, rfl, _, _, _, _, _, _, _, _, _, rfl⟩, rfl, rfl⟩
    refine j_w (z_cw _ _ _ _ _ _ _ _ _ _ _ _ _ _ _ _ _ _ _ _ _ _ _ _ _ _ _ _ _ _ _ _ _ _ _ _ _ _ _ _ _ _ _ _ _ _ _ _ _ _ _ _ _ _ _ _ [.inr (8, [_, _, _, _, _, _]), .inr (11, [_]), z_ia 7 _], z_no) rfl ?_
    refine j_lo (lo' := []) z_q0 ?_
    refine j_dropL (n := 51) rfl (Nat.le_of_ble_eq_true rfl) (Nat.le_of_ble_eq_true rfl) (Nat.le_of_ble_eq_true rfl) z_cwc rfl rfl ?_
    refine j_w (z_cw _ _ _ _ _ _ _ _ _ _ _ _ _ _ _ _ _ _ _ _ _ _ _ _ _ _ _ _ _ _ _ _ _ _ _ _ _ _ _ _ _ _ _ _ _ _ _ _ _ _ _ _ _ _ _ _ [], z_no) rfl ?_
    refine j_callV (q := (RX8, TX8, 9)) dX8_hearSteps_53 kX8_answer lX8_100 inX8_answer seX8_answer rfl rfl (z_dirF (c_X8_answer hl _ _ _ _ _ _ _ _ _ _ _ _ _ _ _ _ _ _ _ _ _ _ _ _ _ _ _ _ _ _ _ _ _ _ _ _ _ _ _ _ _ _ _ _ _ _ _ _ _ _ _ _ _ _ _ _ _)) (Nat.le_of_ble_eq_true rfl) ⟨(Nat.le_of_ble_eq_true rfl), (Nat.le_of_ble_eq_true rfl)⟩ rfl (Nat.le_of_ble_eq_true rfl) rfl rfl (fun _ _ h => h.elim) ?_
    rintro _ _ ⟨_, ⟨⟨_, rfl⟩, _, rfl⟩, rfl⟩
    refine j_iret dX8_hearSteps_56 rfl rfl ?_ (Nat.le_of_ble_eq_true rfl) (Nat.le_of_ble_eq_true rfl)
    exact ⟨rfl, rfl, ⟨_, rfl⟩, (z_wk (by first | assumption | exact z_m20z) (by first | assumption | exact z_m20z) (by first | assumption | exact z_m20z) (by first | assumption | exact z_m20z) (by first | assumption | exact z_m20z) (by first | assumption | exact z_m20z))⟩
set_option maxRecDepth 100000 in
set_option maxHeartbeats 8000000 in
theorem c_X8_takeStep (hl : l.stackTraces = false) (rf : Int32) (kn : Int32) (ma : Int32) (xa : Bool) (fa : Nat → Int32) (ca : Nat → Int32) (mb : Int32) (xb : Bool) (fb : Nat → Int32) (cb : Nat → Int32) (mt : Int32) (xt : Bool) (ft : Nat → Int32) (ct : Nat → Int32) (f0 : Nat → Int32) (g0 : Nat → Int32) (c0 : Nat → Int32) (m0 : Int32) (s0 : Int32) (f1 : Nat → Int32) (g1 : Nat → Int32) (c1 : Nat → Int32) (m1 : Int32) (s1 : Int32) (f2 : Nat → Int32) (g2 : Nat → Int32) (c2 : Nat → Int32) (m2 : Int32) (s2 : Int32) (f3 : Nat → Int32) (g3 : Nat → Int32) (c3 : Nat → Int32) (m3 : Int32) (s3 : Int32) (f4 : Nat → Int32) (g4 : Nat → Int32) (c4 : Nat → Int32) (m4 : Int32) (s4 : Int32) (f5 : Nat → Int32) (g5 : Nat → Int32) (c5 : Nat → Int32) (m5 : Int32) (s5 : Int32) (ek0 : Int32) (em0 : Int32) (es0 : Int32) (el0 : Int32) (b0 : Int32) (ef0 : Nat → Int32) (ek1 : Int32) (em1 : Int32) (es1 : Int32) (el1 : Int32) (b1 : Int32) (ef1 : Nat → Int32) (r p : Int32) (h0 : z_m20 m0) (h1 : z_m20 m1) (h2 : z_m20 m2) (h3 : z_m20 m3) (h4 : z_m20 m4) (h5 : z_m20 m5) : z_CX G l mX8_takeStep 20 14 120 (z_cw rf kn ma xa fa ca mb xb fb cb mt xt ft ct f0 g0 c0 m0 s0 f1 g1 c1 m1 s1 f2 g2 c2 m2 s2 f3 g3 c3 m3 s3 f4 g4 c4 m4 s4 f5 g5 c5 m5 s5 ek0 em0 es0 el0 b0 ef0 ek1 em1 es1 el1 b1 ef1 []) [.ref 0, .int r, .int p] (fun v L => (∃ x : Int32, v = some (.int x)) ∧ z_Wk kn xa xb b0 b1 L) (fun E L => z_xA E ∧ L = (z_cw rf kn ma xa fa ca mb xb fb cb mt xt ft ct f0 g0 c0 m0 s0 f1 g1 c1 m1 s1 f2 g2 c2 m2 s2 f3 g3 c3 m3 s3 f4 g4 c4 m4 s4 f5 g5 c5 m5 s5 ek0 em0 es0 el0 b0 ef0 ek1 em1 es1 el1 b1 ef1 [])) := by
  refine z_body hl (by decide) rfl (Nat.le_of_ble_eq_true rfl) ?_
  show z_J G l mX8_takeStep (z_SX 20 14 120 (z_cw rf kn ma xa fa ca mb xb fb cb mt xt ft ct f0 g0 c0 m0 s0 f1 g1 c1 m1 s1 f2 g2 c2 m2 s2 f3 g3 c3 m3 s3 f4 g4 c4 m4 s4 f5 g5 c5 m5 s5 ek0 em0 es0 el0 b0 ef0 ek1 em1 es1 el1 b1 ef1 []) (fun v L => (∃ x : Int32, v = some (.int x)) ∧ z_Wk kn xa xb b0 b1 L) (fun E L => z_xA E ∧ L = (z_cw rf kn ma xa fa ca mb xb fb cb mt xt ft ct f0 g0 c0 m0 s0 f1 g1 c1 m1 s1 f2 g2 c2 m2 s2 f3 g3 c3 m3 s3 f4 g4 c4 m4 s4 f5 g5 c5 m5 s5 ek0 em0 es0 el0 b0 ef0 ek1 em1 es1 el1 b1 ef1 []))) 0 [(0, _), (1, _), (2, _)] [] _ 0 0
  refine j_iload_n dX8_takeStep_0 rfl ?_
  refine j_callS dX8_takeStep_1 kX8_checkValue lX8_50 stX8_checkValue (c_X8_checkValue hl _ _) (Nat.le_of_ble_eq_true rfl) ⟨(Nat.le_of_ble_eq_true rfl), (Nat.le_of_ble_eq_true rfl)⟩ rfl (Nat.le_of_ble_eq_true rfl) rfl rfl (fun _ _ h => by obtain ⟨h1, rfl⟩ := h; exact ⟨rfl, rfl, x_A_A h1, rfl⟩) ?_
  rintro _ _ ⟨rfl, rfl⟩
  refine j_iload_n dX8_takeStep_4 rfl ?_
  refine j_sipush (v := (-999)) dX8_takeStep_5 (by decide) ?_
  refine j_iload_n dX8_takeStep_8 rfl ?_
  refine j_callS dX8_takeStep_9 kX8_checkRange lX8_72 stX8_checkRange (c_X8_checkRange hl _ _ _ _) (Nat.le_of_ble_eq_true rfl) ⟨(Nat.le_of_ble_eq_true rfl), (Nat.le_of_ble_eq_true rfl)⟩ rfl (Nat.le_of_ble_eq_true rfl) rfl rfl (fun _ _ h => by obtain ⟨h1, rfl⟩ := h; exact ⟨rfl, rfl, x_A_A h1, rfl⟩) ?_
  rintro _ _ ⟨rfl, rfl⟩
  refine j_aload_n dX8_takeStep_12 rfl rfl ?_
  refine j_callV (q := (RX8, TX8, 9)) dX8_takeStep_13 kX8_refused lX8_119 inX8_refused seX8_refused rfl rfl (z_dirF (c_X8_refused hl _ _ _ _ _ _ _ _ _ _ _ _ _ _ _ _ _ _ _ _ _ _ _ _ _ _ _ _ _ _ _ _ _ _ _ _ _ _ _ _ _ _ _ _ _ _ _ _ _ _ _ _ _ _ _ _)) (Nat.le_of_ble_eq_true rfl) ⟨(Nat.le_of_ble_eq_true rfl), (Nat.le_of_ble_eq_true rfl)⟩ rfl (Nat.le_of_ble_eq_true rfl) rfl rfl (fun _ _ h => h.elim) ?_
  rintro _ _ ⟨_, ⟨⟨_, rfl⟩, _, rfl⟩, rfl⟩
  refine j_iret dX8_takeStep_16 rfl rfl ?_ (Nat.le_of_ble_eq_true rfl) (Nat.le_of_ble_eq_true rfl)
  exact ⟨rfl, rfl, ⟨_, rfl⟩, (z_wk (by first | assumption | exact z_m20z) (by first | assumption | exact z_m20z) (by first | assumption | exact z_m20z) (by first | assumption | exact z_m20z) (by first | assumption | exact z_m20z) (by first | assumption | exact z_m20z))⟩
set_option maxRecDepth 100000 in
set_option maxHeartbeats 8000000 in
theorem c_X8_stop (hl : l.stackTraces = false) (rf : Int32) (kn : Int32) (ma : Int32) (xa : Bool) (fa : Nat → Int32) (ca : Nat → Int32) (mb : Int32) (xb : Bool) (fb : Nat → Int32) (cb : Nat → Int32) (mt : Int32) (xt : Bool) (ft : Nat → Int32) (ct : Nat → Int32) (f0 : Nat → Int32) (g0 : Nat → Int32) (c0 : Nat → Int32) (m0 : Int32) (s0 : Int32) (f1 : Nat → Int32) (g1 : Nat → Int32) (c1 : Nat → Int32) (m1 : Int32) (s1 : Int32) (f2 : Nat → Int32) (g2 : Nat → Int32) (c2 : Nat → Int32) (m2 : Int32) (s2 : Int32) (f3 : Nat → Int32) (g3 : Nat → Int32) (c3 : Nat → Int32) (m3 : Int32) (s3 : Int32) (f4 : Nat → Int32) (g4 : Nat → Int32) (c4 : Nat → Int32) (m4 : Int32) (s4 : Int32) (f5 : Nat → Int32) (g5 : Nat → Int32) (c5 : Nat → Int32) (m5 : Int32) (s5 : Int32) (ek0 : Int32) (em0 : Int32) (es0 : Int32) (el0 : Int32) (b0 : Int32) (ef0 : Nat → Int32) (ek1 : Int32) (em1 : Int32) (es1 : Int32) (el1 : Int32) (b1 : Int32) (ef1 : Nat → Int32) (r p : Int32) (h0 : z_m20 m0) (h1 : z_m20 m1) (h2 : z_m20 m2) (h3 : z_m20 m3) (h4 : z_m20 m4) (h5 : z_m20 m5) : z_CX G l mX8_stop 20 14 120 (z_cw rf kn ma xa fa ca mb xb fb cb mt xt ft ct f0 g0 c0 m0 s0 f1 g1 c1 m1 s1 f2 g2 c2 m2 s2 f3 g3 c3 m3 s3 f4 g4 c4 m4 s4 f5 g5 c5 m5 s5 ek0 em0 es0 el0 b0 ef0 ek1 em1 es1 el1 b1 ef1 []) [.ref 0, .int r, .int p] (fun v L => ∃ x : Int32, v = some (.int x) ∧ ((r = 0 ∧ x = b0 ∧ z_Wk kn xa xb p b1 L) ∨ (r = 1 ∧ x = b1 ∧ z_Wk kn xa xb b0 p L))) (fun E L => z_xIA E ∧ L = (z_cw rf kn ma xa fa ca mb xb fb cb mt xt ft ct f0 g0 c0 m0 s0 f1 g1 c1 m1 s1 f2 g2 c2 m2 s2 f3 g3 c3 m3 s3 f4 g4 c4 m4 s4 f5 g5 c5 m5 s5 ek0 em0 es0 el0 b0 ef0 ek1 em1 es1 el1 b1 ef1 [])) := by
  refine z_body hl (by decide) rfl (Nat.le_of_ble_eq_true rfl) ?_
  show z_J G l mX8_stop (z_SX 20 14 120 (z_cw rf kn ma xa fa ca mb xb fb cb mt xt ft ct f0 g0 c0 m0 s0 f1 g1 c1 m1 s1 f2 g2 c2 m2 s2 f3 g3 c3 m3 s3 f4 g4 c4 m4 s4 f5 g5 c5 m5 s5 ek0 em0 es0 el0 b0 ef0 ek1 em1 es1 el1 b1 ef1 []) (fun v L => ∃ x : Int32, v = some (.int x) ∧ ((r = 0 ∧ x = b0 ∧ z_Wk kn xa xb p b1 L) ∨ (r = 1 ∧ x = b1 ∧ z_Wk kn xa xb b0 p L))) (fun E L => z_xIA E ∧ L = (z_cw rf kn ma xa fa ca mb xb fb cb mt xt ft ct f0 g0 c0 m0 s0 f1 g1 c1 m1 s1 f2 g2 c2 m2 s2 f3 g3 c3 m3 s3 f4 g4 c4 m4 s4 f5 g5 c5 m5 s5 ek0 em0 es0 el0 b0 ef0 ek1 em1 es1 el1 b1 ef1 []))) 0 [(0, _), (1, _), (2, _)] [] _ 0 0
  refine j_aload_n dX8_stop_0 rfl rfl ?_
  refine j_iload_n dX8_stop_1 rfl ?_
  refine j_callV (q := (RX8, TX8, 9)) dX8_stop_2 kX8_hearerFor lX8_87 inX8_hearerFor seX8_hearerFor rfl rfl (z_dirX (c_X8_hearerFor hl _ _ _ _ _ _ _ _ _ _ _ _ _ _ _ _ _ _ _ _ _ _ _ _ _ _ _ _ _ _ _ _ _ _ _ _ _ _ _ _ _ _ _ _ _ _ _ _ _ _ _ _ _ _ _ _ _)) (Nat.le_of_ble_eq_true rfl) ⟨(Nat.le_of_ble_eq_true rfl), (Nat.le_of_ble_eq_true rfl)⟩ rfl (Nat.le_of_ble_eq_true rfl) rfl rfl (fun _ _ h => by obtain ⟨_, ⟨h1, rfl⟩, rfl⟩ := h; exact ⟨rfl, rfl, x_I_IA h1, rfl⟩) ?_
  rintro _ _ ⟨_, ⟨_, rfl, hr, rfl⟩, rfl⟩
  have hq_2 := hr
  rcases hr with ⟨e_2, rfl⟩ | ⟨e_2, rfl⟩
  · refine j_astore_n (lo' := [(3, _), (0, _), (1, _), (2, _)]) dX8_stop_5 rfl (by decide) rfl ?_
    refine j_iload_n dX8_stop_6 rfl ?_
    refine j_sipush (v := (-1000)) dX8_stop_7 (by decide) ?_
    refine j_ldc dX8_stop_10 kcX8_179 ?_
    refine j_callS dX8_stop_12 kX8_checkRange lX8_72 stX8_checkRange (c_X8_checkRange hl _ _ _ _) (Nat.le_of_ble_eq_true rfl) ⟨(Nat.le_of_ble_eq_true rfl), (Nat.le_of_ble_eq_true rfl)⟩ rfl (Nat.le_of_ble_eq_true rfl) rfl rfl (fun _ _ h => by obtain ⟨h1, rfl⟩ := h; exact ⟨rfl, rfl, x_A_IA h1, rfl⟩) ?_
    rintro _ _ ⟨rfl, rfl⟩
    refine j_aload_n dX8_stop_15 rfl rfl ?_
    refine j_getf dX8_stop_16 fX8_180 rfl rfl ?_
    refine j_istore (lo' := [(4, _), (3, _), (0, _), (1, _), (2, _)]) dX8_stop_19 (by decide) rfl ?_
    refine j_aload_n dX8_stop_21 rfl rfl ?_
    refine j_iload_n dX8_stop_22 rfl ?_
    refine j_put (w' := (z_cw _ _ _ _ _ _ _ _ _ _ _ _ _ _ _ _ _ _ _ _ _ _ _ _ _ _ _ _ _ _ _ _ _ _ _ _ _ _ _ _ _ _ _ _ _ _ _ _ _ _ _ _ _ _ _ _ [], z_no)) dX8_stop_23 fX8_180 tX0_5 rfl ⟨rfl, rfl⟩ rfl ?_
    refine j_iload dX8_stop_26 rfl ?_
    refine j_iret dX8_stop_28 rfl rfl ?_ (Nat.le_of_ble_eq_true rfl) (Nat.le_of_ble_eq_true rfl)
    first | exact ⟨rfl, rfl, _, rfl, Or.inl ⟨e_2, rfl, (z_wk (by first | assumption | exact z_m20z) (by first | assumption | exact z_m20z) (by first | assumption | exact z_m20z) (by first | assumption | exact z_m20z) (by first | assumption | exact z_m20z) (by first | assumption | exact z_m20z))⟩⟩ | exact ⟨rfl, rfl, _, rfl, Or.inr ⟨e_2, rfl, (z_wk (by first | assumption | exact z_m20z) (by first | assumption | exact z_m20z) (by first | assumption | exact z_m20z) (by first | assumption | exact z_m20z) (by first | assumption | exact z_m20z) (by first | assumption | exact z_m20z))⟩⟩
  · refine j_astore_n (lo' := [(3, _), (0, _), (1, _), (2, _)]) dX8_stop_5 rfl (by decide) rfl ?_
    refine j_iload_n dX8_stop_6 rfl ?_
    refine j_sipush (v := (-1000)) dX8_stop_7 (by decide) ?_
    refine j_ldc dX8_stop_10 kcX8_179 ?_
    refine j_callS dX8_stop_12 kX8_checkRange lX8_72 stX8_checkRange (c_X8_checkRange hl _ _ _ _) (Nat.le_of_ble_eq_true rfl) ⟨(Nat.le_of_ble_eq_true rfl), (Nat.le_of_ble_eq_true rfl)⟩ rfl (Nat.le_of_ble_eq_true rfl) rfl rfl (fun _ _ h => by obtain ⟨h1, rfl⟩ := h; exact ⟨rfl, rfl, x_A_IA h1, rfl⟩) ?_
    rintro _ _ ⟨rfl, rfl⟩
    refine j_aload_n dX8_stop_15 rfl rfl ?_
    refine j_getf dX8_stop_16 fX8_180 rfl rfl ?_
    refine j_istore (lo' := [(4, _), (3, _), (0, _), (1, _), (2, _)]) dX8_stop_19 (by decide) rfl ?_
    refine j_aload_n dX8_stop_21 rfl rfl ?_
    refine j_iload_n dX8_stop_22 rfl ?_
    refine j_put (w' := (z_cw _ _ _ _ _ _ _ _ _ _ _ _ _ _ _ _ _ _ _ _ _ _ _ _ _ _ _ _ _ _ _ _ _ _ _ _ _ _ _ _ _ _ _ _ _ _ _ _ _ _ _ _ _ _ _ _ [], z_no)) dX8_stop_23 fX8_180 tX0_5 rfl ⟨rfl, rfl⟩ rfl ?_
    refine j_iload dX8_stop_26 rfl ?_
    refine j_iret dX8_stop_28 rfl rfl ?_ (Nat.le_of_ble_eq_true rfl) (Nat.le_of_ble_eq_true rfl)
    first | exact ⟨rfl, rfl, _, rfl, Or.inl ⟨e_2, rfl, (z_wk (by first | assumption | exact z_m20z) (by first | assumption | exact z_m20z) (by first | assumption | exact z_m20z) (by first | assumption | exact z_m20z) (by first | assumption | exact z_m20z) (by first | assumption | exact z_m20z))⟩⟩ | exact ⟨rfl, rfl, _, rfl, Or.inr ⟨e_2, rfl, (z_wk (by first | assumption | exact z_m20z) (by first | assumption | exact z_m20z) (by first | assumption | exact z_m20z) (by first | assumption | exact z_m20z) (by first | assumption | exact z_m20z) (by first | assumption | exact z_m20z))⟩⟩
set_option maxRecDepth 100000 in
set_option maxHeartbeats 8000000 in
theorem c_X8_forget (hl : l.stackTraces = false) (rf : Int32) (kn : Int32) (ma : Int32) (xa : Bool) (fa : Nat → Int32) (ca : Nat → Int32) (mb : Int32) (xb : Bool) (fb : Nat → Int32) (cb : Nat → Int32) (mt : Int32) (xt : Bool) (ft : Nat → Int32) (ct : Nat → Int32) (f0 : Nat → Int32) (g0 : Nat → Int32) (c0 : Nat → Int32) (m0 : Int32) (s0 : Int32) (f1 : Nat → Int32) (g1 : Nat → Int32) (c1 : Nat → Int32) (m1 : Int32) (s1 : Int32) (f2 : Nat → Int32) (g2 : Nat → Int32) (c2 : Nat → Int32) (m2 : Int32) (s2 : Int32) (f3 : Nat → Int32) (g3 : Nat → Int32) (c3 : Nat → Int32) (m3 : Int32) (s3 : Int32) (f4 : Nat → Int32) (g4 : Nat → Int32) (c4 : Nat → Int32) (m4 : Int32) (s4 : Int32) (f5 : Nat → Int32) (g5 : Nat → Int32) (c5 : Nat → Int32) (m5 : Int32) (s5 : Int32) (ek0 : Int32) (em0 : Int32) (es0 : Int32) (el0 : Int32) (b0 : Int32) (ef0 : Nat → Int32) (ek1 : Int32) (em1 : Int32) (es1 : Int32) (el1 : Int32) (b1 : Int32) (ef1 : Nat → Int32) (r : Int32) (h0 : z_m20 m0) (h1 : z_m20 m1) (h2 : z_m20 m2) (h3 : z_m20 m3) (h4 : z_m20 m4) (h5 : z_m20 m5) : z_CX G l mX8_forget 20 14 120 (z_cw rf kn ma xa fa ca mb xb fb cb mt xt ft ct f0 g0 c0 m0 s0 f1 g1 c1 m1 s1 f2 g2 c2 m2 s2 f3 g3 c3 m3 s3 f4 g4 c4 m4 s4 f5 g5 c5 m5 s5 ek0 em0 es0 el0 b0 ef0 ek1 em1 es1 el1 b1 ef1 []) [.ref 0, .int r] (fun v L => (∃ x : Int32, v = some (.int x)) ∧ z_Wk kn xa xb b0 b1 L) (fun E L => z_xI E ∧ L = (z_cw rf kn ma xa fa ca mb xb fb cb mt xt ft ct f0 g0 c0 m0 s0 f1 g1 c1 m1 s1 f2 g2 c2 m2 s2 f3 g3 c3 m3 s3 f4 g4 c4 m4 s4 f5 g5 c5 m5 s5 ek0 em0 es0 el0 b0 ef0 ek1 em1 es1 el1 b1 ef1 [])) := by
  refine z_body hl (by decide) rfl (Nat.le_of_ble_eq_true rfl) ?_
  show z_J G l mX8_forget (z_SX 20 14 120 (z_cw rf kn ma xa fa ca mb xb fb cb mt xt ft ct f0 g0 c0 m0 s0 f1 g1 c1 m1 s1 f2 g2 c2 m2 s2 f3 g3 c3 m3 s3 f4 g4 c4 m4 s4 f5 g5 c5 m5 s5 ek0 em0 es0 el0 b0 ef0 ek1 em1 es1 el1 b1 ef1 []) (fun v L => (∃ x : Int32, v = some (.int x)) ∧ z_Wk kn xa xb b0 b1 L) (fun E L => z_xI E ∧ L = (z_cw rf kn ma xa fa ca mb xb fb cb mt xt ft ct f0 g0 c0 m0 s0 f1 g1 c1 m1 s1 f2 g2 c2 m2 s2 f3 g3 c3 m3 s3 f4 g4 c4 m4 s4 f5 g5 c5 m5 s5 ek0 em0 es0 el0 b0 ef0 ek1 em1 es1 el1 b1 ef1 []))) 0 [(0, _), (1, _)] [] _ 0 0
  refine j_aload_n dX8_forget_0 rfl rfl ?_
  refine j_iload_n dX8_forget_1 rfl ?_
  refine j_callV (q := (RX8, TX8, 9)) dX8_forget_2 kX8_hearerFor lX8_87 inX8_hearerFor seX8_hearerFor rfl rfl (z_dirX (c_X8_hearerFor hl _ _ _ _ _ _ _ _ _ _ _ _ _ _ _ _ _ _ _ _ _ _ _ _ _ _ _ _ _ _ _ _ _ _ _ _ _ _ _ _ _ _ _ _ _ _ _ _ _ _ _ _ _ _ _ _ _)) (Nat.le_of_ble_eq_true rfl) ⟨(Nat.le_of_ble_eq_true rfl), (Nat.le_of_ble_eq_true rfl)⟩ rfl (Nat.le_of_ble_eq_true rfl) rfl rfl (fun _ _ h => by obtain ⟨_, ⟨h1, rfl⟩, rfl⟩ := h; exact ⟨rfl, rfl, x_I_I h1, rfl⟩) ?_
  rintro _ _ ⟨_, ⟨_, rfl, hr, rfl⟩, rfl⟩
  have hq_2 := hr
  rcases hr with ⟨e_2, rfl⟩ | ⟨e_2, rfl⟩
  · refine j_astore_n (lo' := [(2, _), (0, _), (1, _)]) dX8_forget_5 rfl (by decide) rfl ?_
    refine j_aload_n dX8_forget_6 rfl rfl ?_
    refine j_getf dX8_forget_7 fX8_183 rfl rfl ?_
    refine j_istore_n (lo' := [(3, _), (2, _), (0, _), (1, _)]) dX8_forget_10 (by decide) rfl ?_
    refine j_aload_n dX8_forget_11 rfl rfl ?_
    refine j_callV (q := (RX0, TX0, 6)) dX8_forget_12 kX0_beginAnew lX8_184 inX0_beginAnew seX0_beginAnew rfl rfl (z_frame [27, 28] rfl (by decide) (Nat.le_of_ble_eq_true rfl) (c_X0_beginAnew hl _ _ _ _ _ _)) (Nat.le_of_ble_eq_true rfl) ⟨(Nat.le_of_ble_eq_true rfl), (Nat.le_of_ble_eq_true rfl)⟩ rfl (Nat.le_of_ble_eq_true rfl) rfl rfl (fun _ _ h => h.elim) ?_
    rintro _ _ ⟨_, _, ⟨rfl, _, _, _, _, rfl⟩, rfl, rfl⟩
    refine j_w (z_cw _ _ _ _ _ _ _ _ _ _ _ _ _ _ _ _ _ _ _ _ _ _ _ _ _ _ _ _ _ _ _ _ _ _ _ _ _ _ _ _ _ _ _ _ _ _ _ _ _ _ _ _ _ _ _ _ [], z_no) rfl ?_
    refine j_iload_n dX8_forget_15 rfl ?_
    refine j_iret dX8_forget_16 rfl rfl ?_ (Nat.le_of_ble_eq_true rfl) (Nat.le_of_ble_eq_true rfl)
    exact ⟨rfl, rfl, ⟨_, rfl⟩, (z_wk (by first | assumption | exact z_m20z) (by first | assumption | exact z_m20z) (by first | assumption | exact z_m20z) (by first | assumption | exact z_m20z) (by first | assumption | exact z_m20z) (by first | assumption | exact z_m20z))⟩
  · refine j_astore_n (lo' := [(2, _), (0, _), (1, _)]) dX8_forget_5 rfl (by decide) rfl ?_
    refine j_aload_n dX8_forget_6 rfl rfl ?_
    refine j_getf dX8_forget_7 fX8_183 rfl rfl ?_
    refine j_istore_n (lo' := [(3, _), (2, _), (0, _), (1, _)]) dX8_forget_10 (by decide) rfl ?_
    refine j_aload_n dX8_forget_11 rfl rfl ?_
    refine j_callV (q := (RX0, TX0, 6)) dX8_forget_12 kX0_beginAnew lX8_184 inX0_beginAnew seX0_beginAnew rfl rfl (z_frame [29, 30] rfl (by decide) (Nat.le_of_ble_eq_true rfl) (c_X0_beginAnew hl _ _ _ _ _ _)) (Nat.le_of_ble_eq_true rfl) ⟨(Nat.le_of_ble_eq_true rfl), (Nat.le_of_ble_eq_true rfl)⟩ rfl (Nat.le_of_ble_eq_true rfl) rfl rfl (fun _ _ h => h.elim) ?_
    rintro _ _ ⟨_, _, ⟨rfl, _, _, _, _, rfl⟩, rfl, rfl⟩
    refine j_w (z_cw _ _ _ _ _ _ _ _ _ _ _ _ _ _ _ _ _ _ _ _ _ _ _ _ _ _ _ _ _ _ _ _ _ _ _ _ _ _ _ _ _ _ _ _ _ _ _ _ _ _ _ _ _ _ _ _ [], z_no) rfl ?_
    refine j_iload_n dX8_forget_15 rfl ?_
    refine j_iret dX8_forget_16 rfl rfl ?_ (Nat.le_of_ble_eq_true rfl) (Nat.le_of_ble_eq_true rfl)
    exact ⟨rfl, rfl, ⟨_, rfl⟩, (z_wk (by first | assumption | exact z_m20z) (by first | assumption | exact z_m20z) (by first | assumption | exact z_m20z) (by first | assumption | exact z_m20z) (by first | assumption | exact z_m20z) (by first | assumption | exact z_m20z))⟩
set_option maxRecDepth 100000 in
set_option maxHeartbeats 8000000 in
theorem c_X8_heard (hl : l.stackTraces = false) (rf : Int32) (kn : Int32) (ma : Int32) (xa : Bool) (fa : Nat → Int32) (ca : Nat → Int32) (mb : Int32) (xb : Bool) (fb : Nat → Int32) (cb : Nat → Int32) (mt : Int32) (xt : Bool) (ft : Nat → Int32) (ct : Nat → Int32) (f0 : Nat → Int32) (g0 : Nat → Int32) (c0 : Nat → Int32) (m0 : Int32) (s0 : Int32) (f1 : Nat → Int32) (g1 : Nat → Int32) (c1 : Nat → Int32) (m1 : Int32) (s1 : Int32) (f2 : Nat → Int32) (g2 : Nat → Int32) (c2 : Nat → Int32) (m2 : Int32) (s2 : Int32) (f3 : Nat → Int32) (g3 : Nat → Int32) (c3 : Nat → Int32) (m3 : Int32) (s3 : Int32) (f4 : Nat → Int32) (g4 : Nat → Int32) (c4 : Nat → Int32) (m4 : Int32) (s4 : Int32) (f5 : Nat → Int32) (g5 : Nat → Int32) (c5 : Nat → Int32) (m5 : Int32) (s5 : Int32) (ek0 : Int32) (em0 : Int32) (es0 : Int32) (el0 : Int32) (b0 : Int32) (ef0 : Nat → Int32) (ek1 : Int32) (em1 : Int32) (es1 : Int32) (el1 : Int32) (b1 : Int32) (ef1 : Nat → Int32) (r p : Int32) (h0 : z_m20 m0) (h1 : z_m20 m1) (h2 : z_m20 m2) (h3 : z_m20 m3) (h4 : z_m20 m4) (h5 : z_m20 m5) : z_CX G l mX8_heard 20 14 120 (z_cw rf kn ma xa fa ca mb xb fb cb mt xt ft ct f0 g0 c0 m0 s0 f1 g1 c1 m1 s1 f2 g2 c2 m2 s2 f3 g3 c3 m3 s3 f4 g4 c4 m4 s4 f5 g5 c5 m5 s5 ek0 em0 es0 el0 b0 ef0 ek1 em1 es1 el1 b1 ef1 []) [.ref 0, .int r, .int p] (fun v L => (∃ x : Int32, v = some (.int x)) ∧ z_Wk kn xa xb b0 b1 L) (fun E L => z_xIA E ∧ L = (z_cw rf kn ma xa fa ca mb xb fb cb mt xt ft ct f0 g0 c0 m0 s0 f1 g1 c1 m1 s1 f2 g2 c2 m2 s2 f3 g3 c3 m3 s3 f4 g4 c4 m4 s4 f5 g5 c5 m5 s5 ek0 em0 es0 el0 b0 ef0 ek1 em1 es1 el1 b1 ef1 [])) := by
  refine z_body hl (by decide) rfl (Nat.le_of_ble_eq_true rfl) ?_
  show z_J G l mX8_heard (z_SX 20 14 120 (z_cw rf kn ma xa fa ca mb xb fb cb mt xt ft ct f0 g0 c0 m0 s0 f1 g1 c1 m1 s1 f2 g2 c2 m2 s2 f3 g3 c3 m3 s3 f4 g4 c4 m4 s4 f5 g5 c5 m5 s5 ek0 em0 es0 el0 b0 ef0 ek1 em1 es1 el1 b1 ef1 []) (fun v L => (∃ x : Int32, v = some (.int x)) ∧ z_Wk kn xa xb b0 b1 L) (fun E L => z_xIA E ∧ L = (z_cw rf kn ma xa fa ca mb xb fb cb mt xt ft ct f0 g0 c0 m0 s0 f1 g1 c1 m1 s1 f2 g2 c2 m2 s2 f3 g3 c3 m3 s3 f4 g4 c4 m4 s4 f5 g5 c5 m5 s5 ek0 em0 es0 el0 b0 ef0 ek1 em1 es1 el1 b1 ef1 []))) 0 [(0, _), (1, _), (2, _)] [] _ 0 0
  refine j_aload_n dX8_heard_0 rfl rfl ?_
  refine j_iload_n dX8_heard_1 rfl ?_
  refine j_callV (q := (RX8, TX8, 9)) dX8_heard_2 kX8_hearerFor lX8_87 inX8_hearerFor seX8_hearerFor rfl rfl (z_dirX (c_X8_hearerFor hl _ _ _ _ _ _ _ _ _ _ _ _ _ _ _ _ _ _ _ _ _ _ _ _ _ _ _ _ _ _ _ _ _ _ _ _ _ _ _ _ _ _ _ _ _ _ _ _ _ _ _ _ _ _ _ _ _)) (Nat.le_of_ble_eq_true rfl) ⟨(Nat.le_of_ble_eq_true rfl), (Nat.le_of_ble_eq_true rfl)⟩ rfl (Nat.le_of_ble_eq_true rfl) rfl rfl (fun _ _ h => by obtain ⟨_, ⟨h1, rfl⟩, rfl⟩ := h; exact ⟨rfl, rfl, x_I_IA h1, rfl⟩) ?_
  rintro _ _ ⟨_, ⟨_, rfl, hr, rfl⟩, rfl⟩
  have hq_2 := hr
  rcases hr with ⟨e_2, rfl⟩ | ⟨e_2, rfl⟩
  · refine j_astore_n (lo' := [(3, _), (0, _), (1, _), (2, _)]) dX8_heard_5 rfl (by decide) rfl ?_
    refine j_iload_n dX8_heard_6 rfl ?_
    refine j_iconst (v := 0) dX8_heard_7 (by decide) ?_
    refine j_iconst (v := 3) dX8_heard_8 (by decide) ?_
    refine j_callS dX8_heard_9 kX8_checkRange lX8_72 stX8_checkRange (c_X8_checkRange hl _ _ _ _) (Nat.le_of_ble_eq_true rfl) ⟨(Nat.le_of_ble_eq_true rfl), (Nat.le_of_ble_eq_true rfl)⟩ rfl (Nat.le_of_ble_eq_true rfl) rfl rfl (fun _ _ h => by obtain ⟨h1, rfl⟩ := h; exact ⟨rfl, rfl, x_A_IA h1, rfl⟩) ?_
    rintro _ _ ⟨rfl, rfl⟩
    refine j_aload_n dX8_heard_12 rfl rfl ?_
    refine j_iload_n dX8_heard_13 rfl ?_
    refine j_callV (q := (RX0, TX0, 6)) dX8_heard_14 kX0_tells lX8_187 inX0_tells seX0_tells rfl rfl (z_frame [27, 28] rfl (by decide) (Nat.le_of_ble_eq_true rfl) (c_X0_tells hl _ _ _ _ _ _ _)) (Nat.le_of_ble_eq_true rfl) ⟨(Nat.le_of_ble_eq_true rfl), (Nat.le_of_ble_eq_true rfl)⟩ rfl (Nat.le_of_ble_eq_true rfl) rfl rfl (fun _ _ h => h.elim) ?_
    rintro _ _ ⟨_, _, ⟨_, rfl, rfl⟩, rfl, rfl⟩
    refine j_w (z_cw _ _ _ _ _ _ _ _ _ _ _ _ _ _ _ _ _ _ _ _ _ _ _ _ _ _ _ _ _ _ _ _ _ _ _ _ _ _ _ _ _ _ _ _ _ _ _ _ _ _ _ _ _ _ _ _ [], z_no) rfl ?_
    refine j_iret dX8_heard_17 rfl rfl ?_ (Nat.le_of_ble_eq_true rfl) (Nat.le_of_ble_eq_true rfl)
    exact ⟨rfl, rfl, ⟨_, rfl⟩, (z_wk (by first | assumption | exact z_m20z) (by first | assumption | exact z_m20z) (by first | assumption | exact z_m20z) (by first | assumption | exact z_m20z) (by first | assumption | exact z_m20z) (by first | assumption | exact z_m20z))⟩
  · refine j_astore_n (lo' := [(3, _), (0, _), (1, _), (2, _)]) dX8_heard_5 rfl (by decide) rfl ?_
    refine j_iload_n dX8_heard_6 rfl ?_
    refine j_iconst (v := 0) dX8_heard_7 (by decide) ?_
    refine j_iconst (v := 3) dX8_heard_8 (by decide) ?_
    refine j_callS dX8_heard_9 kX8_checkRange lX8_72 stX8_checkRange (c_X8_checkRange hl _ _ _ _) (Nat.le_of_ble_eq_true rfl) ⟨(Nat.le_of_ble_eq_true rfl), (Nat.le_of_ble_eq_true rfl)⟩ rfl (Nat.le_of_ble_eq_true rfl) rfl rfl (fun _ _ h => by obtain ⟨h1, rfl⟩ := h; exact ⟨rfl, rfl, x_A_IA h1, rfl⟩) ?_
    rintro _ _ ⟨rfl, rfl⟩
    refine j_aload_n dX8_heard_12 rfl rfl ?_
    refine j_iload_n dX8_heard_13 rfl ?_
    refine j_callV (q := (RX0, TX0, 6)) dX8_heard_14 kX0_tells lX8_187 inX0_tells seX0_tells rfl rfl (z_frame [29, 30] rfl (by decide) (Nat.le_of_ble_eq_true rfl) (c_X0_tells hl _ _ _ _ _ _ _)) (Nat.le_of_ble_eq_true rfl) ⟨(Nat.le_of_ble_eq_true rfl), (Nat.le_of_ble_eq_true rfl)⟩ rfl (Nat.le_of_ble_eq_true rfl) rfl rfl (fun _ _ h => h.elim) ?_
    rintro _ _ ⟨_, _, ⟨_, rfl, rfl⟩, rfl, rfl⟩
    refine j_w (z_cw _ _ _ _ _ _ _ _ _ _ _ _ _ _ _ _ _ _ _ _ _ _ _ _ _ _ _ _ _ _ _ _ _ _ _ _ _ _ _ _ _ _ _ _ _ _ _ _ _ _ _ _ _ _ _ _ [], z_no) rfl ?_
    refine j_iret dX8_heard_17 rfl rfl ?_ (Nat.le_of_ble_eq_true rfl) (Nat.le_of_ble_eq_true rfl)
    exact ⟨rfl, rfl, ⟨_, rfl⟩, (z_wk (by first | assumption | exact z_m20z) (by first | assumption | exact z_m20z) (by first | assumption | exact z_m20z) (by first | assumption | exact z_m20z) (by first | assumption | exact z_m20z) (by first | assumption | exact z_m20z))⟩
set_option maxRecDepth 100000 in
set_option maxHeartbeats 8000000 in
theorem c_X8_length (hl : l.stackTraces = false) (rf : Int32) (kn : Int32) (ma : Int32) (xa : Bool) (fa : Nat → Int32) (ca : Nat → Int32) (mb : Int32) (xb : Bool) (fb : Nat → Int32) (cb : Nat → Int32) (mt : Int32) (xt : Bool) (ft : Nat → Int32) (ct : Nat → Int32) (f0 : Nat → Int32) (g0 : Nat → Int32) (c0 : Nat → Int32) (m0 : Int32) (s0 : Int32) (f1 : Nat → Int32) (g1 : Nat → Int32) (c1 : Nat → Int32) (m1 : Int32) (s1 : Int32) (f2 : Nat → Int32) (g2 : Nat → Int32) (c2 : Nat → Int32) (m2 : Int32) (s2 : Int32) (f3 : Nat → Int32) (g3 : Nat → Int32) (c3 : Nat → Int32) (m3 : Int32) (s3 : Int32) (f4 : Nat → Int32) (g4 : Nat → Int32) (c4 : Nat → Int32) (m4 : Int32) (s4 : Int32) (f5 : Nat → Int32) (g5 : Nat → Int32) (c5 : Nat → Int32) (m5 : Int32) (s5 : Int32) (ek0 : Int32) (em0 : Int32) (es0 : Int32) (el0 : Int32) (b0 : Int32) (ef0 : Nat → Int32) (ek1 : Int32) (em1 : Int32) (es1 : Int32) (el1 : Int32) (b1 : Int32) (ef1 : Nat → Int32) (r : Int32) (h0 : z_m20 m0) (h1 : z_m20 m1) (h2 : z_m20 m2) (h3 : z_m20 m3) (h4 : z_m20 m4) (h5 : z_m20 m5) : z_CX G l mX8_length 20 14 120 (z_cw rf kn ma xa fa ca mb xb fb cb mt xt ft ct f0 g0 c0 m0 s0 f1 g1 c1 m1 s1 f2 g2 c2 m2 s2 f3 g3 c3 m3 s3 f4 g4 c4 m4 s4 f5 g5 c5 m5 s5 ek0 em0 es0 el0 b0 ef0 ek1 em1 es1 el1 b1 ef1 []) [.ref 0, .int r] (fun v L => (∃ x : Int32, v = some (.int x)) ∧ z_Wk kn xa xb b0 b1 L) (fun E L => z_xI E ∧ L = (z_cw rf kn ma xa fa ca mb xb fb cb mt xt ft ct f0 g0 c0 m0 s0 f1 g1 c1 m1 s1 f2 g2 c2 m2 s2 f3 g3 c3 m3 s3 f4 g4 c4 m4 s4 f5 g5 c5 m5 s5 ek0 em0 es0 el0 b0 ef0 ek1 em1 es1 el1 b1 ef1 [])) := by
  refine z_body hl (by decide) rfl (Nat.le_of_ble_eq_true rfl) ?_
  show z_J G l mX8_length (z_SX 20 14 120 (z_cw rf kn ma xa fa ca mb xb fb cb mt xt ft ct f0 g0 c0 m0 s0 f1 g1 c1 m1 s1 f2 g2 c2 m2 s2 f3 g3 c3 m3 s3 f4 g4 c4 m4 s4 f5 g5 c5 m5 s5 ek0 em0 es0 el0 b0 ef0 ek1 em1 es1 el1 b1 ef1 []) (fun v L => (∃ x : Int32, v = some (.int x)) ∧ z_Wk kn xa xb b0 b1 L) (fun E L => z_xI E ∧ L = (z_cw rf kn ma xa fa ca mb xb fb cb mt xt ft ct f0 g0 c0 m0 s0 f1 g1 c1 m1 s1 f2 g2 c2 m2 s2 f3 g3 c3 m3 s3 f4 g4 c4 m4 s4 f5 g5 c5 m5 s5 ek0 em0 es0 el0 b0 ef0 ek1 em1 es1 el1 b1 ef1 []))) 0 [(0, _), (1, _)] [] _ 0 0
  refine j_aload_n dX8_length_0 rfl rfl ?_
  refine j_iload_n dX8_length_1 rfl ?_
  refine j_callV (q := (RX8, TX8, 9)) dX8_length_2 kX8_rowFor lX8_46 inX8_rowFor seX8_rowFor rfl rfl (z_dirX (c_X8_rowFor hl _ _ _ _ _ _ _ _ _ _ _ _ _ _ _ _ _ _ _ _ _ _ _ _ _ _ _ _ _ _ _ _ _ _ _ _ _ _ _ _ _ _ _ _ _ _ _ _ _ _ _ _ _ _ _ _ _)) (Nat.le_of_ble_eq_true rfl) ⟨(Nat.le_of_ble_eq_true rfl), (Nat.le_of_ble_eq_true rfl)⟩ rfl (Nat.le_of_ble_eq_true rfl) rfl rfl (fun _ _ h => by obtain ⟨_, ⟨h1, rfl⟩, rfl⟩ := h; exact ⟨rfl, rfl, x_I_I h1, rfl⟩) ?_
  rintro _ _ ⟨_, ⟨_, rfl, hr, rfl⟩, rfl⟩
  have hq_2 := hr
  rcases hr with ⟨e_2, rfl⟩ | ⟨e_2, rfl⟩
  · refine j_getf dX8_length_5 fX8_68 rfl rfl ?_
    refine j_iret dX8_length_8 rfl rfl ?_ (Nat.le_of_ble_eq_true rfl) (Nat.le_of_ble_eq_true rfl)
    exact ⟨rfl, rfl, ⟨_, rfl⟩, (z_wk (by first | assumption | exact z_m20z) (by first | assumption | exact z_m20z) (by first | assumption | exact z_m20z) (by first | assumption | exact z_m20z) (by first | assumption | exact z_m20z) (by first | assumption | exact z_m20z))⟩
  · refine j_getf dX8_length_5 fX8_68 rfl rfl ?_
    refine j_iret dX8_length_8 rfl rfl ?_ (Nat.le_of_ble_eq_true rfl) (Nat.le_of_ble_eq_true rfl)
    exact ⟨rfl, rfl, ⟨_, rfl⟩, (z_wk (by first | assumption | exact z_m20z) (by first | assumption | exact z_m20z) (by first | assumption | exact z_m20z) (by first | assumption | exact z_m20z) (by first | assumption | exact z_m20z) (by first | assumption | exact z_m20z))⟩
set_option maxRecDepth 100000 in
set_option maxHeartbeats 8000000 in
theorem c_X8_at (hl : l.stackTraces = false) (rf : Int32) (kn : Int32) (ma : Int32) (xa : Bool) (fa : Nat → Int32) (ca : Nat → Int32) (mb : Int32) (xb : Bool) (fb : Nat → Int32) (cb : Nat → Int32) (mt : Int32) (xt : Bool) (ft : Nat → Int32) (ct : Nat → Int32) (f0 : Nat → Int32) (g0 : Nat → Int32) (c0 : Nat → Int32) (m0 : Int32) (s0 : Int32) (f1 : Nat → Int32) (g1 : Nat → Int32) (c1 : Nat → Int32) (m1 : Int32) (s1 : Int32) (f2 : Nat → Int32) (g2 : Nat → Int32) (c2 : Nat → Int32) (m2 : Int32) (s2 : Int32) (f3 : Nat → Int32) (g3 : Nat → Int32) (c3 : Nat → Int32) (m3 : Int32) (s3 : Int32) (f4 : Nat → Int32) (g4 : Nat → Int32) (c4 : Nat → Int32) (m4 : Int32) (s4 : Int32) (f5 : Nat → Int32) (g5 : Nat → Int32) (c5 : Nat → Int32) (m5 : Int32) (s5 : Int32) (ek0 : Int32) (em0 : Int32) (es0 : Int32) (el0 : Int32) (b0 : Int32) (ef0 : Nat → Int32) (ek1 : Int32) (em1 : Int32) (es1 : Int32) (el1 : Int32) (b1 : Int32) (ef1 : Nat → Int32) (r p : Int32) (h0 : z_m20 m0) (h1 : z_m20 m1) (h2 : z_m20 m2) (h3 : z_m20 m3) (h4 : z_m20 m4) (h5 : z_m20 m5) : z_CX G l mX8_at 20 14 120 (z_cw rf kn ma xa fa ca mb xb fb cb mt xt ft ct f0 g0 c0 m0 s0 f1 g1 c1 m1 s1 f2 g2 c2 m2 s2 f3 g3 c3 m3 s3 f4 g4 c4 m4 s4 f5 g5 c5 m5 s5 ek0 em0 es0 el0 b0 ef0 ek1 em1 es1 el1 b1 ef1 []) [.ref 0, .int r, .int p] (fun v L => (∃ x : Int32, v = some (.int x)) ∧ z_Wk kn xa xb b0 b1 L) (fun E L => z_xI E ∧ L = (z_cw rf kn ma xa fa ca mb xb fb cb mt xt ft ct f0 g0 c0 m0 s0 f1 g1 c1 m1 s1 f2 g2 c2 m2 s2 f3 g3 c3 m3 s3 f4 g4 c4 m4 s4 f5 g5 c5 m5 s5 ek0 em0 es0 el0 b0 ef0 ek1 em1 es1 el1 b1 ef1 [])) := by
  refine z_body hl (by decide) rfl (Nat.le_of_ble_eq_true rfl) ?_
  show z_J G l mX8_at (z_SX 20 14 120 (z_cw rf kn ma xa fa ca mb xb fb cb mt xt ft ct f0 g0 c0 m0 s0 f1 g1 c1 m1 s1 f2 g2 c2 m2 s2 f3 g3 c3 m3 s3 f4 g4 c4 m4 s4 f5 g5 c5 m5 s5 ek0 em0 es0 el0 b0 ef0 ek1 em1 es1 el1 b1 ef1 []) (fun v L => (∃ x : Int32, v = some (.int x)) ∧ z_Wk kn xa xb b0 b1 L) (fun E L => z_xI E ∧ L = (z_cw rf kn ma xa fa ca mb xb fb cb mt xt ft ct f0 g0 c0 m0 s0 f1 g1 c1 m1 s1 f2 g2 c2 m2 s2 f3 g3 c3 m3 s3 f4 g4 c4 m4 s4 f5 g5 c5 m5 s5 ek0 em0 es0 el0 b0 ef0 ek1 em1 es1 el1 b1 ef1 []))) 0 [(0, _), (1, _), (2, _)] [] _ 0 0
  refine j_aload_n dX8_at_0 rfl rfl ?_
  refine j_iload_n dX8_at_1 rfl ?_
  refine j_callV (q := (RX8, TX8, 9)) dX8_at_2 kX8_rowFor lX8_46 inX8_rowFor seX8_rowFor rfl rfl (z_dirX (c_X8_rowFor hl _ _ _ _ _ _ _ _ _ _ _ _ _ _ _ _ _ _ _ _ _ _ _ _ _ _ _ _ _ _ _ _ _ _ _ _ _ _ _ _ _ _ _ _ _ _ _ _ _ _ _ _ _ _ _ _ _)) (Nat.le_of_ble_eq_true rfl) ⟨(Nat.le_of_ble_eq_true rfl), (Nat.le_of_ble_eq_true rfl)⟩ rfl (Nat.le_of_ble_eq_true rfl) rfl rfl (fun _ _ h => by obtain ⟨_, ⟨h1, rfl⟩, rfl⟩ := h; exact ⟨rfl, rfl, x_I_I h1, rfl⟩) ?_
  rintro _ _ ⟨_, ⟨_, rfl, hr, rfl⟩, rfl⟩
  have hq_2 := hr
  rcases hr with ⟨e_2, rfl⟩ | ⟨e_2, rfl⟩
  · refine j_astore_n (lo' := [(3, _), (0, _), (1, _), (2, _)]) dX8_at_5 rfl (by decide) rfl ?_
    refine j_aload_n dX8_at_6 rfl rfl ?_
    refine j_iload_n dX8_at_7 rfl ?_
    refine j_callV (q := (RX1, TX1, 4)) dX8_at_8 kX1_isPlace lX8_194 inX1_isPlace seX1_isPlace rfl rfl (z_frame [2, 3, 4, 5] rfl (by decide) (Nat.le_of_ble_eq_true rfl) (c_X1_isPlace hl _ _ _ _ _)) (Nat.le_of_ble_eq_true rfl) ⟨(Nat.le_of_ble_eq_true rfl), (Nat.le_of_ble_eq_true rfl)⟩ rfl (Nat.le_of_ble_eq_true rfl) rfl rfl (fun _ _ h => h.elim) ?_
    rintro _ _ ⟨_, _, ⟨b, rfl, rfl, hb⟩, rfl, rfl⟩
    refine j_w (z_cw _ _ _ _ _ _ _ _ _ _ _ _ _ _ _ _ _ _ _ _ _ _ _ _ _ _ _ _ _ _ _ _ _ _ _ _ _ _ _ _ _ _ _ _ _ _ _ _ _ _ _ _ _ _ _ _ [], z_no) rfl ?_
    refine j_if_ne (tgt := 24) dX8_at_11 (by decide) (fun c_11 => ?_) (fun c_11 => ?_)
    · refine j_aload_n dX8_at_24 rfl rfl ?_
      refine j_iload_n dX8_at_25 rfl ?_
      refine j_callV (q := (RX1, TX1, 4)) dX8_at_26 kX1_valueAt lX8_203 inX1_valueAt seX1_valueAt rfl rfl (z_frame [2, 3, 4, 5] rfl (by decide) (Nat.le_of_ble_eq_true rfl) (c_X1_valueAt hl _ _ _ _ _)) (Nat.le_of_ble_eq_true rfl) ⟨(Nat.le_of_ble_eq_true rfl), (Nat.le_of_ble_eq_true rfl)⟩ rfl (Nat.le_of_ble_eq_true rfl) rfl rfl (fun _ _ h => h.elim) ?_
      rintro _ _ ⟨_, _, ⟨_, rfl, rfl⟩, rfl, rfl⟩
      refine j_w (z_cw _ _ _ _ _ _ _ _ _ _ _ _ _ _ _ _ _ _ _ _ _ _ _ _ _ _ _ _ _ _ _ _ _ _ _ _ _ _ _ _ _ _ _ _ _ _ _ _ _ _ _ _ _ _ _ _ [], z_no) rfl ?_
      refine j_iret dX8_at_29 rfl rfl ?_ (Nat.le_of_ble_eq_true rfl) (Nat.le_of_ble_eq_true rfl)
      exact ⟨rfl, rfl, ⟨_, rfl⟩, (z_wk (by first | assumption | exact z_m20z) (by first | assumption | exact z_m20z) (by first | assumption | exact z_m20z) (by first | assumption | exact z_m20z) (by first | assumption | exact z_m20z) (by first | assumption | exact z_m20z))⟩
    · exact j_throwS (text := "there is no such place") rfl th_I (by decide +kernel) dX8_at_14 dX8_at_17 dX8_at_18 dX8_at_20 dX8_at_23 (Nat.le_of_ble_eq_true rfl) (Nat.le_of_ble_eq_true rfl) ⟨rfl, rfl, rfl, rfl⟩ (Nat.le_of_ble_eq_true rfl) (Nat.le_of_ble_eq_true rfl)
  · refine j_astore_n (lo' := [(3, _), (0, _), (1, _), (2, _)]) dX8_at_5 rfl (by decide) rfl ?_
    refine j_aload_n dX8_at_6 rfl rfl ?_
    refine j_iload_n dX8_at_7 rfl ?_
    refine j_callV (q := (RX1, TX1, 4)) dX8_at_8 kX1_isPlace lX8_194 inX1_isPlace seX1_isPlace rfl rfl (z_frame [6, 7, 8, 9] rfl (by decide) (Nat.le_of_ble_eq_true rfl) (c_X1_isPlace hl _ _ _ _ _)) (Nat.le_of_ble_eq_true rfl) ⟨(Nat.le_of_ble_eq_true rfl), (Nat.le_of_ble_eq_true rfl)⟩ rfl (Nat.le_of_ble_eq_true rfl) rfl rfl (fun _ _ h => h.elim) ?_
    rintro _ _ ⟨_, _, ⟨b, rfl, rfl, hb⟩, rfl, rfl⟩
    refine j_w (z_cw _ _ _ _ _ _ _ _ _ _ _ _ _ _ _ _ _ _ _ _ _ _ _ _ _ _ _ _ _ _ _ _ _ _ _ _ _ _ _ _ _ _ _ _ _ _ _ _ _ _ _ _ _ _ _ _ [], z_no) rfl ?_
    refine j_if_ne (tgt := 24) dX8_at_11 (by decide) (fun c_11 => ?_) (fun c_11 => ?_)
    · refine j_aload_n dX8_at_24 rfl rfl ?_
      refine j_iload_n dX8_at_25 rfl ?_
      refine j_callV (q := (RX1, TX1, 4)) dX8_at_26 kX1_valueAt lX8_203 inX1_valueAt seX1_valueAt rfl rfl (z_frame [6, 7, 8, 9] rfl (by decide) (Nat.le_of_ble_eq_true rfl) (c_X1_valueAt hl _ _ _ _ _)) (Nat.le_of_ble_eq_true rfl) ⟨(Nat.le_of_ble_eq_true rfl), (Nat.le_of_ble_eq_true rfl)⟩ rfl (Nat.le_of_ble_eq_true rfl) rfl rfl (fun _ _ h => h.elim) ?_
      rintro _ _ ⟨_, _, ⟨_, rfl, rfl⟩, rfl, rfl⟩
      refine j_w (z_cw _ _ _ _ _ _ _ _ _ _ _ _ _ _ _ _ _ _ _ _ _ _ _ _ _ _ _ _ _ _ _ _ _ _ _ _ _ _ _ _ _ _ _ _ _ _ _ _ _ _ _ _ _ _ _ _ [], z_no) rfl ?_
      refine j_iret dX8_at_29 rfl rfl ?_ (Nat.le_of_ble_eq_true rfl) (Nat.le_of_ble_eq_true rfl)
      exact ⟨rfl, rfl, ⟨_, rfl⟩, (z_wk (by first | assumption | exact z_m20z) (by first | assumption | exact z_m20z) (by first | assumption | exact z_m20z) (by first | assumption | exact z_m20z) (by first | assumption | exact z_m20z) (by first | assumption | exact z_m20z))⟩
    · exact j_throwS (text := "there is no such place") rfl th_I (by decide +kernel) dX8_at_14 dX8_at_17 dX8_at_18 dX8_at_20 dX8_at_23 (Nat.le_of_ble_eq_true rfl) (Nat.le_of_ble_eq_true rfl) ⟨rfl, rfl, rfl, rfl⟩ (Nat.le_of_ble_eq_true rfl) (Nat.le_of_ble_eq_true rfl)
set_option maxRecDepth 100000 in
set_option maxHeartbeats 8000000 in
theorem c_X8_isFixed (hl : l.stackTraces = false) (rf : Int32) (kn : Int32) (ma : Int32) (xa : Bool) (fa : Nat → Int32) (ca : Nat → Int32) (mb : Int32) (xb : Bool) (fb : Nat → Int32) (cb : Nat → Int32) (mt : Int32) (xt : Bool) (ft : Nat → Int32) (ct : Nat → Int32) (f0 : Nat → Int32) (g0 : Nat → Int32) (c0 : Nat → Int32) (m0 : Int32) (s0 : Int32) (f1 : Nat → Int32) (g1 : Nat → Int32) (c1 : Nat → Int32) (m1 : Int32) (s1 : Int32) (f2 : Nat → Int32) (g2 : Nat → Int32) (c2 : Nat → Int32) (m2 : Int32) (s2 : Int32) (f3 : Nat → Int32) (g3 : Nat → Int32) (c3 : Nat → Int32) (m3 : Int32) (s3 : Int32) (f4 : Nat → Int32) (g4 : Nat → Int32) (c4 : Nat → Int32) (m4 : Int32) (s4 : Int32) (f5 : Nat → Int32) (g5 : Nat → Int32) (c5 : Nat → Int32) (m5 : Int32) (s5 : Int32) (ek0 : Int32) (em0 : Int32) (es0 : Int32) (el0 : Int32) (b0 : Int32) (ef0 : Nat → Int32) (ek1 : Int32) (em1 : Int32) (es1 : Int32) (el1 : Int32) (b1 : Int32) (ef1 : Nat → Int32) (r : Int32) (h0 : z_m20 m0) (h1 : z_m20 m1) (h2 : z_m20 m2) (h3 : z_m20 m3) (h4 : z_m20 m4) (h5 : z_m20 m5) : z_CX G l mX8_isFixed 20 14 120 (z_cw rf kn ma xa fa ca mb xb fb cb mt xt ft ct f0 g0 c0 m0 s0 f1 g1 c1 m1 s1 f2 g2 c2 m2 s2 f3 g3 c3 m3 s3 f4 g4 c4 m4 s4 f5 g5 c5 m5 s5 ek0 em0 es0 el0 b0 ef0 ek1 em1 es1 el1 b1 ef1 []) [.ref 0, .int r] (fun v L => ∃ b9 : Bool, v = some (.int (z_bi b9)) ∧ ((r = 0 ∧ b9 = xa) ∨ (r = 1 ∧ b9 = xb)) ∧ z_Wk kn xa xb b0 b1 L) (fun E L => z_xI E ∧ L = (z_cw rf kn ma xa fa ca mb xb fb cb mt xt ft ct f0 g0 c0 m0 s0 f1 g1 c1 m1 s1 f2 g2 c2 m2 s2 f3 g3 c3 m3 s3 f4 g4 c4 m4 s4 f5 g5 c5 m5 s5 ek0 em0 es0 el0 b0 ef0 ek1 em1 es1 el1 b1 ef1 [])) := by
  refine z_body hl (by decide) rfl (Nat.le_of_ble_eq_true rfl) ?_
  show z_J G l mX8_isFixed (z_SX 20 14 120 (z_cw rf kn ma xa fa ca mb xb fb cb mt xt ft ct f0 g0 c0 m0 s0 f1 g1 c1 m1 s1 f2 g2 c2 m2 s2 f3 g3 c3 m3 s3 f4 g4 c4 m4 s4 f5 g5 c5 m5 s5 ek0 em0 es0 el0 b0 ef0 ek1 em1 es1 el1 b1 ef1 []) (fun v L => ∃ b9 : Bool, v = some (.int (z_bi b9)) ∧ ((r = 0 ∧ b9 = xa) ∨ (r = 1 ∧ b9 = xb)) ∧ z_Wk kn xa xb b0 b1 L) (fun E L => z_xI E ∧ L = (z_cw rf kn ma xa fa ca mb xb fb cb mt xt ft ct f0 g0 c0 m0 s0 f1 g1 c1 m1 s1 f2 g2 c2 m2 s2 f3 g3 c3 m3 s3 f4 g4 c4 m4 s4 f5 g5 c5 m5 s5 ek0 em0 es0 el0 b0 ef0 ek1 em1 es1 el1 b1 ef1 []))) 0 [(0, _), (1, _)] [] _ 0 0
  refine j_aload_n dX8_isFixed_0 rfl rfl ?_
  refine j_iload_n dX8_isFixed_1 rfl ?_
  refine j_callV (q := (RX8, TX8, 9)) dX8_isFixed_2 kX8_rowFor lX8_46 inX8_rowFor seX8_rowFor rfl rfl (z_dirX (c_X8_rowFor hl _ _ _ _ _ _ _ _ _ _ _ _ _ _ _ _ _ _ _ _ _ _ _ _ _ _ _ _ _ _ _ _ _ _ _ _ _ _ _ _ _ _ _ _ _ _ _ _ _ _ _ _ _ _ _ _ _)) (Nat.le_of_ble_eq_true rfl) ⟨(Nat.le_of_ble_eq_true rfl), (Nat.le_of_ble_eq_true rfl)⟩ rfl (Nat.le_of_ble_eq_true rfl) rfl rfl (fun _ _ h => by obtain ⟨_, ⟨h1, rfl⟩, rfl⟩ := h; exact ⟨rfl, rfl, x_I_I h1, rfl⟩) ?_
  rintro _ _ ⟨_, ⟨_, rfl, hr, rfl⟩, rfl⟩
  have hq_2 := hr
  rcases hr with ⟨e_2, rfl⟩ | ⟨e_2, rfl⟩
  · refine j_getf dX8_isFixed_5 fX8_79 rfl rfl ?_
    refine j_iret dX8_isFixed_8 rfl (z_bn _) ?_ (Nat.le_of_ble_eq_true rfl) (Nat.le_of_ble_eq_true rfl)
    first | exact ⟨rfl, rfl, _, rfl, Or.inl ⟨e_2, rfl⟩, (z_wk (by first | assumption | exact z_m20z) (by first | assumption | exact z_m20z) (by first | assumption | exact z_m20z) (by first | assumption | exact z_m20z) (by first | assumption | exact z_m20z) (by first | assumption | exact z_m20z))⟩ | exact ⟨rfl, rfl, _, rfl, Or.inr ⟨e_2, rfl⟩, (z_wk (by first | assumption | exact z_m20z) (by first | assumption | exact z_m20z) (by first | assumption | exact z_m20z) (by first | assumption | exact z_m20z) (by first | assumption | exact z_m20z) (by first | assumption | exact z_m20z))⟩
  · refine j_getf dX8_isFixed_5 fX8_79 rfl rfl ?_
    refine j_iret dX8_isFixed_8 rfl (z_bn _) ?_ (Nat.le_of_ble_eq_true rfl) (Nat.le_of_ble_eq_true rfl)
    first | exact ⟨rfl, rfl, _, rfl, Or.inl ⟨e_2, rfl⟩, (z_wk (by first | assumption | exact z_m20z) (by first | assumption | exact z_m20z) (by first | assumption | exact z_m20z) (by first | assumption | exact z_m20z) (by first | assumption | exact z_m20z) (by first | assumption | exact z_m20z))⟩ | exact ⟨rfl, rfl, _, rfl, Or.inr ⟨e_2, rfl⟩, (z_wk (by first | assumption | exact z_m20z) (by first | assumption | exact z_m20z) (by first | assumption | exact z_m20z) (by first | assumption | exact z_m20z) (by first | assumption | exact z_m20z) (by first | assumption | exact z_m20z))⟩
set_option maxRecDepth 100000 in
set_option maxHeartbeats 8000000 in
theorem c_X8_counts (hl : l.stackTraces = false) (rf : Int32) (kn : Int32) (ma : Int32) (xa : Bool) (fa : Nat → Int32) (ca : Nat → Int32) (mb : Int32) (xb : Bool) (fb : Nat → Int32) (cb : Nat → Int32) (mt : Int32) (xt : Bool) (ft : Nat → Int32) (ct : Nat → Int32) (f0 : Nat → Int32) (g0 : Nat → Int32) (c0 : Nat → Int32) (m0 : Int32) (s0 : Int32) (f1 : Nat → Int32) (g1 : Nat → Int32) (c1 : Nat → Int32) (m1 : Int32) (s1 : Int32) (f2 : Nat → Int32) (g2 : Nat → Int32) (c2 : Nat → Int32) (m2 : Int32) (s2 : Int32) (f3 : Nat → Int32) (g3 : Nat → Int32) (c3 : Nat → Int32) (m3 : Int32) (s3 : Int32) (f4 : Nat → Int32) (g4 : Nat → Int32) (c4 : Nat → Int32) (m4 : Int32) (s4 : Int32) (f5 : Nat → Int32) (g5 : Nat → Int32) (c5 : Nat → Int32) (m5 : Int32) (s5 : Int32) (ek0 : Int32) (em0 : Int32) (es0 : Int32) (el0 : Int32) (b0 : Int32) (ef0 : Nat → Int32) (ek1 : Int32) (em1 : Int32) (es1 : Int32) (el1 : Int32) (b1 : Int32) (ef1 : Nat → Int32) (r p : Int32) (h0 : z_m20 m0) (h1 : z_m20 m1) (h2 : z_m20 m2) (h3 : z_m20 m3) (h4 : z_m20 m4) (h5 : z_m20 m5) : z_CX G l mX8_counts 20 14 120 (z_cw rf kn ma xa fa ca mb xb fb cb mt xt ft ct f0 g0 c0 m0 s0 f1 g1 c1 m1 s1 f2 g2 c2 m2 s2 f3 g3 c3 m3 s3 f4 g4 c4 m4 s4 f5 g5 c5 m5 s5 ek0 em0 es0 el0 b0 ef0 ek1 em1 es1 el1 b1 ef1 []) [.ref 0, .int r, .int p] (fun v L => (∃ x : Int32, v = some (.int x)) ∧ z_Wk kn xa xb b0 b1 L) (fun E L => z_xIA E ∧ L = (z_cw rf kn ma xa fa ca mb xb fb cb mt xt ft ct f0 g0 c0 m0 s0 f1 g1 c1 m1 s1 f2 g2 c2 m2 s2 f3 g3 c3 m3 s3 f4 g4 c4 m4 s4 f5 g5 c5 m5 s5 ek0 em0 es0 el0 b0 ef0 ek1 em1 es1 el1 b1 ef1 [])) := by
  refine z_body hl (by decide) rfl (Nat.le_of_ble_eq_true rfl) ?_
  show z_J G l mX8_counts (z_SX 20 14 120 (z_cw rf kn ma xa fa ca mb xb fb cb mt xt ft ct f0 g0 c0 m0 s0 f1 g1 c1 m1 s1 f2 g2 c2 m2 s2 f3 g3 c3 m3 s3 f4 g4 c4 m4 s4 f5 g5 c5 m5 s5 ek0 em0 es0 el0 b0 ef0 ek1 em1 es1 el1 b1 ef1 []) (fun v L => (∃ x : Int32, v = some (.int x)) ∧ z_Wk kn xa xb b0 b1 L) (fun E L => z_xIA E ∧ L = (z_cw rf kn ma xa fa ca mb xb fb cb mt xt ft ct f0 g0 c0 m0 s0 f1 g1 c1 m1 s1 f2 g2 c2 m2 s2 f3 g3 c3 m3 s3 f4 g4 c4 m4 s4 f5 g5 c5 m5 s5 ek0 em0 es0 el0 b0 ef0 ek1 em1 es1 el1 b1 ef1 []))) 0 [(0, _), (1, _), (2, _)] [] _ 0 0
  refine j_aload_n dX8_counts_0 rfl rfl ?_
  refine j_iload_n dX8_counts_1 rfl ?_
  refine j_callV (q := (RX8, TX8, 9)) dX8_counts_2 kX8_rowFor lX8_46 inX8_rowFor seX8_rowFor rfl rfl (z_dirX (c_X8_rowFor hl _ _ _ _ _ _ _ _ _ _ _ _ _ _ _ _ _ _ _ _ _ _ _ _ _ _ _ _ _ _ _ _ _ _ _ _ _ _ _ _ _ _ _ _ _ _ _ _ _ _ _ _ _ _ _ _ _)) (Nat.le_of_ble_eq_true rfl) ⟨(Nat.le_of_ble_eq_true rfl), (Nat.le_of_ble_eq_true rfl)⟩ rfl (Nat.le_of_ble_eq_true rfl) rfl rfl (fun _ _ h => by obtain ⟨_, ⟨h1, rfl⟩, rfl⟩ := h; exact ⟨rfl, rfl, x_I_IA h1, rfl⟩) ?_
  rintro _ _ ⟨_, ⟨_, rfl, hr, rfl⟩, rfl⟩
  have hq_2 := hr
  rcases hr with ⟨e_2, rfl⟩ | ⟨e_2, rfl⟩
  · refine j_astore_n (lo' := [(3, _), (0, _), (1, _), (2, _)]) dX8_counts_5 rfl (by decide) rfl ?_
    refine j_iload_n dX8_counts_6 rfl ?_
    refine j_iconst (v := 0) dX8_counts_7 (by decide) ?_
    refine j_iconst (v := 4) dX8_counts_8 (by decide) ?_
    refine j_callS dX8_counts_9 kX8_checkRange lX8_72 stX8_checkRange (c_X8_checkRange hl _ _ _ _) (Nat.le_of_ble_eq_true rfl) ⟨(Nat.le_of_ble_eq_true rfl), (Nat.le_of_ble_eq_true rfl)⟩ rfl (Nat.le_of_ble_eq_true rfl) rfl rfl (fun _ _ h => by obtain ⟨h1, rfl⟩ := h; exact ⟨rfl, rfl, x_A_IA h1, rfl⟩) ?_
    rintro _ _ ⟨rfl, rfl⟩
    refine j_aload_n dX8_counts_12 rfl rfl ?_
    refine j_getf dX8_counts_13 fX8_214 rfl rfl ?_
    refine j_iload_n dX8_counts_16 rfl ?_
    refine j_callV (q := (RX6, TX6, 1)) dX8_counts_17 kX6_of lX8_218 inX6_of seX6_of rfl rfl (z_frame [4, 5] rfl (by decide) (Nat.le_of_ble_eq_true rfl) (c_X6_of hl _ _)) (Nat.le_of_ble_eq_true rfl) ⟨(Nat.le_of_ble_eq_true rfl), (Nat.le_of_ble_eq_true rfl)⟩ rfl (Nat.le_of_ble_eq_true rfl) rfl rfl (fun _ _ h => h.elim) ?_
    rintro _ _ ⟨_, _, ⟨_, rfl, rfl⟩, rfl, rfl⟩
    refine j_w (z_cw _ _ _ _ _ _ _ _ _ _ _ _ _ _ _ _ _ _ _ _ _ _ _ _ _ _ _ _ _ _ _ _ _ _ _ _ _ _ _ _ _ _ _ _ _ _ _ _ _ _ _ _ _ _ _ _ [], z_no) rfl ?_
    refine j_iret dX8_counts_20 rfl rfl ?_ (Nat.le_of_ble_eq_true rfl) (Nat.le_of_ble_eq_true rfl)
    exact ⟨rfl, rfl, ⟨_, rfl⟩, (z_wk (by first | assumption | exact z_m20z) (by first | assumption | exact z_m20z) (by first | assumption | exact z_m20z) (by first | assumption | exact z_m20z) (by first | assumption | exact z_m20z) (by first | assumption | exact z_m20z))⟩
  · refine j_astore_n (lo' := [(3, _), (0, _), (1, _), (2, _)]) dX8_counts_5 rfl (by decide) rfl ?_
    refine j_iload_n dX8_counts_6 rfl ?_
    refine j_iconst (v := 0) dX8_counts_7 (by decide) ?_
    refine j_iconst (v := 4) dX8_counts_8 (by decide) ?_
    refine j_callS dX8_counts_9 kX8_checkRange lX8_72 stX8_checkRange (c_X8_checkRange hl _ _ _ _) (Nat.le_of_ble_eq_true rfl) ⟨(Nat.le_of_ble_eq_true rfl), (Nat.le_of_ble_eq_true rfl)⟩ rfl (Nat.le_of_ble_eq_true rfl) rfl rfl (fun _ _ h => by obtain ⟨h1, rfl⟩ := h; exact ⟨rfl, rfl, x_A_IA h1, rfl⟩) ?_
    rintro _ _ ⟨rfl, rfl⟩
    refine j_aload_n dX8_counts_12 rfl rfl ?_
    refine j_getf dX8_counts_13 fX8_214 rfl rfl ?_
    refine j_iload_n dX8_counts_16 rfl ?_
    refine j_callV (q := (RX6, TX6, 1)) dX8_counts_17 kX6_of lX8_218 inX6_of seX6_of rfl rfl (z_frame [8, 9] rfl (by decide) (Nat.le_of_ble_eq_true rfl) (c_X6_of hl _ _)) (Nat.le_of_ble_eq_true rfl) ⟨(Nat.le_of_ble_eq_true rfl), (Nat.le_of_ble_eq_true rfl)⟩ rfl (Nat.le_of_ble_eq_true rfl) rfl rfl (fun _ _ h => h.elim) ?_
    rintro _ _ ⟨_, _, ⟨_, rfl, rfl⟩, rfl, rfl⟩
    refine j_w (z_cw _ _ _ _ _ _ _ _ _ _ _ _ _ _ _ _ _ _ _ _ _ _ _ _ _ _ _ _ _ _ _ _ _ _ _ _ _ _ _ _ _ _ _ _ _ _ _ _ _ _ _ _ _ _ _ _ [], z_no) rfl ?_
    refine j_iret dX8_counts_20 rfl rfl ?_ (Nat.le_of_ble_eq_true rfl) (Nat.le_of_ble_eq_true rfl)
    exact ⟨rfl, rfl, ⟨_, rfl⟩, (z_wk (by first | assumption | exact z_m20z) (by first | assumption | exact z_m20z) (by first | assumption | exact z_m20z) (by first | assumption | exact z_m20z) (by first | assumption | exact z_m20z) (by first | assumption | exact z_m20z))⟩
set_option maxRecDepth 100000 in
set_option maxHeartbeats 8000000 in
theorem c_X8_shelfCounts (hl : l.stackTraces = false) (rf : Int32) (kn : Int32) (ma : Int32) (xa : Bool) (fa : Nat → Int32) (ca : Nat → Int32) (mb : Int32) (xb : Bool) (fb : Nat → Int32) (cb : Nat → Int32) (mt : Int32) (xt : Bool) (ft : Nat → Int32) (ct : Nat → Int32) (f0 : Nat → Int32) (g0 : Nat → Int32) (c0 : Nat → Int32) (m0 : Int32) (s0 : Int32) (f1 : Nat → Int32) (g1 : Nat → Int32) (c1 : Nat → Int32) (m1 : Int32) (s1 : Int32) (f2 : Nat → Int32) (g2 : Nat → Int32) (c2 : Nat → Int32) (m2 : Int32) (s2 : Int32) (f3 : Nat → Int32) (g3 : Nat → Int32) (c3 : Nat → Int32) (m3 : Int32) (s3 : Int32) (f4 : Nat → Int32) (g4 : Nat → Int32) (c4 : Nat → Int32) (m4 : Int32) (s4 : Int32) (f5 : Nat → Int32) (g5 : Nat → Int32) (c5 : Nat → Int32) (m5 : Int32) (s5 : Int32) (ek0 : Int32) (em0 : Int32) (es0 : Int32) (el0 : Int32) (b0 : Int32) (ef0 : Nat → Int32) (ek1 : Int32) (em1 : Int32) (es1 : Int32) (el1 : Int32) (b1 : Int32) (ef1 : Nat → Int32) (r : Int32) (h0 : z_m20 m0) (h1 : z_m20 m1) (h2 : z_m20 m2) (h3 : z_m20 m3) (h4 : z_m20 m4) (h5 : z_m20 m5) : z_CX G l mX8_shelfCounts 20 14 120 (z_cw rf kn ma xa fa ca mb xb fb cb mt xt ft ct f0 g0 c0 m0 s0 f1 g1 c1 m1 s1 f2 g2 c2 m2 s2 f3 g3 c3 m3 s3 f4 g4 c4 m4 s4 f5 g5 c5 m5 s5 ek0 em0 es0 el0 b0 ef0 ek1 em1 es1 el1 b1 ef1 []) [.ref 0, .int r] (fun v L => (∃ x : Int32, v = some (.int x)) ∧ z_Wk kn xa xb b0 b1 L) (fun E L => z_xA E ∧ L = (z_cw rf kn ma xa fa ca mb xb fb cb mt xt ft ct f0 g0 c0 m0 s0 f1 g1 c1 m1 s1 f2 g2 c2 m2 s2 f3 g3 c3 m3 s3 f4 g4 c4 m4 s4 f5 g5 c5 m5 s5 ek0 em0 es0 el0 b0 ef0 ek1 em1 es1 el1 b1 ef1 [])) := by
  refine z_body hl (by decide) rfl (Nat.le_of_ble_eq_true rfl) ?_
  show z_J G l mX8_shelfCounts (z_SX 20 14 120 (z_cw rf kn ma xa fa ca mb xb fb cb mt xt ft ct f0 g0 c0 m0 s0 f1 g1 c1 m1 s1 f2 g2 c2 m2 s2 f3 g3 c3 m3 s3 f4 g4 c4 m4 s4 f5 g5 c5 m5 s5 ek0 em0 es0 el0 b0 ef0 ek1 em1 es1 el1 b1 ef1 []) (fun v L => (∃ x : Int32, v = some (.int x)) ∧ z_Wk kn xa xb b0 b1 L) (fun E L => z_xA E ∧ L = (z_cw rf kn ma xa fa ca mb xb fb cb mt xt ft ct f0 g0 c0 m0 s0 f1 g1 c1 m1 s1 f2 g2 c2 m2 s2 f3 g3 c3 m3 s3 f4 g4 c4 m4 s4 f5 g5 c5 m5 s5 ek0 em0 es0 el0 b0 ef0 ek1 em1 es1 el1 b1 ef1 []))) 0 [(0, _), (1, _)] [] _ 0 0
  refine j_iload_n dX8_shelfCounts_0 rfl ?_
  refine j_iconst (v := 0) dX8_shelfCounts_1 (by decide) ?_
  refine j_bipush (v := 6) dX8_shelfCounts_2 (by decide) ?_
  refine j_callS dX8_shelfCounts_4 kX8_checkRange lX8_72 stX8_checkRange (c_X8_checkRange hl _ _ _ _) (Nat.le_of_ble_eq_true rfl) ⟨(Nat.le_of_ble_eq_true rfl), (Nat.le_of_ble_eq_true rfl)⟩ rfl (Nat.le_of_ble_eq_true rfl) rfl rfl (fun _ _ h => by obtain ⟨h1, rfl⟩ := h; exact ⟨rfl, rfl, x_A_A h1, rfl⟩) ?_
  rintro _ _ ⟨rfl, rfl⟩
  refine j_aload_n dX8_shelfCounts_7 rfl rfl ?_
  refine j_getf dX8_shelfCounts_8 fX8_21 rfl rfl ?_
  refine j_getf dX8_shelfCounts_11 fX8_223 rfl rfl ?_
  refine j_iload_n dX8_shelfCounts_14 rfl ?_
  refine j_callV (q := (RX6, TX6, 1)) dX8_shelfCounts_15 kX6_of lX8_218 inX6_of seX6_of rfl rfl (z_frame [13, 14] rfl (by decide) (Nat.le_of_ble_eq_true rfl) (c_X6_of hl _ _)) (Nat.le_of_ble_eq_true rfl) ⟨(Nat.le_of_ble_eq_true rfl), (Nat.le_of_ble_eq_true rfl)⟩ rfl (Nat.le_of_ble_eq_true rfl) rfl rfl (fun _ _ h => h.elim) ?_
  rintro _ _ ⟨_, _, ⟨_, rfl, rfl⟩, rfl, rfl⟩
  refine j_w (z_cw _ _ _ _ _ _ _ _ _ _ _ _ _ _ _ _ _ _ _ _ _ _ _ _ _ _ _ _ _ _ _ _ _ _ _ _ _ _ _ _ _ _ _ _ _ _ _ _ _ _ _ _ _ _ _ _ [], z_no) rfl ?_
  refine j_iret dX8_shelfCounts_18 rfl rfl ?_ (Nat.le_of_ble_eq_true rfl) (Nat.le_of_ble_eq_true rfl)
  exact ⟨rfl, rfl, ⟨_, rfl⟩, (z_wk (by first | assumption | exact z_m20z) (by first | assumption | exact z_m20z) (by first | assumption | exact z_m20z) (by first | assumption | exact z_m20z) (by first | assumption | exact z_m20z) (by first | assumption | exact z_m20z))⟩
set_option maxRecDepth 100000 in
set_option maxHeartbeats 8000000 in
theorem c_X8_forgetCounts (hl : l.stackTraces = false) (rf : Int32) (kn : Int32) (ma : Int32) (xa : Bool) (fa : Nat → Int32) (ca : Nat → Int32) (mb : Int32) (xb : Bool) (fb : Nat → Int32) (cb : Nat → Int32) (mt : Int32) (xt : Bool) (ft : Nat → Int32) (ct : Nat → Int32) (f0 : Nat → Int32) (g0 : Nat → Int32) (c0 : Nat → Int32) (m0 : Int32) (s0 : Int32) (f1 : Nat → Int32) (g1 : Nat → Int32) (c1 : Nat → Int32) (m1 : Int32) (s1 : Int32) (f2 : Nat → Int32) (g2 : Nat → Int32) (c2 : Nat → Int32) (m2 : Int32) (s2 : Int32) (f3 : Nat → Int32) (g3 : Nat → Int32) (c3 : Nat → Int32) (m3 : Int32) (s3 : Int32) (f4 : Nat → Int32) (g4 : Nat → Int32) (c4 : Nat → Int32) (m4 : Int32) (s4 : Int32) (f5 : Nat → Int32) (g5 : Nat → Int32) (c5 : Nat → Int32) (m5 : Int32) (s5 : Int32) (ek0 : Int32) (em0 : Int32) (es0 : Int32) (el0 : Int32) (b0 : Int32) (ef0 : Nat → Int32) (ek1 : Int32) (em1 : Int32) (es1 : Int32) (el1 : Int32) (b1 : Int32) (ef1 : Nat → Int32)  (h0 : z_m20 m0) (h1 : z_m20 m1) (h2 : z_m20 m2) (h3 : z_m20 m3) (h4 : z_m20 m4) (h5 : z_m20 m5) : z_CF G l mX8_forgetCounts 20 14 120 (z_cw rf kn ma xa fa ca mb xb fb cb mt xt ft ct f0 g0 c0 m0 s0 f1 g1 c1 m1 s1 f2 g2 c2 m2 s2 f3 g3 c3 m3 s3 f4 g4 c4 m4 s4 f5 g5 c5 m5 s5 ek0 em0 es0 el0 b0 ef0 ek1 em1 es1 el1 b1 ef1 []) [.ref 0] (fun v L => (∃ x : Int32, v = some (.int x)) ∧ z_Wk kn xa xb b0 b1 L) := by
  refine z_body hl (by decide) rfl (Nat.le_of_ble_eq_true rfl) ?_
  show z_J G l mX8_forgetCounts (z_SF 20 14 120 (z_cw rf kn ma xa fa ca mb xb fb cb mt xt ft ct f0 g0 c0 m0 s0 f1 g1 c1 m1 s1 f2 g2 c2 m2 s2 f3 g3 c3 m3 s3 f4 g4 c4 m4 s4 f5 g5 c5 m5 s5 ek0 em0 es0 el0 b0 ef0 ek1 em1 es1 el1 b1 ef1 []) (fun v L => (∃ x : Int32, v = some (.int x)) ∧ z_Wk kn xa xb b0 b1 L)) 0 [(0, _)] [] _ 0 0
  refine j_aload_n dX8_forgetCounts_0 rfl rfl ?_
  refine j_getf dX8_forgetCounts_1 fX8_21 rfl rfl ?_
  refine j_getf dX8_forgetCounts_4 fX8_223 rfl rfl ?_
  refine j_callV (q := (RX6, TX6, 1)) dX8_forgetCounts_7 kX6_startAnew lX8_224 inX6_startAnew seX6_startAnew rfl rfl (z_frame [13, 14] rfl (by decide) (Nat.le_of_ble_eq_true rfl) (c_X6_startAnew hl _)) (Nat.le_of_ble_eq_true rfl) ⟨(Nat.le_of_ble_eq_true rfl), (Nat.le_of_ble_eq_true rfl)⟩ rfl (Nat.le_of_ble_eq_true rfl) rfl rfl (fun _ _ h => h.elim) ?_
  rintro _ _ ⟨_, _, ⟨_, rfl, _, rfl⟩, rfl, rfl⟩
  refine j_w (z_cw _ _ _ _ _ _ _ _ _ _ _ _ _ _ _ _ _ _ _ _ _ _ _ _ _ _ _ _ _ _ _ _ _ _ _ _ _ _ _ _ _ _ _ _ _ _ _ _ _ _ _ _ _ _ _ _ [], z_no) rfl ?_
  refine j_istore_n (lo' := [(1, _), (0, _)]) dX8_forgetCounts_10 (by decide) rfl ?_
  refine j_aload_n dX8_forgetCounts_11 rfl rfl ?_
  refine j_getf dX8_forgetCounts_12 fX8_10 rfl rfl ?_
  refine j_astore_n (lo' := [(2, _), (1, _), (0, _)]) dX8_forgetCounts_15 rfl (by decide) rfl ?_
  refine j_aload_n dX8_forgetCounts_16 rfl rfl ?_
  refine j_alen dX8_forgetCounts_17 rfl rfl rfl ?_
  refine j_istore_n (lo' := [(3, _), (2, _), (1, _), (0, _)]) dX8_forgetCounts_18 (by decide) rfl ?_
  refine j_iconst (v := 0) dX8_forgetCounts_19 (by decide) ?_
  refine j_istore (lo' := [(4, _), (3, _), (2, _), (1, _), (0, _)]) dX8_forgetCounts_20 (by decide) rfl ?_
  refine j_iload dX8_forgetCounts_22 rfl ?_
  refine j_iload_n dX8_forgetCounts_24 rfl ?_
  refine j_icmp_ge (tgt := 51) dX8_forgetCounts_25 (by decide) (fun c_25 => ?_) (fun c_25 => ?_)
  · exact absurd c_25 (by decide)
  · refine j_aload_n dX8_forgetCounts_28 rfl rfl ?_
    refine j_iload dX8_forgetCounts_29 rfl ?_
    refine j_aald (v := .ref 2) dX8_forgetCounts_31 rfl rfl rfl (vp_in_iff.mpr (by decide)) rfl ?_
    refine j_astore (lo' := [(5, _), (4, _), (3, _), (2, _), (1, _), (0, _)]) dX8_forgetCounts_32 rfl (by decide) rfl ?_
    refine j_iload_n dX8_forgetCounts_34 rfl ?_
    refine j_aload dX8_forgetCounts_35 rfl rfl ?_
    refine j_getf dX8_forgetCounts_37 fX8_214 rfl rfl ?_
    refine j_callV (q := (RX6, TX6, 1)) dX8_forgetCounts_40 kX6_startAnew lX8_224 inX6_startAnew seX6_startAnew rfl rfl (z_frame [4, 5] rfl (by decide) (Nat.le_of_ble_eq_true rfl) (c_X6_startAnew hl _)) (Nat.le_of_ble_eq_true rfl) ⟨(Nat.le_of_ble_eq_true rfl), (Nat.le_of_ble_eq_true rfl)⟩ rfl (Nat.le_of_ble_eq_true rfl) rfl rfl (fun _ _ h => h.elim) ?_
    rintro _ _ ⟨_, _, ⟨_, rfl, _, rfl⟩, rfl, rfl⟩
    refine j_w (z_cw _ _ _ _ _ _ _ _ _ _ _ _ _ _ _ _ _ _ _ _ _ _ _ _ _ _ _ _ _ _ _ _ _ _ _ _ _ _ _ _ _ _ _ _ _ _ _ _ _ _ _ _ _ _ _ _ [], z_no) rfl ?_
    refine j_iadd dX8_forgetCounts_43 ?_
    refine j_istore_n (lo' := [(1, _), (5, _), (4, _), (3, _), (2, _), (0, _)]) dX8_forgetCounts_44 (by decide) rfl ?_
    refine j_iinc (lo' := [(4, _), (1, _), (5, _), (3, _), (2, _), (0, _)]) dX8_forgetCounts_45 rfl rfl (by decide) rfl ?_
    refine j_goto (tgt := 22) dX8_forgetCounts_48 (by decide) ?_
    refine j_iload dX8_forgetCounts_22 rfl ?_
    refine j_iload_n dX8_forgetCounts_24 rfl ?_
    refine j_icmp_ge (tgt := 51) dX8_forgetCounts_25 (by decide) (fun c_25 => ?_) (fun c_25 => ?_)
    · exact absurd c_25 (by decide)
    · refine j_aload_n dX8_forgetCounts_28 rfl rfl ?_
      refine j_iload dX8_forgetCounts_29 rfl ?_
      refine j_aald (v := .ref 6) dX8_forgetCounts_31 rfl rfl rfl (vp_in_iff.mpr (by decide)) rfl ?_
      refine j_astore (lo' := [(5, _), (4, _), (1, _), (3, _), (2, _), (0, _)]) dX8_forgetCounts_32 rfl (by decide) rfl ?_
      refine j_iload_n dX8_forgetCounts_34 rfl ?_
      refine j_aload dX8_forgetCounts_35 rfl rfl ?_
      refine j_getf dX8_forgetCounts_37 fX8_214 rfl rfl ?_
      refine j_callV (q := (RX6, TX6, 1)) dX8_forgetCounts_40 kX6_startAnew lX8_224 inX6_startAnew seX6_startAnew rfl rfl (z_frame [8, 9] rfl (by decide) (Nat.le_of_ble_eq_true rfl) (c_X6_startAnew hl _)) (Nat.le_of_ble_eq_true rfl) ⟨(Nat.le_of_ble_eq_true rfl), (Nat.le_of_ble_eq_true rfl)⟩ rfl (Nat.le_of_ble_eq_true rfl) rfl rfl (fun _ _ h => h.elim) ?_
      rintro _ _ ⟨_, _, ⟨_, rfl, _, rfl⟩, rfl, rfl⟩
      refine j_w (z_cw _ _ _ _ _ _ _ _ _ _ _ _ _ _ _ _ _ _ _ _ _ _ _ _ _ _ _ _ _ _ _ _ _ _ _ _ _ _ _ _ _ _ _ _ _ _ _ _ _ _ _ _ _ _ _ _ [], z_no) rfl ?_
      refine j_iadd dX8_forgetCounts_43 ?_
      refine j_istore_n (lo' := [(1, _), (5, _), (4, _), (3, _), (2, _), (0, _)]) dX8_forgetCounts_44 (by decide) rfl ?_
      refine j_iinc (lo' := [(4, _), (1, _), (5, _), (3, _), (2, _), (0, _)]) dX8_forgetCounts_45 rfl rfl (by decide) rfl ?_
      refine j_goto (tgt := 22) dX8_forgetCounts_48 (by decide) ?_
      refine j_iload dX8_forgetCounts_22 rfl ?_
      refine j_iload_n dX8_forgetCounts_24 rfl ?_
      refine j_icmp_ge (tgt := 51) dX8_forgetCounts_25 (by decide) (fun c_25 => ?_) (fun c_25 => ?_)
      · refine j_iload_n dX8_forgetCounts_51 rfl ?_
        refine j_iret dX8_forgetCounts_52 rfl rfl ?_ (Nat.le_of_ble_eq_true rfl) (Nat.le_of_ble_eq_true rfl)
        exact ⟨rfl, rfl, ⟨_, rfl⟩, (z_wk (by first | assumption | exact z_m20z) (by first | assumption | exact z_m20z) (by first | assumption | exact z_m20z) (by first | assumption | exact z_m20z) (by first | assumption | exact z_m20z) (by first | assumption | exact z_m20z))⟩
      · exact absurd (by decide) c_25
set_option maxRecDepth 100000 in
set_option maxHeartbeats 8000000 in
theorem c_X8_get (hl : l.stackTraces = false) (rf : Int32) (kn : Int32) (ma : Int32) (xa : Bool) (fa : Nat → Int32) (ca : Nat → Int32) (mb : Int32) (xb : Bool) (fb : Nat → Int32) (cb : Nat → Int32) (mt : Int32) (xt : Bool) (ft : Nat → Int32) (ct : Nat → Int32) (f0 : Nat → Int32) (g0 : Nat → Int32) (c0 : Nat → Int32) (m0 : Int32) (s0 : Int32) (f1 : Nat → Int32) (g1 : Nat → Int32) (c1 : Nat → Int32) (m1 : Int32) (s1 : Int32) (f2 : Nat → Int32) (g2 : Nat → Int32) (c2 : Nat → Int32) (m2 : Int32) (s2 : Int32) (f3 : Nat → Int32) (g3 : Nat → Int32) (c3 : Nat → Int32) (m3 : Int32) (s3 : Int32) (f4 : Nat → Int32) (g4 : Nat → Int32) (c4 : Nat → Int32) (m4 : Int32) (s4 : Int32) (f5 : Nat → Int32) (g5 : Nat → Int32) (c5 : Nat → Int32) (m5 : Int32) (s5 : Int32) (ek0 : Int32) (em0 : Int32) (es0 : Int32) (el0 : Int32) (b0 : Int32) (ef0 : Nat → Int32) (ek1 : Int32) (em1 : Int32) (es1 : Int32) (el1 : Int32) (b1 : Int32) (ef1 : Nat → Int32) (r p : Int32) (h0 : z_m20 m0) (h1 : z_m20 m1) (h2 : z_m20 m2) (h3 : z_m20 m3) (h4 : z_m20 m4) (h5 : z_m20 m5) : z_CX G l mX8_get 20 14 120 (z_cw rf kn ma xa fa ca mb xb fb cb mt xt ft ct f0 g0 c0 m0 s0 f1 g1 c1 m1 s1 f2 g2 c2 m2 s2 f3 g3 c3 m3 s3 f4 g4 c4 m4 s4 f5 g5 c5 m5 s5 ek0 em0 es0 el0 b0 ef0 ek1 em1 es1 el1 b1 ef1 []) [.ref 0, .int r, .int p] (fun v L => (∃ x : Int32, v = some (.int x)) ∧ z_Wk kn xa xb b0 b1 L) (fun E L => z_xIA E ∧ L = (z_cw rf kn ma xa fa ca mb xb fb cb mt xt ft ct f0 g0 c0 m0 s0 f1 g1 c1 m1 s1 f2 g2 c2 m2 s2 f3 g3 c3 m3 s3 f4 g4 c4 m4 s4 f5 g5 c5 m5 s5 ek0 em0 es0 el0 b0 ef0 ek1 em1 es1 el1 b1 ef1 [])) := by
  refine z_body hl (by decide) rfl (Nat.le_of_ble_eq_true rfl) ?_
  show z_J G l mX8_get (z_SX 20 14 120 (z_cw rf kn ma xa fa ca mb xb fb cb mt xt ft ct f0 g0 c0 m0 s0 f1 g1 c1 m1 s1 f2 g2 c2 m2 s2 f3 g3 c3 m3 s3 f4 g4 c4 m4 s4 f5 g5 c5 m5 s5 ek0 em0 es0 el0 b0 ef0 ek1 em1 es1 el1 b1 ef1 []) (fun v L => (∃ x : Int32, v = some (.int x)) ∧ z_Wk kn xa xb b0 b1 L) (fun E L => z_xIA E ∧ L = (z_cw rf kn ma xa fa ca mb xb fb cb mt xt ft ct f0 g0 c0 m0 s0 f1 g1 c1 m1 s1 f2 g2 c2 m2 s2 f3 g3 c3 m3 s3 f4 g4 c4 m4 s4 f5 g5 c5 m5 s5 ek0 em0 es0 el0 b0 ef0 ek1 em1 es1 el1 b1 ef1 []))) 0 [(0, _), (1, _), (2, _)] [] _ 0 0
  refine j_aload_n dX8_get_0 rfl rfl ?_
  refine j_iload_n dX8_get_1 rfl ?_
  refine j_iload_n dX8_get_2 rfl ?_
  refine j_callV (q := (RX8, TX8, 9)) dX8_get_3 kX8_tableFor_ lX8_126 inX8_tableFor_ seX8_tableFor_ rfl rfl (z_dirX (c_X8_tableFor_ hl _ _ _ _ _ _ _ _ _ _ _ _ _ _ _ _ _ _ _ _ _ _ _ _ _ _ _ _ _ _ _ _ _ _ _ _ _ _ _ _ _ _ _ _ _ _ _ _ _ _ _ _ _ _ _ _ _ _)) (Nat.le_of_ble_eq_true rfl) ⟨(Nat.le_of_ble_eq_true rfl), (Nat.le_of_ble_eq_true rfl)⟩ rfl (Nat.le_of_ble_eq_true rfl) rfl rfl (fun _ _ h => by obtain ⟨_, ⟨h1, rfl⟩, rfl⟩ := h; exact ⟨rfl, rfl, x_IA_IA h1, rfl⟩) ?_
  rintro _ _ ⟨_, ⟨_, rfl, hr, rfl⟩, rfl⟩
  have hq_3 := hr
  rcases hr with ⟨e_3, rfl⟩ | ⟨e_3, rfl⟩ | ⟨e_3, rfl⟩
  · refine j_iload_n dX8_get_6 rfl ?_
    refine j_callV (q := (RX4, TX4, 5)) dX8_get_7 kX4_look lX8_137 inX4_look seX4_look rfl rfl (z_frame [10, 11, 12, 13, 14] rfl (by decide) (Nat.le_of_ble_eq_true rfl) (c_X4_look hl _ _ _ _ _ _)) (Nat.le_of_ble_eq_true rfl) ⟨(Nat.le_of_ble_eq_true rfl), (Nat.le_of_ble_eq_true rfl)⟩ rfl (Nat.le_of_ble_eq_true rfl) rfl rfl (fun _ _ h => h.elim) ?_
    rintro _ _ ⟨_, _, ⟨_, rfl, rfl⟩, rfl, rfl⟩
    refine j_w (z_cw _ _ _ _ _ _ _ _ _ _ _ _ _ _ _ _ _ _ _ _ _ _ _ _ _ _ _ _ _ _ _ _ _ _ _ _ _ _ _ _ _ _ _ _ _ _ _ _ _ _ _ _ _ _ _ _ [], z_no) rfl ?_
    refine j_iret dX8_get_10 rfl rfl ?_ (Nat.le_of_ble_eq_true rfl) (Nat.le_of_ble_eq_true rfl)
    exact ⟨rfl, rfl, ⟨_, rfl⟩, (z_wk (by first | assumption | exact z_m20z) (by first | assumption | exact z_m20z) (by first | assumption | exact z_m20z) (by first | assumption | exact z_m20z) (by first | assumption | exact z_m20z) (by first | assumption | exact z_m20z))⟩
  · refine j_iload_n dX8_get_6 rfl ?_
    refine j_callV (q := (RX4, TX4, 5)) dX8_get_7 kX4_look lX8_137 inX4_look seX4_look rfl rfl (z_frame [16, 17, 18, 19, 20] rfl (by decide) (Nat.le_of_ble_eq_true rfl) (c_X4_look hl _ _ _ _ _ _)) (Nat.le_of_ble_eq_true rfl) ⟨(Nat.le_of_ble_eq_true rfl), (Nat.le_of_ble_eq_true rfl)⟩ rfl (Nat.le_of_ble_eq_true rfl) rfl rfl (fun _ _ h => h.elim) ?_
    rintro _ _ ⟨_, _, ⟨_, rfl, rfl⟩, rfl, rfl⟩
    refine j_w (z_cw _ _ _ _ _ _ _ _ _ _ _ _ _ _ _ _ _ _ _ _ _ _ _ _ _ _ _ _ _ _ _ _ _ _ _ _ _ _ _ _ _ _ _ _ _ _ _ _ _ _ _ _ _ _ _ _ [], z_no) rfl ?_
    refine j_iret dX8_get_10 rfl rfl ?_ (Nat.le_of_ble_eq_true rfl) (Nat.le_of_ble_eq_true rfl)
    exact ⟨rfl, rfl, ⟨_, rfl⟩, (z_wk (by first | assumption | exact z_m20z) (by first | assumption | exact z_m20z) (by first | assumption | exact z_m20z) (by first | assumption | exact z_m20z) (by first | assumption | exact z_m20z) (by first | assumption | exact z_m20z))⟩
  · refine j_iload_n dX8_get_6 rfl ?_
    refine j_callV (q := (RX4, TX4, 5)) dX8_get_7 kX4_look lX8_137 inX4_look seX4_look rfl rfl (z_frame [21, 22, 23, 24, 25] rfl (by decide) (Nat.le_of_ble_eq_true rfl) (c_X4_look hl _ _ _ _ _ _)) (Nat.le_of_ble_eq_true rfl) ⟨(Nat.le_of_ble_eq_true rfl), (Nat.le_of_ble_eq_true rfl)⟩ rfl (Nat.le_of_ble_eq_true rfl) rfl rfl (fun _ _ h => h.elim) ?_
    rintro _ _ ⟨_, _, ⟨_, rfl, rfl⟩, rfl, rfl⟩
    refine j_w (z_cw _ _ _ _ _ _ _ _ _ _ _ _ _ _ _ _ _ _ _ _ _ _ _ _ _ _ _ _ _ _ _ _ _ _ _ _ _ _ _ _ _ _ _ _ _ _ _ _ _ _ _ _ _ _ _ _ [], z_no) rfl ?_
    refine j_iret dX8_get_10 rfl rfl ?_ (Nat.le_of_ble_eq_true rfl) (Nat.le_of_ble_eq_true rfl)
    exact ⟨rfl, rfl, ⟨_, rfl⟩, (z_wk (by first | assumption | exact z_m20z) (by first | assumption | exact z_m20z) (by first | assumption | exact z_m20z) (by first | assumption | exact z_m20z) (by first | assumption | exact z_m20z) (by first | assumption | exact z_m20z))⟩
set_option maxRecDepth 100000 in
set_option maxHeartbeats 8000000 in
theorem c_X8_getOr (hl : l.stackTraces = false) (rf : Int32) (kn : Int32) (ma : Int32) (xa : Bool) (fa : Nat → Int32) (ca : Nat → Int32) (mb : Int32) (xb : Bool) (fb : Nat → Int32) (cb : Nat → Int32) (mt : Int32) (xt : Bool) (ft : Nat → Int32) (ct : Nat → Int32) (f0 : Nat → Int32) (g0 : Nat → Int32) (c0 : Nat → Int32) (m0 : Int32) (s0 : Int32) (f1 : Nat → Int32) (g1 : Nat → Int32) (c1 : Nat → Int32) (m1 : Int32) (s1 : Int32) (f2 : Nat → Int32) (g2 : Nat → Int32) (c2 : Nat → Int32) (m2 : Int32) (s2 : Int32) (f3 : Nat → Int32) (g3 : Nat → Int32) (c3 : Nat → Int32) (m3 : Int32) (s3 : Int32) (f4 : Nat → Int32) (g4 : Nat → Int32) (c4 : Nat → Int32) (m4 : Int32) (s4 : Int32) (f5 : Nat → Int32) (g5 : Nat → Int32) (c5 : Nat → Int32) (m5 : Int32) (s5 : Int32) (ek0 : Int32) (em0 : Int32) (es0 : Int32) (el0 : Int32) (b0 : Int32) (ef0 : Nat → Int32) (ek1 : Int32) (em1 : Int32) (es1 : Int32) (el1 : Int32) (b1 : Int32) (ef1 : Nat → Int32) (r p q : Int32) (h0 : z_m20 m0) (h1 : z_m20 m1) (h2 : z_m20 m2) (h3 : z_m20 m3) (h4 : z_m20 m4) (h5 : z_m20 m5) : z_CX G l mX8_getOr 20 14 120 (z_cw rf kn ma xa fa ca mb xb fb cb mt xt ft ct f0 g0 c0 m0 s0 f1 g1 c1 m1 s1 f2 g2 c2 m2 s2 f3 g3 c3 m3 s3 f4 g4 c4 m4 s4 f5 g5 c5 m5 s5 ek0 em0 es0 el0 b0 ef0 ek1 em1 es1 el1 b1 ef1 []) [.ref 0, .int r, .int p, .int q] (fun v L => (∃ x : Int32, v = some (.int x)) ∧ z_Wk kn xa xb b0 b1 L) (fun E L => z_xIA E ∧ L = (z_cw rf kn ma xa fa ca mb xb fb cb mt xt ft ct f0 g0 c0 m0 s0 f1 g1 c1 m1 s1 f2 g2 c2 m2 s2 f3 g3 c3 m3 s3 f4 g4 c4 m4 s4 f5 g5 c5 m5 s5 ek0 em0 es0 el0 b0 ef0 ek1 em1 es1 el1 b1 ef1 [])) := by
  refine z_body hl (by decide) rfl (Nat.le_of_ble_eq_true rfl) ?_
  show z_J G l mX8_getOr (z_SX 20 14 120 (z_cw rf kn ma xa fa ca mb xb fb cb mt xt ft ct f0 g0 c0 m0 s0 f1 g1 c1 m1 s1 f2 g2 c2 m2 s2 f3 g3 c3 m3 s3 f4 g4 c4 m4 s4 f5 g5 c5 m5 s5 ek0 em0 es0 el0 b0 ef0 ek1 em1 es1 el1 b1 ef1 []) (fun v L => (∃ x : Int32, v = some (.int x)) ∧ z_Wk kn xa xb b0 b1 L) (fun E L => z_xIA E ∧ L = (z_cw rf kn ma xa fa ca mb xb fb cb mt xt ft ct f0 g0 c0 m0 s0 f1 g1 c1 m1 s1 f2 g2 c2 m2 s2 f3 g3 c3 m3 s3 f4 g4 c4 m4 s4 f5 g5 c5 m5 s5 ek0 em0 es0 el0 b0 ef0 ek1 em1 es1 el1 b1 ef1 []))) 0 [(0, _), (1, _), (2, _), (3, _)] [] _ 0 0
  refine j_aload_n dX8_getOr_0 rfl rfl ?_
  refine j_iload_n dX8_getOr_1 rfl ?_
  refine j_iload_n dX8_getOr_2 rfl ?_
  refine j_callV (q := (RX8, TX8, 9)) dX8_getOr_3 kX8_tableFor_ lX8_126 inX8_tableFor_ seX8_tableFor_ rfl rfl (z_dirX (c_X8_tableFor_ hl _ _ _ _ _ _ _ _ _ _ _ _ _ _ _ _ _ _ _ _ _ _ _ _ _ _ _ _ _ _ _ _ _ _ _ _ _ _ _ _ _ _ _ _ _ _ _ _ _ _ _ _ _ _ _ _ _ _)) (Nat.le_of_ble_eq_true rfl) ⟨(Nat.le_of_ble_eq_true rfl), (Nat.le_of_ble_eq_true rfl)⟩ rfl (Nat.le_of_ble_eq_true rfl) rfl rfl (fun _ _ h => by obtain ⟨_, ⟨h1, rfl⟩, rfl⟩ := h; exact ⟨rfl, rfl, x_IA_IA h1, rfl⟩) ?_
  rintro _ _ ⟨_, ⟨_, rfl, hr, rfl⟩, rfl⟩
  have hq_3 := hr
  rcases hr with ⟨e_3, rfl⟩ | ⟨e_3, rfl⟩ | ⟨e_3, rfl⟩
  · refine j_astore (lo' := [(4, _), (0, _), (1, _), (2, _), (3, _)]) dX8_getOr_6 rfl (by decide) rfl ?_
    refine j_iload_n dX8_getOr_8 rfl ?_
    refine j_callS dX8_getOr_9 kX8_checkValue lX8_50 stX8_checkValue (c_X8_checkValue hl _ _) (Nat.le_of_ble_eq_true rfl) ⟨(Nat.le_of_ble_eq_true rfl), (Nat.le_of_ble_eq_true rfl)⟩ rfl (Nat.le_of_ble_eq_true rfl) rfl rfl (fun _ _ h => by obtain ⟨h1, rfl⟩ := h; exact ⟨rfl, rfl, x_A_IA h1, rfl⟩) ?_
    rintro _ _ ⟨rfl, rfl⟩
    refine j_aload dX8_getOr_12 rfl rfl ?_
    refine j_iload_n dX8_getOr_14 rfl ?_
    refine j_callV (q := (RX4, TX4, 5)) dX8_getOr_15 kX4_look lX8_137 inX4_look seX4_look rfl rfl (z_frame [10, 11, 12, 13, 14] rfl (by decide) (Nat.le_of_ble_eq_true rfl) (c_X4_look hl _ _ _ _ _ _)) (Nat.le_of_ble_eq_true rfl) ⟨(Nat.le_of_ble_eq_true rfl), (Nat.le_of_ble_eq_true rfl)⟩ rfl (Nat.le_of_ble_eq_true rfl) rfl rfl (fun _ _ h => h.elim) ?_
    rintro _ _ ⟨_, _, ⟨_, rfl, rfl⟩, rfl, rfl⟩
    refine j_w (z_cw _ _ _ _ _ _ _ _ _ _ _ _ _ _ _ _ _ _ _ _ _ _ _ _ _ _ _ _ _ _ _ _ _ _ _ _ _ _ _ _ _ _ _ _ _ _ _ _ _ _ _ _ _ _ _ _ [], z_no) rfl ?_
    refine j_istore (lo' := [(5, _), (4, _), (0, _), (1, _), (2, _), (3, _)]) dX8_getOr_18 (by decide) rfl ?_
    refine j_iload dX8_getOr_20 rfl ?_
    refine j_sipush (v := (-1000)) dX8_getOr_22 (by decide) ?_
    refine j_icmp_ne (tgt := 32) dX8_getOr_25 (by decide) (fun c_25 => ?_) (fun c_25 => ?_)
    · refine j_iload dX8_getOr_32 rfl ?_
      refine j_iret dX8_getOr_34 rfl rfl ?_ (Nat.le_of_ble_eq_true rfl) (Nat.le_of_ble_eq_true rfl)
      exact ⟨rfl, rfl, ⟨_, rfl⟩, (z_wk (by first | assumption | exact z_m20z) (by first | assumption | exact z_m20z) (by first | assumption | exact z_m20z) (by first | assumption | exact z_m20z) (by first | assumption | exact z_m20z) (by first | assumption | exact z_m20z))⟩
    · refine j_iload_n dX8_getOr_28 rfl ?_
      refine j_goto (tgt := 34) dX8_getOr_29 (by decide) ?_
      refine j_iret dX8_getOr_34 rfl rfl ?_ (Nat.le_of_ble_eq_true rfl) (Nat.le_of_ble_eq_true rfl)
      exact ⟨rfl, rfl, ⟨_, rfl⟩, (z_wk (by first | assumption | exact z_m20z) (by first | assumption | exact z_m20z) (by first | assumption | exact z_m20z) (by first | assumption | exact z_m20z) (by first | assumption | exact z_m20z) (by first | assumption | exact z_m20z))⟩
  · refine j_astore (lo' := [(4, _), (0, _), (1, _), (2, _), (3, _)]) dX8_getOr_6 rfl (by decide) rfl ?_
    refine j_iload_n dX8_getOr_8 rfl ?_
    refine j_callS dX8_getOr_9 kX8_checkValue lX8_50 stX8_checkValue (c_X8_checkValue hl _ _) (Nat.le_of_ble_eq_true rfl) ⟨(Nat.le_of_ble_eq_true rfl), (Nat.le_of_ble_eq_true rfl)⟩ rfl (Nat.le_of_ble_eq_true rfl) rfl rfl (fun _ _ h => by obtain ⟨h1, rfl⟩ := h; exact ⟨rfl, rfl, x_A_IA h1, rfl⟩) ?_
    rintro _ _ ⟨rfl, rfl⟩
    refine j_aload dX8_getOr_12 rfl rfl ?_
    refine j_iload_n dX8_getOr_14 rfl ?_
    refine j_callV (q := (RX4, TX4, 5)) dX8_getOr_15 kX4_look lX8_137 inX4_look seX4_look rfl rfl (z_frame [16, 17, 18, 19, 20] rfl (by decide) (Nat.le_of_ble_eq_true rfl) (c_X4_look hl _ _ _ _ _ _)) (Nat.le_of_ble_eq_true rfl) ⟨(Nat.le_of_ble_eq_true rfl), (Nat.le_of_ble_eq_true rfl)⟩ rfl (Nat.le_of_ble_eq_true rfl) rfl rfl (fun _ _ h => h.elim) ?_
    rintro _ _ ⟨_, _, ⟨_, rfl, rfl⟩, rfl, rfl⟩
    refine j_w (z_cw _ _ _ _ _ _ _ _ _ _ _ _ _ _ _ _ _ _ _ _ _ _ _ _ _ _ _ _ _ _ _ _ _ _ _ _ _ _ _ _ _ _ _ _ _ _ _ _ _ _ _ _ _ _ _ _ [], z_no) rfl ?_
    refine j_istore (lo' := [(5, _), (4, _), (0, _), (1, _), (2, _), (3, _)]) dX8_getOr_18 (by decide) rfl ?_
    refine j_iload dX8_getOr_20 rfl ?_
    refine j_sipush (v := (-1000)) dX8_getOr_22 (by decide) ?_
    refine j_icmp_ne (tgt := 32) dX8_getOr_25 (by decide) (fun c_25 => ?_) (fun c_25 => ?_)
    · refine j_iload dX8_getOr_32 rfl ?_
      refine j_iret dX8_getOr_34 rfl rfl ?_ (Nat.le_of_ble_eq_true rfl) (Nat.le_of_ble_eq_true rfl)
      exact ⟨rfl, rfl, ⟨_, rfl⟩, (z_wk (by first | assumption | exact z_m20z) (by first | assumption | exact z_m20z) (by first | assumption | exact z_m20z) (by first | assumption | exact z_m20z) (by first | assumption | exact z_m20z) (by first | assumption | exact z_m20z))⟩
    · refine j_iload_n dX8_getOr_28 rfl ?_
      refine j_goto (tgt := 34) dX8_getOr_29 (by decide) ?_
      refine j_iret dX8_getOr_34 rfl rfl ?_ (Nat.le_of_ble_eq_true rfl) (Nat.le_of_ble_eq_true rfl)
      exact ⟨rfl, rfl, ⟨_, rfl⟩, (z_wk (by first | assumption | exact z_m20z) (by first | assumption | exact z_m20z) (by first | assumption | exact z_m20z) (by first | assumption | exact z_m20z) (by first | assumption | exact z_m20z) (by first | assumption | exact z_m20z))⟩
  · refine j_astore (lo' := [(4, _), (0, _), (1, _), (2, _), (3, _)]) dX8_getOr_6 rfl (by decide) rfl ?_
    refine j_iload_n dX8_getOr_8 rfl ?_
    refine j_callS dX8_getOr_9 kX8_checkValue lX8_50 stX8_checkValue (c_X8_checkValue hl _ _) (Nat.le_of_ble_eq_true rfl) ⟨(Nat.le_of_ble_eq_true rfl), (Nat.le_of_ble_eq_true rfl)⟩ rfl (Nat.le_of_ble_eq_true rfl) rfl rfl (fun _ _ h => by obtain ⟨h1, rfl⟩ := h; exact ⟨rfl, rfl, x_A_IA h1, rfl⟩) ?_
    rintro _ _ ⟨rfl, rfl⟩
    refine j_aload dX8_getOr_12 rfl rfl ?_
    refine j_iload_n dX8_getOr_14 rfl ?_
    refine j_callV (q := (RX4, TX4, 5)) dX8_getOr_15 kX4_look lX8_137 inX4_look seX4_look rfl rfl (z_frame [21, 22, 23, 24, 25] rfl (by decide) (Nat.le_of_ble_eq_true rfl) (c_X4_look hl _ _ _ _ _ _)) (Nat.le_of_ble_eq_true rfl) ⟨(Nat.le_of_ble_eq_true rfl), (Nat.le_of_ble_eq_true rfl)⟩ rfl (Nat.le_of_ble_eq_true rfl) rfl rfl (fun _ _ h => h.elim) ?_
    rintro _ _ ⟨_, _, ⟨_, rfl, rfl⟩, rfl, rfl⟩
    refine j_w (z_cw _ _ _ _ _ _ _ _ _ _ _ _ _ _ _ _ _ _ _ _ _ _ _ _ _ _ _ _ _ _ _ _ _ _ _ _ _ _ _ _ _ _ _ _ _ _ _ _ _ _ _ _ _ _ _ _ [], z_no) rfl ?_
    refine j_istore (lo' := [(5, _), (4, _), (0, _), (1, _), (2, _), (3, _)]) dX8_getOr_18 (by decide) rfl ?_
    refine j_iload dX8_getOr_20 rfl ?_
    refine j_sipush (v := (-1000)) dX8_getOr_22 (by decide) ?_
    refine j_icmp_ne (tgt := 32) dX8_getOr_25 (by decide) (fun c_25 => ?_) (fun c_25 => ?_)
    · refine j_iload dX8_getOr_32 rfl ?_
      refine j_iret dX8_getOr_34 rfl rfl ?_ (Nat.le_of_ble_eq_true rfl) (Nat.le_of_ble_eq_true rfl)
      exact ⟨rfl, rfl, ⟨_, rfl⟩, (z_wk (by first | assumption | exact z_m20z) (by first | assumption | exact z_m20z) (by first | assumption | exact z_m20z) (by first | assumption | exact z_m20z) (by first | assumption | exact z_m20z) (by first | assumption | exact z_m20z))⟩
    · refine j_iload_n dX8_getOr_28 rfl ?_
      refine j_goto (tgt := 34) dX8_getOr_29 (by decide) ?_
      refine j_iret dX8_getOr_34 rfl rfl ?_ (Nat.le_of_ble_eq_true rfl) (Nat.le_of_ble_eq_true rfl)
      exact ⟨rfl, rfl, ⟨_, rfl⟩, (z_wk (by first | assumption | exact z_m20z) (by first | assumption | exact z_m20z) (by first | assumption | exact z_m20z) (by first | assumption | exact z_m20z) (by first | assumption | exact z_m20z) (by first | assumption | exact z_m20z))⟩
set_option maxRecDepth 100000 in
set_option maxHeartbeats 8000000 in
theorem c_X8_has (hl : l.stackTraces = false) (rf : Int32) (kn : Int32) (ma : Int32) (xa : Bool) (fa : Nat → Int32) (ca : Nat → Int32) (mb : Int32) (xb : Bool) (fb : Nat → Int32) (cb : Nat → Int32) (mt : Int32) (xt : Bool) (ft : Nat → Int32) (ct : Nat → Int32) (f0 : Nat → Int32) (g0 : Nat → Int32) (c0 : Nat → Int32) (m0 : Int32) (s0 : Int32) (f1 : Nat → Int32) (g1 : Nat → Int32) (c1 : Nat → Int32) (m1 : Int32) (s1 : Int32) (f2 : Nat → Int32) (g2 : Nat → Int32) (c2 : Nat → Int32) (m2 : Int32) (s2 : Int32) (f3 : Nat → Int32) (g3 : Nat → Int32) (c3 : Nat → Int32) (m3 : Int32) (s3 : Int32) (f4 : Nat → Int32) (g4 : Nat → Int32) (c4 : Nat → Int32) (m4 : Int32) (s4 : Int32) (f5 : Nat → Int32) (g5 : Nat → Int32) (c5 : Nat → Int32) (m5 : Int32) (s5 : Int32) (ek0 : Int32) (em0 : Int32) (es0 : Int32) (el0 : Int32) (b0 : Int32) (ef0 : Nat → Int32) (ek1 : Int32) (em1 : Int32) (es1 : Int32) (el1 : Int32) (b1 : Int32) (ef1 : Nat → Int32) (r p : Int32) (h0 : z_m20 m0) (h1 : z_m20 m1) (h2 : z_m20 m2) (h3 : z_m20 m3) (h4 : z_m20 m4) (h5 : z_m20 m5) : z_CX G l mX8_has 20 14 120 (z_cw rf kn ma xa fa ca mb xb fb cb mt xt ft ct f0 g0 c0 m0 s0 f1 g1 c1 m1 s1 f2 g2 c2 m2 s2 f3 g3 c3 m3 s3 f4 g4 c4 m4 s4 f5 g5 c5 m5 s5 ek0 em0 es0 el0 b0 ef0 ek1 em1 es1 el1 b1 ef1 []) [.ref 0, .int r, .int p] (fun v L => (∃ b9 : Bool, v = some (.int (z_bi b9))) ∧ z_Wk kn xa xb b0 b1 L) (fun E L => z_xIA E ∧ L = (z_cw rf kn ma xa fa ca mb xb fb cb mt xt ft ct f0 g0 c0 m0 s0 f1 g1 c1 m1 s1 f2 g2 c2 m2 s2 f3 g3 c3 m3 s3 f4 g4 c4 m4 s4 f5 g5 c5 m5 s5 ek0 em0 es0 el0 b0 ef0 ek1 em1 es1 el1 b1 ef1 [])) := by
  refine z_body hl (by decide) rfl (Nat.le_of_ble_eq_true rfl) ?_
  show z_J G l mX8_has (z_SX 20 14 120 (z_cw rf kn ma xa fa ca mb xb fb cb mt xt ft ct f0 g0 c0 m0 s0 f1 g1 c1 m1 s1 f2 g2 c2 m2 s2 f3 g3 c3 m3 s3 f4 g4 c4 m4 s4 f5 g5 c5 m5 s5 ek0 em0 es0 el0 b0 ef0 ek1 em1 es1 el1 b1 ef1 []) (fun v L => (∃ b9 : Bool, v = some (.int (z_bi b9))) ∧ z_Wk kn xa xb b0 b1 L) (fun E L => z_xIA E ∧ L = (z_cw rf kn ma xa fa ca mb xb fb cb mt xt ft ct f0 g0 c0 m0 s0 f1 g1 c1 m1 s1 f2 g2 c2 m2 s2 f3 g3 c3 m3 s3 f4 g4 c4 m4 s4 f5 g5 c5 m5 s5 ek0 em0 es0 el0 b0 ef0 ek1 em1 es1 el1 b1 ef1 []))) 0 [(0, _), (1, _), (2, _)] [] _ 0 0
  refine j_aload_n dX8_has_0 rfl rfl ?_
  refine j_iload_n dX8_has_1 rfl ?_
  refine j_iload_n dX8_has_2 rfl ?_
  refine j_callV (q := (RX8, TX8, 9)) dX8_has_3 kX8_tableFor_ lX8_126 inX8_tableFor_ seX8_tableFor_ rfl rfl (z_dirX (c_X8_tableFor_ hl _ _ _ _ _ _ _ _ _ _ _ _ _ _ _ _ _ _ _ _ _ _ _ _ _ _ _ _ _ _ _ _ _ _ _ _ _ _ _ _ _ _ _ _ _ _ _ _ _ _ _ _ _ _ _ _ _ _)) (Nat.le_of_ble_eq_true rfl) ⟨(Nat.le_of_ble_eq_true rfl), (Nat.le_of_ble_eq_true rfl)⟩ rfl (Nat.le_of_ble_eq_true rfl) rfl rfl (fun _ _ h => by obtain ⟨_, ⟨h1, rfl⟩, rfl⟩ := h; exact ⟨rfl, rfl, x_IA_IA h1, rfl⟩) ?_
  rintro _ _ ⟨_, ⟨_, rfl, hr, rfl⟩, rfl⟩
  have hq_3 := hr
  rcases hr with ⟨e_3, rfl⟩ | ⟨e_3, rfl⟩ | ⟨e_3, rfl⟩
  · refine j_iload_n dX8_has_6 rfl ?_
    refine j_callV (q := (RX4, TX4, 5)) dX8_has_7 kX4_look lX8_137 inX4_look seX4_look rfl rfl (z_frame [10, 11, 12, 13, 14] rfl (by decide) (Nat.le_of_ble_eq_true rfl) (c_X4_look hl _ _ _ _ _ _)) (Nat.le_of_ble_eq_true rfl) ⟨(Nat.le_of_ble_eq_true rfl), (Nat.le_of_ble_eq_true rfl)⟩ rfl (Nat.le_of_ble_eq_true rfl) rfl rfl (fun _ _ h => h.elim) ?_
    rintro _ _ ⟨_, _, ⟨_, rfl, rfl⟩, rfl, rfl⟩
    refine j_w (z_cw _ _ _ _ _ _ _ _ _ _ _ _ _ _ _ _ _ _ _ _ _ _ _ _ _ _ _ _ _ _ _ _ _ _ _ _ _ _ _ _ _ _ _ _ _ _ _ _ _ _ _ _ _ _ _ _ [], z_no) rfl ?_
    refine j_sipush (v := (-1000)) dX8_has_10 (by decide) ?_
    refine j_icmp_eq (tgt := 20) dX8_has_13 (by decide) (fun c_13 => ?_) (fun c_13 => ?_)
    · refine j_iconst (v := 0) dX8_has_20 (by decide) ?_
      refine j_iret dX8_has_21 rfl rfl ?_ (Nat.le_of_ble_eq_true rfl) (Nat.le_of_ble_eq_true rfl)
      first | exact ⟨rfl, rfl, ⟨true, rfl⟩, (z_wk (by first | assumption | exact z_m20z) (by first | assumption | exact z_m20z) (by first | assumption | exact z_m20z) (by first | assumption | exact z_m20z) (by first | assumption | exact z_m20z) (by first | assumption | exact z_m20z))⟩ | exact ⟨rfl, rfl, ⟨false, rfl⟩, (z_wk (by first | assumption | exact z_m20z) (by first | assumption | exact z_m20z) (by first | assumption | exact z_m20z) (by first | assumption | exact z_m20z) (by first | assumption | exact z_m20z) (by first | assumption | exact z_m20z))⟩
    · refine j_iconst (v := 1) dX8_has_16 (by decide) ?_
      refine j_goto (tgt := 21) dX8_has_17 (by decide) ?_
      refine j_iret dX8_has_21 rfl rfl ?_ (Nat.le_of_ble_eq_true rfl) (Nat.le_of_ble_eq_true rfl)
      first | exact ⟨rfl, rfl, ⟨true, rfl⟩, (z_wk (by first | assumption | exact z_m20z) (by first | assumption | exact z_m20z) (by first | assumption | exact z_m20z) (by first | assumption | exact z_m20z) (by first | assumption | exact z_m20z) (by first | assumption | exact z_m20z))⟩ | exact ⟨rfl, rfl, ⟨false, rfl⟩, (z_wk (by first | assumption | exact z_m20z) (by first | assumption | exact z_m20z) (by first | assumption | exact z_m20z) (by first | assumption | exact z_m20z) (by first | assumption | exact z_m20z) (by first | assumption | exact z_m20z))⟩
  · refine j_iload_n dX8_has_6 rfl ?_
    refine j_callV (q := (RX4, TX4, 5)) dX8_has_7 kX4_look lX8_137 inX4_look seX4_look rfl rfl (z_frame [16, 17, 18, 19, 20] rfl (by decide) (Nat.le_of_ble_eq_true rfl) (c_X4_look hl _ _ _ _ _ _)) (Nat.le_of_ble_eq_true rfl) ⟨(Nat.le_of_ble_eq_true rfl), (Nat.le_of_ble_eq_true rfl)⟩ rfl (Nat.le_of_ble_eq_true rfl) rfl rfl (fun _ _ h => h.elim) ?_
    rintro _ _ ⟨_, _, ⟨_, rfl, rfl⟩, rfl, rfl⟩
    refine j_w (z_cw _ _ _ _ _ _ _ _ _ _ _ _ _ _ _ _ _ _ _ _ _ _ _ _ _ _ _ _ _ _ _ _ _ _ _ _ _ _ _ _ _ _ _ _ _ _ _ _ _ _ _ _ _ _ _ _ [], z_no) rfl ?_
    refine j_sipush (v := (-1000)) dX8_has_10 (by decide) ?_
    refine j_icmp_eq (tgt := 20) dX8_has_13 (by decide) (fun c_13 => ?_) (fun c_13 => ?_)
    · refine j_iconst (v := 0) dX8_has_20 (by decide) ?_
      refine j_iret dX8_has_21 rfl rfl ?_ (Nat.le_of_ble_eq_true rfl) (Nat.le_of_ble_eq_true rfl)
      first | exact ⟨rfl, rfl, ⟨true, rfl⟩, (z_wk (by first | assumption | exact z_m20z) (by first | assumption | exact z_m20z) (by first | assumption | exact z_m20z) (by first | assumption | exact z_m20z) (by first | assumption | exact z_m20z) (by first | assumption | exact z_m20z))⟩ | exact ⟨rfl, rfl, ⟨false, rfl⟩, (z_wk (by first | assumption | exact z_m20z) (by first | assumption | exact z_m20z) (by first | assumption | exact z_m20z) (by first | assumption | exact z_m20z) (by first | assumption | exact z_m20z) (by first | assumption | exact z_m20z))⟩
    · refine j_iconst (v := 1) dX8_has_16 (by decide) ?_
      refine j_goto (tgt := 21) dX8_has_17 (by decide) ?_
      refine j_iret dX8_has_21 rfl rfl ?_ (Nat.le_of_ble_eq_true rfl) (Nat.le_of_ble_eq_true rfl)
      first | exact ⟨rfl, rfl, ⟨true, rfl⟩, (z_wk (by first | assumption | exact z_m20z) (by first | assumption | exact z_m20z) (by first | assumption | exact z_m20z) (by first | assumption | exact z_m20z) (by first | assumption | exact z_m20z) (by first | assumption | exact z_m20z))⟩ | exact ⟨rfl, rfl, ⟨false, rfl⟩, (z_wk (by first | assumption | exact z_m20z) (by first | assumption | exact z_m20z) (by first | assumption | exact z_m20z) (by first | assumption | exact z_m20z) (by first | assumption | exact z_m20z) (by first | assumption | exact z_m20z))⟩
  · refine j_iload_n dX8_has_6 rfl ?_
    refine j_callV (q := (RX4, TX4, 5)) dX8_has_7 kX4_look lX8_137 inX4_look seX4_look rfl rfl (z_frame [21, 22, 23, 24, 25] rfl (by decide) (Nat.le_of_ble_eq_true rfl) (c_X4_look hl _ _ _ _ _ _)) (Nat.le_of_ble_eq_true rfl) ⟨(Nat.le_of_ble_eq_true rfl), (Nat.le_of_ble_eq_true rfl)⟩ rfl (Nat.le_of_ble_eq_true rfl) rfl rfl (fun _ _ h => h.elim) ?_
    rintro _ _ ⟨_, _, ⟨_, rfl, rfl⟩, rfl, rfl⟩
    refine j_w (z_cw _ _ _ _ _ _ _ _ _ _ _ _ _ _ _ _ _ _ _ _ _ _ _ _ _ _ _ _ _ _ _ _ _ _ _ _ _ _ _ _ _ _ _ _ _ _ _ _ _ _ _ _ _ _ _ _ [], z_no) rfl ?_
    refine j_sipush (v := (-1000)) dX8_has_10 (by decide) ?_
    refine j_icmp_eq (tgt := 20) dX8_has_13 (by decide) (fun c_13 => ?_) (fun c_13 => ?_)
    · refine j_iconst (v := 0) dX8_has_20 (by decide) ?_
      refine j_iret dX8_has_21 rfl rfl ?_ (Nat.le_of_ble_eq_true rfl) (Nat.le_of_ble_eq_true rfl)
      first | exact ⟨rfl, rfl, ⟨true, rfl⟩, (z_wk (by first | assumption | exact z_m20z) (by first | assumption | exact z_m20z) (by first | assumption | exact z_m20z) (by first | assumption | exact z_m20z) (by first | assumption | exact z_m20z) (by first | assumption | exact z_m20z))⟩ | exact ⟨rfl, rfl, ⟨false, rfl⟩, (z_wk (by first | assumption | exact z_m20z) (by first | assumption | exact z_m20z) (by first | assumption | exact z_m20z) (by first | assumption | exact z_m20z) (by first | assumption | exact z_m20z) (by first | assumption | exact z_m20z))⟩
    · refine j_iconst (v := 1) dX8_has_16 (by decide) ?_
      refine j_goto (tgt := 21) dX8_has_17 (by decide) ?_
      refine j_iret dX8_has_21 rfl rfl ?_ (Nat.le_of_ble_eq_true rfl) (Nat.le_of_ble_eq_true rfl)
      first | exact ⟨rfl, rfl, ⟨true, rfl⟩, (z_wk (by first | assumption | exact z_m20z) (by first | assumption | exact z_m20z) (by first | assumption | exact z_m20z) (by first | assumption | exact z_m20z) (by first | assumption | exact z_m20z) (by first | assumption | exact z_m20z))⟩ | exact ⟨rfl, rfl, ⟨false, rfl⟩, (z_wk (by first | assumption | exact z_m20z) (by first | assumption | exact z_m20z) (by first | assumption | exact z_m20z) (by first | assumption | exact z_m20z) (by first | assumption | exact z_m20z) (by first | assumption | exact z_m20z))⟩
set_option maxRecDepth 100000 in
set_option maxHeartbeats 8000000 in
theorem c_X8_size (hl : l.stackTraces = false) (rf : Int32) (kn : Int32) (ma : Int32) (xa : Bool) (fa : Nat → Int32) (ca : Nat → Int32) (mb : Int32) (xb : Bool) (fb : Nat → Int32) (cb : Nat → Int32) (mt : Int32) (xt : Bool) (ft : Nat → Int32) (ct : Nat → Int32) (f0 : Nat → Int32) (g0 : Nat → Int32) (c0 : Nat → Int32) (m0 : Int32) (s0 : Int32) (f1 : Nat → Int32) (g1 : Nat → Int32) (c1 : Nat → Int32) (m1 : Int32) (s1 : Int32) (f2 : Nat → Int32) (g2 : Nat → Int32) (c2 : Nat → Int32) (m2 : Int32) (s2 : Int32) (f3 : Nat → Int32) (g3 : Nat → Int32) (c3 : Nat → Int32) (m3 : Int32) (s3 : Int32) (f4 : Nat → Int32) (g4 : Nat → Int32) (c4 : Nat → Int32) (m4 : Int32) (s4 : Int32) (f5 : Nat → Int32) (g5 : Nat → Int32) (c5 : Nat → Int32) (m5 : Int32) (s5 : Int32) (ek0 : Int32) (em0 : Int32) (es0 : Int32) (el0 : Int32) (b0 : Int32) (ef0 : Nat → Int32) (ek1 : Int32) (em1 : Int32) (es1 : Int32) (el1 : Int32) (b1 : Int32) (ef1 : Nat → Int32) (r : Int32) (h0 : z_m20 m0) (h1 : z_m20 m1) (h2 : z_m20 m2) (h3 : z_m20 m3) (h4 : z_m20 m4) (h5 : z_m20 m5) : z_CX G l mX8_size 20 14 120 (z_cw rf kn ma xa fa ca mb xb fb cb mt xt ft ct f0 g0 c0 m0 s0 f1 g1 c1 m1 s1 f2 g2 c2 m2 s2 f3 g3 c3 m3 s3 f4 g4 c4 m4 s4 f5 g5 c5 m5 s5 ek0 em0 es0 el0 b0 ef0 ek1 em1 es1 el1 b1 ef1 []) [.ref 0, .int r] (fun v L => (∃ x : Int32, v = some (.int x)) ∧ z_Wk kn xa xb b0 b1 L) (fun E L => z_xI E ∧ L = (z_cw rf kn ma xa fa ca mb xb fb cb mt xt ft ct f0 g0 c0 m0 s0 f1 g1 c1 m1 s1 f2 g2 c2 m2 s2 f3 g3 c3 m3 s3 f4 g4 c4 m4 s4 f5 g5 c5 m5 s5 ek0 em0 es0 el0 b0 ef0 ek1 em1 es1 el1 b1 ef1 [])) := by
  refine z_body hl (by decide) rfl (Nat.le_of_ble_eq_true rfl) ?_
  show z_J G l mX8_size (z_SX 20 14 120 (z_cw rf kn ma xa fa ca mb xb fb cb mt xt ft ct f0 g0 c0 m0 s0 f1 g1 c1 m1 s1 f2 g2 c2 m2 s2 f3 g3 c3 m3 s3 f4 g4 c4 m4 s4 f5 g5 c5 m5 s5 ek0 em0 es0 el0 b0 ef0 ek1 em1 es1 el1 b1 ef1 []) (fun v L => (∃ x : Int32, v = some (.int x)) ∧ z_Wk kn xa xb b0 b1 L) (fun E L => z_xI E ∧ L = (z_cw rf kn ma xa fa ca mb xb fb cb mt xt ft ct f0 g0 c0 m0 s0 f1 g1 c1 m1 s1 f2 g2 c2 m2 s2 f3 g3 c3 m3 s3 f4 g4 c4 m4 s4 f5 g5 c5 m5 s5 ek0 em0 es0 el0 b0 ef0 ek1 em1 es1 el1 b1 ef1 []))) 0 [(0, _), (1, _)] [] _ 0 0
  refine j_aload_n dX8_size_0 rfl rfl ?_
  refine j_iload_n dX8_size_1 rfl ?_
  refine j_callV (q := (RX8, TX8, 9)) dX8_size_2 kX8_tableFor lX8_157 inX8_tableFor seX8_tableFor rfl rfl (z_dirX (c_X8_tableFor hl _ _ _ _ _ _ _ _ _ _ _ _ _ _ _ _ _ _ _ _ _ _ _ _ _ _ _ _ _ _ _ _ _ _ _ _ _ _ _ _ _ _ _ _ _ _ _ _ _ _ _ _ _ _ _ _ _)) (Nat.le_of_ble_eq_true rfl) ⟨(Nat.le_of_ble_eq_true rfl), (Nat.le_of_ble_eq_true rfl)⟩ rfl (Nat.le_of_ble_eq_true rfl) rfl rfl (fun _ _ h => by obtain ⟨_, ⟨h1, rfl⟩, rfl⟩ := h; exact ⟨rfl, rfl, x_I_I h1, rfl⟩) ?_
  rintro _ _ ⟨_, ⟨_, rfl, hr, rfl⟩, rfl⟩
  have hq_2 := hr
  rcases hr with ⟨e_2, rfl⟩ | ⟨e_2, rfl⟩ | ⟨e_2, rfl⟩
  · refine j_getf dX8_size_5 fX8_165 rfl rfl ?_
    refine j_iret dX8_size_8 rfl rfl ?_ (Nat.le_of_ble_eq_true rfl) (Nat.le_of_ble_eq_true rfl)
    exact ⟨rfl, rfl, ⟨_, rfl⟩, (z_wk (by first | assumption | exact z_m20z) (by first | assumption | exact z_m20z) (by first | assumption | exact z_m20z) (by first | assumption | exact z_m20z) (by first | assumption | exact z_m20z) (by first | assumption | exact z_m20z))⟩
  · refine j_getf dX8_size_5 fX8_165 rfl rfl ?_
    refine j_iret dX8_size_8 rfl rfl ?_ (Nat.le_of_ble_eq_true rfl) (Nat.le_of_ble_eq_true rfl)
    exact ⟨rfl, rfl, ⟨_, rfl⟩, (z_wk (by first | assumption | exact z_m20z) (by first | assumption | exact z_m20z) (by first | assumption | exact z_m20z) (by first | assumption | exact z_m20z) (by first | assumption | exact z_m20z) (by first | assumption | exact z_m20z))⟩
  · refine j_getf dX8_size_5 fX8_165 rfl rfl ?_
    refine j_iret dX8_size_8 rfl rfl ?_ (Nat.le_of_ble_eq_true rfl) (Nat.le_of_ble_eq_true rfl)
    exact ⟨rfl, rfl, ⟨_, rfl⟩, (z_wk (by first | assumption | exact z_m20z) (by first | assumption | exact z_m20z) (by first | assumption | exact z_m20z) (by first | assumption | exact z_m20z) (by first | assumption | exact z_m20z) (by first | assumption | exact z_m20z))⟩
set_option maxRecDepth 100000 in
set_option maxHeartbeats 8000000 in
theorem c_X8_areLike (hl : l.stackTraces = false) (rf : Int32) (kn : Int32) (ma : Int32) (xa : Bool) (fa : Nat → Int32) (ca : Nat → Int32) (mb : Int32) (xb : Bool) (fb : Nat → Int32) (cb : Nat → Int32) (mt : Int32) (xt : Bool) (ft : Nat → Int32) (ct : Nat → Int32) (f0 : Nat → Int32) (g0 : Nat → Int32) (c0 : Nat → Int32) (m0 : Int32) (s0 : Int32) (f1 : Nat → Int32) (g1 : Nat → Int32) (c1 : Nat → Int32) (m1 : Int32) (s1 : Int32) (f2 : Nat → Int32) (g2 : Nat → Int32) (c2 : Nat → Int32) (m2 : Int32) (s2 : Int32) (f3 : Nat → Int32) (g3 : Nat → Int32) (c3 : Nat → Int32) (m3 : Int32) (s3 : Int32) (f4 : Nat → Int32) (g4 : Nat → Int32) (c4 : Nat → Int32) (m4 : Int32) (s4 : Int32) (f5 : Nat → Int32) (g5 : Nat → Int32) (c5 : Nat → Int32) (m5 : Int32) (s5 : Int32) (ek0 : Int32) (em0 : Int32) (es0 : Int32) (el0 : Int32) (b0 : Int32) (ef0 : Nat → Int32) (ek1 : Int32) (em1 : Int32) (es1 : Int32) (el1 : Int32) (b1 : Int32) (ef1 : Nat → Int32) (r p : Int32) (h0 : z_m20 m0) (h1 : z_m20 m1) (h2 : z_m20 m2) (h3 : z_m20 m3) (h4 : z_m20 m4) (h5 : z_m20 m5) : z_CX G l mX8_areLike 20 14 120 (z_cw rf kn ma xa fa ca mb xb fb cb mt xt ft ct f0 g0 c0 m0 s0 f1 g1 c1 m1 s1 f2 g2 c2 m2 s2 f3 g3 c3 m3 s3 f4 g4 c4 m4 s4 f5 g5 c5 m5 s5 ek0 em0 es0 el0 b0 ef0 ek1 em1 es1 el1 b1 ef1 []) [.ref 0, .int r, .int p] (fun v L => (∃ b9 : Bool, v = some (.int (z_bi b9))) ∧ z_Wk kn xa xb b0 b1 L) (fun E L => z_xI E ∧ L = (z_cw rf kn ma xa fa ca mb xb fb cb mt xt ft ct f0 g0 c0 m0 s0 f1 g1 c1 m1 s1 f2 g2 c2 m2 s2 f3 g3 c3 m3 s3 f4 g4 c4 m4 s4 f5 g5 c5 m5 s5 ek0 em0 es0 el0 b0 ef0 ek1 em1 es1 el1 b1 ef1 [])) := by
  refine z_body hl (by decide) rfl (Nat.le_of_ble_eq_true rfl) ?_
  show z_J G l mX8_areLike (z_SX 20 14 120 (z_cw rf kn ma xa fa ca mb xb fb cb mt xt ft ct f0 g0 c0 m0 s0 f1 g1 c1 m1 s1 f2 g2 c2 m2 s2 f3 g3 c3 m3 s3 f4 g4 c4 m4 s4 f5 g5 c5 m5 s5 ek0 em0 es0 el0 b0 ef0 ek1 em1 es1 el1 b1 ef1 []) (fun v L => (∃ b9 : Bool, v = some (.int (z_bi b9))) ∧ z_Wk kn xa xb b0 b1 L) (fun E L => z_xI E ∧ L = (z_cw rf kn ma xa fa ca mb xb fb cb mt xt ft ct f0 g0 c0 m0 s0 f1 g1 c1 m1 s1 f2 g2 c2 m2 s2 f3 g3 c3 m3 s3 f4 g4 c4 m4 s4 f5 g5 c5 m5 s5 ek0 em0 es0 el0 b0 ef0 ek1 em1 es1 el1 b1 ef1 []))) 0 [(0, _), (1, _), (2, _)] [] _ 0 0
  refine j_aload_n dX8_areLike_0 rfl rfl ?_
  refine j_iload_n dX8_areLike_1 rfl ?_
  refine j_callV (q := (RX8, TX8, 9)) dX8_areLike_2 kX8_tableFor lX8_157 inX8_tableFor seX8_tableFor rfl rfl (z_dirX (c_X8_tableFor hl _ _ _ _ _ _ _ _ _ _ _ _ _ _ _ _ _ _ _ _ _ _ _ _ _ _ _ _ _ _ _ _ _ _ _ _ _ _ _ _ _ _ _ _ _ _ _ _ _ _ _ _ _ _ _ _ _)) (Nat.le_of_ble_eq_true rfl) ⟨(Nat.le_of_ble_eq_true rfl), (Nat.le_of_ble_eq_true rfl)⟩ rfl (Nat.le_of_ble_eq_true rfl) rfl rfl (fun _ _ h => by obtain ⟨_, ⟨h1, rfl⟩, rfl⟩ := h; exact ⟨rfl, rfl, x_I_I h1, rfl⟩) ?_
  rintro _ _ ⟨_, ⟨_, rfl, hr, rfl⟩, rfl⟩
  have hq_2 := hr
  rcases hr with ⟨e_2, rfl⟩ | ⟨e_2, rfl⟩ | ⟨e_2, rfl⟩
  · refine j_astore_n (lo' := [(3, _), (0, _), (1, _), (2, _)]) dX8_areLike_5 rfl (by decide) rfl ?_
    refine j_aload_n dX8_areLike_6 rfl rfl ?_
    refine j_aload_n dX8_areLike_7 rfl rfl ?_
    refine j_iload_n dX8_areLike_8 rfl ?_
    refine j_callV (q := (RX8, TX8, 9)) dX8_areLike_9 kX8_tableFor lX8_157 inX8_tableFor seX8_tableFor rfl rfl (z_dirX (c_X8_tableFor hl _ _ _ _ _ _ _ _ _ _ _ _ _ _ _ _ _ _ _ _ _ _ _ _ _ _ _ _ _ _ _ _ _ _ _ _ _ _ _ _ _ _ _ _ _ _ _ _ _ _ _ _ _ _ _ _ _)) (Nat.le_of_ble_eq_true rfl) ⟨(Nat.le_of_ble_eq_true rfl), (Nat.le_of_ble_eq_true rfl)⟩ rfl (Nat.le_of_ble_eq_true rfl) rfl rfl (fun _ _ h => by obtain ⟨_, ⟨h1, rfl⟩, rfl⟩ := h; exact ⟨rfl, rfl, x_I_I h1, rfl⟩) ?_
    rintro _ _ ⟨_, ⟨_, rfl, hr, rfl⟩, rfl⟩
    have hq_9 := hr
    rcases hr with ⟨e_9, rfl⟩ | ⟨e_9, rfl⟩ | ⟨e_9, rfl⟩
    · refine j_callV (q := (RX4, TX4, 5)) dX8_areLike_12 kX4_hasPairsOf lX8_230 inX4_hasPairsOf seX4_hasPairsOf rfl rfl (z_frame [10, 11, 12, 13, 14] rfl (by decide) (Nat.le_of_ble_eq_true rfl) (c_X4_hasPairsOf_s hl _ _ _ _ _)) (Nat.le_of_ble_eq_true rfl) ⟨(Nat.le_of_ble_eq_true rfl), (Nat.le_of_ble_eq_true rfl)⟩ rfl (Nat.le_of_ble_eq_true rfl) rfl rfl (fun _ _ h => h.elim) ?_
      rintro _ _ ⟨_, _, ⟨b, rfl, rfl⟩, rfl, rfl⟩
      refine j_w (z_cw _ _ _ _ _ _ _ _ _ _ _ _ _ _ _ _ _ _ _ _ _ _ _ _ _ _ _ _ _ _ _ _ _ _ _ _ _ _ _ _ _ _ _ _ _ _ _ _ _ _ _ _ _ _ _ _ [], z_no) rfl ?_
      refine j_iret dX8_areLike_15 rfl (z_bn _) ?_ (Nat.le_of_ble_eq_true rfl) (Nat.le_of_ble_eq_true rfl)
      exact ⟨rfl, rfl, ⟨_, rfl⟩, (z_wk (by first | assumption | exact z_m20z) (by first | assumption | exact z_m20z) (by first | assumption | exact z_m20z) (by first | assumption | exact z_m20z) (by first | assumption | exact z_m20z) (by first | assumption | exact z_m20z))⟩
    · refine j_callV (q := (RX4, TX4, 5)) dX8_areLike_12 kX4_hasPairsOf lX8_230 inX4_hasPairsOf seX4_hasPairsOf rfl rfl (z_frame [10, 11, 12, 13, 14, 16, 17, 18, 19, 20] rfl (by decide) (Nat.le_of_ble_eq_true rfl) (c_X4_hasPairsOf hl _ _ _ _ _ _ _ _ _ _)) (Nat.le_of_ble_eq_true rfl) ⟨(Nat.le_of_ble_eq_true rfl), (Nat.le_of_ble_eq_true rfl)⟩ rfl (Nat.le_of_ble_eq_true rfl) rfl rfl (fun _ _ h => h.elim) ?_
      rintro _ _ ⟨_, _, ⟨b, rfl, rfl⟩, rfl, rfl⟩
      refine j_w (z_cw _ _ _ _ _ _ _ _ _ _ _ _ _ _ _ _ _ _ _ _ _ _ _ _ _ _ _ _ _ _ _ _ _ _ _ _ _ _ _ _ _ _ _ _ _ _ _ _ _ _ _ _ _ _ _ _ [], z_no) rfl ?_
      refine j_iret dX8_areLike_15 rfl (z_bn _) ?_ (Nat.le_of_ble_eq_true rfl) (Nat.le_of_ble_eq_true rfl)
      exact ⟨rfl, rfl, ⟨_, rfl⟩, (z_wk (by first | assumption | exact z_m20z) (by first | assumption | exact z_m20z) (by first | assumption | exact z_m20z) (by first | assumption | exact z_m20z) (by first | assumption | exact z_m20z) (by first | assumption | exact z_m20z))⟩
    · refine j_callV (q := (RX4, TX4, 5)) dX8_areLike_12 kX4_hasPairsOf lX8_230 inX4_hasPairsOf seX4_hasPairsOf rfl rfl (z_frame [10, 11, 12, 13, 14, 21, 22, 23, 24, 25] rfl (by decide) (Nat.le_of_ble_eq_true rfl) (c_X4_hasPairsOf hl _ _ _ _ _ _ _ _ _ _)) (Nat.le_of_ble_eq_true rfl) ⟨(Nat.le_of_ble_eq_true rfl), (Nat.le_of_ble_eq_true rfl)⟩ rfl (Nat.le_of_ble_eq_true rfl) rfl rfl (fun _ _ h => h.elim) ?_
      rintro _ _ ⟨_, _, ⟨b, rfl, rfl⟩, rfl, rfl⟩
      refine j_w (z_cw _ _ _ _ _ _ _ _ _ _ _ _ _ _ _ _ _ _ _ _ _ _ _ _ _ _ _ _ _ _ _ _ _ _ _ _ _ _ _ _ _ _ _ _ _ _ _ _ _ _ _ _ _ _ _ _ [], z_no) rfl ?_
      refine j_iret dX8_areLike_15 rfl (z_bn _) ?_ (Nat.le_of_ble_eq_true rfl) (Nat.le_of_ble_eq_true rfl)
      exact ⟨rfl, rfl, ⟨_, rfl⟩, (z_wk (by first | assumption | exact z_m20z) (by first | assumption | exact z_m20z) (by first | assumption | exact z_m20z) (by first | assumption | exact z_m20z) (by first | assumption | exact z_m20z) (by first | assumption | exact z_m20z))⟩
  · refine j_astore_n (lo' := [(3, _), (0, _), (1, _), (2, _)]) dX8_areLike_5 rfl (by decide) rfl ?_
    refine j_aload_n dX8_areLike_6 rfl rfl ?_
    refine j_aload_n dX8_areLike_7 rfl rfl ?_
    refine j_iload_n dX8_areLike_8 rfl ?_
    refine j_callV (q := (RX8, TX8, 9)) dX8_areLike_9 kX8_tableFor lX8_157 inX8_tableFor seX8_tableFor rfl rfl (z_dirX (c_X8_tableFor hl _ _ _ _ _ _ _ _ _ _ _ _ _ _ _ _ _ _ _ _ _ _ _ _ _ _ _ _ _ _ _ _ _ _ _ _ _ _ _ _ _ _ _ _ _ _ _ _ _ _ _ _ _ _ _ _ _)) (Nat.le_of_ble_eq_true rfl) ⟨(Nat.le_of_ble_eq_true rfl), (Nat.le_of_ble_eq_true rfl)⟩ rfl (Nat.le_of_ble_eq_true rfl) rfl rfl (fun _ _ h => by obtain ⟨_, ⟨h1, rfl⟩, rfl⟩ := h; exact ⟨rfl, rfl, x_I_I h1, rfl⟩) ?_
    rintro _ _ ⟨_, ⟨_, rfl, hr, rfl⟩, rfl⟩
    have hq_9 := hr
    rcases hr with ⟨e_9, rfl⟩ | ⟨e_9, rfl⟩ | ⟨e_9, rfl⟩
    · refine j_callV (q := (RX4, TX4, 5)) dX8_areLike_12 kX4_hasPairsOf lX8_230 inX4_hasPairsOf seX4_hasPairsOf rfl rfl (z_frame [16, 17, 18, 19, 20, 10, 11, 12, 13, 14] rfl (by decide) (Nat.le_of_ble_eq_true rfl) (c_X4_hasPairsOf hl _ _ _ _ _ _ _ _ _ _)) (Nat.le_of_ble_eq_true rfl) ⟨(Nat.le_of_ble_eq_true rfl), (Nat.le_of_ble_eq_true rfl)⟩ rfl (Nat.le_of_ble_eq_true rfl) rfl rfl (fun _ _ h => h.elim) ?_
      rintro _ _ ⟨_, _, ⟨b, rfl, rfl⟩, rfl, rfl⟩
      refine j_w (z_cw _ _ _ _ _ _ _ _ _ _ _ _ _ _ _ _ _ _ _ _ _ _ _ _ _ _ _ _ _ _ _ _ _ _ _ _ _ _ _ _ _ _ _ _ _ _ _ _ _ _ _ _ _ _ _ _ [], z_no) rfl ?_
      refine j_iret dX8_areLike_15 rfl (z_bn _) ?_ (Nat.le_of_ble_eq_true rfl) (Nat.le_of_ble_eq_true rfl)
      exact ⟨rfl, rfl, ⟨_, rfl⟩, (z_wk (by first | assumption | exact z_m20z) (by first | assumption | exact z_m20z) (by first | assumption | exact z_m20z) (by first | assumption | exact z_m20z) (by first | assumption | exact z_m20z) (by first | assumption | exact z_m20z))⟩
    · refine j_callV (q := (RX4, TX4, 5)) dX8_areLike_12 kX4_hasPairsOf lX8_230 inX4_hasPairsOf seX4_hasPairsOf rfl rfl (z_frame [16, 17, 18, 19, 20] rfl (by decide) (Nat.le_of_ble_eq_true rfl) (c_X4_hasPairsOf_s hl _ _ _ _ _)) (Nat.le_of_ble_eq_true rfl) ⟨(Nat.le_of_ble_eq_true rfl), (Nat.le_of_ble_eq_true rfl)⟩ rfl (Nat.le_of_ble_eq_true rfl) rfl rfl (fun _ _ h => h.elim) ?_
      rintro _ _ ⟨_, _, ⟨b, rfl, rfl⟩, rfl, rfl⟩
      refine j_w (z_cw _ _ _ _ _ _ _ _ _ _ _ _ _ _ _ _ _ _ _ _ _ _ _ _ _ _ _ _ _ _ _ _ _ _ _ _ _ _ _ _ _ _ _ _ _ _ _ _ _ _ _ _ _ _ _ _ [], z_no) rfl ?_
      refine j_iret dX8_areLike_15 rfl (z_bn _) ?_ (Nat.le_of_ble_eq_true rfl) (Nat.le_of_ble_eq_true rfl)
      exact ⟨rfl, rfl, ⟨_, rfl⟩, (z_wk (by first | assumption | exact z_m20z) (by first | assumption | exact z_m20z) (by first | assumption | exact z_m20z) (by first | assumption | exact z_m20z) (by first | assumption | exact z_m20z) (by first | assumption | exact z_m20z))⟩
    · refine j_callV (q := (RX4, TX4, 5)) dX8_areLike_12 kX4_hasPairsOf lX8_230 inX4_hasPairsOf seX4_hasPairsOf rfl rfl (z_frame [16, 17, 18, 19, 20, 21, 22, 23, 24, 25] rfl (by decide) (Nat.le_of_ble_eq_true rfl) (c_X4_hasPairsOf hl _ _ _ _ _ _ _ _ _ _)) (Nat.le_of_ble_eq_true rfl) ⟨(Nat.le_of_ble_eq_true rfl), (Nat.le_of_ble_eq_true rfl)⟩ rfl (Nat.le_of_ble_eq_true rfl) rfl rfl (fun _ _ h => h.elim) ?_
      rintro _ _ ⟨_, _, ⟨b, rfl, rfl⟩, rfl, rfl⟩
      refine j_w (z_cw _ _ _ _ _ _ _ _ _ _ _ _ _ _ _ _ _ _ _ _ _ _ _ _ _ _ _ _ _ _ _ _ _ _ _ _ _ _ _ _ _ _ _ _ _ _ _ _ _ _ _ _ _ _ _ _ [], z_no) rfl ?_
      refine j_iret dX8_areLike_15 rfl (z_bn _) ?_ (Nat.le_of_ble_eq_true rfl) (Nat.le_of_ble_eq_true rfl)
      exact ⟨rfl, rfl, ⟨_, rfl⟩, (z_wk (by first | assumption | exact z_m20z) (by first | assumption | exact z_m20z) (by first | assumption | exact z_m20z) (by first | assumption | exact z_m20z) (by first | assumption | exact z_m20z) (by first | assumption | exact z_m20z))⟩
  · refine j_astore_n (lo' := [(3, _), (0, _), (1, _), (2, _)]) dX8_areLike_5 rfl (by decide) rfl ?_
    refine j_aload_n dX8_areLike_6 rfl rfl ?_
    refine j_aload_n dX8_areLike_7 rfl rfl ?_
    refine j_iload_n dX8_areLike_8 rfl ?_
    refine j_callV (q := (RX8, TX8, 9)) dX8_areLike_9 kX8_tableFor lX8_157 inX8_tableFor seX8_tableFor rfl rfl (z_dirX (c_X8_tableFor hl _ _ _ _ _ _ _ _ _ _ _ _ _ _ _ _ _ _ _ _ _ _ _ _ _ _ _ _ _ _ _ _ _ _ _ _ _ _ _ _ _ _ _ _ _ _ _ _ _ _ _ _ _ _ _ _ _)) (Nat.le_of_ble_eq_true rfl) ⟨(Nat.le_of_ble_eq_true rfl), (Nat.le_of_ble_eq_true rfl)⟩ rfl (Nat.le_of_ble_eq_true rfl) rfl rfl (fun _ _ h => by obtain ⟨_, ⟨h1, rfl⟩, rfl⟩ := h; exact ⟨rfl, rfl, x_I_I h1, rfl⟩) ?_
    rintro _ _ ⟨_, ⟨_, rfl, hr, rfl⟩, rfl⟩
    have hq_9 := hr
    rcases hr with ⟨e_9, rfl⟩ | ⟨e_9, rfl⟩ | ⟨e_9, rfl⟩
    · refine j_callV (q := (RX4, TX4, 5)) dX8_areLike_12 kX4_hasPairsOf lX8_230 inX4_hasPairsOf seX4_hasPairsOf rfl rfl (z_frame [21, 22, 23, 24, 25, 10, 11, 12, 13, 14] rfl (by decide) (Nat.le_of_ble_eq_true rfl) (c_X4_hasPairsOf hl _ _ _ _ _ _ _ _ _ _)) (Nat.le_of_ble_eq_true rfl) ⟨(Nat.le_of_ble_eq_true rfl), (Nat.le_of_ble_eq_true rfl)⟩ rfl (Nat.le_of_ble_eq_true rfl) rfl rfl (fun _ _ h => h.elim) ?_
      rintro _ _ ⟨_, _, ⟨b, rfl, rfl⟩, rfl, rfl⟩
      refine j_w (z_cw _ _ _ _ _ _ _ _ _ _ _ _ _ _ _ _ _ _ _ _ _ _ _ _ _ _ _ _ _ _ _ _ _ _ _ _ _ _ _ _ _ _ _ _ _ _ _ _ _ _ _ _ _ _ _ _ [], z_no) rfl ?_
      refine j_iret dX8_areLike_15 rfl (z_bn _) ?_ (Nat.le_of_ble_eq_true rfl) (Nat.le_of_ble_eq_true rfl)
      exact ⟨rfl, rfl, ⟨_, rfl⟩, (z_wk (by first | assumption | exact z_m20z) (by first | assumption | exact z_m20z) (by first | assumption | exact z_m20z) (by first | assumption | exact z_m20z) (by first | assumption | exact z_m20z) (by first | assumption | exact z_m20z))⟩
    · refine j_callV (q := (RX4, TX4, 5)) dX8_areLike_12 kX4_hasPairsOf lX8_230 inX4_hasPairsOf seX4_hasPairsOf rfl rfl (z_frame [21, 22, 23, 24, 25, 16, 17, 18, 19, 20] rfl (by decide) (Nat.le_of_ble_eq_true rfl) (c_X4_hasPairsOf hl _ _ _ _ _ _ _ _ _ _)) (Nat.le_of_ble_eq_true rfl) ⟨(Nat.le_of_ble_eq_true rfl), (Nat.le_of_ble_eq_true rfl)⟩ rfl (Nat.le_of_ble_eq_true rfl) rfl rfl (fun _ _ h => h.elim) ?_
      rintro _ _ ⟨_, _, ⟨b, rfl, rfl⟩, rfl, rfl⟩
      refine j_w (z_cw _ _ _ _ _ _ _ _ _ _ _ _ _ _ _ _ _ _ _ _ _ _ _ _ _ _ _ _ _ _ _ _ _ _ _ _ _ _ _ _ _ _ _ _ _ _ _ _ _ _ _ _ _ _ _ _ [], z_no) rfl ?_
      refine j_iret dX8_areLike_15 rfl (z_bn _) ?_ (Nat.le_of_ble_eq_true rfl) (Nat.le_of_ble_eq_true rfl)
      exact ⟨rfl, rfl, ⟨_, rfl⟩, (z_wk (by first | assumption | exact z_m20z) (by first | assumption | exact z_m20z) (by first | assumption | exact z_m20z) (by first | assumption | exact z_m20z) (by first | assumption | exact z_m20z) (by first | assumption | exact z_m20z))⟩
    · refine j_callV (q := (RX4, TX4, 5)) dX8_areLike_12 kX4_hasPairsOf lX8_230 inX4_hasPairsOf seX4_hasPairsOf rfl rfl (z_frame [21, 22, 23, 24, 25] rfl (by decide) (Nat.le_of_ble_eq_true rfl) (c_X4_hasPairsOf_s hl _ _ _ _ _)) (Nat.le_of_ble_eq_true rfl) ⟨(Nat.le_of_ble_eq_true rfl), (Nat.le_of_ble_eq_true rfl)⟩ rfl (Nat.le_of_ble_eq_true rfl) rfl rfl (fun _ _ h => h.elim) ?_
      rintro _ _ ⟨_, _, ⟨b, rfl, rfl⟩, rfl, rfl⟩
      refine j_w (z_cw _ _ _ _ _ _ _ _ _ _ _ _ _ _ _ _ _ _ _ _ _ _ _ _ _ _ _ _ _ _ _ _ _ _ _ _ _ _ _ _ _ _ _ _ _ _ _ _ _ _ _ _ _ _ _ _ [], z_no) rfl ?_
      refine j_iret dX8_areLike_15 rfl (z_bn _) ?_ (Nat.le_of_ble_eq_true rfl) (Nat.le_of_ble_eq_true rfl)
      exact ⟨rfl, rfl, ⟨_, rfl⟩, (z_wk (by first | assumption | exact z_m20z) (by first | assumption | exact z_m20z) (by first | assumption | exact z_m20z) (by first | assumption | exact z_m20z) (by first | assumption | exact z_m20z) (by first | assumption | exact z_m20z))⟩
set_option maxRecDepth 100000 in
set_option maxHeartbeats 8000000 in
theorem c_X8_given (hl : l.stackTraces = false) (rf : Int32) (kn : Int32) (ma : Int32) (xa : Bool) (fa : Nat → Int32) (ca : Nat → Int32) (mb : Int32) (xb : Bool) (fb : Nat → Int32) (cb : Nat → Int32) (mt : Int32) (xt : Bool) (ft : Nat → Int32) (ct : Nat → Int32) (f0 : Nat → Int32) (g0 : Nat → Int32) (c0 : Nat → Int32) (m0 : Int32) (s0 : Int32) (f1 : Nat → Int32) (g1 : Nat → Int32) (c1 : Nat → Int32) (m1 : Int32) (s1 : Int32) (f2 : Nat → Int32) (g2 : Nat → Int32) (c2 : Nat → Int32) (m2 : Int32) (s2 : Int32) (f3 : Nat → Int32) (g3 : Nat → Int32) (c3 : Nat → Int32) (m3 : Int32) (s3 : Int32) (f4 : Nat → Int32) (g4 : Nat → Int32) (c4 : Nat → Int32) (m4 : Int32) (s4 : Int32) (f5 : Nat → Int32) (g5 : Nat → Int32) (c5 : Nat → Int32) (m5 : Int32) (s5 : Int32) (ek0 : Int32) (em0 : Int32) (es0 : Int32) (el0 : Int32) (b0 : Int32) (ef0 : Nat → Int32) (ek1 : Int32) (em1 : Int32) (es1 : Int32) (el1 : Int32) (b1 : Int32) (ef1 : Nat → Int32) (r p q t : Int32) (h0 : z_m20 m0) (h1 : z_m20 m1) (h2 : z_m20 m2) (h3 : z_m20 m3) (h4 : z_m20 m4) (h5 : z_m20 m5) : z_CX G l mX8_given 20 14 120 (z_cw rf kn ma xa fa ca mb xb fb cb mt xt ft ct f0 g0 c0 m0 s0 f1 g1 c1 m1 s1 f2 g2 c2 m2 s2 f3 g3 c3 m3 s3 f4 g4 c4 m4 s4 f5 g5 c5 m5 s5 ek0 em0 es0 el0 b0 ef0 ek1 em1 es1 el1 b1 ef1 []) [.ref 0, .int r, .int p, .int q, .int t] (fun v L => (∃ x : Int32, v = some (.int x)) ∧ z_Wk kn xa xb b0 b1 L) (fun E L => z_xA E ∧ L = (z_cw rf kn ma xa fa ca mb xb fb cb mt xt ft ct f0 g0 c0 m0 s0 f1 g1 c1 m1 s1 f2 g2 c2 m2 s2 f3 g3 c3 m3 s3 f4 g4 c4 m4 s4 f5 g5 c5 m5 s5 ek0 em0 es0 el0 b0 ef0 ek1 em1 es1 el1 b1 ef1 [])) := by
  refine z_body hl (by decide) rfl (Nat.le_of_ble_eq_true rfl) ?_
  show z_J G l mX8_given (z_SX 20 14 120 (z_cw rf kn ma xa fa ca mb xb fb cb mt xt ft ct f0 g0 c0 m0 s0 f1 g1 c1 m1 s1 f2 g2 c2 m2 s2 f3 g3 c3 m3 s3 f4 g4 c4 m4 s4 f5 g5 c5 m5 s5 ek0 em0 es0 el0 b0 ef0 ek1 em1 es1 el1 b1 ef1 []) (fun v L => (∃ x : Int32, v = some (.int x)) ∧ z_Wk kn xa xb b0 b1 L) (fun E L => z_xA E ∧ L = (z_cw rf kn ma xa fa ca mb xb fb cb mt xt ft ct f0 g0 c0 m0 s0 f1 g1 c1 m1 s1 f2 g2 c2 m2 s2 f3 g3 c3 m3 s3 f4 g4 c4 m4 s4 f5 g5 c5 m5 s5 ek0 em0 es0 el0 b0 ef0 ek1 em1 es1 el1 b1 ef1 []))) 0 [(0, _), (1, _), (2, _), (3, _), (4, _)] [] _ 0 0
  refine j_iload_n dX8_given_0 rfl ?_
  refine j_callS dX8_given_1 kX8_checkKey lX8_234 stX8_checkKey (c_X8_checkKey hl _ _) (Nat.le_of_ble_eq_true rfl) ⟨(Nat.le_of_ble_eq_true rfl), (Nat.le_of_ble_eq_true rfl)⟩ rfl (Nat.le_of_ble_eq_true rfl) rfl rfl (fun _ _ h => by obtain ⟨h1, rfl⟩ := h; exact ⟨rfl, rfl, x_A_A h1, rfl⟩) ?_
  rintro _ _ ⟨rfl, rfl⟩
  refine j_iload_n dX8_given_4 rfl ?_
  refine j_sipush (v := (-1000)) dX8_given_5 (by decide) ?_
  refine j_sipush (v := 999) dX8_given_8 (by decide) ?_
  refine j_callS dX8_given_11 kX8_checkRange lX8_72 stX8_checkRange (c_X8_checkRange hl _ _ _ _) (Nat.le_of_ble_eq_true rfl) ⟨(Nat.le_of_ble_eq_true rfl), (Nat.le_of_ble_eq_true rfl)⟩ rfl (Nat.le_of_ble_eq_true rfl) rfl rfl (fun _ _ h => by obtain ⟨h1, rfl⟩ := h; exact ⟨rfl, rfl, x_A_A h1, rfl⟩) ?_
  rintro _ _ ⟨rfl, rfl⟩
  refine j_iload_n dX8_given_14 rfl ?_
  refine j_iconst (v := 0) dX8_given_15 (by decide) ?_
  refine j_iconst (v := 5) dX8_given_16 (by decide) ?_
  refine j_callS dX8_given_17 kX8_checkRange lX8_72 stX8_checkRange (c_X8_checkRange hl _ _ _ _) (Nat.le_of_ble_eq_true rfl) ⟨(Nat.le_of_ble_eq_true rfl), (Nat.le_of_ble_eq_true rfl)⟩ rfl (Nat.le_of_ble_eq_true rfl) rfl rfl (fun _ _ h => by obtain ⟨h1, rfl⟩ := h; exact ⟨rfl, rfl, x_A_A h1, rfl⟩) ?_
  rintro _ _ ⟨rfl, rfl⟩
  refine j_iload dX8_given_20 rfl ?_
  refine j_callS dX8_given_22 kX8_checkValue lX8_50 stX8_checkValue (c_X8_checkValue hl _ _) (Nat.le_of_ble_eq_true rfl) ⟨(Nat.le_of_ble_eq_true rfl), (Nat.le_of_ble_eq_true rfl)⟩ rfl (Nat.le_of_ble_eq_true rfl) rfl rfl (fun _ _ h => by obtain ⟨h1, rfl⟩ := h; exact ⟨rfl, rfl, x_A_A h1, rfl⟩) ?_
  rintro _ _ ⟨rfl, rfl⟩
  refine j_iload_n dX8_given_25 rfl ?_
  refine j_iload_n dX8_given_26 rfl ?_
  refine j_iload_n dX8_given_27 rfl ?_
  refine j_iload dX8_given_28 rfl ?_
  refine j_callS dX8_given_30 kX8_ruleTells lX8_237 stX8_ruleTells (c_X8_ruleTells hl _ _ _ _ _) (Nat.le_of_ble_eq_true rfl) ⟨(Nat.le_of_ble_eq_true rfl), (Nat.le_of_ble_eq_true rfl)⟩ rfl (Nat.le_of_ble_eq_true rfl) rfl rfl (fun _ _ h => h.elim) ?_
  rintro _ _ ⟨⟨_, rfl⟩, rfl⟩
  refine j_istore (lo' := [(5, _), (0, _), (1, _), (2, _), (3, _), (4, _)]) dX8_given_33 (by decide) rfl ?_
  refine j_iload dX8_given_35 rfl ?_
  refine j_sipush (v := (-1001)) dX8_given_37 (by decide) ?_
  refine j_icmp_ne (tgt := 48) dX8_given_40 (by decide) (fun c_40 => ?_) (fun c_40 => ?_)
  · refine j_iload dX8_given_48 rfl ?_
    refine j_iret dX8_given_50 rfl rfl ?_ (Nat.le_of_ble_eq_true rfl) (Nat.le_of_ble_eq_true rfl)
    exact ⟨rfl, rfl, ⟨_, rfl⟩, (z_wk (by first | assumption | exact z_m20z) (by first | assumption | exact z_m20z) (by first | assumption | exact z_m20z) (by first | assumption | exact z_m20z) (by first | assumption | exact z_m20z) (by first | assumption | exact z_m20z))⟩
  · refine j_bipush (v := (-9)) dX8_given_43 (by decide) ?_
    refine j_goto (tgt := 50) dX8_given_45 (by decide) ?_
    refine j_iret dX8_given_50 rfl rfl ?_ (Nat.le_of_ble_eq_true rfl) (Nat.le_of_ble_eq_true rfl)
    exact ⟨rfl, rfl, ⟨_, rfl⟩, (z_wk (by first | assumption | exact z_m20z) (by first | assumption | exact z_m20z) (by first | assumption | exact z_m20z) (by first | assumption | exact z_m20z) (by first | assumption | exact z_m20z) (by first | assumption | exact z_m20z))⟩
set_option maxRecDepth 100000 in
set_option maxHeartbeats 8000000 in
theorem c_X8_tested (hl : l.stackTraces = false) (rf : Int32) (kn : Int32) (ma : Int32) (xa : Bool) (fa : Nat → Int32) (ca : Nat → Int32) (mb : Int32) (xb : Bool) (fb : Nat → Int32) (cb : Nat → Int32) (mt : Int32) (xt : Bool) (ft : Nat → Int32) (ct : Nat → Int32) (f0 : Nat → Int32) (g0 : Nat → Int32) (c0 : Nat → Int32) (m0 : Int32) (s0 : Int32) (f1 : Nat → Int32) (g1 : Nat → Int32) (c1 : Nat → Int32) (m1 : Int32) (s1 : Int32) (f2 : Nat → Int32) (g2 : Nat → Int32) (c2 : Nat → Int32) (m2 : Int32) (s2 : Int32) (f3 : Nat → Int32) (g3 : Nat → Int32) (c3 : Nat → Int32) (m3 : Int32) (s3 : Int32) (f4 : Nat → Int32) (g4 : Nat → Int32) (c4 : Nat → Int32) (m4 : Int32) (s4 : Int32) (f5 : Nat → Int32) (g5 : Nat → Int32) (c5 : Nat → Int32) (m5 : Int32) (s5 : Int32) (ek0 : Int32) (em0 : Int32) (es0 : Int32) (el0 : Int32) (b0 : Int32) (ef0 : Nat → Int32) (ek1 : Int32) (em1 : Int32) (es1 : Int32) (el1 : Int32) (b1 : Int32) (ef1 : Nat → Int32) (r p q : Int32) (h0 : z_m20 m0) (h1 : z_m20 m1) (h2 : z_m20 m2) (h3 : z_m20 m3) (h4 : z_m20 m4) (h5 : z_m20 m5) : z_CX G l mX8_tested 20 14 120 (z_cw rf kn ma xa fa ca mb xb fb cb mt xt ft ct f0 g0 c0 m0 s0 f1 g1 c1 m1 s1 f2 g2 c2 m2 s2 f3 g3 c3 m3 s3 f4 g4 c4 m4 s4 f5 g5 c5 m5 s5 ek0 em0 es0 el0 b0 ef0 ek1 em1 es1 el1 b1 ef1 []) [.ref 0, .int r, .int p, .int q] (fun v L => (∃ x : Int32, v = some (.int x)) ∧ z_Wk kn xa xb b0 b1 L) (fun E L => z_xA E ∧ L = (z_cw rf kn ma xa fa ca mb xb fb cb mt xt ft ct f0 g0 c0 m0 s0 f1 g1 c1 m1 s1 f2 g2 c2 m2 s2 f3 g3 c3 m3 s3 f4 g4 c4 m4 s4 f5 g5 c5 m5 s5 ek0 em0 es0 el0 b0 ef0 ek1 em1 es1 el1 b1 ef1 [])) := by
  refine z_body hl (by decide) rfl (Nat.le_of_ble_eq_true rfl) ?_
  show z_J G l mX8_tested (z_SX 20 14 120 (z_cw rf kn ma xa fa ca mb xb fb cb mt xt ft ct f0 g0 c0 m0 s0 f1 g1 c1 m1 s1 f2 g2 c2 m2 s2 f3 g3 c3 m3 s3 f4 g4 c4 m4 s4 f5 g5 c5 m5 s5 ek0 em0 es0 el0 b0 ef0 ek1 em1 es1 el1 b1 ef1 []) (fun v L => (∃ x : Int32, v = some (.int x)) ∧ z_Wk kn xa xb b0 b1 L) (fun E L => z_xA E ∧ L = (z_cw rf kn ma xa fa ca mb xb fb cb mt xt ft ct f0 g0 c0 m0 s0 f1 g1 c1 m1 s1 f2 g2 c2 m2 s2 f3 g3 c3 m3 s3 f4 g4 c4 m4 s4 f5 g5 c5 m5 s5 ek0 em0 es0 el0 b0 ef0 ek1 em1 es1 el1 b1 ef1 []))) 0 [(0, _), (1, _), (2, _), (3, _)] [] _ 0 0
  refine j_iload_n dX8_tested_0 rfl ?_
  refine j_iconst (v := 0) dX8_tested_1 (by decide) ?_
  refine j_iconst (v := 5) dX8_tested_2 (by decide) ?_
  refine j_callS dX8_tested_3 kX8_checkRange lX8_72 stX8_checkRange (c_X8_checkRange hl _ _ _ _) (Nat.le_of_ble_eq_true rfl) ⟨(Nat.le_of_ble_eq_true rfl), (Nat.le_of_ble_eq_true rfl)⟩ rfl (Nat.le_of_ble_eq_true rfl) rfl rfl (fun _ _ h => by obtain ⟨h1, rfl⟩ := h; exact ⟨rfl, rfl, x_A_A h1, rfl⟩) ?_
  rintro _ _ ⟨rfl, rfl⟩
  refine j_iload_n dX8_tested_6 rfl ?_
  refine j_callS dX8_tested_7 kX8_checkValue lX8_50 stX8_checkValue (c_X8_checkValue hl _ _) (Nat.le_of_ble_eq_true rfl) ⟨(Nat.le_of_ble_eq_true rfl), (Nat.le_of_ble_eq_true rfl)⟩ rfl (Nat.le_of_ble_eq_true rfl) rfl rfl (fun _ _ h => by obtain ⟨h1, rfl⟩ := h; exact ⟨rfl, rfl, x_A_A h1, rfl⟩) ?_
  rintro _ _ ⟨rfl, rfl⟩
  refine j_iload_n dX8_tested_10 rfl ?_
  refine j_callS dX8_tested_11 kX8_checkValue lX8_50 stX8_checkValue (c_X8_checkValue hl _ _) (Nat.le_of_ble_eq_true rfl) ⟨(Nat.le_of_ble_eq_true rfl), (Nat.le_of_ble_eq_true rfl)⟩ rfl (Nat.le_of_ble_eq_true rfl) rfl rfl (fun _ _ h => by obtain ⟨h1, rfl⟩ := h; exact ⟨rfl, rfl, x_A_A h1, rfl⟩) ?_
  rintro _ _ ⟨rfl, rfl⟩
  refine j_iload_n dX8_tested_14 rfl ?_
  refine j_iload_n dX8_tested_15 rfl ?_
  refine j_iload_n dX8_tested_16 rfl ?_
  refine j_callS dX8_tested_17 kX8_testTells lX8_241 stX8_testTells (c_X8_testTells hl _ _ _ _) (Nat.le_of_ble_eq_true rfl) ⟨(Nat.le_of_ble_eq_true rfl), (Nat.le_of_ble_eq_true rfl)⟩ rfl (Nat.le_of_ble_eq_true rfl) rfl rfl (fun _ _ h => h.elim) ?_
  rintro _ _ ⟨⟨_, rfl⟩, rfl⟩
  refine j_istore (lo' := [(4, _), (0, _), (1, _), (2, _), (3, _)]) dX8_tested_20 (by decide) rfl ?_
  refine j_iload dX8_tested_22 rfl ?_
  refine j_sipush (v := (-1001)) dX8_tested_24 (by decide) ?_
  refine j_icmp_ne (tgt := 35) dX8_tested_27 (by decide) (fun c_27 => ?_) (fun c_27 => ?_)
  · refine j_iload dX8_tested_35 rfl ?_
    refine j_iret dX8_tested_37 rfl rfl ?_ (Nat.le_of_ble_eq_true rfl) (Nat.le_of_ble_eq_true rfl)
    exact ⟨rfl, rfl, ⟨_, rfl⟩, (z_wk (by first | assumption | exact z_m20z) (by first | assumption | exact z_m20z) (by first | assumption | exact z_m20z) (by first | assumption | exact z_m20z) (by first | assumption | exact z_m20z) (by first | assumption | exact z_m20z))⟩
  · refine j_bipush (v := (-9)) dX8_tested_30 (by decide) ?_
    refine j_goto (tgt := 37) dX8_tested_32 (by decide) ?_
    refine j_iret dX8_tested_37 rfl rfl ?_ (Nat.le_of_ble_eq_true rfl) (Nat.le_of_ble_eq_true rfl)
    exact ⟨rfl, rfl, ⟨_, rfl⟩, (z_wk (by first | assumption | exact z_m20z) (by first | assumption | exact z_m20z) (by first | assumption | exact z_m20z) (by first | assumption | exact z_m20z) (by first | assumption | exact z_m20z) (by first | assumption | exact z_m20z))⟩
set_option maxRecDepth 100000 in
set_option maxHeartbeats 8000000 in
theorem c_X8_knock (hl : l.stackTraces = false) (rf : Int32) (kn : Int32) (ma : Int32) (xa : Bool) (fa : Nat → Int32) (ca : Nat → Int32) (mb : Int32) (xb : Bool) (fb : Nat → Int32) (cb : Nat → Int32) (mt : Int32) (xt : Bool) (ft : Nat → Int32) (ct : Nat → Int32) (f0 : Nat → Int32) (g0 : Nat → Int32) (c0 : Nat → Int32) (m0 : Int32) (s0 : Int32) (f1 : Nat → Int32) (g1 : Nat → Int32) (c1 : Nat → Int32) (m1 : Int32) (s1 : Int32) (f2 : Nat → Int32) (g2 : Nat → Int32) (c2 : Nat → Int32) (m2 : Int32) (s2 : Int32) (f3 : Nat → Int32) (g3 : Nat → Int32) (c3 : Nat → Int32) (m3 : Int32) (s3 : Int32) (f4 : Nat → Int32) (g4 : Nat → Int32) (c4 : Nat → Int32) (m4 : Int32) (s4 : Int32) (f5 : Nat → Int32) (g5 : Nat → Int32) (c5 : Nat → Int32) (m5 : Int32) (s5 : Int32) (ek0 : Int32) (em0 : Int32) (es0 : Int32) (el0 : Int32) (b0 : Int32) (ef0 : Nat → Int32) (ek1 : Int32) (em1 : Int32) (es1 : Int32) (el1 : Int32) (b1 : Int32) (ef1 : Nat → Int32)  (h0 : z_m20 m0) (h1 : z_m20 m1) (h2 : z_m20 m2) (h3 : z_m20 m3) (h4 : z_m20 m4) (h5 : z_m20 m5) : z_CF G l mX8_knock 20 14 120 (z_cw rf kn ma xa fa ca mb xb fb cb mt xt ft ct f0 g0 c0 m0 s0 f1 g1 c1 m1 s1 f2 g2 c2 m2 s2 f3 g3 c3 m3 s3 f4 g4 c4 m4 s4 f5 g5 c5 m5 s5 ek0 em0 es0 el0 b0 ef0 ek1 em1 es1 el1 b1 ef1 []) [.ref 0] (fun v L => v = some (.int (kn + 1)) ∧ z_Wk (kn + 1) xa xb b0 b1 L) := by
  refine z_body hl (by decide) rfl (Nat.le_of_ble_eq_true rfl) ?_
  show z_J G l mX8_knock (z_SF 20 14 120 (z_cw rf kn ma xa fa ca mb xb fb cb mt xt ft ct f0 g0 c0 m0 s0 f1 g1 c1 m1 s1 f2 g2 c2 m2 s2 f3 g3 c3 m3 s3 f4 g4 c4 m4 s4 f5 g5 c5 m5 s5 ek0 em0 es0 el0 b0 ef0 ek1 em1 es1 el1 b1 ef1 []) (fun v L => v = some (.int (kn + 1)) ∧ z_Wk (kn + 1) xa xb b0 b1 L)) 0 [(0, _)] [] _ 0 0
  refine j_aload_n dX8_knock_0 rfl rfl ?_
  refine j_dup dX8_knock_1 rfl ?_
  refine j_getf dX8_knock_2 fX8_244 rfl rfl ?_
  refine j_iconst (v := 1) dX8_knock_5 (by decide) ?_
  refine j_iadd dX8_knock_6 ?_
  refine j_put (w' := (z_cw _ _ _ _ _ _ _ _ _ _ _ _ _ _ _ _ _ _ _ _ _ _ _ _ _ _ _ _ _ _ _ _ _ _ _ _ _ _ _ _ _ _ _ _ _ _ _ _ _ _ _ _ _ _ _ _ [], z_no)) dX8_knock_7 fX8_244 tX8_8 rfl ⟨rfl, rfl⟩ rfl ?_
  refine j_aload_n dX8_knock_10 rfl rfl ?_
  refine j_getf dX8_knock_11 fX8_244 rfl rfl ?_
  refine j_iret dX8_knock_14 rfl rfl ?_ (Nat.le_of_ble_eq_true rfl) (Nat.le_of_ble_eq_true rfl)
  exact ⟨rfl, rfl, rfl, (z_wk (by first | assumption | exact z_m20z) (by first | assumption | exact z_m20z) (by first | assumption | exact z_m20z) (by first | assumption | exact z_m20z) (by first | assumption | exact z_m20z) (by first | assumption | exact z_m20z))⟩
set_option maxRecDepth 100000 in
set_option maxHeartbeats 8000000 in
theorem c_X8_valuesOfRows (hl : l.stackTraces = false) (rf : Int32) (kn : Int32) (ma : Int32) (xa : Bool) (fa : Nat → Int32) (ca : Nat → Int32) (mb : Int32) (xb : Bool) (fb : Nat → Int32) (cb : Nat → Int32) (mt : Int32) (xt : Bool) (ft : Nat → Int32) (ct : Nat → Int32) (f0 : Nat → Int32) (g0 : Nat → Int32) (c0 : Nat → Int32) (m0 : Int32) (s0 : Int32) (f1 : Nat → Int32) (g1 : Nat → Int32) (c1 : Nat → Int32) (m1 : Int32) (s1 : Int32) (f2 : Nat → Int32) (g2 : Nat → Int32) (c2 : Nat → Int32) (m2 : Int32) (s2 : Int32) (f3 : Nat → Int32) (g3 : Nat → Int32) (c3 : Nat → Int32) (m3 : Int32) (s3 : Int32) (f4 : Nat → Int32) (g4 : Nat → Int32) (c4 : Nat → Int32) (m4 : Int32) (s4 : Int32) (f5 : Nat → Int32) (g5 : Nat → Int32) (c5 : Nat → Int32) (m5 : Int32) (s5 : Int32) (ek0 : Int32) (em0 : Int32) (es0 : Int32) (el0 : Int32) (b0 : Int32) (ef0 : Nat → Int32) (ek1 : Int32) (em1 : Int32) (es1 : Int32) (el1 : Int32) (b1 : Int32) (ef1 : Nat → Int32) : z_CF G l mX8_valuesOfRows 10 0 0 (z_cw rf kn ma xa fa ca mb xb fb cb mt xt ft ct f0 g0 c0 m0 s0 f1 g1 c1 m1 s1 f2 g2 c2 m2 s2 f3 g3 c3 m3 s3 f4 g4 c4 m4 s4 f5 g5 c5 m5 s5 ek0 em0 es0 el0 b0 ef0 ek1 em1 es1 el1 b1 ef1 []) [.ref 0] (fun v L => (∃ x : Int32, v = some (.int x)) ∧ L = (z_cw rf kn ma xa fa ca mb xb fb cb mt xt ft ct f0 g0 c0 m0 s0 f1 g1 c1 m1 s1 f2 g2 c2 m2 s2 f3 g3 c3 m3 s3 f4 g4 c4 m4 s4 f5 g5 c5 m5 s5 ek0 em0 es0 el0 b0 ef0 ek1 em1 es1 el1 b1 ef1 [])) := by
  refine z_body hl (by decide) rfl (Nat.le_of_ble_eq_true rfl) ?_
  show z_J G l mX8_valuesOfRows (z_SF 10 0 0 (z_cw rf kn ma xa fa ca mb xb fb cb mt xt ft ct f0 g0 c0 m0 s0 f1 g1 c1 m1 s1 f2 g2 c2 m2 s2 f3 g3 c3 m3 s3 f4 g4 c4 m4 s4 f5 g5 c5 m5 s5 ek0 em0 es0 el0 b0 ef0 ek1 em1 es1 el1 b1 ef1 []) (fun v L => (∃ x : Int32, v = some (.int x)) ∧ L = (z_cw rf kn ma xa fa ca mb xb fb cb mt xt ft ct f0 g0 c0 m0 s0 f1 g1 c1 m1 s1 f2 g2 c2 m2 s2 f3 g3 c3 m3 s3 f4 g4 c4 m4 s4 f5 g5 c5 m5 s5 ek0 em0 es0 el0 b0 ef0 ek1 em1 es1 el1 b1 ef1 []))) 0 [(0, _)] [] _ 0 0
  refine j_iconst (v := 0) dX8_valuesOfRows_0 (by decide) ?_
  refine j_istore_n (lo' := [(1, _), (0, _)]) dX8_valuesOfRows_1 (by decide) rfl ?_
  refine j_aload_n dX8_valuesOfRows_2 rfl rfl ?_
  refine j_getf dX8_valuesOfRows_3 fX8_10 rfl rfl ?_
  refine j_astore_n (lo' := [(2, _), (1, _), (0, _)]) dX8_valuesOfRows_6 rfl (by decide) rfl ?_
  refine j_aload_n dX8_valuesOfRows_7 rfl rfl ?_
  refine j_alen dX8_valuesOfRows_8 rfl rfl rfl ?_
  refine j_istore_n (lo' := [(3, _), (2, _), (1, _), (0, _)]) dX8_valuesOfRows_9 (by decide) rfl ?_
  refine j_iconst (v := 0) dX8_valuesOfRows_10 (by decide) ?_
  refine j_istore (lo' := [(4, _), (3, _), (2, _), (1, _), (0, _)]) dX8_valuesOfRows_11 (by decide) rfl ?_
  refine j_iload dX8_valuesOfRows_13 rfl ?_
  refine j_iload_n dX8_valuesOfRows_15 rfl ?_
  refine j_icmp_ge (tgt := 39) dX8_valuesOfRows_16 (by decide) (fun c_16 => ?_) (fun c_16 => ?_)
  · exact absurd c_16 (by decide)
  · refine j_aload_n dX8_valuesOfRows_19 rfl rfl ?_
    refine j_iload dX8_valuesOfRows_20 rfl ?_
    refine j_aald (v := .ref 2) dX8_valuesOfRows_22 rfl rfl rfl (vp_in_iff.mpr (by decide)) rfl ?_
    refine j_astore (lo' := [(5, _), (4, _), (3, _), (2, _), (1, _), (0, _)]) dX8_valuesOfRows_23 rfl (by decide) rfl ?_
    refine j_iload_n dX8_valuesOfRows_25 rfl ?_
    refine j_aload dX8_valuesOfRows_26 rfl rfl ?_
    refine j_getf dX8_valuesOfRows_28 fX8_68 rfl rfl ?_
    refine j_iadd dX8_valuesOfRows_31 ?_
    refine j_istore_n (lo' := [(1, _), (5, _), (4, _), (3, _), (2, _), (0, _)]) dX8_valuesOfRows_32 (by decide) rfl ?_
    refine j_iinc (lo' := [(4, _), (1, _), (5, _), (3, _), (2, _), (0, _)]) dX8_valuesOfRows_33 rfl rfl (by decide) rfl ?_
    refine j_goto (tgt := 13) dX8_valuesOfRows_36 (by decide) ?_
    refine j_iload dX8_valuesOfRows_13 rfl ?_
    refine j_iload_n dX8_valuesOfRows_15 rfl ?_
    refine j_icmp_ge (tgt := 39) dX8_valuesOfRows_16 (by decide) (fun c_16 => ?_) (fun c_16 => ?_)
    · exact absurd c_16 (by decide)
    · refine j_aload_n dX8_valuesOfRows_19 rfl rfl ?_
      refine j_iload dX8_valuesOfRows_20 rfl ?_
      refine j_aald (v := .ref 6) dX8_valuesOfRows_22 rfl rfl rfl (vp_in_iff.mpr (by decide)) rfl ?_
      refine j_astore (lo' := [(5, _), (4, _), (1, _), (3, _), (2, _), (0, _)]) dX8_valuesOfRows_23 rfl (by decide) rfl ?_
      refine j_iload_n dX8_valuesOfRows_25 rfl ?_
      refine j_aload dX8_valuesOfRows_26 rfl rfl ?_
      refine j_getf dX8_valuesOfRows_28 fX8_68 rfl rfl ?_
      refine j_iadd dX8_valuesOfRows_31 ?_
      refine j_istore_n (lo' := [(1, _), (5, _), (4, _), (3, _), (2, _), (0, _)]) dX8_valuesOfRows_32 (by decide) rfl ?_
      refine j_iinc (lo' := [(4, _), (1, _), (5, _), (3, _), (2, _), (0, _)]) dX8_valuesOfRows_33 rfl rfl (by decide) rfl ?_
      refine j_goto (tgt := 13) dX8_valuesOfRows_36 (by decide) ?_
      refine j_iload dX8_valuesOfRows_13 rfl ?_
      refine j_iload_n dX8_valuesOfRows_15 rfl ?_
      refine j_icmp_ge (tgt := 39) dX8_valuesOfRows_16 (by decide) (fun c_16 => ?_) (fun c_16 => ?_)
      · refine j_iload_n dX8_valuesOfRows_39 rfl ?_
        refine j_iret dX8_valuesOfRows_40 rfl rfl ?_ (Nat.le_of_ble_eq_true rfl) (Nat.le_of_ble_eq_true rfl)
        exact ⟨rfl, rfl, ⟨_, rfl⟩, rfl⟩
      · exact absurd (by decide) c_16
set_option maxRecDepth 100000 in
set_option maxHeartbeats 8000000 in
theorem c_X8_pairsOfTables (hl : l.stackTraces = false) (rf : Int32) (kn : Int32) (ma : Int32) (xa : Bool) (fa : Nat → Int32) (ca : Nat → Int32) (mb : Int32) (xb : Bool) (fb : Nat → Int32) (cb : Nat → Int32) (mt : Int32) (xt : Bool) (ft : Nat → Int32) (ct : Nat → Int32) (f0 : Nat → Int32) (g0 : Nat → Int32) (c0 : Nat → Int32) (m0 : Int32) (s0 : Int32) (f1 : Nat → Int32) (g1 : Nat → Int32) (c1 : Nat → Int32) (m1 : Int32) (s1 : Int32) (f2 : Nat → Int32) (g2 : Nat → Int32) (c2 : Nat → Int32) (m2 : Int32) (s2 : Int32) (f3 : Nat → Int32) (g3 : Nat → Int32) (c3 : Nat → Int32) (m3 : Int32) (s3 : Int32) (f4 : Nat → Int32) (g4 : Nat → Int32) (c4 : Nat → Int32) (m4 : Int32) (s4 : Int32) (f5 : Nat → Int32) (g5 : Nat → Int32) (c5 : Nat → Int32) (m5 : Int32) (s5 : Int32) (ek0 : Int32) (em0 : Int32) (es0 : Int32) (el0 : Int32) (b0 : Int32) (ef0 : Nat → Int32) (ek1 : Int32) (em1 : Int32) (es1 : Int32) (el1 : Int32) (b1 : Int32) (ef1 : Nat → Int32) : z_CF G l mX8_pairsOfTables 10 0 0 (z_cw rf kn ma xa fa ca mb xb fb cb mt xt ft ct f0 g0 c0 m0 s0 f1 g1 c1 m1 s1 f2 g2 c2 m2 s2 f3 g3 c3 m3 s3 f4 g4 c4 m4 s4 f5 g5 c5 m5 s5 ek0 em0 es0 el0 b0 ef0 ek1 em1 es1 el1 b1 ef1 []) [.ref 0] (fun v L => (∃ x : Int32, v = some (.int x)) ∧ L = (z_cw rf kn ma xa fa ca mb xb fb cb mt xt ft ct f0 g0 c0 m0 s0 f1 g1 c1 m1 s1 f2 g2 c2 m2 s2 f3 g3 c3 m3 s3 f4 g4 c4 m4 s4 f5 g5 c5 m5 s5 ek0 em0 es0 el0 b0 ef0 ek1 em1 es1 el1 b1 ef1 [])) := by
  refine z_body hl (by decide) rfl (Nat.le_of_ble_eq_true rfl) ?_
  show z_J G l mX8_pairsOfTables (z_SF 10 0 0 (z_cw rf kn ma xa fa ca mb xb fb cb mt xt ft ct f0 g0 c0 m0 s0 f1 g1 c1 m1 s1 f2 g2 c2 m2 s2 f3 g3 c3 m3 s3 f4 g4 c4 m4 s4 f5 g5 c5 m5 s5 ek0 em0 es0 el0 b0 ef0 ek1 em1 es1 el1 b1 ef1 []) (fun v L => (∃ x : Int32, v = some (.int x)) ∧ L = (z_cw rf kn ma xa fa ca mb xb fb cb mt xt ft ct f0 g0 c0 m0 s0 f1 g1 c1 m1 s1 f2 g2 c2 m2 s2 f3 g3 c3 m3 s3 f4 g4 c4 m4 s4 f5 g5 c5 m5 s5 ek0 em0 es0 el0 b0 ef0 ek1 em1 es1 el1 b1 ef1 []))) 0 [(0, _)] [] _ 0 0
  refine j_iconst (v := 0) dX8_pairsOfTables_0 (by decide) ?_
  refine j_istore_n (lo' := [(1, _), (0, _)]) dX8_pairsOfTables_1 (by decide) rfl ?_
  refine j_aload_n dX8_pairsOfTables_2 rfl rfl ?_
  refine j_getf dX8_pairsOfTables_3 fX8_25 rfl rfl ?_
  refine j_astore_n (lo' := [(2, _), (1, _), (0, _)]) dX8_pairsOfTables_6 rfl (by decide) rfl ?_
  refine j_aload_n dX8_pairsOfTables_7 rfl rfl ?_
  refine j_alen dX8_pairsOfTables_8 rfl rfl rfl ?_
  refine j_istore_n (lo' := [(3, _), (2, _), (1, _), (0, _)]) dX8_pairsOfTables_9 (by decide) rfl ?_
  refine j_iconst (v := 0) dX8_pairsOfTables_10 (by decide) ?_
  refine j_istore (lo' := [(4, _), (3, _), (2, _), (1, _), (0, _)]) dX8_pairsOfTables_11 (by decide) rfl ?_
  refine j_iload dX8_pairsOfTables_13 rfl ?_
  refine j_iload_n dX8_pairsOfTables_15 rfl ?_
  refine j_icmp_ge (tgt := 39) dX8_pairsOfTables_16 (by decide) (fun c_16 => ?_) (fun c_16 => ?_)
  · exact absurd c_16 (by decide)
  · refine j_aload_n dX8_pairsOfTables_19 rfl rfl ?_
    refine j_iload dX8_pairsOfTables_20 rfl ?_
    refine j_aald (v := .ref 10) dX8_pairsOfTables_22 rfl rfl rfl (vp_in_iff.mpr (by decide)) rfl ?_
    refine j_astore (lo' := [(5, _), (4, _), (3, _), (2, _), (1, _), (0, _)]) dX8_pairsOfTables_23 rfl (by decide) rfl ?_
    refine j_iload_n dX8_pairsOfTables_25 rfl ?_
    refine j_aload dX8_pairsOfTables_26 rfl rfl ?_
    refine j_getf dX8_pairsOfTables_28 fX8_165 rfl rfl ?_
    refine j_iadd dX8_pairsOfTables_31 ?_
    refine j_istore_n (lo' := [(1, _), (5, _), (4, _), (3, _), (2, _), (0, _)]) dX8_pairsOfTables_32 (by decide) rfl ?_
    refine j_iinc (lo' := [(4, _), (1, _), (5, _), (3, _), (2, _), (0, _)]) dX8_pairsOfTables_33 rfl rfl (by decide) rfl ?_
    refine j_goto (tgt := 13) dX8_pairsOfTables_36 (by decide) ?_
    refine j_iload dX8_pairsOfTables_13 rfl ?_
    refine j_iload_n dX8_pairsOfTables_15 rfl ?_
    refine j_icmp_ge (tgt := 39) dX8_pairsOfTables_16 (by decide) (fun c_16 => ?_) (fun c_16 => ?_)
    · exact absurd c_16 (by decide)
    · refine j_aload_n dX8_pairsOfTables_19 rfl rfl ?_
      refine j_iload dX8_pairsOfTables_20 rfl ?_
      refine j_aald (v := .ref 16) dX8_pairsOfTables_22 rfl rfl rfl (vp_in_iff.mpr (by decide)) rfl ?_
      refine j_astore (lo' := [(5, _), (4, _), (1, _), (3, _), (2, _), (0, _)]) dX8_pairsOfTables_23 rfl (by decide) rfl ?_
      refine j_iload_n dX8_pairsOfTables_25 rfl ?_
      refine j_aload dX8_pairsOfTables_26 rfl rfl ?_
      refine j_getf dX8_pairsOfTables_28 fX8_165 rfl rfl ?_
      refine j_iadd dX8_pairsOfTables_31 ?_
      refine j_istore_n (lo' := [(1, _), (5, _), (4, _), (3, _), (2, _), (0, _)]) dX8_pairsOfTables_32 (by decide) rfl ?_
      refine j_iinc (lo' := [(4, _), (1, _), (5, _), (3, _), (2, _), (0, _)]) dX8_pairsOfTables_33 rfl rfl (by decide) rfl ?_
      refine j_goto (tgt := 13) dX8_pairsOfTables_36 (by decide) ?_
      refine j_iload dX8_pairsOfTables_13 rfl ?_
      refine j_iload_n dX8_pairsOfTables_15 rfl ?_
      refine j_icmp_ge (tgt := 39) dX8_pairsOfTables_16 (by decide) (fun c_16 => ?_) (fun c_16 => ?_)
      · exact absurd c_16 (by decide)
      · refine j_aload_n dX8_pairsOfTables_19 rfl rfl ?_
        refine j_iload dX8_pairsOfTables_20 rfl ?_
        refine j_aald (v := .ref 21) dX8_pairsOfTables_22 rfl rfl rfl (vp_in_iff.mpr (by decide)) rfl ?_
        refine j_astore (lo' := [(5, _), (4, _), (1, _), (3, _), (2, _), (0, _)]) dX8_pairsOfTables_23 rfl (by decide) rfl ?_
        refine j_iload_n dX8_pairsOfTables_25 rfl ?_
        refine j_aload dX8_pairsOfTables_26 rfl rfl ?_
        refine j_getf dX8_pairsOfTables_28 fX8_165 rfl rfl ?_
        refine j_iadd dX8_pairsOfTables_31 ?_
        refine j_istore_n (lo' := [(1, _), (5, _), (4, _), (3, _), (2, _), (0, _)]) dX8_pairsOfTables_32 (by decide) rfl ?_
        refine j_iinc (lo' := [(4, _), (1, _), (5, _), (3, _), (2, _), (0, _)]) dX8_pairsOfTables_33 rfl rfl (by decide) rfl ?_
        refine j_goto (tgt := 13) dX8_pairsOfTables_36 (by decide) ?_
        refine j_iload dX8_pairsOfTables_13 rfl ?_
        refine j_iload_n dX8_pairsOfTables_15 rfl ?_
        refine j_icmp_ge (tgt := 39) dX8_pairsOfTables_16 (by decide) (fun c_16 => ?_) (fun c_16 => ?_)
        · refine j_iload_n dX8_pairsOfTables_39 rfl ?_
          refine j_iret dX8_pairsOfTables_40 rfl rfl ?_ (Nat.le_of_ble_eq_true rfl) (Nat.le_of_ble_eq_true rfl)
          exact ⟨rfl, rfl, ⟨_, rfl⟩, rfl⟩
        · exact absurd (by decide) c_16
set_option maxRecDepth 100000 in
set_option maxHeartbeats 8000000 in
theorem c_X8_numbersHeard (hl : l.stackTraces = false) (rf : Int32) (kn : Int32) (ma : Int32) (xa : Bool) (fa : Nat → Int32) (ca : Nat → Int32) (mb : Int32) (xb : Bool) (fb : Nat → Int32) (cb : Nat → Int32) (mt : Int32) (xt : Bool) (ft : Nat → Int32) (ct : Nat → Int32) (f0 : Nat → Int32) (g0 : Nat → Int32) (c0 : Nat → Int32) (m0 : Int32) (s0 : Int32) (f1 : Nat → Int32) (g1 : Nat → Int32) (c1 : Nat → Int32) (m1 : Int32) (s1 : Int32) (f2 : Nat → Int32) (g2 : Nat → Int32) (c2 : Nat → Int32) (m2 : Int32) (s2 : Int32) (f3 : Nat → Int32) (g3 : Nat → Int32) (c3 : Nat → Int32) (m3 : Int32) (s3 : Int32) (f4 : Nat → Int32) (g4 : Nat → Int32) (c4 : Nat → Int32) (m4 : Int32) (s4 : Int32) (f5 : Nat → Int32) (g5 : Nat → Int32) (c5 : Nat → Int32) (m5 : Int32) (s5 : Int32) (ek0 : Int32) (em0 : Int32) (es0 : Int32) (el0 : Int32) (b0 : Int32) (ef0 : Nat → Int32) (ek1 : Int32) (em1 : Int32) (es1 : Int32) (el1 : Int32) (b1 : Int32) (ef1 : Nat → Int32) : z_CF G l mX8_numbersHeard 10 0 0 (z_cw rf kn ma xa fa ca mb xb fb cb mt xt ft ct f0 g0 c0 m0 s0 f1 g1 c1 m1 s1 f2 g2 c2 m2 s2 f3 g3 c3 m3 s3 f4 g4 c4 m4 s4 f5 g5 c5 m5 s5 ek0 em0 es0 el0 b0 ef0 ek1 em1 es1 el1 b1 ef1 []) [.ref 0] (fun v L => (∃ x : Int32, v = some (.int x)) ∧ L = (z_cw rf kn ma xa fa ca mb xb fb cb mt xt ft ct f0 g0 c0 m0 s0 f1 g1 c1 m1 s1 f2 g2 c2 m2 s2 f3 g3 c3 m3 s3 f4 g4 c4 m4 s4 f5 g5 c5 m5 s5 ek0 em0 es0 el0 b0 ef0 ek1 em1 es1 el1 b1 ef1 [])) := by
  refine z_body hl (by decide) rfl (Nat.le_of_ble_eq_true rfl) ?_
  show z_J G l mX8_numbersHeard (z_SF 10 0 0 (z_cw rf kn ma xa fa ca mb xb fb cb mt xt ft ct f0 g0 c0 m0 s0 f1 g1 c1 m1 s1 f2 g2 c2 m2 s2 f3 g3 c3 m3 s3 f4 g4 c4 m4 s4 f5 g5 c5 m5 s5 ek0 em0 es0 el0 b0 ef0 ek1 em1 es1 el1 b1 ef1 []) (fun v L => (∃ x : Int32, v = some (.int x)) ∧ L = (z_cw rf kn ma xa fa ca mb xb fb cb mt xt ft ct f0 g0 c0 m0 s0 f1 g1 c1 m1 s1 f2 g2 c2 m2 s2 f3 g3 c3 m3 s3 f4 g4 c4 m4 s4 f5 g5 c5 m5 s5 ek0 em0 es0 el0 b0 ef0 ek1 em1 es1 el1 b1 ef1 []))) 0 [(0, _)] [] _ 0 0
  refine j_iconst (v := 0) dX8_numbersHeard_0 (by decide) ?_
  refine j_istore_n (lo' := [(1, _), (0, _)]) dX8_numbersHeard_1 (by decide) rfl ?_
  refine j_aload_n dX8_numbersHeard_2 rfl rfl ?_
  refine j_getf dX8_numbersHeard_3 fX8_32 rfl rfl ?_
  refine j_astore_n (lo' := [(2, _), (1, _), (0, _)]) dX8_numbersHeard_6 rfl (by decide) rfl ?_
  refine j_aload_n dX8_numbersHeard_7 rfl rfl ?_
  refine j_alen dX8_numbersHeard_8 rfl rfl rfl ?_
  refine j_istore_n (lo' := [(3, _), (2, _), (1, _), (0, _)]) dX8_numbersHeard_9 (by decide) rfl ?_
  refine j_iconst (v := 0) dX8_numbersHeard_10 (by decide) ?_
  refine j_istore (lo' := [(4, _), (3, _), (2, _), (1, _), (0, _)]) dX8_numbersHeard_11 (by decide) rfl ?_
  refine j_iload dX8_numbersHeard_13 rfl ?_
  refine j_iload_n dX8_numbersHeard_15 rfl ?_
  refine j_icmp_ge (tgt := 39) dX8_numbersHeard_16 (by decide) (fun c_16 => ?_) (fun c_16 => ?_)
  · exact absurd c_16 (by decide)
  · refine j_aload_n dX8_numbersHeard_19 rfl rfl ?_
    refine j_iload dX8_numbersHeard_20 rfl ?_
    refine j_aald (v := .ref 27) dX8_numbersHeard_22 rfl rfl rfl (vp_in_iff.mpr (by decide)) rfl ?_
    refine j_astore (lo' := [(5, _), (4, _), (3, _), (2, _), (1, _), (0, _)]) dX8_numbersHeard_23 rfl (by decide) rfl ?_
    refine j_iload_n dX8_numbersHeard_25 rfl ?_
    refine j_aload dX8_numbersHeard_26 rfl rfl ?_
    refine j_getf dX8_numbersHeard_28 fX8_183 rfl rfl ?_
    refine j_iadd dX8_numbersHeard_31 ?_
    refine j_istore_n (lo' := [(1, _), (5, _), (4, _), (3, _), (2, _), (0, _)]) dX8_numbersHeard_32 (by decide) rfl ?_
    refine j_iinc (lo' := [(4, _), (1, _), (5, _), (3, _), (2, _), (0, _)]) dX8_numbersHeard_33 rfl rfl (by decide) rfl ?_
    refine j_goto (tgt := 13) dX8_numbersHeard_36 (by decide) ?_
    refine j_iload dX8_numbersHeard_13 rfl ?_
    refine j_iload_n dX8_numbersHeard_15 rfl ?_
    refine j_icmp_ge (tgt := 39) dX8_numbersHeard_16 (by decide) (fun c_16 => ?_) (fun c_16 => ?_)
    · exact absurd c_16 (by decide)
    · refine j_aload_n dX8_numbersHeard_19 rfl rfl ?_
      refine j_iload dX8_numbersHeard_20 rfl ?_
      refine j_aald (v := .ref 29) dX8_numbersHeard_22 rfl rfl rfl (vp_in_iff.mpr (by decide)) rfl ?_
      refine j_astore (lo' := [(5, _), (4, _), (1, _), (3, _), (2, _), (0, _)]) dX8_numbersHeard_23 rfl (by decide) rfl ?_
      refine j_iload_n dX8_numbersHeard_25 rfl ?_
      refine j_aload dX8_numbersHeard_26 rfl rfl ?_
      refine j_getf dX8_numbersHeard_28 fX8_183 rfl rfl ?_
      refine j_iadd dX8_numbersHeard_31 ?_
      refine j_istore_n (lo' := [(1, _), (5, _), (4, _), (3, _), (2, _), (0, _)]) dX8_numbersHeard_32 (by decide) rfl ?_
      refine j_iinc (lo' := [(4, _), (1, _), (5, _), (3, _), (2, _), (0, _)]) dX8_numbersHeard_33 rfl rfl (by decide) rfl ?_
      refine j_goto (tgt := 13) dX8_numbersHeard_36 (by decide) ?_
      refine j_iload dX8_numbersHeard_13 rfl ?_
      refine j_iload_n dX8_numbersHeard_15 rfl ?_
      refine j_icmp_ge (tgt := 39) dX8_numbersHeard_16 (by decide) (fun c_16 => ?_) (fun c_16 => ?_)
      · refine j_iload_n dX8_numbersHeard_39 rfl ?_
        refine j_iret dX8_numbersHeard_40 rfl rfl ?_ (Nat.le_of_ble_eq_true rfl) (Nat.le_of_ble_eq_true rfl)
        exact ⟨rfl, rfl, ⟨_, rfl⟩, rfl⟩
      · exact absurd (by decide) c_16
set_option maxRecDepth 100000 in
set_option maxHeartbeats 8000000 in
theorem c_X8_house (hl : l.stackTraces = false) (rf : Int32) (kn : Int32) (ma : Int32) (xa : Bool) (fa : Nat → Int32) (ca : Nat → Int32) (mb : Int32) (xb : Bool) (fb : Nat → Int32) (cb : Nat → Int32) (mt : Int32) (xt : Bool) (ft : Nat → Int32) (ct : Nat → Int32) (f0 : Nat → Int32) (g0 : Nat → Int32) (c0 : Nat → Int32) (m0 : Int32) (s0 : Int32) (f1 : Nat → Int32) (g1 : Nat → Int32) (c1 : Nat → Int32) (m1 : Int32) (s1 : Int32) (f2 : Nat → Int32) (g2 : Nat → Int32) (c2 : Nat → Int32) (m2 : Int32) (s2 : Int32) (f3 : Nat → Int32) (g3 : Nat → Int32) (c3 : Nat → Int32) (m3 : Int32) (s3 : Int32) (f4 : Nat → Int32) (g4 : Nat → Int32) (c4 : Nat → Int32) (m4 : Int32) (s4 : Int32) (f5 : Nat → Int32) (g5 : Nat → Int32) (c5 : Nat → Int32) (m5 : Int32) (s5 : Int32) (ek0 : Int32) (em0 : Int32) (es0 : Int32) (el0 : Int32) (b0 : Int32) (ef0 : Nat → Int32) (ek1 : Int32) (em1 : Int32) (es1 : Int32) (el1 : Int32) (b1 : Int32) (ef1 : Nat → Int32) (p : Int32) (h0 : z_m20 m0) (h1 : z_m20 m1) (h2 : z_m20 m2) (h3 : z_m20 m3) (h4 : z_m20 m4) (h5 : z_m20 m5) : z_CX G l mX8_house 20 14 120 (z_cw rf kn ma xa fa ca mb xb fb cb mt xt ft ct f0 g0 c0 m0 s0 f1 g1 c1 m1 s1 f2 g2 c2 m2 s2 f3 g3 c3 m3 s3 f4 g4 c4 m4 s4 f5 g5 c5 m5 s5 ek0 em0 es0 el0 b0 ef0 ek1 em1 es1 el1 b1 ef1 []) [.ref 0, .int p] (fun v L => (∃ x : Int32, v = some (.int x)) ∧ z_Wk kn xa xb b0 b1 L) (fun E L => z_xA E ∧ L = (z_cw rf kn ma xa fa ca mb xb fb cb mt xt ft ct f0 g0 c0 m0 s0 f1 g1 c1 m1 s1 f2 g2 c2 m2 s2 f3 g3 c3 m3 s3 f4 g4 c4 m4 s4 f5 g5 c5 m5 s5 ek0 em0 es0 el0 b0 ef0 ek1 em1 es1 el1 b1 ef1 [])) := by
  refine z_body hl (by decide) rfl (Nat.le_of_ble_eq_true rfl) ?_
  show z_J G l mX8_house (z_SX 20 14 120 (z_cw rf kn ma xa fa ca mb xb fb cb mt xt ft ct f0 g0 c0 m0 s0 f1 g1 c1 m1 s1 f2 g2 c2 m2 s2 f3 g3 c3 m3 s3 f4 g4 c4 m4 s4 f5 g5 c5 m5 s5 ek0 em0 es0 el0 b0 ef0 ek1 em1 es1 el1 b1 ef1 []) (fun v L => (∃ x : Int32, v = some (.int x)) ∧ z_Wk kn xa xb b0 b1 L) (fun E L => z_xA E ∧ L = (z_cw rf kn ma xa fa ca mb xb fb cb mt xt ft ct f0 g0 c0 m0 s0 f1 g1 c1 m1 s1 f2 g2 c2 m2 s2 f3 g3 c3 m3 s3 f4 g4 c4 m4 s4 f5 g5 c5 m5 s5 ek0 em0 es0 el0 b0 ef0 ek1 em1 es1 el1 b1 ef1 []))) 0 [(0, _), (1, _)] [] _ 0 0
  refine j_iload_n dX8_house_0 rfl ?_
  refine j_iconst (v := 0) dX8_house_1 (by decide) ?_
  refine j_iconst (v := 4) dX8_house_2 (by decide) ?_
  refine j_callS dX8_house_3 kX8_checkRange lX8_72 stX8_checkRange (c_X8_checkRange hl _ _ _ _) (Nat.le_of_ble_eq_true rfl) ⟨(Nat.le_of_ble_eq_true rfl), (Nat.le_of_ble_eq_true rfl)⟩ rfl (Nat.le_of_ble_eq_true rfl) rfl rfl (fun _ _ h => by obtain ⟨h1, rfl⟩ := h; exact ⟨rfl, rfl, x_A_A h1, rfl⟩) ?_
  rintro _ _ ⟨rfl, rfl⟩
  refine j_iload_n dX8_house_6 rfl ?_
  rcases z_sw4 p with rfl | rfl | rfl | rfl | hp
  · refine j_tsIn (tgt := 36) dX8_house_7 (by decide) (by decide) rfl (by decide) ?_
    refine j_aload_n dX8_house_36 rfl rfl ?_
    refine j_callV (q := (RX8, TX8, 9)) dX8_house_37 kX8_valuesOfRows lX8_247 inX8_valuesOfRows seX8_valuesOfRows rfl rfl (z_dirF (c_X8_valuesOfRows hl _ _ _ _ _ _ _ _ _ _ _ _ _ _ _ _ _ _ _ _ _ _ _ _ _ _ _ _ _ _ _ _ _ _ _ _ _ _ _ _ _ _ _ _ _ _ _ _ _ _ _ _ _ _ _ _)) (Nat.le_of_ble_eq_true rfl) ⟨(Nat.le_of_ble_eq_true rfl), (Nat.le_of_ble_eq_true rfl)⟩ rfl (Nat.le_of_ble_eq_true rfl) rfl rfl (fun _ _ h => h.elim) ?_
    rintro _ _ ⟨_, ⟨⟨_, rfl⟩, rfl⟩, rfl⟩
    refine j_iret dX8_house_40 rfl rfl ?_ (Nat.le_of_ble_eq_true rfl) (Nat.le_of_ble_eq_true rfl)
    exact ⟨rfl, rfl, ⟨_, rfl⟩, (z_wk (by first | assumption | exact z_m20z) (by first | assumption | exact z_m20z) (by first | assumption | exact z_m20z) (by first | assumption | exact z_m20z) (by first | assumption | exact z_m20z) (by first | assumption | exact z_m20z))⟩
  · refine j_tsIn (tgt := 41) dX8_house_7 (by decide) (by decide) rfl (by decide) ?_
    refine j_aload_n dX8_house_41 rfl rfl ?_
    refine j_callV (q := (RX8, TX8, 9)) dX8_house_42 kX8_pairsOfTables lX8_250 inX8_pairsOfTables seX8_pairsOfTables rfl rfl (z_dirF (c_X8_pairsOfTables hl _ _ _ _ _ _ _ _ _ _ _ _ _ _ _ _ _ _ _ _ _ _ _ _ _ _ _ _ _ _ _ _ _ _ _ _ _ _ _ _ _ _ _ _ _ _ _ _ _ _ _ _ _ _ _ _)) (Nat.le_of_ble_eq_true rfl) ⟨(Nat.le_of_ble_eq_true rfl), (Nat.le_of_ble_eq_true rfl)⟩ rfl (Nat.le_of_ble_eq_true rfl) rfl rfl (fun _ _ h => h.elim) ?_
    rintro _ _ ⟨_, ⟨⟨_, rfl⟩, rfl⟩, rfl⟩
    refine j_iret dX8_house_45 rfl rfl ?_ (Nat.le_of_ble_eq_true rfl) (Nat.le_of_ble_eq_true rfl)
    exact ⟨rfl, rfl, ⟨_, rfl⟩, (z_wk (by first | assumption | exact z_m20z) (by first | assumption | exact z_m20z) (by first | assumption | exact z_m20z) (by first | assumption | exact z_m20z) (by first | assumption | exact z_m20z) (by first | assumption | exact z_m20z))⟩
  · refine j_tsIn (tgt := 46) dX8_house_7 (by decide) (by decide) rfl (by decide) ?_
    refine j_aload_n dX8_house_46 rfl rfl ?_
    refine j_callV (q := (RX8, TX8, 9)) dX8_house_47 kX8_numbersHeard lX8_253 inX8_numbersHeard seX8_numbersHeard rfl rfl (z_dirF (c_X8_numbersHeard hl _ _ _ _ _ _ _ _ _ _ _ _ _ _ _ _ _ _ _ _ _ _ _ _ _ _ _ _ _ _ _ _ _ _ _ _ _ _ _ _ _ _ _ _ _ _ _ _ _ _ _ _ _ _ _ _)) (Nat.le_of_ble_eq_true rfl) ⟨(Nat.le_of_ble_eq_true rfl), (Nat.le_of_ble_eq_true rfl)⟩ rfl (Nat.le_of_ble_eq_true rfl) rfl rfl (fun _ _ h => h.elim) ?_
    rintro _ _ ⟨_, ⟨⟨_, rfl⟩, rfl⟩, rfl⟩
    refine j_iret dX8_house_50 rfl rfl ?_ (Nat.le_of_ble_eq_true rfl) (Nat.le_of_ble_eq_true rfl)
    exact ⟨rfl, rfl, ⟨_, rfl⟩, (z_wk (by first | assumption | exact z_m20z) (by first | assumption | exact z_m20z) (by first | assumption | exact z_m20z) (by first | assumption | exact z_m20z) (by first | assumption | exact z_m20z) (by first | assumption | exact z_m20z))⟩
  · refine j_tsIn (tgt := 51) dX8_house_7 (by decide) (by decide) rfl (by decide) ?_
    refine j_aload_n dX8_house_51 rfl rfl ?_
    refine j_getf dX8_house_52 fX8_256 rfl rfl ?_
    refine j_iret dX8_house_55 rfl rfl ?_ (Nat.le_of_ble_eq_true rfl) (Nat.le_of_ble_eq_true rfl)
    exact ⟨rfl, rfl, ⟨_, rfl⟩, (z_wk (by first | assumption | exact z_m20z) (by first | assumption | exact z_m20z) (by first | assumption | exact z_m20z) (by first | assumption | exact z_m20z) (by first | assumption | exact z_m20z) (by first | assumption | exact z_m20z))⟩
  · refine j_tsOut (tgt := 56) dX8_house_7 hp (by decide) ?_
    refine j_aload_n dX8_house_56 rfl rfl ?_
    refine j_getf dX8_house_57 fX8_244 rfl rfl ?_
    refine j_iret dX8_house_60 rfl rfl ?_ (Nat.le_of_ble_eq_true rfl) (Nat.le_of_ble_eq_true rfl)
    exact ⟨rfl, rfl, ⟨_, rfl⟩, (z_wk (by first | assumption | exact z_m20z) (by first | assumption | exact z_m20z) (by first | assumption | exact z_m20z) (by first | assumption | exact z_m20z) (by first | assumption | exact z_m20z) (by first | assumption | exact z_m20z))⟩
end ZL7
