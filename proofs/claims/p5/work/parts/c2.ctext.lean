section ZCtx3
variable {G : z_G} {l : Launch}
set_option maxRecDepth 100000 in
theorem px_isSound (hl : l.stackTraces = false) (w : z_W) (S : sp_S) (hW : sp_CW S w.1) : z_Con G l mX8_isSound 21 12 60 w [.ref 0] (fun v w9 => v = some (.int 1) ∧ sp_CW S w9.1 ∧ z_hi w w9) (fun _ _ => False) := by
  obtain ⟨L, P⟩ := w
  have hc := sp_CWc hW
  obtain ⟨fa, fb, mt, ft, ct, f0, g0, f1, g1, c1, f2, g2, c2, f3, g3, c3, m3, f4, g4, c4, m4, f5, g5, c5, m5, ef0, ef1, hra, hrb, ht0, ht1, ht2, he0, he1, hzm3, hzm4, hzm5, hL⟩ := id hW
  have hL : L = _ := hL
  subst hL
  refine z_weak (z_lift (X := fun _ _ => False) 51 hc.1 (by decide) hc.2 rfl (z_CFX (c_X8_isSound_s hl S fa fb mt ft ct f0 g0 f1 g1 c1 f2 g2 c2 f3 g3 c3 m3 f4 g4 c4 m4 f5 g5 c5 m5 ef0 ef1 hra hrb ht0 ht1 ht2 he0 he1 hzm3 hzm4 hzm5)) (fun v L' q => ?_) (fun E L' q => q.elim)) (fun v w' q => ?_) (fun E w' q => q.1.elim)
  · obtain ⟨rfl, mt', ft', ct', f3', g3', c3', m3', f4', g4', c4', m4', f5', g5', c5', m5', q3, q4, q5, rfl⟩ := q
    exact ⟨rfl, z_cwR, rfl⟩
  · obtain ⟨⟨q1, mt', ft', ct', f3', g3', c3', m3', f4', g4', c4', m4', f5', g5', c5', m5', q3, q4, q5, q⟩, hp⟩ := q
    have hk : sp_CW S w'.1 := ⟨fa, fb, mt', ft', ct', f0, g0, f1, g1, c1, f2, g2, c2, f3', g3', c3', m3', f4', g4', c4', m4', f5', g5', c5', m5', ef0, ef1, hra, hrb, ht0, ht1, ht2, he0, he1, q3, q4, q5, q⟩
    exact ⟨q1, hk, z_hi.of (sp_CWc hk).1 hp⟩
theorem px_isSound_k (hl : l.stackTraces = false) (w : z_W) (S : sp_S) (hW : sp_CW S w.1) : z_Con G l mX8_isSound 21 12 60 w [.ref 0] (fun v w9 => (∃ b : Bool, v = some (.int (z_bi b))) ∧ sp_CW S w9.1 ∧ z_hi w w9) (fun _ _ => False) := z_weak (px_isSound hl w S hW) (fun v w9 q => ⟨⟨true, q.1⟩, q.2⟩) (fun _ _ h => h)
theorem sp_CW.Wk {S : sp_S} {L : List z_E} (h : sp_CW S L) : ∃ (kn : Int32) (xa xb : Bool) (b0 b1 : Int32), z_Wk kn xa xb b0 b1 L := by
  obtain ⟨fa, fb, mt, ft, ct, f0, g0, f1, g1, c1, f2, g2, c2, f3, g3, c3, m3, f4, g4, c4, m4, f5, g5, c5, m5, ef0, ef1, hra, hrb, ht0, ht1, ht2, he0, he1, hzm3, hzm4, hzm5, rfl⟩ := h
  exact ⟨_, _, _, _, _, z_wk (sp_m20 ht0.len) (sp_m20 ht1.len) (sp_m20 ht2.len) hzm3 hzm4 hzm5⟩
set_option maxRecDepth 100000 in
set_option maxHeartbeats 8000000 in
theorem pt_rowText (hl : l.stackTraces = false) (w : z_W) (kn : Int32) (xa xb : Bool) (b0 b1 : Int32) (r : Int32) (hW : z_Wk kn xa xb b0 b1 w.1) (hf : z_fn w) : z_Con G l mX8_rowText 20 26 810 w [.ref 0, .int r] (fun v w9 => ∃ r, v = some (.ref r) ∧ w9.1 = w.1 ∧ z_hi w w9) (fun E w9 => z_xI E ∧ w9.1 = w.1 ∧ z_hi w w9) := by
  obtain ⟨rf, ma, fa, ca, mb, fb, cb, mt, xt, ft, ct, f0, g0, c0, m0, s0, f1, g1, c1, m1, s1, f2, g2, c2, m2, s2, f3, g3, c3, m3, s3, f4, g4, c4, m4, s4, f5, g5, c5, m5, s5, ek0, em0, es0, el0, ef0, ek1, em1, es1, el1, ef1, e0, e1, e2, e3, e4, e5, h1⟩ := id hW
  refine z_body hl (by decide) rfl (Nat.le_of_ble_eq_true rfl) ?_
  show z_J G l mX8_rowText _ 0 [(0, _), (1, _)] [] _ 0 0
  refine j_aload_n dX8_rowText_0 rfl rfl ?_
  refine j_iload_n dX8_rowText_1 rfl ?_
  refine j_callV (q := (RX8, TX8, 9)) dX8_rowText_2 kX8_rowFor lX8_46 inX8_rowFor seX8_rowFor (z_g1 h1 (by decide) rfl) rfl (z_liftro (Qv := fun v => ∃ n : Nat, v = some (.ref n) ∧ ((r = 0 ∧ n = 2) ∨ (r = 1 ∧ n = 6))) (Xv := z_xI) 51 h1 rfl (by decide) z_cwR rfl (c_X8_rowFor hl rf kn ma xa fa ca mb xb fb cb mt xt ft ct f0 g0 c0 m0 s0 f1 g1 c1 m1 s1 f2 g2 c2 m2 s2 f3 g3 c3 m3 s3 f4 g4 c4 m4 s4 f5 g5 c5 m5 s5 ek0 em0 es0 el0 b0 ef0 ek1 em1 es1 el1 b1 ef1 r) (fun v L q => by obtain ⟨n, q1, q2, q3⟩ := q; exact ⟨⟨n, q1, q2⟩, q3⟩) (fun v q => by obtain ⟨n, rfl, ⟨-, rfl⟩ | ⟨-, rfl⟩⟩ := q <;> rfl) (fun E L q => q)) (Nat.le_of_ble_eq_true rfl) ⟨(by show _ ≤ 26; omega), (by show _ ≤ 810; omega)⟩ rfl (Nat.le_of_ble_eq_true rfl) rfl rfl (fun _ _ h => ⟨h.1, by rw [h.2], by rw [h.2]; exact z_hi.rf⟩) ?_
  rintro _ _ ⟨⟨n36, rfl, ⟨-, rfl⟩ | ⟨-, rfl⟩⟩, hw36⟩
  · refine j_w w hw36 ?_
    refine j_astore_n (lo' := [(2, _), (0, _), (1, _)]) dX8_rowText_5 rfl (by decide) rfl ?_
    refine j_aload_n dX8_rowText_6 rfl rfl ?_
    refine j_getf dX8_rowText_7 fX8_206 (z_g1 h1 (by decide) rfl) rfl ?_
    refine j_aload_n dX8_rowText_10 rfl rfl ?_
    refine j_getf dX8_rowText_11 fX8_68 (z_g1 h1 (by decide) rfl) rfl ?_
    refine j_callS dX8_rowText_14 kX8_joined lX8_210 stX8_joined (cg_joined hl w 3 12 fa _ (by decide) (by decide) hf (z_g1 h1 (by decide) rfl)) (Nat.le_of_ble_eq_true rfl) ⟨(by show _ ≤ 26; omega), (by show _ ≤ 810; omega)⟩ rfl (Nat.le_of_ble_eq_true rfl) rfl rfl (fun _ _ h => h.elim) ?_
    rintro _ w1 ⟨r1, n1, rfl, lf1, ht1⟩
    have hf1 := lf1.2.2 hf
    have h1_1 := (lf1.1).trans h1
    refine j_aret dX8_rowText_17 rfl (Or.inl ⟨_, rfl⟩) rfl ?_ (by show _ ≤ 26; omega) (by show _ ≤ 810; omega)
    exact ⟨_, rfl, lf1.1, lf1.2⟩
  · refine j_w w hw36 ?_
    refine j_astore_n (lo' := [(2, _), (0, _), (1, _)]) dX8_rowText_5 rfl (by decide) rfl ?_
    refine j_aload_n dX8_rowText_6 rfl rfl ?_
    refine j_getf dX8_rowText_7 fX8_206 (z_g1 h1 (by decide) rfl) rfl ?_
    refine j_aload_n dX8_rowText_10 rfl rfl ?_
    refine j_getf dX8_rowText_11 fX8_68 (z_g1 h1 (by decide) rfl) rfl ?_
    refine j_callS dX8_rowText_14 kX8_joined lX8_210 stX8_joined (cg_joined hl w 7 12 fb _ (by decide) (by decide) hf (z_g1 h1 (by decide) rfl)) (Nat.le_of_ble_eq_true rfl) ⟨(by show _ ≤ 26; omega), (by show _ ≤ 810; omega)⟩ rfl (Nat.le_of_ble_eq_true rfl) rfl rfl (fun _ _ h => h.elim) ?_
    rintro _ w2 ⟨r2, n2, rfl, lf2, ht2⟩
    have hf2 := lf2.2.2 hf
    have h1_2 := (lf2.1).trans h1
    refine j_aret dX8_rowText_17 rfl (Or.inl ⟨_, rfl⟩) rfl ?_ (by show _ ≤ 26; omega) (by show _ ≤ 810; omega)
    exact ⟨_, rfl, lf2.1, lf2.2⟩
set_option maxRecDepth 100000 in
set_option maxHeartbeats 8000000 in
theorem pt_heardText (hl : l.stackTraces = false) (w : z_W) (kn : Int32) (xa xb : Bool) (b0 b1 : Int32) (r : Int32) (hW : z_Wk kn xa xb b0 b1 w.1) (hf : z_fn w) : z_Con G l mX8_heardText 20 26 810 w [.ref 0, .int r] (fun v w9 => ∃ r, v = some (.ref r) ∧ w9.1 = w.1 ∧ z_hi w w9) (fun E w9 => z_xI E ∧ w9.1 = w.1 ∧ z_hi w w9) := by
  obtain ⟨rf, ma, fa, ca, mb, fb, cb, mt, xt, ft, ct, f0, g0, c0, m0, s0, f1, g1, c1, m1, s1, f2, g2, c2, m2, s2, f3, g3, c3, m3, s3, f4, g4, c4, m4, s4, f5, g5, c5, m5, s5, ek0, em0, es0, el0, ef0, ek1, em1, es1, el1, ef1, e0, e1, e2, e3, e4, e5, h1⟩ := id hW
  refine z_body hl (by decide) rfl (Nat.le_of_ble_eq_true rfl) ?_
  show z_J G l mX8_heardText _ 0 [(0, _), (1, _)] [] _ 0 0
  refine j_aload_n dX8_heardText_0 rfl rfl ?_
  refine j_iload_n dX8_heardText_1 rfl ?_
  refine j_callV (q := (RX8, TX8, 9)) dX8_heardText_2 kX8_hearerFor lX8_87 inX8_hearerFor seX8_hearerFor (z_g1 h1 (by decide) rfl) rfl (z_liftro (Qv := fun v => ∃ n : Nat, v = some (.ref n) ∧ ((r = 0 ∧ n = 27) ∨ (r = 1 ∧ n = 29))) (Xv := z_xI) 51 h1 rfl (by decide) z_cwR rfl (c_X8_hearerFor hl rf kn ma xa fa ca mb xb fb cb mt xt ft ct f0 g0 c0 m0 s0 f1 g1 c1 m1 s1 f2 g2 c2 m2 s2 f3 g3 c3 m3 s3 f4 g4 c4 m4 s4 f5 g5 c5 m5 s5 ek0 em0 es0 el0 b0 ef0 ek1 em1 es1 el1 b1 ef1 r) (fun v L q => by obtain ⟨n, q1, q2, q3⟩ := q; exact ⟨⟨n, q1, q2⟩, q3⟩) (fun v q => by obtain ⟨n, rfl, ⟨-, rfl⟩ | ⟨-, rfl⟩⟩ := q <;> rfl) (fun E L q => q)) (Nat.le_of_ble_eq_true rfl) ⟨(by show _ ≤ 26; omega), (by show _ ≤ 810; omega)⟩ rfl (Nat.le_of_ble_eq_true rfl) rfl rfl (fun _ _ h => ⟨h.1, by rw [h.2], by rw [h.2]; exact z_hi.rf⟩) ?_
  rintro _ _ ⟨⟨n37, rfl, ⟨-, rfl⟩ | ⟨-, rfl⟩⟩, hw37⟩
  · refine j_w w hw37 ?_
    refine j_callV (q := (RX0, TX0, 6)) dX8_heardText_5 kX0_recent lX8_190 inX0_recent seX0_recent (z_g1 h1 (by decide) rfl) rfl (cg_recent hl w 27 28 ek0 em0 es0 el0 b0 ef0 (by decide) (by decide) hf (z_g1 h1 (by decide) rfl) (z_g1 h1 (by decide) rfl)) (Nat.le_of_ble_eq_true rfl) ⟨(by show _ ≤ 26; omega), (by show _ ≤ 810; omega)⟩ rfl (Nat.le_of_ble_eq_true rfl) rfl rfl (fun _ _ h => h.elim) ?_
    rintro _ w1 ⟨r1, n1, rfl, lf1, ht1⟩
    have hf1 := lf1.2.2 hf
    have h1_1 := (lf1.1).trans h1
    refine j_aret dX8_heardText_8 rfl (Or.inl ⟨_, rfl⟩) rfl ?_ (by show _ ≤ 26; omega) (by show _ ≤ 810; omega)
    exact ⟨_, rfl, lf1.1, lf1.2⟩
  · refine j_w w hw37 ?_
    refine j_callV (q := (RX0, TX0, 6)) dX8_heardText_5 kX0_recent lX8_190 inX0_recent seX0_recent (z_g1 h1 (by decide) rfl) rfl (cg_recent hl w 29 30 ek1 em1 es1 el1 b1 ef1 (by decide) (by decide) hf (z_g1 h1 (by decide) rfl) (z_g1 h1 (by decide) rfl)) (Nat.le_of_ble_eq_true rfl) ⟨(by show _ ≤ 26; omega), (by show _ ≤ 810; omega)⟩ rfl (Nat.le_of_ble_eq_true rfl) rfl rfl (fun _ _ h => h.elim) ?_
    rintro _ w2 ⟨r2, n2, rfl, lf2, ht2⟩
    have hf2 := lf2.2.2 hf
    have h1_2 := (lf2.1).trans h1
    refine j_aret dX8_heardText_8 rfl (Or.inl ⟨_, rfl⟩) rfl ?_ (by show _ ≤ 26; omega) (by show _ ≤ 810; omega)
    exact ⟨_, rfl, lf2.1, lf2.2⟩
set_option maxRecDepth 100000 in
set_option maxHeartbeats 8000000 in
theorem pt_text (hl : l.stackTraces = false) (w : z_W) (kn : Int32) (xa xb : Bool) (b0 b1 : Int32) (r : Int32) (hW : z_Wk kn xa xb b0 b1 w.1) (hf : z_fn w) : z_Con G l mX8_text 20 68 2460 w [.ref 0, .int r] (fun v w9 => ∃ r, v = some (.ref r) ∧ w9.1 = w.1 ∧ z_hi w w9) (fun E w9 => z_xI E ∧ w9.1 = w.1 ∧ z_hi w w9) := by
  obtain ⟨rf, ma, fa, ca, mb, fb, cb, mt, xt, ft, ct, f0, g0, c0, m0, s0, f1, g1, c1, m1, s1, f2, g2, c2, m2, s2, f3, g3, c3, m3, s3, f4, g4, c4, m4, s4, f5, g5, c5, m5, s5, ek0, em0, es0, el0, ef0, ek1, em1, es1, el1, ef1, e0, e1, e2, e3, e4, e5, h1⟩ := id hW
  refine z_body hl (by decide) rfl (Nat.le_of_ble_eq_true rfl) ?_
  show z_J G l mX8_text _ 0 [(0, _), (1, _)] [] _ 0 0
  refine j_aload_n dX8_text_0 rfl rfl ?_
  refine j_iload_n dX8_text_1 rfl ?_
  refine j_callV (q := (RX8, TX8, 9)) dX8_text_2 kX8_tableFor lX8_157 inX8_tableFor seX8_tableFor (z_g1 h1 (by decide) rfl) rfl (z_liftro (Qv := fun v => ∃ n : Nat, v = some (.ref n) ∧ ((r = 0 ∧ n = 10) ∨ (r = 1 ∧ n = 16) ∨ (r = 2 ∧ n = 21))) (Xv := z_xI) 51 h1 rfl (by decide) z_cwR rfl (c_X8_tableFor hl rf kn ma xa fa ca mb xb fb cb mt xt ft ct f0 g0 c0 m0 s0 f1 g1 c1 m1 s1 f2 g2 c2 m2 s2 f3 g3 c3 m3 s3 f4 g4 c4 m4 s4 f5 g5 c5 m5 s5 ek0 em0 es0 el0 b0 ef0 ek1 em1 es1 el1 b1 ef1 r) (fun v L q => by obtain ⟨n, q1, q2, q3⟩ := q; exact ⟨⟨n, q1, q2⟩, q3⟩) (fun v q => by obtain ⟨n, rfl, ⟨-, rfl⟩ | ⟨-, rfl⟩ | ⟨-, rfl⟩⟩ := q <;> rfl) (fun E L q => q)) (Nat.le_of_ble_eq_true rfl) ⟨(by show _ ≤ 68; omega), (by show _ ≤ 2460; omega)⟩ rfl (Nat.le_of_ble_eq_true rfl) rfl rfl (fun _ _ h => ⟨h.1, by rw [h.2], by rw [h.2]; exact z_hi.rf⟩) ?_
  rintro _ _ ⟨⟨n38, rfl, ⟨-, rfl⟩ | ⟨-, rfl⟩ | ⟨-, rfl⟩⟩, hw38⟩
  · refine j_w w hw38 ?_
    refine j_callV (q := (RX4, TX4, 5)) dX8_text_5 kX4_pairs lX8_227 inX4_pairs seX4_pairs (z_g1 h1 (by decide) rfl) rfl (cg_pairs hl w 10 11 12 13 14 f0 g0 c0 m0 s0 (by decide) (by decide) (by decide) (by decide) (by decide) (by decide) e0 hf (z_g1 h1 (by decide) rfl) (z_g1 h1 (by decide) rfl) (z_g1 h1 (by decide) rfl) (z_g1 h1 (by decide) rfl) (z_g1 h1 (by decide) rfl)) (Nat.le_of_ble_eq_true rfl) ⟨(by show _ ≤ 68; omega), (by show _ ≤ 2460; omega)⟩ rfl (Nat.le_of_ble_eq_true rfl) rfl rfl (fun _ _ h => h.elim) ?_
    rintro _ w1 ⟨r1, n1, rfl, lf1, ht1⟩
    have hf1 := lf1.2.2 hf
    have h1_1 := (lf1.1).trans h1
    refine j_aret dX8_text_8 rfl (Or.inl ⟨_, rfl⟩) rfl ?_ (by show _ ≤ 68; omega) (by show _ ≤ 2460; omega)
    exact ⟨_, rfl, lf1.1, lf1.2⟩
  · refine j_w w hw38 ?_
    refine j_callV (q := (RX4, TX4, 5)) dX8_text_5 kX4_pairs lX8_227 inX4_pairs seX4_pairs (z_g1 h1 (by decide) rfl) rfl (cg_pairs hl w 16 17 18 19 20 f1 g1 c1 m1 s1 (by decide) (by decide) (by decide) (by decide) (by decide) (by decide) e1 hf (z_g1 h1 (by decide) rfl) (z_g1 h1 (by decide) rfl) (z_g1 h1 (by decide) rfl) (z_g1 h1 (by decide) rfl) (z_g1 h1 (by decide) rfl)) (Nat.le_of_ble_eq_true rfl) ⟨(by show _ ≤ 68; omega), (by show _ ≤ 2460; omega)⟩ rfl (Nat.le_of_ble_eq_true rfl) rfl rfl (fun _ _ h => h.elim) ?_
    rintro _ w2 ⟨r2, n2, rfl, lf2, ht2⟩
    have hf2 := lf2.2.2 hf
    have h1_2 := (lf2.1).trans h1
    refine j_aret dX8_text_8 rfl (Or.inl ⟨_, rfl⟩) rfl ?_ (by show _ ≤ 68; omega) (by show _ ≤ 2460; omega)
    exact ⟨_, rfl, lf2.1, lf2.2⟩
  · refine j_w w hw38 ?_
    refine j_callV (q := (RX4, TX4, 5)) dX8_text_5 kX4_pairs lX8_227 inX4_pairs seX4_pairs (z_g1 h1 (by decide) rfl) rfl (cg_pairs hl w 21 22 23 24 25 f2 g2 c2 m2 s2 (by decide) (by decide) (by decide) (by decide) (by decide) (by decide) e2 hf (z_g1 h1 (by decide) rfl) (z_g1 h1 (by decide) rfl) (z_g1 h1 (by decide) rfl) (z_g1 h1 (by decide) rfl) (z_g1 h1 (by decide) rfl)) (Nat.le_of_ble_eq_true rfl) ⟨(by show _ ≤ 68; omega), (by show _ ≤ 2460; omega)⟩ rfl (Nat.le_of_ble_eq_true rfl) rfl rfl (fun _ _ h => h.elim) ?_
    rintro _ w3 ⟨r3, n3, rfl, lf3, ht3⟩
    have hf3 := lf3.2.2 hf
    have h1_3 := (lf3.1).trans h1
    refine j_aret dX8_text_8 rfl (Or.inl ⟨_, rfl⟩) rfl ?_ (by show _ ≤ 68; omega) (by show _ ≤ 2460; omega)
    exact ⟨_, rfl, lf3.1, lf3.2⟩
set_option maxRecDepth 100000 in
set_option maxHeartbeats 16000000 in
theorem pt_digest (hl : l.stackTraces = false) (w : z_W) (S : sp_S) (hS : sp_CW S w.1) (kn : Int32) (xa xb : Bool) (b0 b1 : Int32) (hW : z_Wk kn xa xb b0 b1 w.1) (hf : z_fn w) : z_Con G l mX8_digest 24 60 1660 w [.ref 0] (fun v w9 => (∃ x : Int64, v = some (.long x)) ∧ sp_CW S w9.1 ∧ z_hi w w9) (fun _ _ => False) := by
  obtain ⟨rf, ma, fa, ca, mb, fb, cb, mt, xt, ft, ct, f0, g0, c0, m0, s0, f1, g1, c1, m1, s1, f2, g2, c2, m2, s2, f3, g3, c3, m3, s3, f4, g4, c4, m4, s4, f5, g5, c5, m5, s5, ek0, em0, es0, el0, ef0, ek1, em1, es1, el1, ef1, e0, e1, e2, e3, e4, e5, h1⟩ := id hW
  refine z_body hl (by decide) rfl (Nat.le_of_ble_eq_true rfl) ?_
  show z_J G l mX8_digest _ 0 [(0, _)] [] _ 0 0
  refine j_ldc2 dX8_digest_0 kcX8_272 ?_
  refine j_lstore_n (lo' := [(1, _), (0, _)]) dX8_digest_3 (by decide) rfl ?_
  refine j_iconst (v := 0) dX8_digest_4 (by decide) ?_
  refine j_istore_n (lo' := [(3, _), (1, _), (0, _)]) dX8_digest_5 (by decide) rfl ?_
  have loop6 : ∀ (n1 : Nat) (w1 : z_W) (k : Nat) (d : Int64), (z_lf w w1) → (z_fn w1) → (k ≤ 5) → (5 < k + n1) → z_J G l mX8_digest (24, 60, 1660, w, (fun v w9 => (∃ x : Int64, v = some (.long x)) ∧ sp_CW S w9.1 ∧ z_hi w w9), (fun _ _ => False)) 6 [(0, .ref 0), (1, .long d), (3, .int (nI k))] [] w1 (0) (0) := by
    intro n1
    induction n1 with
    | zero => intro w1 k d hlf6 hfn6 ha1 hb1; exact absurd hb1 (by omega)
    | succ n1 i1 =>
      intro w1 k d hlf6 hfn6 ha1 hb1
      refine j_iload_n dX8_digest_6 rfl ?_
      refine j_iconst (v := 4) dX8_digest_7 (by decide) ?_
      refine j_icmp_gt (tgt := 27) dX8_digest_8 (by decide) (fun c_8_14 => ?_) (fun c_8_14 => ?_)
      · have hb8 : 4 < k := (nI_ltI (a := 4) (b := k) (by omega) (by omega)).mp c_8_14
        refine j_aload_n dX8_digest_27 rfl rfl ?_
        refine j_getf dX8_digest_28 fX8_10 (z_g1 (hlf6.1.trans h1) (by decide) rfl) rfl ?_
        refine j_astore_n (lo' := [(3, _), (0, _), (1, _)]) dX8_digest_31 rfl (by decide) rfl ?_
        refine j_aload_n dX8_digest_32 rfl rfl ?_
        refine j_alen dX8_digest_33 (z_g1 (hlf6.1.trans h1) (by decide) rfl) rfl rfl ?_
        refine j_istore (lo' := [(4, _), (3, _), (0, _), (1, _)]) dX8_digest_34 (by decide) rfl ?_
        refine j_iconst (v := 0) dX8_digest_36 (by decide) ?_
        refine j_istore (lo' := [(5, _), (4, _), (3, _), (0, _), (1, _)]) dX8_digest_37 (by decide) rfl ?_
        have loop39 : ∀ (n2 : Nat) (w2 : z_W) (k : Nat) (d : Int64), (z_lf w w2) → (z_fn w2) → (k ≤ 2) → (2 < k + n2) → z_J G l mX8_digest (24, 60, 1660, w, (fun v w9 => (∃ x : Int64, v = some (.long x)) ∧ sp_CW S w9.1 ∧ z_hi w w9), (fun _ _ => False)) 39 [(0, .ref 0), (1, .long d), (3, .ref 1), (4, .int (nI 2)), (5, .int (nI k))] [] w2 (0) (0) := by
          intro n2
          induction n2 with
          | zero => intro w2 k d hlf39 hfn39 ha2 hb2; exact absurd hb2 (by omega)
          | succ n2 i2 =>
            intro w2 k d hlf39 hfn39 ha2 hb2
            refine j_iload dX8_digest_39 rfl ?_
            refine j_iload dX8_digest_41 rfl ?_
            refine j_icmp_ge (tgt := 65) dX8_digest_43 (by decide) (fun c_43_32 => ?_) (fun c_43_32 => ?_)
            · have hb43 : 2 ≤ k := (nI_leI (a := 2) (b := k) (by omega) (by omega)).mp c_43_32
              refine j_aload_n dX8_digest_65 rfl rfl ?_
              refine j_getf dX8_digest_66 fX8_25 (z_g1 (hlf39.1.trans h1) (by decide) rfl) rfl ?_
              refine j_astore_n (lo' := [(3, _), (0, _), (1, _), (4, _), (5, _)]) dX8_digest_69 rfl (by decide) rfl ?_
              refine j_aload_n dX8_digest_70 rfl rfl ?_
              refine j_alen dX8_digest_71 (z_g1 (hlf39.1.trans h1) (by decide) rfl) rfl rfl ?_
              refine j_istore (lo' := [(4, _), (3, _), (0, _), (1, _), (5, _)]) dX8_digest_72 (by decide) rfl ?_
              refine j_iconst (v := 0) dX8_digest_74 (by decide) ?_
              refine j_istore (lo' := [(5, _), (4, _), (3, _), (0, _), (1, _)]) dX8_digest_75 (by decide) rfl ?_
              have loop77 : ∀ (n3 : Nat) (w3 : z_W) (k : Nat) (d : Int64), (z_lf w w3) → (z_fn w3) → (k ≤ 3) → (3 < k + n3) → z_J G l mX8_digest (24, 60, 1660, w, (fun v w9 => (∃ x : Int64, v = some (.long x)) ∧ sp_CW S w9.1 ∧ z_hi w w9), (fun _ _ => False)) 77 [(0, .ref 0), (1, .long d), (3, .ref 15), (4, .int (nI 3)), (5, .int (nI k))] [] w3 (0) (0) := by
                intro n3
                induction n3 with
                | zero => intro w3 k d hlf77 hfn77 ha3 hb3; exact absurd hb3 (by omega)
                | succ n3 i3 =>
                  intro w3 k d hlf77 hfn77 ha3 hb3
                  refine j_iload dX8_digest_77 rfl ?_
                  refine j_iload dX8_digest_79 rfl ?_
                  refine j_icmp_ge (tgt := 103) dX8_digest_81 (by decide) (fun c_81_50 => ?_) (fun c_81_50 => ?_)
                  · have hb81 : 3 ≤ k := (nI_leI (a := 3) (b := k) (by omega) (by omega)).mp c_81_50
                    refine j_iconst (v := 0) dX8_digest_103 (by decide) ?_
                    refine j_istore_n (lo' := [(3, _), (0, _), (1, _), (4, _), (5, _)]) dX8_digest_104 (by decide) rfl ?_
                    have loop105 : ∀ (n4 : Nat) (w4 : z_W) (k : Nat) (d : Int64), (z_lf w w4) → (z_fn w4) → (k ≤ 7) → (7 < k + n4) → z_J G l mX8_digest (24, 60, 1660, w, (fun v w9 => (∃ x : Int64, v = some (.long x)) ∧ sp_CW S w9.1 ∧ z_hi w w9), (fun _ _ => False)) 105 [(0, .ref 0), (1, .long d), (3, .int (nI k))] [] w4 (0) (0) := by
                      intro n4
                      induction n4 with
                      | zero => intro w4 k d hlf105 hfn105 ha4 hb4; exact absurd hb4 (by omega)
                      | succ n4 i4 =>
                        intro w4 k d hlf105 hfn105 ha4 hb4
                        refine j_iload_n dX8_digest_105 rfl ?_
                        refine j_bipush (v := 6) dX8_digest_106 (by decide) ?_
                        refine j_icmp_gt (tgt := 133) dX8_digest_108 (by decide) (fun c_108_62 => ?_) (fun c_108_62 => ?_)
                        · have hb108 : 6 < k := (nI_ltI (a := 6) (b := k) (by omega) (by omega)).mp c_108_62
                          refine j_aload_n dX8_digest_133 rfl rfl ?_
                          refine j_getf dX8_digest_134 fX8_32 (z_g1 (hlf105.1.trans h1) (by decide) rfl) rfl ?_
                          refine j_astore_n (lo' := [(3, _), (0, _), (1, _)]) dX8_digest_137 rfl (by decide) rfl ?_
                          refine j_aload_n dX8_digest_138 rfl rfl ?_
                          refine j_alen dX8_digest_139 (z_g1 (hlf105.1.trans h1) (by decide) rfl) rfl rfl ?_
                          refine j_istore (lo' := [(4, _), (3, _), (0, _), (1, _)]) dX8_digest_140 (by decide) rfl ?_
                          refine j_iconst (v := 0) dX8_digest_142 (by decide) ?_
                          refine j_istore (lo' := [(5, _), (4, _), (3, _), (0, _), (1, _)]) dX8_digest_143 (by decide) rfl ?_
                          have loop145 : ∀ (n5 : Nat) (w5 : z_W) (k : Nat) (d : Int64), (z_lf w w5) → (z_fn w5) → (k ≤ 2) → (2 < k + n5) → z_J G l mX8_digest (24, 60, 1660, w, (fun v w9 => (∃ x : Int64, v = some (.long x)) ∧ sp_CW S w9.1 ∧ z_hi w w9), (fun _ _ => False)) 145 [(0, .ref 0), (1, .long d), (3, .ref 26), (4, .int (nI 2)), (5, .int (nI k))] [] w5 (24 * k) (800 * k) := by
                            intro n5
                            induction n5 with
                            | zero => intro w5 k d hlf145 hfn145 ha5 hb5; exact absurd hb5 (by omega)
                            | succ n5 i5 =>
                              intro w5 k d hlf145 hfn145 ha5 hb5
                              refine j_iload dX8_digest_145 rfl ?_
                              refine j_iload dX8_digest_147 rfl ?_
                              refine j_icmp_ge (tgt := 171) dX8_digest_149 (by decide) (fun c_149_80 => ?_) (fun c_149_80 => ?_)
                              · have hb149 : 2 ≤ k := (nI_leI (a := 2) (b := k) (by omega) (by omega)).mp c_149_80
                                refine j_lload_n dX8_digest_171 rfl ?_
                                refine j_aload_n dX8_digest_172 rfl rfl ?_
                                have hWs : sp_CW S w5.1 := by rw [hlf145.1]; exact hS
                                refine j_callV (q := (RX8, TX8, 9)) dX8_digest_173 kX8_isSound lX8_293 inX8_isSound seX8_isSound (z_g1 (hlf145.1.trans h1) (by decide) rfl) rfl (px_isSound_k hl w5 S hWs) (Nat.le_of_ble_eq_true rfl) ⟨(by show _ ≤ 60; omega), (by show _ ≤ 1660; omega)⟩ rfl (Nat.le_of_ble_eq_true rfl) rfl rfl (fun _ _ h => h.elim) ?_
                                rintro _ w6 ⟨⟨b9, rfl⟩, hWn, hhi⟩
                                refine j_callS dX8_digest_176 kX8_oneIf lX8_83 stX8_oneIf (c_X8_oneIf hl w6 _) (Nat.le_of_ble_eq_true rfl) ⟨(by show _ ≤ 60; omega), (by show _ ≤ 1660; omega)⟩ rfl (Nat.le_of_ble_eq_true rfl) rfl rfl (fun _ _ h => h.elim) ?_
                                rintro _ _ ⟨⟨x48, rfl⟩, hw48⟩
                                refine j_w w6 hw48 ?_
                                refine j_callS dX8_digest_179 kX8_mixed lX8_277 stX8_mixed (c_X8_mixed hl w6 _ _) (Nat.le_of_ble_eq_true rfl) ⟨(by show _ ≤ 60; omega), (by show _ ≤ 1660; omega)⟩ rfl (Nat.le_of_ble_eq_true rfl) rfl rfl (fun _ _ h => h.elim) ?_
                                rintro _ _ ⟨⟨x49, rfl⟩, hw49⟩
                                refine j_w w6 hw49 ?_
                                refine j_lret dX8_digest_182 rfl ?_ (by show _ ≤ 60; omega) (by show _ ≤ 1660; omega)
                                exact ⟨⟨_, rfl⟩, hWn, hlf145.2.tr hhi⟩
                              · have hb149 : k < 2 := Nat.not_le.mp (fun z => c_149_80 ((nI_leI (a := 2) (b := k) (by omega) (by omega)).mpr z))
                                rcases (by omega : k = 0 ∨ k = 1) with rfl | rfl
                                · refine j_aload_n dX8_digest_152 rfl rfl ?_
                                  refine j_iload dX8_digest_153 rfl ?_
                                  refine j_aald (v := .ref 27) dX8_digest_155 (z_g1 (hlf145.1.trans h1) (by decide) rfl) rfl rfl (vp_in_nI (by decide) (by decide)) (by rw [show (nI 0).toNatClampNeg = 0 from z_cla (by decide)]; rfl) ?_
                                  refine j_astore (lo' := [(6, _), (0, _), (1, _), (3, _), (4, _), (5, _)]) dX8_digest_156 rfl (by decide) rfl ?_
                                  refine j_lload_n dX8_digest_158 rfl ?_
                                  refine j_aload dX8_digest_159 rfl rfl ?_
                                  refine j_callS dX8_digest_161 kX8_mixedHearer lX8_289 stX8_mixedHearer (cg_mixedH hl w5 _ 27 28 ek0 em0 es0 el0 b0 ef0 (by decide) (by decide) hfn145 (z_g1 (hlf145.1.trans h1) (by decide) rfl) (z_g1 (hlf145.1.trans h1) (by decide) rfl) (by decide)) (Nat.le_of_ble_eq_true rfl) ⟨(by show _ ≤ 60; omega), (by show _ ≤ 1660; omega)⟩ rfl (Nat.le_of_ble_eq_true rfl) rfl rfl (fun _ _ h => h.elim) ?_
                                  rintro _ w7 ⟨⟨x7, rfl⟩, lf7⟩
                                  have hf7 := lf7.2.2 hfn145
                                  have h1_7 := (lf7.1).trans (hlf145.1.trans h1)
                                  refine j_lstore_n (lo' := [(1, _), (6, _), (0, _), (3, _), (4, _), (5, _)]) dX8_digest_164 (by decide) rfl ?_
                                  refine j_iinc (lo' := [(5, _), (1, _), (6, _), (0, _), (3, _), (4, _)]) dX8_digest_165 rfl (z_inc _) (by decide) rfl ?_
                                  refine j_goto (tgt := 145) dX8_digest_168 (by decide) ?_
                                  refine j_widen (kc' := 24 * (0 + 1)) (ks' := 800 * (0 + 1)) (by omega) (by omega) ?_
                                  exact j_lo2 (i5 w7 (0 + 1) _ (hlf145.tr lf7) hf7 (by omega) (by omega)) (z_q1 rfl (z_q1 rfl (z_q1 rfl (z_q1 rfl (z_q1 rfl z_q0)))))
                                · refine j_aload_n dX8_digest_152 rfl rfl ?_
                                  refine j_iload dX8_digest_153 rfl ?_
                                  refine j_aald (v := .ref 29) dX8_digest_155 (z_g1 (hlf145.1.trans h1) (by decide) rfl) rfl rfl (vp_in_nI (by decide) (by decide)) (by rw [show (nI 1).toNatClampNeg = 1 from z_cla (by decide)]; rfl) ?_
                                  refine j_astore (lo' := [(6, _), (0, _), (1, _), (3, _), (4, _), (5, _)]) dX8_digest_156 rfl (by decide) rfl ?_
                                  refine j_lload_n dX8_digest_158 rfl ?_
                                  refine j_aload dX8_digest_159 rfl rfl ?_
                                  refine j_callS dX8_digest_161 kX8_mixedHearer lX8_289 stX8_mixedHearer (cg_mixedH hl w5 _ 29 30 ek1 em1 es1 el1 b1 ef1 (by decide) (by decide) hfn145 (z_g1 (hlf145.1.trans h1) (by decide) rfl) (z_g1 (hlf145.1.trans h1) (by decide) rfl) (by decide)) (Nat.le_of_ble_eq_true rfl) ⟨(by show _ ≤ 60; omega), (by show _ ≤ 1660; omega)⟩ rfl (Nat.le_of_ble_eq_true rfl) rfl rfl (fun _ _ h => h.elim) ?_
                                  rintro _ w8 ⟨⟨x8, rfl⟩, lf8⟩
                                  have hf8 := lf8.2.2 hfn145
                                  have h1_8 := (lf8.1).trans (hlf145.1.trans h1)
                                  refine j_lstore_n (lo' := [(1, _), (6, _), (0, _), (3, _), (4, _), (5, _)]) dX8_digest_164 (by decide) rfl ?_
                                  refine j_iinc (lo' := [(5, _), (1, _), (6, _), (0, _), (3, _), (4, _)]) dX8_digest_165 rfl (z_inc _) (by decide) rfl ?_
                                  refine j_goto (tgt := 145) dX8_digest_168 (by decide) ?_
                                  refine j_widen (kc' := 24 * (1 + 1)) (ks' := 800 * (1 + 1)) (by omega) (by omega) ?_
                                  exact j_lo2 (i5 w8 (1 + 1) _ (hlf145.tr lf8) hf8 (by omega) (by omega)) (z_q1 rfl (z_q1 rfl (z_q1 rfl (z_q1 rfl (z_q1 rfl z_q0)))))
                          refine j_widen (kc' := 24 * 0) (ks' := 800 * 0) (by omega) (by omega) ?_
                          exact j_lo2 (loop145 3 w4 0 _ hlf105 hfn105 (by omega) (by omega)) (z_q1 rfl (z_q1 rfl (z_q1 rfl (z_q1 rfl (z_q1 rfl z_q0)))))
                        · have hb108 : ¬ 6 < k := fun z => c_108_62 ((nI_ltI (a := 6) (b := k) (by omega) (by omega)).mpr z)
                          refine j_lload_n dX8_digest_111 rfl ?_
                          refine j_aload_n dX8_digest_112 rfl rfl ?_
                          refine j_getf dX8_digest_113 fX8_21 (z_g1 (hlf105.1.trans h1) (by decide) rfl) rfl ?_
                          refine j_getf dX8_digest_116 fX8_223 (z_g1 (hlf105.1.trans h1) (by decide) rfl) rfl ?_
                          refine j_iload_n dX8_digest_119 rfl ?_
                          refine j_callV (q := (RX6, TX6, 1)) dX8_digest_120 kX6_of lX8_218 inX6_of seX6_of (z_g1 (hlf105.1.trans h1) (by decide) rfl) rfl (z_rof [13, 14] (z_thc (z_g1 (hlf105.1.trans h1) (by decide) rfl) (z_thc (z_g1 (hlf105.1.trans h1) (by decide) rfl) rfl)) (by decide) (Nat.le_of_ble_eq_true rfl) (c_X6_of hl c0 _) (Qv := fun v => ∃ x : Int32, v = some (.int x)) (fun v L q => by obtain ⟨x, q1, q2⟩ := q; exact ⟨⟨x, q1⟩, q2⟩)) (Nat.le_of_ble_eq_true rfl) ⟨(by show _ ≤ 60; omega), (by show _ ≤ 1660; omega)⟩ rfl (Nat.le_of_ble_eq_true rfl) rfl rfl (fun _ _ h => h.elim) ?_
                          rintro _ _ ⟨⟨v50, ⟨x50, rfl⟩, rfl⟩, hw50⟩
                          refine j_w w4 hw50 ?_
                          refine j_callS dX8_digest_123 kX8_mixed lX8_277 stX8_mixed (c_X8_mixed hl w4 _ _) (Nat.le_of_ble_eq_true rfl) ⟨(by show _ ≤ 60; omega), (by show _ ≤ 1660; omega)⟩ rfl (Nat.le_of_ble_eq_true rfl) rfl rfl (fun _ _ h => h.elim) ?_
                          rintro _ _ ⟨⟨x51, rfl⟩, hw51⟩
                          refine j_w w4 hw51 ?_
                          refine j_lstore_n (lo' := [(1, _), (0, _), (3, _)]) dX8_digest_126 (by decide) rfl ?_
                          refine j_iinc (lo' := [(3, _), (1, _), (0, _)]) dX8_digest_127 rfl (z_inc _) (by decide) rfl ?_
                          refine j_goto (tgt := 105) dX8_digest_130 (by decide) ?_
                          refine j_widen (kc' := 0) (ks' := 0) (by omega) (by omega) ?_
                          exact j_lo2 (i4 w4 (k + 1) _ hlf105 hfn105 (by omega) (by omega)) (z_q1 rfl (z_q1 rfl (z_q1 rfl z_q0)))
                    refine j_widen (kc' := 0) (ks' := 0) (by omega) (by omega) ?_
                    exact j_lo2 (loop105 8 w3 0 _ hlf77 hfn77 (by omega) (by omega)) (z_q1 rfl (z_q1 rfl (z_q1 rfl z_q0)))
                  · have hb81 : k < 3 := Nat.not_le.mp (fun z => c_81_50 ((nI_leI (a := 3) (b := k) (by omega) (by omega)).mpr z))
                    rcases (by omega : k = 0 ∨ k = 1 ∨ k = 2) with rfl | rfl | rfl
                    · refine j_aload_n dX8_digest_84 rfl rfl ?_
                      refine j_iload dX8_digest_85 rfl ?_
                      refine j_aald (v := .ref 10) dX8_digest_87 (z_g1 (hlf77.1.trans h1) (by decide) rfl) rfl rfl (vp_in_nI (by decide) (by decide)) (by rw [show (nI 0).toNatClampNeg = 0 from z_cla (by decide)]; rfl) ?_
                      refine j_astore (lo' := [(6, _), (0, _), (1, _), (3, _), (4, _), (5, _)]) dX8_digest_88 rfl (by decide) rfl ?_
                      refine j_lload_n dX8_digest_90 rfl ?_
                      refine j_aload dX8_digest_91 rfl rfl ?_
                      refine j_callS dX8_digest_93 kX8_mixedTable lX8_285 stX8_mixedTable (z_rof [10, 11, 12, 13, 14] (z_thc (z_g1 (hlf77.1.trans h1) (by decide) rfl) (z_thc (z_g1 (hlf77.1.trans h1) (by decide) rfl) (z_thc (z_g1 (hlf77.1.trans h1) (by decide) rfl) (z_thc (z_g1 (hlf77.1.trans h1) (by decide) rfl) (z_thc (z_g1 (hlf77.1.trans h1) (by decide) rfl) rfl))))) (by decide) (Nat.le_of_ble_eq_true rfl) (c_X8_mixedTable hl f0 g0 c0 m0 s0 _) (Qv := fun v => ∃ x : Int64, v = some (.long x)) (fun v L q => q)) (Nat.le_of_ble_eq_true rfl) ⟨(by show _ ≤ 60; omega), (by show _ ≤ 1660; omega)⟩ rfl (Nat.le_of_ble_eq_true rfl) rfl rfl (fun _ _ h => h.elim) ?_
                      rintro _ _ ⟨⟨v52, ⟨x52, rfl⟩, rfl⟩, hw52⟩
                      refine j_w w3 hw52 ?_
                      refine j_lstore_n (lo' := [(1, _), (6, _), (0, _), (3, _), (4, _), (5, _)]) dX8_digest_96 (by decide) rfl ?_
                      refine j_iinc (lo' := [(5, _), (1, _), (6, _), (0, _), (3, _), (4, _)]) dX8_digest_97 rfl (z_inc _) (by decide) rfl ?_
                      refine j_goto (tgt := 77) dX8_digest_100 (by decide) ?_
                      refine j_widen (kc' := 0) (ks' := 0) (by omega) (by omega) ?_
                      exact j_lo2 (i3 w3 (0 + 1) _ hlf77 hfn77 (by omega) (by omega)) (z_q1 rfl (z_q1 rfl (z_q1 rfl (z_q1 rfl (z_q1 rfl z_q0)))))
                    · refine j_aload_n dX8_digest_84 rfl rfl ?_
                      refine j_iload dX8_digest_85 rfl ?_
                      refine j_aald (v := .ref 16) dX8_digest_87 (z_g1 (hlf77.1.trans h1) (by decide) rfl) rfl rfl (vp_in_nI (by decide) (by decide)) (by rw [show (nI 1).toNatClampNeg = 1 from z_cla (by decide)]; rfl) ?_
                      refine j_astore (lo' := [(6, _), (0, _), (1, _), (3, _), (4, _), (5, _)]) dX8_digest_88 rfl (by decide) rfl ?_
                      refine j_lload_n dX8_digest_90 rfl ?_
                      refine j_aload dX8_digest_91 rfl rfl ?_
                      refine j_callS dX8_digest_93 kX8_mixedTable lX8_285 stX8_mixedTable (z_rof [16, 17, 18, 19, 20] (z_thc (z_g1 (hlf77.1.trans h1) (by decide) rfl) (z_thc (z_g1 (hlf77.1.trans h1) (by decide) rfl) (z_thc (z_g1 (hlf77.1.trans h1) (by decide) rfl) (z_thc (z_g1 (hlf77.1.trans h1) (by decide) rfl) (z_thc (z_g1 (hlf77.1.trans h1) (by decide) rfl) rfl))))) (by decide) (Nat.le_of_ble_eq_true rfl) (c_X8_mixedTable hl f1 g1 c1 m1 s1 _) (Qv := fun v => ∃ x : Int64, v = some (.long x)) (fun v L q => q)) (Nat.le_of_ble_eq_true rfl) ⟨(by show _ ≤ 60; omega), (by show _ ≤ 1660; omega)⟩ rfl (Nat.le_of_ble_eq_true rfl) rfl rfl (fun _ _ h => h.elim) ?_
                      rintro _ _ ⟨⟨v53, ⟨x53, rfl⟩, rfl⟩, hw53⟩
                      refine j_w w3 hw53 ?_
                      refine j_lstore_n (lo' := [(1, _), (6, _), (0, _), (3, _), (4, _), (5, _)]) dX8_digest_96 (by decide) rfl ?_
                      refine j_iinc (lo' := [(5, _), (1, _), (6, _), (0, _), (3, _), (4, _)]) dX8_digest_97 rfl (z_inc _) (by decide) rfl ?_
                      refine j_goto (tgt := 77) dX8_digest_100 (by decide) ?_
                      refine j_widen (kc' := 0) (ks' := 0) (by omega) (by omega) ?_
                      exact j_lo2 (i3 w3 (1 + 1) _ hlf77 hfn77 (by omega) (by omega)) (z_q1 rfl (z_q1 rfl (z_q1 rfl (z_q1 rfl (z_q1 rfl z_q0)))))
                    · refine j_aload_n dX8_digest_84 rfl rfl ?_
                      refine j_iload dX8_digest_85 rfl ?_
                      refine j_aald (v := .ref 21) dX8_digest_87 (z_g1 (hlf77.1.trans h1) (by decide) rfl) rfl rfl (vp_in_nI (by decide) (by decide)) (by rw [show (nI 2).toNatClampNeg = 2 from z_cla (by decide)]; rfl) ?_
                      refine j_astore (lo' := [(6, _), (0, _), (1, _), (3, _), (4, _), (5, _)]) dX8_digest_88 rfl (by decide) rfl ?_
                      refine j_lload_n dX8_digest_90 rfl ?_
                      refine j_aload dX8_digest_91 rfl rfl ?_
                      refine j_callS dX8_digest_93 kX8_mixedTable lX8_285 stX8_mixedTable (z_rof [21, 22, 23, 24, 25] (z_thc (z_g1 (hlf77.1.trans h1) (by decide) rfl) (z_thc (z_g1 (hlf77.1.trans h1) (by decide) rfl) (z_thc (z_g1 (hlf77.1.trans h1) (by decide) rfl) (z_thc (z_g1 (hlf77.1.trans h1) (by decide) rfl) (z_thc (z_g1 (hlf77.1.trans h1) (by decide) rfl) rfl))))) (by decide) (Nat.le_of_ble_eq_true rfl) (c_X8_mixedTable hl f2 g2 c2 m2 s2 _) (Qv := fun v => ∃ x : Int64, v = some (.long x)) (fun v L q => q)) (Nat.le_of_ble_eq_true rfl) ⟨(by show _ ≤ 60; omega), (by show _ ≤ 1660; omega)⟩ rfl (Nat.le_of_ble_eq_true rfl) rfl rfl (fun _ _ h => h.elim) ?_
                      rintro _ _ ⟨⟨v54, ⟨x54, rfl⟩, rfl⟩, hw54⟩
                      refine j_w w3 hw54 ?_
                      refine j_lstore_n (lo' := [(1, _), (6, _), (0, _), (3, _), (4, _), (5, _)]) dX8_digest_96 (by decide) rfl ?_
                      refine j_iinc (lo' := [(5, _), (1, _), (6, _), (0, _), (3, _), (4, _)]) dX8_digest_97 rfl (z_inc _) (by decide) rfl ?_
                      refine j_goto (tgt := 77) dX8_digest_100 (by decide) ?_
                      refine j_widen (kc' := 0) (ks' := 0) (by omega) (by omega) ?_
                      exact j_lo2 (i3 w3 (2 + 1) _ hlf77 hfn77 (by omega) (by omega)) (z_q1 rfl (z_q1 rfl (z_q1 rfl (z_q1 rfl (z_q1 rfl z_q0)))))
              refine j_widen (kc' := 0) (ks' := 0) (by omega) (by omega) ?_
              exact j_lo2 (loop77 4 w2 0 _ hlf39 hfn39 (by omega) (by omega)) (z_q1 rfl (z_q1 rfl (z_q1 rfl (z_q1 rfl (z_q1 rfl z_q0)))))
            · have hb43 : k < 2 := Nat.not_le.mp (fun z => c_43_32 ((nI_leI (a := 2) (b := k) (by omega) (by omega)).mpr z))
              rcases (by omega : k = 0 ∨ k = 1) with rfl | rfl
              · refine j_aload_n dX8_digest_46 rfl rfl ?_
                refine j_iload dX8_digest_47 rfl ?_
                refine j_aald (v := .ref 2) dX8_digest_49 (z_g1 (hlf39.1.trans h1) (by decide) rfl) rfl rfl (vp_in_nI (by decide) (by decide)) (by rw [show (nI 0).toNatClampNeg = 0 from z_cla (by decide)]; rfl) ?_
                refine j_astore (lo' := [(6, _), (0, _), (1, _), (3, _), (4, _), (5, _)]) dX8_digest_50 rfl (by decide) rfl ?_
                refine j_lload_n dX8_digest_52 rfl ?_
                refine j_aload dX8_digest_53 rfl rfl ?_
                refine j_callS dX8_digest_55 kX8_mixedRow lX8_281 stX8_mixedRow (z_rof [2, 3, 4, 5] (z_thc (z_g1 (hlf39.1.trans h1) (by decide) rfl) (z_thc (z_g1 (hlf39.1.trans h1) (by decide) rfl) (z_thc (z_g1 (hlf39.1.trans h1) (by decide) rfl) (z_thc (z_g1 (hlf39.1.trans h1) (by decide) rfl) rfl)))) (by decide) (Nat.le_of_ble_eq_true rfl) (c_X8_mixedRow hl ma (z_bi xa) fa ca _) (Qv := fun v => ∃ x : Int64, v = some (.long x)) (fun v L q => q)) (Nat.le_of_ble_eq_true rfl) ⟨(by show _ ≤ 60; omega), (by show _ ≤ 1660; omega)⟩ rfl (Nat.le_of_ble_eq_true rfl) rfl rfl (fun _ _ h => h.elim) ?_
                rintro _ _ ⟨⟨v55, ⟨x55, rfl⟩, rfl⟩, hw55⟩
                refine j_w w2 hw55 ?_
                refine j_lstore_n (lo' := [(1, _), (6, _), (0, _), (3, _), (4, _), (5, _)]) dX8_digest_58 (by decide) rfl ?_
                refine j_iinc (lo' := [(5, _), (1, _), (6, _), (0, _), (3, _), (4, _)]) dX8_digest_59 rfl (z_inc _) (by decide) rfl ?_
                refine j_goto (tgt := 39) dX8_digest_62 (by decide) ?_
                refine j_widen (kc' := 0) (ks' := 0) (by omega) (by omega) ?_
                exact j_lo2 (i2 w2 (0 + 1) _ hlf39 hfn39 (by omega) (by omega)) (z_q1 rfl (z_q1 rfl (z_q1 rfl (z_q1 rfl (z_q1 rfl z_q0)))))
              · refine j_aload_n dX8_digest_46 rfl rfl ?_
                refine j_iload dX8_digest_47 rfl ?_
                refine j_aald (v := .ref 6) dX8_digest_49 (z_g1 (hlf39.1.trans h1) (by decide) rfl) rfl rfl (vp_in_nI (by decide) (by decide)) (by rw [show (nI 1).toNatClampNeg = 1 from z_cla (by decide)]; rfl) ?_
                refine j_astore (lo' := [(6, _), (0, _), (1, _), (3, _), (4, _), (5, _)]) dX8_digest_50 rfl (by decide) rfl ?_
                refine j_lload_n dX8_digest_52 rfl ?_
                refine j_aload dX8_digest_53 rfl rfl ?_
                refine j_callS dX8_digest_55 kX8_mixedRow lX8_281 stX8_mixedRow (z_rof [6, 7, 8, 9] (z_thc (z_g1 (hlf39.1.trans h1) (by decide) rfl) (z_thc (z_g1 (hlf39.1.trans h1) (by decide) rfl) (z_thc (z_g1 (hlf39.1.trans h1) (by decide) rfl) (z_thc (z_g1 (hlf39.1.trans h1) (by decide) rfl) rfl)))) (by decide) (Nat.le_of_ble_eq_true rfl) (c_X8_mixedRow hl mb (z_bi xb) fb cb _) (Qv := fun v => ∃ x : Int64, v = some (.long x)) (fun v L q => q)) (Nat.le_of_ble_eq_true rfl) ⟨(by show _ ≤ 60; omega), (by show _ ≤ 1660; omega)⟩ rfl (Nat.le_of_ble_eq_true rfl) rfl rfl (fun _ _ h => h.elim) ?_
                rintro _ _ ⟨⟨v56, ⟨x56, rfl⟩, rfl⟩, hw56⟩
                refine j_w w2 hw56 ?_
                refine j_lstore_n (lo' := [(1, _), (6, _), (0, _), (3, _), (4, _), (5, _)]) dX8_digest_58 (by decide) rfl ?_
                refine j_iinc (lo' := [(5, _), (1, _), (6, _), (0, _), (3, _), (4, _)]) dX8_digest_59 rfl (z_inc _) (by decide) rfl ?_
                refine j_goto (tgt := 39) dX8_digest_62 (by decide) ?_
                refine j_widen (kc' := 0) (ks' := 0) (by omega) (by omega) ?_
                exact j_lo2 (i2 w2 (1 + 1) _ hlf39 hfn39 (by omega) (by omega)) (z_q1 rfl (z_q1 rfl (z_q1 rfl (z_q1 rfl (z_q1 rfl z_q0)))))
        refine j_widen (kc' := 0) (ks' := 0) (by omega) (by omega) ?_
        exact j_lo2 (loop39 3 w1 0 _ hlf6 hfn6 (by omega) (by omega)) (z_q1 rfl (z_q1 rfl (z_q1 rfl (z_q1 rfl (z_q1 rfl z_q0)))))
      · have hb8 : ¬ 4 < k := fun z => c_8_14 ((nI_ltI (a := 4) (b := k) (by omega) (by omega)).mpr z)
        refine j_lload_n dX8_digest_11 rfl ?_
        refine j_aload_n dX8_digest_12 rfl rfl ?_
        refine j_iload_n dX8_digest_13 rfl ?_
        refine j_callV (q := (RX8, TX8, 9)) dX8_digest_14 kX8_house lX8_274 inX8_house seX8_house (z_g1 (hlf6.1.trans h1) (by decide) rfl) rfl (cg_house hl w1 rf kn ma xa fa ca mb xb fb cb mt xt ft ct f0 g0 c0 m0 s0 f1 g1 c1 m1 s1 f2 g2 c2 m2 s2 f3 g3 c3 m3 s3 f4 g4 c4 m4 s4 f5 g5 c5 m5 s5 ek0 em0 es0 el0 b0 ef0 ek1 em1 es1 el1 b1 ef1 _ e0 e1 e2 e3 e4 e5 (hlf6.1.trans h1) ⟨(nI_leI (a := 0) (b := k) (by omega) (by omega)).mpr (Nat.zero_le _), (nI_leI (a := k) (b := 4) (by omega) (by omega)).mpr (by omega)⟩) (Nat.le_of_ble_eq_true rfl) ⟨(by show _ ≤ 60; omega), (by show _ ≤ 1660; omega)⟩ rfl (Nat.le_of_ble_eq_true rfl) rfl rfl (fun _ _ h => h.elim) ?_
        rintro _ _ ⟨⟨x57, rfl⟩, hw57⟩
        refine j_w w1 hw57 ?_
        refine j_callS dX8_digest_17 kX8_mixed lX8_277 stX8_mixed (c_X8_mixed hl w1 _ _) (Nat.le_of_ble_eq_true rfl) ⟨(by show _ ≤ 60; omega), (by show _ ≤ 1660; omega)⟩ rfl (Nat.le_of_ble_eq_true rfl) rfl rfl (fun _ _ h => h.elim) ?_
        rintro _ _ ⟨⟨x58, rfl⟩, hw58⟩
        refine j_w w1 hw58 ?_
        refine j_lstore_n (lo' := [(1, _), (0, _), (3, _)]) dX8_digest_20 (by decide) rfl ?_
        refine j_iinc (lo' := [(3, _), (1, _), (0, _)]) dX8_digest_21 rfl (z_inc _) (by decide) rfl ?_
        refine j_goto (tgt := 6) dX8_digest_24 (by decide) ?_
        refine j_widen (kc' := 0) (ks' := 0) (by omega) (by omega) ?_
        exact j_lo2 (i1 w1 (k + 1) _ hlf6 hfn6 (by omega) (by omega)) (z_q1 rfl (z_q1 rfl (z_q1 rfl z_q0)))
  refine j_widen (kc' := 0) (ks' := 0) (by omega) (by omega) ?_
  exact j_lo2 (loop6 6 w 0 _ z_lf.rf hf (by omega) (by omega)) (z_q1 rfl (z_q1 rfl (z_q1 rfl z_q0)))
end ZCtx3
