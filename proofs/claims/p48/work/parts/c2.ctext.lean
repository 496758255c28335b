section ZCtx3
variable {G : z_G} {l : Launch}
set_option maxRecDepth 100000 in
theorem px_isSound (hl : l.stackTraces = false) (w : z_W) (S : sp_S) (hW : sp_CW S w.1) : z_Con G l mX8_isSound 21 12 60 w [.ref 0] (fun v w9 => v = some (.int 1) ∧ sp_CW S w9.1 ∧ z_hi w w9) (fun _ _ => False) := by
  obtain ⟨L, P⟩ := w
  have hc := sp_CWc hW
  obtain ⟨fa, fb, mt, ft, ct, f0, g0, f1, g1, c1, f2, g2, c2, f3, g3, c3, m3, f4, g4, c4, m4, f5, g5, c5, m5, ef0, ef1, hra, hrb, ht0, ht1, ht2, he0, he1, hzm3, hzm4, hzm5, hL⟩ := id hW
  have hL : L = _ := hL
  subst hL
  refine z_weak (z_lift (X := fun _ _ => False) 51 hc.1 (by decide) hc.2 rfl (z_CFX (c_X8_isSound_s hl S fa fb mt ft ct f0 g0 f1 g1 c1 f2 g2 c2 f3 g3 c3 m3 f4 g4 c4 m4 f5 g5 c5 m5 ef0 ef1 hra hrb ht0 ht1 ht2 he0 he1 hzm3 hzm4 hzm5)) (fun v L' q => ?_) (fun E L' q => q.elim)) (fun v w' q => ?_) (fun E w' q => q.1.elim)
  · obtain ⟨rfl, mt', ft', ct', f3', g3', c3', m3', f4', g4', c4', m4', f5', g5', c5', m5', q3, q4, q5, rfl⟩ := q
    exact ⟨rfl, z_cwR, rfl⟩
  · obtain ⟨⟨q1, mt', ft', ct', f3', g3', c3', m3', f4', g4', c4', m4', f5', g5', c5', m5', q3, q4, q5, q⟩, hp⟩ := q
    have hk : sp_CW S w'.1 := ⟨fa, fb, mt', ft', ct', f0, g0, f1, g1, c1, f2, g2, c2, f3', g3', c3', m3', f4', g4', c4', m4', f5', g5', c5', m5', ef0, ef1, hra, hrb, ht0, ht1, ht2, he0, he1, q3, q4, q5, q⟩
    exact ⟨q1, hk, z_hi.of (sp_CWc hk).1 hp⟩
theorem sp_CW.Wk {S : sp_S} {L : List z_E} (h : sp_CW S L) : ∃ (kn : Int32) (xa xb : Bool) (b0 b1 : Int32), z_Wk kn xa xb b0 b1 L := by
  obtain ⟨fa, fb, mt, ft, ct, f0, g0, f1, g1, c1, f2, g2, c2, f3, g3, c3, m3, f4, g4, c4, m4, f5, g5, c5, m5, ef0, ef1, hra, hrb, ht0, ht1, ht2, he0, he1, hzm3, hzm4, hzm5, rfl⟩ := h
  exact ⟨_, _, _, _, _, z_wk (sp_m20 ht0.len) (sp_m20 ht1.len) (sp_m20 ht2.len) hzm3 hzm4 hzm5⟩
set_option maxRecDepth 100000 in
set_option maxHeartbeats 8000000 in
theorem pt_rowText (hl : l.stackTraces = false) (w : z_W) (kn : Int32) (xa xb : Bool) (b0 b1 : Int32) (r : Int32) (hW : z_Wk kn xa xb b0 b1 w.1) (hf : z_fn w) : z_Con G l mX8_rowText 20 26 810 w [.ref 0, .int r] (fun v w9 => ∃ r, v = some (.ref r) ∧ w9.1 = w.1 ∧ z_hi w w9) (fun E w9 => z_xI E ∧ w9.1 = w.1 ∧ z_hi w w9) := by
  obtain ⟨rf, ma, fa, ca, mb, fb, cb, mt, xt, ft, ct, f0, g0, c0, m0, s0, f1, g1, c1, m1, s1, f2, g2, c2, m2, s2, f3, g3, c3, m3, s3, f4, g4, c4, m4, s4, f5, g5, c5, m5, s5, ek0, em0, es0, el0, ef0, ek1, em1, es1, el1, ef1, e0, e1, e2, e3, e4, e5, h1⟩ := id hW
  refine z_body hl (by decide) rfl (Nat.le_of_ble_eq_true rfl) ?_
  show z_J G l mX8_rowText _ 0 [(0, _), (1, _)] [] _ 0 0
  refine j_aload_n dX8_rowText_0 rfl rfl ?_
  refine j_iload_n dX8_rowText_1 rfl ?_
  refine j_callV (q := (RX8, TX8, 9)) dX8_rowText_2 kX8_rowFor lX8_46 inX8_rowFor seX8_rowFor (z_g1 h1 (by decide) rfl) rfl (z_liftro (Qv := fun v => ∃ n : Nat, v = some (.ref n) ∧ ((r = 0 ∧ n = 2) ∨ (r = 1 ∧ n = 6))) (Xv := z_xI) 51 h1 rfl (by decide) z_cwR rfl (c_X8_rowFor hl rf kn ma xa fa ca mb xb fb cb mt xt ft ct f0 g0 c0 m0 s0 f1 g1 c1 m1 s1 f2 g2 c2 m2 s2 f3 g3 c3 m3 s3 f4 g4 c4 m4 s4 f5 g5 c5 m5 s5 ek0 em0 es0 el0 b0 ef0 ek1 em1 es1 el1 b1 ef1 r) (fun v L q => by obtain ⟨n, q1, q2, q3⟩ := q; exact ⟨⟨n, q1, q2⟩, q3⟩) (fun v q => by obtain ⟨n, rfl, ⟨-, rfl⟩ | ⟨-, rfl⟩⟩ := q <;> rfl) (fun E L q => q)) (Nat.le_of_ble_eq_true rfl) ⟨(by show _ ≤ 26; omega), (by show _ ≤ 810; omega)⟩ rfl (Nat.le_of_ble_eq_true rfl) rfl rfl (fun _ _ h => ⟨h.1, by rw [h.2], by rw [h.2]; exact z_hi.rf⟩) ?_
  rintro _ _ ⟨⟨n36, rfl, ⟨-, rfl⟩ | ⟨-, rfl⟩⟩, hw36⟩
  · refine j_w w hw36 ?_
    refine j_astore_n (lo' := [(2, _), (0, _), (1, _)]) dX8_rowText_5 rfl (by decide) rfl ?_
    refine j_aload_n dX8_rowText_6 rfl rfl ?_
    refine j_getf dX8_rowText_7 fX8_206 (z_g1 h1 (by decide) rfl) rfl ?_
    refine j_aload_n dX8_rowText_10 rfl rfl ?_
    refine j_getf dX8_rowText_11 fX8_68 (z_g1 h1 (by decide) rfl) rfl ?_
    refine j_callS dX8_rowText_14 kX8_joined lX8_210 stX8_joined (cg_joined hl w 3 12 fa _ (by decide) (by decide) hf (z_g1 h1 (by decide) rfl)) (Nat.le_of_ble_eq_true rfl) ⟨(by show _ ≤ 26; omega), (by show _ ≤ 810; omega)⟩ rfl (Nat.le_of_ble_eq_true rfl) rfl rfl (fun _ _ h => h.elim) ?_
    rintro _ w1 ⟨r1, n1, rfl, lf1, ht1⟩
    have hf1 := lf1.2.2 hf
    have h1_1 := (lf1.1).trans h1
    refine j_aret dX8_rowText_17 rfl (Or.inl ⟨_, rfl⟩) rfl ?_ (by show _ ≤ 26; omega) (by show _ ≤ 810; omega)
    exact ⟨_, rfl, lf1.1, lf1.2⟩
  · refine j_w w hw36 ?_
    refine j_astore_n (lo' := [(2, _), (0, _), (1, _)]) dX8_rowText_5 rfl (by decide) rfl ?_
    refine j_aload_n dX8_rowText_6 rfl rfl ?_
    refine j_getf dX8_rowText_7 fX8_206 (z_g1 h1 (by decide) rfl) rfl ?_
    refine j_aload_n dX8_rowText_10 rfl rfl ?_
    refine j_getf dX8_rowText_11 fX8_68 (z_g1 h1 (by decide) rfl) rfl ?_
    refine j_callS dX8_rowText_14 kX8_joined lX8_210 stX8_joined (cg_joined hl w 7 12 fb _ (by decide) (by decide) hf (z_g1 h1 (by decide) rfl)) (Nat.le_of_ble_eq_true rfl) ⟨(by show _ ≤ 26; omega), (by show _ ≤ 810; omega)⟩ rfl (Nat.le_of_ble_eq_true rfl) rfl rfl (fun _ _ h => h.elim) ?_
    rintro _ w2 ⟨r2, n2, rfl, lf2, ht2⟩
    have hf2 := lf2.2.2 hf
    have h1_2 := (lf2.1).trans h1
    refine j_aret dX8_rowText_17 rfl (Or.inl ⟨_, rfl⟩) rfl ?_ (by show _ ≤ 26; omega) (by show _ ≤ 810; omega)
    exact ⟨_, rfl, lf2.1, lf2.2⟩
set_option maxRecDepth 100000 in
set_option maxHeartbeats 8000000 in
theorem pt_heardText (hl : l.stackTraces = false) (w : z_W) (kn : Int32) (xa xb : Bool) (b0 b1 : Int32) (r : Int32) (hW : z_Wk kn xa xb b0 b1 w.1) (hf : z_fn w) : z_Con G l mX8_heardText 20 26 810 w [.ref 0, .int r] (fun v w9 => ∃ r, v = some (.ref r) ∧ w9.1 = w.1 ∧ z_hi w w9) (fun E w9 => z_xI E ∧ w9.1 = w.1 ∧ z_hi w w9) := by
  obtain ⟨rf, ma, fa, ca, mb, fb, cb, mt, xt, ft, ct, f0, g0, c0, m0, s0, f1, g1, c1, m1, s1, f2, g2, c2, m2, s2, f3, g3, c3, m3, s3, f4, g4, c4, m4, s4, f5, g5, c5, m5, s5, ek0, em0, es0, el0, ef0, ek1, em1, es1, el1, ef1, e0, e1, e2, e3, e4, e5, h1⟩ := id hW
  refine z_body hl (by decide) rfl (Nat.le_of_ble_eq_true rfl) ?_
  show z_J G l mX8_heardText _ 0 [(0, _), (1, _)] [] _ 0 0
  refine j_aload_n dX8_heardText_0 rfl rfl ?_
  refine j_iload_n dX8_heardText_1 rfl ?_
  refine j_callV (q := (RX8, TX8, 9)) dX8_heardText_2 kX8_hearerFor lX8_87 inX8_hearerFor seX8_hearerFor (z_g1 h1 (by decide) rfl) rfl (z_liftro (Qv := fun v => ∃ n : Nat, v = some (.ref n) ∧ ((r = 0 ∧ n = 27) ∨ (r = 1 ∧ n = 29))) (Xv := z_xI) 51 h1 rfl (by decide) z_cwR rfl (c_X8_hearerFor hl rf kn ma xa fa ca mb xb fb cb mt xt ft ct f0 g0 c0 m0 s0 f1 g1 c1 m1 s1 f2 g2 c2 m2 s2 f3 g3 c3 m3 s3 f4 g4 c4 m4 s4 f5 g5 c5 m5 s5 ek0 em0 es0 el0 b0 ef0 ek1 em1 es1 el1 b1 ef1 r) (fun v L q => by obtain ⟨n, q1, q2, q3⟩ := q; exact ⟨⟨n, q1, q2⟩, q3⟩) (fun v q => by obtain ⟨n, rfl, ⟨-, rfl⟩ | ⟨-, rfl⟩⟩ := q <;> rfl) (fun E L q => q)) (Nat.le_of_ble_eq_true rfl) ⟨(by show _ ≤ 26; omega), (by show _ ≤ 810; omega)⟩ rfl (Nat.le_of_ble_eq_true rfl) rfl rfl (fun _ _ h => ⟨h.1, by rw [h.2], by rw [h.2]; exact z_hi.rf⟩) ?_
  rintro _ _ ⟨⟨n37, rfl, ⟨-, rfl⟩ | ⟨-, rfl⟩⟩, hw37⟩
  · refine j_w w hw37 ?_
    refine j_callV (q := (RX0, TX0, 6)) dX8_heardText_5 kX0_recent lX8_190 inX0_recent seX0_recent (z_g1 h1 (by decide) rfl) rfl (cg_recent hl w 27 28 ek0 em0 es0 el0 b0 ef0 (by decide) (by decide) hf (z_g1 h1 (by decide) rfl) (z_g1 h1 (by decide) rfl)) (Nat.le_of_ble_eq_true rfl) ⟨(by show _ ≤ 26; omega), (by show _ ≤ 810; omega)⟩ rfl (Nat.le_of_ble_eq_true rfl) rfl rfl (fun _ _ h => h.elim) ?_
    rintro _ w1 ⟨r1, n1, rfl, lf1, ht1⟩
    have hf1 := lf1.2.2 hf
    have h1_1 := (lf1.1).trans h1
    refine j_aret dX8_heardText_8 rfl (Or.inl ⟨_, rfl⟩) rfl ?_ (by show _ ≤ 26; omega) (by show _ ≤ 810; omega)
    exact ⟨_, rfl, lf1.1, lf1.2⟩
  · refine j_w w hw37 ?_
    refine j_callV (q := (RX0, TX0, 6)) dX8_heardText_5 kX0_recent lX8_190 inX0_recent seX0_recent (z_g1 h1 (by decide) rfl) rfl (cg_recent hl w 29 30 ek1 em1 es1 el1 b1 ef1 (by decide) (by decide) hf (z_g1 h1 (by decide) rfl) (z_g1 h1 (by decide) rfl)) (Nat.le_of_ble_eq_true rfl) ⟨(by show _ ≤ 26; omega), (by show _ ≤ 810; omega)⟩ rfl (Nat.le_of_ble_eq_true rfl) rfl rfl (fun _ _ h => h.elim) ?_
    rintro _ w2 ⟨r2, n2, rfl, lf2, ht2⟩
    have hf2 := lf2.2.2 hf
    have h1_2 := (lf2.1).trans h1
    refine j_aret dX8_heardText_8 rfl (Or.inl ⟨_, rfl⟩) rfl ?_ (by show _ ≤ 26; omega) (by show _ ≤ 810; omega)
    exact ⟨_, rfl, lf2.1, lf2.2⟩
set_option maxRecDepth 100000 in
set_option maxHeartbeats 8000000 in
theorem pt_text (hl : l.stackTraces = false) (w : z_W) (kn : Int32) (xa xb : Bool) (b0 b1 : Int32) (r : Int32) (hW : z_Wk kn xa xb b0 b1 w.1) (hf : z_fn w) : z_Con G l mX8_text 20 68 2460 w [.ref 0, .int r] (fun v w9 => ∃ r, v = some (.ref r) ∧ w9.1 = w.1 ∧ z_hi w w9) (fun E w9 => z_xI E ∧ w9.1 = w.1 ∧ z_hi w w9) := by
  obtain ⟨rf, ma, fa, ca, mb, fb, cb, mt, xt, ft, ct, f0, g0, c0, m0, s0, f1, g1, c1, m1, s1, f2, g2, c2, m2, s2, f3, g3, c3, m3, s3, f4, g4, c4, m4, s4, f5, g5, c5, m5, s5, ek0, em0, es0, el0, ef0, ek1, em1, es1, el1, ef1, e0, e1, e2, e3, e4, e5, h1⟩ := id hW
  refine z_body hl (by decide) rfl (Nat.le_of_ble_eq_true rfl) ?_
  show z_J G l mX8_text _ 0 [(0, _), (1, _)] [] _ 0 0
  refine j_aload_n dX8_text_0 rfl rfl ?_
  refine j_iload_n dX8_text_1 rfl ?_
  refine j_callV (q := (RX8, TX8, 9)) dX8_text_2 kX8_tableFor lX8_157 inX8_tableFor seX8_tableFor (z_g1 h1 (by decide) rfl) rfl (z_liftro (Qv := fun v => ∃ n : Nat, v = some (.ref n) ∧ ((r = 0 ∧ n = 10) ∨ (r = 1 ∧ n = 16) ∨ (r = 2 ∧ n = 21))) (Xv := z_xI) 51 h1 rfl (by decide) z_cwR rfl (c_X8_tableFor hl rf kn ma xa fa ca mb xb fb cb mt xt ft ct f0 g0 c0 m0 s0 f1 g1 c1 m1 s1 f2 g2 c2 m2 s2 f3 g3 c3 m3 s3 f4 g4 c4 m4 s4 f5 g5 c5 m5 s5 ek0 em0 es0 el0 b0 ef0 ek1 em1 es1 el1 b1 ef1 r) (fun v L q => by obtain ⟨n, q1, q2, q3⟩ := q; exact ⟨⟨n, q1, q2⟩, q3⟩) (fun v q => by obtain ⟨n, rfl, ⟨-, rfl⟩ | ⟨-, rfl⟩ | ⟨-, rfl⟩⟩ := q <;> rfl) (fun E L q => q)) (Nat.le_of_ble_eq_true rfl) ⟨(by show _ ≤ 68; omega), (by show _ ≤ 2460; omega)⟩ rfl (Nat.le_of_ble_eq_true rfl) rfl rfl (fun _ _ h => ⟨h.1, by rw [h.2], by rw [h.2]; exact z_hi.rf⟩) ?_
  rintro _ _ ⟨⟨n38, rfl, ⟨-, rfl⟩ | ⟨-, rfl⟩ | ⟨-, rfl⟩⟩, hw38⟩
  · refine j_w w hw38 ?_
    refine j_callV (q := (RX4, TX4, 5)) dX8_text_5 kX4_pairs lX8_227 inX4_pairs seX4_pairs (z_g1 h1 (by decide) rfl) rfl (cg_pairs hl w 10 11 12 13 14 f0 g0 c0 m0 s0 (by decide) (by decide) (by decide) (by decide) (by decide) (by decide) e0 hf (z_g1 h1 (by decide) rfl) (z_g1 h1 (by decide) rfl) (z_g1 h1 (by decide) rfl) (z_g1 h1 (by decide) rfl) (z_g1 h1 (by decide) rfl)) (Nat.le_of_ble_eq_true rfl) ⟨(by show _ ≤ 68; omega), (by show _ ≤ 2460; omega)⟩ rfl (Nat.le_of_ble_eq_true rfl) rfl rfl (fun _ _ h => h.elim) ?_
    rintro _ w1 ⟨r1, n1, rfl, lf1, ht1⟩
    have hf1 := lf1.2.2 hf
    have h1_1 := (lf1.1).trans h1
    refine j_aret dX8_text_8 rfl (Or.inl ⟨_, rfl⟩) rfl ?_ (by show _ ≤ 68; omega) (by show _ ≤ 2460; omega)
    exact ⟨_, rfl, lf1.1, lf1.2⟩
  · refine j_w w hw38 ?_
    refine j_callV (q := (RX4, TX4, 5)) dX8_text_5 kX4_pairs lX8_227 inX4_pairs seX4_pairs (z_g1 h1 (by decide) rfl) rfl (cg_pairs hl w 16 17 18 19 20 f1 g1 c1 m1 s1 (by decide) (by decide) (by decide) (by decide) (by decide) (by decide) e1 hf (z_g1 h1 (by decide) rfl) (z_g1 h1 (by decide) rfl) (z_g1 h1 (by decide) rfl) (z_g1 h1 (by decide) rfl) (z_g1 h1 (by decide) rfl)) (Nat.le_of_ble_eq_true rfl) ⟨(by show _ ≤ 68; omega), (by show _ ≤ 2460; omega)⟩ rfl (Nat.le_of_ble_eq_true rfl) rfl rfl (fun _ _ h => h.elim) ?_
    rintro _ w2 ⟨r2, n2, rfl, lf2, ht2⟩
    have hf2 := lf2.2.2 hf
    have h1_2 := (lf2.1).trans h1
    refine j_aret dX8_text_8 rfl (Or.inl ⟨_, rfl⟩) rfl ?_ (by show _ ≤ 68; omega) (by show _ ≤ 2460; omega)
    exact ⟨_, rfl, lf2.1, lf2.2⟩
  · refine j_w w hw38 ?_
    refine j_callV (q := (RX4, TX4, 5)) dX8_text_5 kX4_pairs lX8_227 inX4_pairs seX4_pairs (z_g1 h1 (by decide) rfl) rfl (cg_pairs hl w 21 22 23 24 25 f2 g2 c2 m2 s2 (by decide) (by decide) (by decide) (by decide) (by decide) (by decide) e2 hf (z_g1 h1 (by decide) rfl) (z_g1 h1 (by decide) rfl) (z_g1 h1 (by decide) rfl) (z_g1 h1 (by decide) rfl) (z_g1 h1 (by decide) rfl)) (Nat.le_of_ble_eq_true rfl) ⟨(by show _ ≤ 68; omega), (by show _ ≤ 2460; omega)⟩ rfl (Nat.le_of_ble_eq_true rfl) rfl rfl (fun _ _ h => h.elim) ?_
    rintro _ w3 ⟨r3, n3, rfl, lf3, ht3⟩
    have hf3 := lf3.2.2 hf
    have h1_3 := (lf3.1).trans h1
    refine j_aret dX8_text_8 rfl (Or.inl ⟨_, rfl⟩) rfl ?_ (by show _ ≤ 68; omega) (by show _ ≤ 2460; omega)
    exact ⟨_, rfl, lf3.1, lf3.2⟩
end ZCtx3
