section ZCp
variable {G : z_G} {l : Launch}
set_option maxRecDepth 100000 in
set_option maxHeartbeats 8000000 in
theorem c_X8_tableFor_e (hl : l.stackTraces = false) (rf : Int32) (kn : Int32) (ma : Int32) (xa : Bool) (fa : Nat → Int32) (ca : Nat → Int32) (mb : Int32) (xb : Bool) (fb : Nat → Int32) (cb : Nat → Int32) (mt : Int32) (xt : Bool) (ft : Nat → Int32) (ct : Nat → Int32) (f0 : Nat → Int32) (g0 : Nat → Int32) (c0 : Nat → Int32) (m0 : Int32) (s0 : Int32) (f1 : Nat → Int32) (g1 : Nat → Int32) (c1 : Nat → Int32) (m1 : Int32) (s1 : Int32) (f2 : Nat → Int32) (g2 : Nat → Int32) (c2 : Nat → Int32) (m2 : Int32) (s2 : Int32) (f3 : Nat → Int32) (g3 : Nat → Int32) (c3 : Nat → Int32) (m3 : Int32) (s3 : Int32) (f4 : Nat → Int32) (g4 : Nat → Int32) (c4 : Nat → Int32) (m4 : Int32) (s4 : Int32) (f5 : Nat → Int32) (g5 : Nat → Int32) (c5 : Nat → Int32) (m5 : Int32) (s5 : Int32) (ek0 : Int32) (em0 : Int32) (es0 : Int32) (el0 : Int32) (b0 : Int32) (ef0 : Nat → Int32) (ek1 : Int32) (em1 : Int32) (es1 : Int32) (el1 : Int32) (b1 : Int32) (ef1 : Nat → Int32) (r : Int32)  : z_CX G l mX8_tableFor 10 1 6 (z_cw rf kn ma xa fa ca mb xb fb cb mt xt ft ct f0 g0 c0 m0 s0 f1 g1 c1 m1 s1 f2 g2 c2 m2 s2 f3 g3 c3 m3 s3 f4 g4 c4 m4 s4 f5 g5 c5 m5 s5 ek0 em0 es0 el0 b0 ef0 ek1 em1 es1 el1 b1 ef1 []) [.ref 0, .int r] (fun v L => ∃ n : Nat, v = some (.ref n) ∧ ((r = 0 ∧ n = 10) ∨ (r = 1 ∧ n = 16) ∨ (r = 2 ∧ n = 21)) ∧ L = (z_cw rf kn ma xa fa ca mb xb fb cb mt xt ft ct f0 g0 c0 m0 s0 f1 g1 c1 m1 s1 f2 g2 c2 m2 s2 f3 g3 c3 m3 s3 f4 g4 c4 m4 s4 f5 g5 c5 m5 s5 ek0 em0 es0 el0 b0 ef0 ek1 em1 es1 el1 b1 ef1 [])) (fun E L => (z_xI E ∧ ¬ sp_thr r) ∧ L = (z_cw rf kn ma xa fa ca mb xb fb cb mt xt ft ct f0 g0 c0 m0 s0 f1 g1 c1 m1 s1 f2 g2 c2 m2 s2 f3 g3 c3 m3 s3 f4 g4 c4 m4 s4 f5 g5 c5 m5 s5 ek0 em0 es0 el0 b0 ef0 ek1 em1 es1 el1 b1 ef1 [])) := by
  refine z_body hl (by decide) rfl (Nat.le_of_ble_eq_true rfl) ?_
  show z_J G l mX8_tableFor (z_SX 10 1 6 (z_cw rf kn ma xa fa ca mb xb fb cb mt xt ft ct f0 g0 c0 m0 s0 f1 g1 c1 m1 s1 f2 g2 c2 m2 s2 f3 g3 c3 m3 s3 f4 g4 c4 m4 s4 f5 g5 c5 m5 s5 ek0 em0 es0 el0 b0 ef0 ek1 em1 es1 el1 b1 ef1 []) (fun v L => ∃ n : Nat, v = some (.ref n) ∧ ((r = 0 ∧ n = 10) ∨ (r = 1 ∧ n = 16) ∨ (r = 2 ∧ n = 21)) ∧ L = (z_cw rf kn ma xa fa ca mb xb fb cb mt xt ft ct f0 g0 c0 m0 s0 f1 g1 c1 m1 s1 f2 g2 c2 m2 s2 f3 g3 c3 m3 s3 f4 g4 c4 m4 s4 f5 g5 c5 m5 s5 ek0 em0 es0 el0 b0 ef0 ek1 em1 es1 el1 b1 ef1 [])) (fun E L => (z_xI E ∧ ¬ sp_thr r) ∧ L = (z_cw rf kn ma xa fa ca mb xb fb cb mt xt ft ct f0 g0 c0 m0 s0 f1 g1 c1 m1 s1 f2 g2 c2 m2 s2 f3 g3 c3 m3 s3 f4 g4 c4 m4 s4 f5 g5 c5 m5 s5 ek0 em0 es0 el0 b0 ef0 ek1 em1 es1 el1 b1 ef1 []))) 0 [(0, _), (1, _)] [] _ 0 0
  refine j_iload_n dX8_tableFor_0 rfl ?_
  refine j_if_lt (tgt := 13) dX8_tableFor_1 (by decide) (fun c_1 => ?_) (fun c_1 => ?_)
  · exact j_throwSW (text := "there is no such table") rfl th_I (by decide +kernel) dX8_tableFor_13 dX8_tableFor_16 dX8_tableFor_17 dX8_tableFor_20 dX8_tableFor_23 (Nat.le_of_ble_eq_true rfl) (Nat.le_of_ble_eq_true rfl) ⟨rfl, rfl, ⟨rfl, by first | exact q_n3a c_1 | exact q_n3b c_10⟩, rfl⟩ (Nat.le_of_ble_eq_true rfl) (Nat.le_of_ble_eq_true rfl)
  · refine j_iload_n dX8_tableFor_4 rfl ?_
    refine j_aload_n dX8_tableFor_5 rfl rfl ?_
    refine j_getf dX8_tableFor_6 fX8_25 rfl rfl ?_
    refine j_alen dX8_tableFor_9 rfl rfl rfl ?_
    refine j_icmp_lt (tgt := 24) dX8_tableFor_10 (by decide) (fun c_10 => ?_) (fun c_10 => ?_)
    · rcases z_r3 c_1 c_10 with rfl | rfl | rfl
      · refine j_aload_n dX8_tableFor_24 rfl rfl ?_
        refine j_getf dX8_tableFor_25 fX8_25 rfl rfl ?_
        refine j_iload_n dX8_tableFor_28 rfl ?_
        refine j_aald (v := .ref 10) dX8_tableFor_29 rfl rfl rfl (vp_in_iff.mpr (by decide)) rfl ?_
        refine j_aret dX8_tableFor_30 rfl (Or.inl ⟨_, rfl⟩) rfl ?_ (Nat.le_of_ble_eq_true rfl) (Nat.le_of_ble_eq_true rfl)
        exact ⟨rfl, rfl, _, rfl, (by first | exact Or.inl ⟨rfl, rfl⟩ | exact Or.inr (Or.inl ⟨rfl, rfl⟩) | exact Or.inr (Or.inr ⟨rfl, rfl⟩)), rfl⟩
      · refine j_aload_n dX8_tableFor_24 rfl rfl ?_
        refine j_getf dX8_tableFor_25 fX8_25 rfl rfl ?_
        refine j_iload_n dX8_tableFor_28 rfl ?_
        refine j_aald (v := .ref 16) dX8_tableFor_29 rfl rfl rfl (vp_in_iff.mpr (by decide)) rfl ?_
        refine j_aret dX8_tableFor_30 rfl (Or.inl ⟨_, rfl⟩) rfl ?_ (Nat.le_of_ble_eq_true rfl) (Nat.le_of_ble_eq_true rfl)
        exact ⟨rfl, rfl, _, rfl, (by first | exact Or.inl ⟨rfl, rfl⟩ | exact Or.inr (Or.inl ⟨rfl, rfl⟩) | exact Or.inr (Or.inr ⟨rfl, rfl⟩)), rfl⟩
      · refine j_aload_n dX8_tableFor_24 rfl rfl ?_
        refine j_getf dX8_tableFor_25 fX8_25 rfl rfl ?_
        refine j_iload_n dX8_tableFor_28 rfl ?_
        refine j_aald (v := .ref 21) dX8_tableFor_29 rfl rfl rfl (vp_in_iff.mpr (by decide)) rfl ?_
        refine j_aret dX8_tableFor_30 rfl (Or.inl ⟨_, rfl⟩) rfl ?_ (Nat.le_of_ble_eq_true rfl) (Nat.le_of_ble_eq_true rfl)
        exact ⟨rfl, rfl, _, rfl, (by first | exact Or.inl ⟨rfl, rfl⟩ | exact Or.inr (Or.inl ⟨rfl, rfl⟩) | exact Or.inr (Or.inr ⟨rfl, rfl⟩)), rfl⟩
    · exact j_throwSW (text := "there is no such table") rfl th_I (by decide +kernel) dX8_tableFor_13 dX8_tableFor_16 dX8_tableFor_17 dX8_tableFor_20 dX8_tableFor_23 (Nat.le_of_ble_eq_true rfl) (Nat.le_of_ble_eq_true rfl) ⟨rfl, rfl, ⟨rfl, by first | exact q_n3a c_1 | exact q_n3b c_10⟩, rfl⟩ (Nat.le_of_ble_eq_true rfl) (Nat.le_of_ble_eq_true rfl)
set_option maxRecDepth 100000 in
set_option maxHeartbeats 8000000 in
theorem c_X8_tableFor__e (hl : l.stackTraces = false) (rf : Int32) (kn : Int32) (ma : Int32) (xa : Bool) (fa : Nat → Int32) (ca : Nat → Int32) (mb : Int32) (xb : Bool) (fb : Nat → Int32) (cb : Nat → Int32) (mt : Int32) (xt : Bool) (ft : Nat → Int32) (ct : Nat → Int32) (f0 : Nat → Int32) (g0 : Nat → Int32) (c0 : Nat → Int32) (m0 : Int32) (s0 : Int32) (f1 : Nat → Int32) (g1 : Nat → Int32) (c1 : Nat → Int32) (m1 : Int32) (s1 : Int32) (f2 : Nat → Int32) (g2 : Nat → Int32) (c2 : Nat → Int32) (m2 : Int32) (s2 : Int32) (f3 : Nat → Int32) (g3 : Nat → Int32) (c3 : Nat → Int32) (m3 : Int32) (s3 : Int32) (f4 : Nat → Int32) (g4 : Nat → Int32) (c4 : Nat → Int32) (m4 : Int32) (s4 : Int32) (f5 : Nat → Int32) (g5 : Nat → Int32) (c5 : Nat → Int32) (m5 : Int32) (s5 : Int32) (ek0 : Int32) (em0 : Int32) (es0 : Int32) (el0 : Int32) (b0 : Int32) (ef0 : Nat → Int32) (ek1 : Int32) (em1 : Int32) (es1 : Int32) (el1 : Int32) (b1 : Int32) (ef1 : Nat → Int32) (r k : Int32)  : z_CX G l mX8_tableFor_ 14 3 18 (z_cw rf kn ma xa fa ca mb xb fb cb mt xt ft ct f0 g0 c0 m0 s0 f1 g1 c1 m1 s1 f2 g2 c2 m2 s2 f3 g3 c3 m3 s3 f4 g4 c4 m4 s4 f5 g5 c5 m5 s5 ek0 em0 es0 el0 b0 ef0 ek1 em1 es1 el1 b1 ef1 []) [.ref 0, .int r, .int k] (fun v L => ∃ n : Nat, v = some (.ref n) ∧ ((r = 0 ∧ n = 10) ∨ (r = 1 ∧ n = 16) ∨ (r = 2 ∧ n = 21)) ∧ ¬ sp_bk k ∧ L = (z_cw rf kn ma xa fa ca mb xb fb cb mt xt ft ct f0 g0 c0 m0 s0 f1 g1 c1 m1 s1 f2 g2 c2 m2 s2 f3 g3 c3 m3 s3 f4 g4 c4 m4 s4 f5 g5 c5 m5 s5 ek0 em0 es0 el0 b0 ef0 ek1 em1 es1 el1 b1 ef1 [])) (fun E L => ((z_xI E ∧ ¬ sp_thr r) ∨ (z_xA E ∧ sp_thr r ∧ sp_bk k)) ∧ L = (z_cw rf kn ma xa fa ca mb xb fb cb mt xt ft ct f0 g0 c0 m0 s0 f1 g1 c1 m1 s1 f2 g2 c2 m2 s2 f3 g3 c3 m3 s3 f4 g4 c4 m4 s4 f5 g5 c5 m5 s5 ek0 em0 es0 el0 b0 ef0 ek1 em1 es1 el1 b1 ef1 [])) := by
  refine z_body hl (by decide) rfl (Nat.le_of_ble_eq_true rfl) ?_
  show z_J G l mX8_tableFor_ (z_SX 14 3 18 (z_cw rf kn ma xa fa ca mb xb fb cb mt xt ft ct f0 g0 c0 m0 s0 f1 g1 c1 m1 s1 f2 g2 c2 m2 s2 f3 g3 c3 m3 s3 f4 g4 c4 m4 s4 f5 g5 c5 m5 s5 ek0 em0 es0 el0 b0 ef0 ek1 em1 es1 el1 b1 ef1 []) (fun v L => ∃ n : Nat, v = some (.ref n) ∧ ((r = 0 ∧ n = 10) ∨ (r = 1 ∧ n = 16) ∨ (r = 2 ∧ n = 21)) ∧ ¬ sp_bk k ∧ L = (z_cw rf kn ma xa fa ca mb xb fb cb mt xt ft ct f0 g0 c0 m0 s0 f1 g1 c1 m1 s1 f2 g2 c2 m2 s2 f3 g3 c3 m3 s3 f4 g4 c4 m4 s4 f5 g5 c5 m5 s5 ek0 em0 es0 el0 b0 ef0 ek1 em1 es1 el1 b1 ef1 [])) (fun E L => ((z_xI E ∧ ¬ sp_thr r) ∨ (z_xA E ∧ sp_thr r ∧ sp_bk k)) ∧ L = (z_cw rf kn ma xa fa ca mb xb fb cb mt xt ft ct f0 g0 c0 m0 s0 f1 g1 c1 m1 s1 f2 g2 c2 m2 s2 f3 g3 c3 m3 s3 f4 g4 c4 m4 s4 f5 g5 c5 m5 s5 ek0 em0 es0 el0 b0 ef0 ek1 em1 es1 el1 b1 ef1 []))) 0 [(0, _), (1, _), (2, _)] [] _ 0 0
  refine j_aload_n dX8_tableFor__0 rfl rfl ?_
  refine j_iload_n dX8_tableFor__1 rfl ?_
  refine j_callV (q := (RX8, TX8, 9)) dX8_tableFor__2 kX8_tableFor lX8_157 inX8_tableFor seX8_tableFor rfl rfl (z_dirX (c_X8_tableFor_e hl _ _ _ _ _ _ _ _ _ _ _ _ _ _ _ _ _ _ _ _ _ _ _ _ _ _ _ _ _ _ _ _ _ _ _ _ _ _ _ _ _ _ _ _ _ _ _ _ _ _ _ _ _ _ _ _ _)) (Nat.le_of_ble_eq_true rfl) ⟨(Nat.le_of_ble_eq_true rfl), (Nat.le_of_ble_eq_true rfl)⟩ rfl (Nat.le_of_ble_eq_true rfl) rfl rfl (fun _ _ h => by obtain ⟨_, ⟨h1, rfl⟩, rfl⟩ := h; exact ⟨rfl, rfl, Or.inl h1, rfl⟩) ?_
  rintro _ _ ⟨_, ⟨_, rfl, hr, rfl⟩, rfl⟩
  refine j_astore_n (lo' := [(3, _), (0, _), (1, _), (2, _)]) dX8_tableFor__5 rfl (by decide) rfl ?_
  refine j_iload_n dX8_tableFor__6 rfl ?_
  refine j_callS dX8_tableFor__7 kX8_checkKey lX8_234 stX8_checkKey (c_X8_checkKey_e hl _ _) (Nat.le_of_ble_eq_true rfl) ⟨(Nat.le_of_ble_eq_true rfl), (Nat.le_of_ble_eq_true rfl)⟩ rfl (Nat.le_of_ble_eq_true rfl) rfl rfl (fun _ _ h => by obtain ⟨h1, rfl⟩ := h; exact ⟨rfl, rfl, Or.inr ⟨h1.1, sp_thr_of hr, h1.2⟩, rfl⟩) ?_
  rintro _ _ ⟨⟨rfl, hc7⟩, rfl⟩
  refine j_aload_n dX8_tableFor__10 rfl rfl ?_
  refine j_aret dX8_tableFor__11 rfl (Or.inl ⟨_, rfl⟩) rfl ?_ (Nat.le_of_ble_eq_true rfl) (Nat.le_of_ble_eq_true rfl)
  exact ⟨rfl, rfl, _, rfl, hr, hc7, rfl⟩
set_option maxRecDepth 100000 in
set_option maxHeartbeats 8000000 in
theorem c_X8_tableToReckon_e (hl : l.stackTraces = false) (rf : Int32) (kn : Int32) (ma : Int32) (xa : Bool) (fa : Nat → Int32) (ca : Nat → Int32) (mb : Int32) (xb : Bool) (fb : Nat → Int32) (cb : Nat → Int32) (mt : Int32) (xt : Bool) (ft : Nat → Int32) (ct : Nat → Int32) (f0 : Nat → Int32) (g0 : Nat → Int32) (c0 : Nat → Int32) (m0 : Int32) (s0 : Int32) (f1 : Nat → Int32) (g1 : Nat → Int32) (c1 : Nat → Int32) (m1 : Int32) (s1 : Int32) (f2 : Nat → Int32) (g2 : Nat → Int32) (c2 : Nat → Int32) (m2 : Int32) (s2 : Int32) (f3 : Nat → Int32) (g3 : Nat → Int32) (c3 : Nat → Int32) (m3 : Int32) (s3 : Int32) (f4 : Nat → Int32) (g4 : Nat → Int32) (c4 : Nat → Int32) (m4 : Int32) (s4 : Int32) (f5 : Nat → Int32) (g5 : Nat → Int32) (c5 : Nat → Int32) (m5 : Int32) (s5 : Int32) (ek0 : Int32) (em0 : Int32) (es0 : Int32) (el0 : Int32) (b0 : Int32) (ef0 : Nat → Int32) (ek1 : Int32) (em1 : Int32) (es1 : Int32) (el1 : Int32) (b1 : Int32) (ef1 : Nat → Int32) (r k u n9 : Int32)  : z_CX G l mX8_tableToReckon 16 6 36 (z_cw rf kn ma xa fa ca mb xb fb cb mt xt ft ct f0 g0 c0 m0 s0 f1 g1 c1 m1 s1 f2 g2 c2 m2 s2 f3 g3 c3 m3 s3 f4 g4 c4 m4 s4 f5 g5 c5 m5 s5 ek0 em0 es0 el0 b0 ef0 ek1 em1 es1 el1 b1 ef1 []) [.ref 0, .int r, .int k, .int u, .int n9] (fun v L => ∃ n : Nat, v = some (.ref n) ∧ ((r = 0 ∧ n = 10) ∨ (r = 1 ∧ n = 16) ∨ (r = 2 ∧ n = 21)) ∧ ¬ (sp_bk k ∨ (u < 0 ∨ 5 < u) ∨ sp_bv n9) ∧ L = (z_cw rf kn ma xa fa ca mb xb fb cb mt xt ft ct f0 g0 c0 m0 s0 f1 g1 c1 m1 s1 f2 g2 c2 m2 s2 f3 g3 c3 m3 s3 f4 g4 c4 m4 s4 f5 g5 c5 m5 s5 ek0 em0 es0 el0 b0 ef0 ek1 em1 es1 el1 b1 ef1 [])) (fun E L => ((z_xI E ∧ ¬ sp_thr r) ∨ (z_xA E ∧ sp_thr r ∧ (sp_bk k ∨ (u < 0 ∨ 5 < u) ∨ sp_bv n9))) ∧ L = (z_cw rf kn ma xa fa ca mb xb fb cb mt xt ft ct f0 g0 c0 m0 s0 f1 g1 c1 m1 s1 f2 g2 c2 m2 s2 f3 g3 c3 m3 s3 f4 g4 c4 m4 s4 f5 g5 c5 m5 s5 ek0 em0 es0 el0 b0 ef0 ek1 em1 es1 el1 b1 ef1 [])) := by
  refine z_body hl (by decide) rfl (Nat.le_of_ble_eq_true rfl) ?_
  show z_J G l mX8_tableToReckon (z_SX 16 6 36 (z_cw rf kn ma xa fa ca mb xb fb cb mt xt ft ct f0 g0 c0 m0 s0 f1 g1 c1 m1 s1 f2 g2 c2 m2 s2 f3 g3 c3 m3 s3 f4 g4 c4 m4 s4 f5 g5 c5 m5 s5 ek0 em0 es0 el0 b0 ef0 ek1 em1 es1 el1 b1 ef1 []) (fun v L => ∃ n : Nat, v = some (.ref n) ∧ ((r = 0 ∧ n = 10) ∨ (r = 1 ∧ n = 16) ∨ (r = 2 ∧ n = 21)) ∧ ¬ (sp_bk k ∨ (u < 0 ∨ 5 < u) ∨ sp_bv n9) ∧ L = (z_cw rf kn ma xa fa ca mb xb fb cb mt xt ft ct f0 g0 c0 m0 s0 f1 g1 c1 m1 s1 f2 g2 c2 m2 s2 f3 g3 c3 m3 s3 f4 g4 c4 m4 s4 f5 g5 c5 m5 s5 ek0 em0 es0 el0 b0 ef0 ek1 em1 es1 el1 b1 ef1 [])) (fun E L => ((z_xI E ∧ ¬ sp_thr r) ∨ (z_xA E ∧ sp_thr r ∧ (sp_bk k ∨ (u < 0 ∨ 5 < u) ∨ sp_bv n9))) ∧ L = (z_cw rf kn ma xa fa ca mb xb fb cb mt xt ft ct f0 g0 c0 m0 s0 f1 g1 c1 m1 s1 f2 g2 c2 m2 s2 f3 g3 c3 m3 s3 f4 g4 c4 m4 s4 f5 g5 c5 m5 s5 ek0 em0 es0 el0 b0 ef0 ek1 em1 es1 el1 b1 ef1 []))) 0 [(0, _), (1, _), (2, _), (3, _), (4, _)] [] _ 0 0
  refine j_aload_n dX8_tableToReckon_0 rfl rfl ?_
  refine j_iload_n dX8_tableToReckon_1 rfl ?_
  refine j_iload_n dX8_tableToReckon_2 rfl ?_
  refine j_callV (q := (RX8, TX8, 9)) dX8_tableToReckon_3 kX8_tableFor_ lX8_126 inX8_tableFor_ seX8_tableFor_ rfl rfl (z_dirX (c_X8_tableFor__e hl _ _ _ _ _ _ _ _ _ _ _ _ _ _ _ _ _ _ _ _ _ _ _ _ _ _ _ _ _ _ _ _ _ _ _ _ _ _ _ _ _ _ _ _ _ _ _ _ _ _ _ _ _ _ _ _ _ _)) (Nat.le_of_ble_eq_true rfl) ⟨(Nat.le_of_ble_eq_true rfl), (Nat.le_of_ble_eq_true rfl)⟩ rfl (Nat.le_of_ble_eq_true rfl) rfl rfl (fun _ _ h => by obtain ⟨_, ⟨h1, rfl⟩, rfl⟩ := h; exact ⟨rfl, rfl, h1.elim (fun z => Or.inl z) (fun z => Or.inr ⟨z.1, z.2.1, Or.inl z.2.2⟩), rfl⟩) ?_
  rintro _ _ ⟨_, ⟨_, rfl, hr, hk, rfl⟩, rfl⟩
  refine j_astore (lo' := [(5, _), (0, _), (1, _), (2, _), (3, _), (4, _)]) dX8_tableToReckon_6 rfl (by decide) rfl ?_
  refine j_iload_n dX8_tableToReckon_8 rfl ?_
  refine j_iconst (v := 0) dX8_tableToReckon_9 (by decide) ?_
  refine j_iconst (v := 5) dX8_tableToReckon_10 (by decide) ?_
  refine j_callS dX8_tableToReckon_11 kX8_checkRange lX8_72 stX8_checkRange (c_X8_checkRange_e hl _ _ _ _) (Nat.le_of_ble_eq_true rfl) ⟨(Nat.le_of_ble_eq_true rfl), (Nat.le_of_ble_eq_true rfl)⟩ rfl (Nat.le_of_ble_eq_true rfl) rfl rfl (fun _ _ h => by obtain ⟨h1, rfl⟩ := h; exact ⟨rfl, rfl, Or.inr ⟨h1.1, sp_thr_of hr, Or.inr (Or.inl h1.2)⟩, rfl⟩) ?_
  rintro _ _ ⟨⟨rfl, hc11⟩, rfl⟩
  refine j_iload dX8_tableToReckon_14 rfl ?_
  refine j_callS dX8_tableToReckon_16 kX8_checkValue lX8_50 stX8_checkValue (c_X8_checkValue_e hl _ _) (Nat.le_of_ble_eq_true rfl) ⟨(Nat.le_of_ble_eq_true rfl), (Nat.le_of_ble_eq_true rfl)⟩ rfl (Nat.le_of_ble_eq_true rfl) rfl rfl (fun _ _ h => by obtain ⟨h1, rfl⟩ := h; exact ⟨rfl, rfl, Or.inr ⟨h1.1, sp_thr_of hr, Or.inr (Or.inr h1.2)⟩, rfl⟩) ?_
  rintro _ _ ⟨⟨rfl, hc16⟩, rfl⟩
  refine j_aload dX8_tableToReckon_19 rfl rfl ?_
  refine j_aret dX8_tableToReckon_21 rfl (Or.inl ⟨_, rfl⟩) rfl ?_ (Nat.le_of_ble_eq_true rfl) (Nat.le_of_ble_eq_true rfl)
  exact ⟨rfl, rfl, _, rfl, hr, (fun z => z.elim hk (fun z => z.elim hc11 hc16)), rfl⟩
set_option maxRecDepth 100000 in
set_option maxHeartbeats 8000000 in
theorem c_X8_answer_f_e (hl : l.stackTraces = false) (rf : Int32) (kn : Int32) (ma : Int32) (xa : Bool) (fa : Nat → Int32) (ca : Nat → Int32) (mb : Int32) (xb : Bool) (fb : Nat → Int32) (cb : Nat → Int32) (mt : Int32) (xt : Bool) (ft : Nat → Int32) (ct : Nat → Int32) (f0 : Nat → Int32) (g0 : Nat → Int32) (c0 : Nat → Int32) (m0 : Int32) (s0 : Int32) (f1 : Nat → Int32) (g1 : Nat → Int32) (c1 : Nat → Int32) (m1 : Int32) (s1 : Int32) (f2 : Nat → Int32) (g2 : Nat → Int32) (c2 : Nat → Int32) (m2 : Int32) (s2 : Int32) (f3 : Nat → Int32) (g3 : Nat → Int32) (c3 : Nat → Int32) (m3 : Int32) (s3 : Int32) (f4 : Nat → Int32) (g4 : Nat → Int32) (c4 : Nat → Int32) (m4 : Int32) (s4 : Int32) (f5 : Nat → Int32) (g5 : Nat → Int32) (c5 : Nat → Int32) (m5 : Int32) (s5 : Int32) (ek0 : Int32) (em0 : Int32) (es0 : Int32) (el0 : Int32) (b0 : Int32) (ef0 : Nat → Int32) (ek1 : Int32) (em1 : Int32) (es1 : Int32) (el1 : Int32) (b1 : Int32) (ef1 : Nat → Int32) {α : Type} (o : Option α) (f : α → Int32) (hn : ∀ y, o = some y → ¬ f y = -1001) : z_CF G l mX8_answer 11 0 0 (z_cw rf kn ma xa fa ca mb xb fb cb mt xt ft ct f0 g0 c0 m0 s0 f1 g1 c1 m1 s1 f2 g2 c2 m2 s2 f3 g3 c3 m3 s3 f4 g4 c4 m4 s4 f5 g5 c5 m5 s5 ek0 em0 es0 el0 b0 ef0 ek1 em1 es1 el1 b1 ef1 []) [.ref 0, .int ((o.map f).getD (-1001))] (fun v L => v = some (.int ((o.map f).getD (-9))) ∧ L = (z_cw (sp_rfn rf o) kn ma xa fa ca mb xb fb cb mt xt ft ct f0 g0 c0 m0 s0 f1 g1 c1 m1 s1 f2 g2 c2 m2 s2 f3 g3 c3 m3 s3 f4 g4 c4 m4 s4 f5 g5 c5 m5 s5 ek0 em0 es0 el0 b0 ef0 ek1 em1 es1 el1 b1 ef1 [])) := by
  refine z_body hl (by decide) rfl (Nat.le_of_ble_eq_true rfl) ?_
  show z_J G l mX8_answer (z_SF 11 0 0 (z_cw rf kn ma xa fa ca mb xb fb cb mt xt ft ct f0 g0 c0 m0 s0 f1 g1 c1 m1 s1 f2 g2 c2 m2 s2 f3 g3 c3 m3 s3 f4 g4 c4 m4 s4 f5 g5 c5 m5 s5 ek0 em0 es0 el0 b0 ef0 ek1 em1 es1 el1 b1 ef1 []) (fun v L => v = some (.int ((o.map f).getD (-9))) ∧ L = (z_cw (sp_rfn rf o) kn ma xa fa ca mb xb fb cb mt xt ft ct f0 g0 c0 m0 s0 f1 g1 c1 m1 s1 f2 g2 c2 m2 s2 f3 g3 c3 m3 s3 f4 g4 c4 m4 s4 f5 g5 c5 m5 s5 ek0 em0 es0 el0 b0 ef0 ek1 em1 es1 el1 b1 ef1 []))) 0 [(0, _), (1, _)] [] _ 0 0
  refine j_iload_n dX8_answer_0 rfl ?_
  refine j_sipush (v := (-1001)) dX8_answer_1 (by decide) ?_
  refine j_icmp_ne (tgt := 14) dX8_answer_4 (by decide) (fun c_4 => ?_) (fun c_4 => ?_)
  · obtain ⟨y, rfl⟩ : ∃ y, o = some y := by cases o with | none => exact absurd rfl c_4 | some y => exact ⟨y, rfl⟩
    refine j_iload_n dX8_answer_14 rfl ?_
    refine j_iret dX8_answer_15 rfl rfl ?_ (Nat.le_of_ble_eq_true rfl) (Nat.le_of_ble_eq_true rfl)
    exact ⟨rfl, (by first | exact z_cwl | rfl), rfl, rfl⟩
  · have ho : o = none := by
      cases o with
      | none => rfl
      | some y => exact absurd c_4 (hn y rfl)
    subst ho
    refine j_aload_n dX8_answer_7 rfl rfl ?_
    refine j_callV (q := (RX8, TX8, 9)) dX8_answer_8 kX8_refused lX8_119 inX8_refused seX8_refused rfl rfl (z_dirF (c_X8_refused_e hl _ _ _ _ _ _ _ _ _ _ _ _ _ _ _ _ _ _ _ _ _ _ _ _ _ _ _ _ _ _ _ _ _ _ _ _ _ _ _ _ _ _ _ _ _ _ _ _ _ _ _ _ _ _ _ _)) (Nat.le_of_ble_eq_true rfl) ⟨(Nat.le_of_ble_eq_true rfl), (Nat.le_of_ble_eq_true rfl)⟩ rfl (Nat.le_of_ble_eq_true rfl) rfl rfl (fun _ _ h => h.elim) ?_
    rintro _ _ ⟨_, ⟨rfl, rfl⟩, rfl⟩
    refine j_goto (tgt := 15) dX8_answer_11 (by decide) ?_
    refine j_iret dX8_answer_15 rfl rfl ?_ (Nat.le_of_ble_eq_true rfl) (Nat.le_of_ble_eq_true rfl)
    exact ⟨rfl, (by first | exact z_cwl | rfl), rfl, rfl⟩
set_option maxRecDepth 100000 in
set_option maxHeartbeats 8000000 in
theorem c_X8_answer_e (hl : l.stackTraces = false) (rf : Int32) (kn : Int32) (ma : Int32) (xa : Bool) (fa : Nat → Int32) (ca : Nat → Int32) (mb : Int32) (xb : Bool) (fb : Nat → Int32) (cb : Nat → Int32) (mt : Int32) (xt : Bool) (ft : Nat → Int32) (ct : Nat → Int32) (f0 : Nat → Int32) (g0 : Nat → Int32) (c0 : Nat → Int32) (m0 : Int32) (s0 : Int32) (f1 : Nat → Int32) (g1 : Nat → Int32) (c1 : Nat → Int32) (m1 : Int32) (s1 : Int32) (f2 : Nat → Int32) (g2 : Nat → Int32) (c2 : Nat → Int32) (m2 : Int32) (s2 : Int32) (f3 : Nat → Int32) (g3 : Nat → Int32) (c3 : Nat → Int32) (m3 : Int32) (s3 : Int32) (f4 : Nat → Int32) (g4 : Nat → Int32) (c4 : Nat → Int32) (m4 : Int32) (s4 : Int32) (f5 : Nat → Int32) (g5 : Nat → Int32) (c5 : Nat → Int32) (m5 : Int32) (s5 : Int32) (ek0 : Int32) (em0 : Int32) (es0 : Int32) (el0 : Int32) (b0 : Int32) (ef0 : Nat → Int32) (ek1 : Int32) (em1 : Int32) (es1 : Int32) (el1 : Int32) (b1 : Int32) (ef1 : Nat → Int32) (o : Option Int32) (hn : ∀ y, o = some y → ¬ y = -1001) : z_CF G l mX8_answer 11 0 0 (z_cw rf kn ma xa fa ca mb xb fb cb mt xt ft ct f0 g0 c0 m0 s0 f1 g1 c1 m1 s1 f2 g2 c2 m2 s2 f3 g3 c3 m3 s3 f4 g4 c4 m4 s4 f5 g5 c5 m5 s5 ek0 em0 es0 el0 b0 ef0 ek1 em1 es1 el1 b1 ef1 []) [.ref 0, .int (o.getD (-1001))] (fun v L => v = some (.int (o.getD (-9))) ∧ L = (z_cw (sp_rfn rf o) kn ma xa fa ca mb xb fb cb mt xt ft ct f0 g0 c0 m0 s0 f1 g1 c1 m1 s1 f2 g2 c2 m2 s2 f3 g3 c3 m3 s3 f4 g4 c4 m4 s4 f5 g5 c5 m5 s5 ek0 em0 es0 el0 b0 ef0 ek1 em1 es1 el1 b1 ef1 [])) := by
  refine z_body hl (by decide) rfl (Nat.le_of_ble_eq_true rfl) ?_
  show z_J G l mX8_answer (z_SF 11 0 0 (z_cw rf kn ma xa fa ca mb xb fb cb mt xt ft ct f0 g0 c0 m0 s0 f1 g1 c1 m1 s1 f2 g2 c2 m2 s2 f3 g3 c3 m3 s3 f4 g4 c4 m4 s4 f5 g5 c5 m5 s5 ek0 em0 es0 el0 b0 ef0 ek1 em1 es1 el1 b1 ef1 []) (fun v L => v = some (.int (o.getD (-9))) ∧ L = (z_cw (sp_rfn rf o) kn ma xa fa ca mb xb fb cb mt xt ft ct f0 g0 c0 m0 s0 f1 g1 c1 m1 s1 f2 g2 c2 m2 s2 f3 g3 c3 m3 s3 f4 g4 c4 m4 s4 f5 g5 c5 m5 s5 ek0 em0 es0 el0 b0 ef0 ek1 em1 es1 el1 b1 ef1 []))) 0 [(0, _), (1, _)] [] _ 0 0
  refine j_iload_n dX8_answer_0 rfl ?_
  refine j_sipush (v := (-1001)) dX8_answer_1 (by decide) ?_
  refine j_icmp_ne (tgt := 14) dX8_answer_4 (by decide) (fun c_4 => ?_) (fun c_4 => ?_)
  · obtain ⟨y, rfl⟩ : ∃ y, o = some y := by cases o with | none => exact absurd rfl c_4 | some y => exact ⟨y, rfl⟩
    refine j_iload_n dX8_answer_14 rfl ?_
    refine j_iret dX8_answer_15 rfl rfl ?_ (Nat.le_of_ble_eq_true rfl) (Nat.le_of_ble_eq_true rfl)
    exact ⟨rfl, (by first | exact z_cwl | rfl), rfl, rfl⟩
  · have ho : o = none := by
      cases o with
      | none => rfl
      | some y => exact absurd c_4 (hn y rfl)
    subst ho
    refine j_aload_n dX8_answer_7 rfl rfl ?_
    refine j_callV (q := (RX8, TX8, 9)) dX8_answer_8 kX8_refused lX8_119 inX8_refused seX8_refused rfl rfl (z_dirF (c_X8_refused_e hl _ _ _ _ _ _ _ _ _ _ _ _ _ _ _ _ _ _ _ _ _ _ _ _ _ _ _ _ _ _ _ _ _ _ _ _ _ _ _ _ _ _ _ _ _ _ _ _ _ _ _ _ _ _ _ _)) (Nat.le_of_ble_eq_true rfl) ⟨(Nat.le_of_ble_eq_true rfl), (Nat.le_of_ble_eq_true rfl)⟩ rfl (Nat.le_of_ble_eq_true rfl) rfl rfl (fun _ _ h => h.elim) ?_
    rintro _ _ ⟨_, ⟨rfl, rfl⟩, rfl⟩
    refine j_goto (tgt := 15) dX8_answer_11 (by decide) ?_
    refine j_iret dX8_answer_15 rfl rfl ?_ (Nat.le_of_ble_eq_true rfl) (Nat.le_of_ble_eq_true rfl)
    exact ⟨rfl, (by first | exact z_cwl | rfl), rfl, rfl⟩
set_option maxRecDepth 100000 in
set_option maxHeartbeats 8000000 in
theorem c_X8_type_p (hl : l.stackTraces = false) (S : sp_S) (fa : Nat → Int32) (fb : Nat → Int32) (mt : Int32) (ft : Nat → Int32) (ct : Nat → Int32) (f0 : Nat → Int32) (g0 : Nat → Int32) (f1 : Nat → Int32) (g1 : Nat → Int32) (c1 : Nat → Int32) (f2 : Nat → Int32) (g2 : Nat → Int32) (c2 : Nat → Int32) (f3 : Nat → Int32) (g3 : Nat → Int32) (c3 : Nat → Int32) (m3 : Int32) (f4 : Nat → Int32) (g4 : Nat → Int32) (c4 : Nat → Int32) (m4 : Int32) (f5 : Nat → Int32) (g5 : Nat → Int32) (c5 : Nat → Int32) (m5 : Int32) (ef0 : Nat → Int32) (ef1 : Nat → Int32) (r : Int32) (y : Int32) (ok : sp_ok S) (hra : z_row 12 (nI (sp_R S 0).length) fa (sp_R S 0)) (hrb : z_row 12 (nI (sp_R S 1).length) fb (sp_R S 1)) (ht0 : z_tba f0 g0 (sp_T S 0)) (ht1 : z_tba f1 g1 (sp_T S 1)) (ht2 : z_tba f2 g2 (sp_T S 2)) (he0 : z_row 10 (nI (sp_E S 0).2.length) ef0 (sp_E S 0).2) (he1 : z_row 10 (nI (sp_E S 1).2.length) ef1 (sp_E S 1).2) (hzm3 : z_m20 m3) (hzm4 : z_m20 m4) (hzm5 : z_m20 m5) : z_CX G l mX8_type 20 14 120 (z_cw S.1.1 S.1.2 (nI (sp_R S 0).length) (sp_F S 0) fa (sp_C S 0) (nI (sp_R S 1).length) (sp_F S 1) fb (sp_C S 1) mt false ft ct f0 g0 (sp_C S 2) (nI (sp_T S 0).length) 0 f1 g1 c1 (nI (sp_T S 1).length) 0 f2 g2 c2 (nI (sp_T S 2).length) 1 f3 g3 c3 m3 0 f4 g4 c4 m4 0 f5 g5 c5 m5 1 (nI (sp_E S 0).2.length) (sp_E S 0).1.2.1 (sp_E S 0).1.2.2.1 (sp_E S 0).1.2.2.2 (sp_E S 0).1.1 ef0 (nI (sp_E S 1).2.length) (sp_E S 1).1.2.1 (sp_E S 1).1.2.2.1 (sp_E S 1).1.2.2.2 (sp_E S 1).1.1 ef1 []) [.ref 0, .int r, .int y] (fun v L => sp_k23 r (sp_bv y) ((sp_R S (sp_i r)).length = 12) = 0 ∧ v = some (.int (nI ((sp_R S (sp_i r)) ++ [y]).length)) ∧ sp_CW (sp_uR S (sp_i r) ((sp_R S (sp_i r)) ++ [y])) L) (fun E L => ((z_xI E ∧ sp_k23 r (sp_bv y) ((sp_R S (sp_i r)).length = 12) = 1) ∨ (z_xA E ∧ sp_k23 r (sp_bv y) ((sp_R S (sp_i r)).length = 12) = 2) ∨ (z_xS E ∧ sp_k23 r (sp_bv y) ((sp_R S (sp_i r)).length = 12) = 3)) ∧ L = (z_cw S.1.1 S.1.2 (nI (sp_R S 0).length) (sp_F S 0) fa (sp_C S 0) (nI (sp_R S 1).length) (sp_F S 1) fb (sp_C S 1) mt false ft ct f0 g0 (sp_C S 2) (nI (sp_T S 0).length) 0 f1 g1 c1 (nI (sp_T S 1).length) 0 f2 g2 c2 (nI (sp_T S 2).length) 1 f3 g3 c3 m3 0 f4 g4 c4 m4 0 f5 g5 c5 m5 1 (nI (sp_E S 0).2.length) (sp_E S 0).1.2.1 (sp_E S 0).1.2.2.1 (sp_E S 0).1.2.2.2 (sp_E S 0).1.1 ef0 (nI (sp_E S 1).2.length) (sp_E S 1).1.2.1 (sp_E S 1).1.2.2.1 (sp_E S 1).1.2.2.2 (sp_E S 1).1.1 ef1 [])) := by
  refine z_body hl (by decide) rfl (Nat.le_of_ble_eq_true rfl) ?_
  show z_J G l mX8_type (z_SX 20 14 120 (z_cw S.1.1 S.1.2 (nI (sp_R S 0).length) (sp_F S 0) fa (sp_C S 0) (nI (sp_R S 1).length) (sp_F S 1) fb (sp_C S 1) mt false ft ct f0 g0 (sp_C S 2) (nI (sp_T S 0).length) 0 f1 g1 c1 (nI (sp_T S 1).length) 0 f2 g2 c2 (nI (sp_T S 2).length) 1 f3 g3 c3 m3 0 f4 g4 c4 m4 0 f5 g5 c5 m5 1 (nI (sp_E S 0).2.length) (sp_E S 0).1.2.1 (sp_E S 0).1.2.2.1 (sp_E S 0).1.2.2.2 (sp_E S 0).1.1 ef0 (nI (sp_E S 1).2.length) (sp_E S 1).1.2.1 (sp_E S 1).1.2.2.1 (sp_E S 1).1.2.2.2 (sp_E S 1).1.1 ef1 []) (fun v L => sp_k23 r (sp_bv y) ((sp_R S (sp_i r)).length = 12) = 0 ∧ v = some (.int (nI ((sp_R S (sp_i r)) ++ [y]).length)) ∧ sp_CW (sp_uR S (sp_i r) ((sp_R S (sp_i r)) ++ [y])) L) (fun E L => ((z_xI E ∧ sp_k23 r (sp_bv y) ((sp_R S (sp_i r)).length = 12) = 1) ∨ (z_xA E ∧ sp_k23 r (sp_bv y) ((sp_R S (sp_i r)).length = 12) = 2) ∨ (z_xS E ∧ sp_k23 r (sp_bv y) ((sp_R S (sp_i r)).length = 12) = 3)) ∧ L = (z_cw S.1.1 S.1.2 (nI (sp_R S 0).length) (sp_F S 0) fa (sp_C S 0) (nI (sp_R S 1).length) (sp_F S 1) fb (sp_C S 1) mt false ft ct f0 g0 (sp_C S 2) (nI (sp_T S 0).length) 0 f1 g1 c1 (nI (sp_T S 1).length) 0 f2 g2 c2 (nI (sp_T S 2).length) 1 f3 g3 c3 m3 0 f4 g4 c4 m4 0 f5 g5 c5 m5 1 (nI (sp_E S 0).2.length) (sp_E S 0).1.2.1 (sp_E S 0).1.2.2.1 (sp_E S 0).1.2.2.2 (sp_E S 0).1.1 ef0 (nI (sp_E S 1).2.length) (sp_E S 1).1.2.1 (sp_E S 1).1.2.2.1 (sp_E S 1).1.2.2.2 (sp_E S 1).1.1 ef1 []))) 0 [(0, _), (1, _), (2, _)] [] _ 0 0
  refine j_aload_n dX8_type_0 rfl rfl ?_
  refine j_iload_n dX8_type_1 rfl ?_
  refine j_callV (q := (RX8, TX8, 9)) dX8_type_2 kX8_rowFor lX8_46 inX8_rowFor seX8_rowFor rfl rfl (z_dirX (c_X8_rowFor_e hl _ _ _ _ _ _ _ _ _ _ _ _ _ _ _ _ _ _ _ _ _ _ _ _ _ _ _ _ _ _ _ _ _ _ _ _ _ _ _ _ _ _ _ _ _ _ _ _ _ _ _ _ _ _ _ _ _)) (Nat.le_of_ble_eq_true rfl) ⟨(Nat.le_of_ble_eq_true rfl), (Nat.le_of_ble_eq_true rfl)⟩ rfl (Nat.le_of_ble_eq_true rfl) rfl rfl (fun _ _ h => by obtain ⟨_, ⟨h1, rfl⟩, rfl⟩ := h; exact ⟨rfl, rfl, Or.inl ⟨h1.1, sp_k23_1 h1.2⟩, rfl⟩) ?_
  rintro _ _ ⟨_, ⟨_, rfl, hr, rfl⟩, rfl⟩
  rcases hr with ⟨e_2, rfl⟩ | ⟨e_2, rfl⟩
  · subst e_2
    refine j_astore_n (lo' := [(3, _), (0, _), (1, _), (2, _)]) dX8_type_5 rfl (by decide) rfl ?_
    refine j_iload_n dX8_type_6 rfl ?_
    refine j_callS dX8_type_7 kX8_checkValue lX8_50 stX8_checkValue (c_X8_checkValue_e hl _ _) (Nat.le_of_ble_eq_true rfl) ⟨(Nat.le_of_ble_eq_true rfl), (Nat.le_of_ble_eq_true rfl)⟩ rfl (Nat.le_of_ble_eq_true rfl) rfl rfl (fun _ _ h => by obtain ⟨h1, rfl⟩ := h; exact ⟨rfl, rfl, Or.inr (Or.inl ⟨h1.1, sp_k23_2 (Or.inl rfl) h1.2⟩), rfl⟩) ?_
    rintro _ _ ⟨⟨rfl, hc7⟩, rfl⟩
    refine j_aload_n dX8_type_10 rfl rfl ?_
    refine j_callV (q := (RX1, TX1, 4)) dX8_type_11 kX1_isFull lX8_54 inX1_isFull seX1_isFull rfl rfl (z_frame [2, 3, 4, 5] rfl (by decide) (Nat.le_of_ble_eq_true rfl) (c_X1_isFull_e hl _ _ _ (sp_R S 0) (sp_R S 0).length hra rfl)) (Nat.le_of_ble_eq_true rfl) ⟨(Nat.le_of_ble_eq_true rfl), (Nat.le_of_ble_eq_true rfl)⟩ rfl (Nat.le_of_ble_eq_true rfl) rfl rfl (fun _ _ h => h.elim) ?_
    rintro _ _ ⟨_, _, ⟨rfl, rfl⟩, rfl, rfl⟩
    refine j_ws (L' := z_cw _ _ _ _ _ _ _ _ _ _ _ _ _ _ _ _ _ _ _ _ _ _ _ _ _ _ _ _ _ _ _ _ _ _ _ _ _ _ _ _ _ _ _ _ _ _ _ _ _ _ _ _ _ _ _ _ []) (by decide) rfl rfl ?_
    refine j_if_eq (tgt := 27) dX8_type_14 (by decide) (fun c_14 => ?_) (fun c_14 => ?_)
    · have hb14 := z_bF c_14
      refine j_aload_n dX8_type_27 rfl rfl ?_
      refine j_iload_n dX8_type_28 rfl ?_
      have hlt : (sp_R S 0).length < 12 := by have := of_decide_eq_false hb14; omega
      refine j_callV (q := (RX1, TX1, 4)) dX8_type_29 kX1_append lX8_65 inX1_append seX1_append rfl rfl (z_frame [2, 3, 4, 5] rfl (by decide) (Nat.le_of_ble_eq_true rfl) (c_X1_append_e hl _ _ _ (sp_R S 0) (sp_R S 0).length y hra rfl hlt)) (Nat.le_of_ble_eq_true rfl) ⟨(Nat.le_of_ble_eq_true rfl), (Nat.le_of_ble_eq_true rfl)⟩ rfl (Nat.le_of_ble_eq_true rfl) rfl rfl (fun _ _ h => h.elim) ?_
      rintro _ _ ⟨_, _, ⟨rfl, rfl⟩, rfl, rfl⟩
      refine j_ws (L' := z_cw _ _ _ _ _ _ _ _ _ _ _ _ _ _ _ _ _ _ _ _ _ _ _ _ _ _ _ _ _ _ _ _ _ _ _ _ _ _ _ _ _ _ _ _ _ _ _ _ _ _ _ _ _ _ _ _ []) (by decide) rfl rfl ?_
      refine j_aload_n dX8_type_32 rfl rfl ?_
      refine j_getf dX8_type_33 fX8_68 rfl rfl ?_
      refine j_iret dX8_type_36 rfl rfl ?_ (Nat.le_of_ble_eq_true rfl) (Nat.le_of_ble_eq_true rfl)
      refine ⟨rfl, (by first | exact z_cwl | rfl), ?_⟩
      rw [sp_i0]
      exact ⟨sp_k23_0 (Or.inl rfl) hc7 (by omega), rfl, (sp_CWe ((by have z := hra.push (x := y) hlt; rw [← show ((sp_R S 0) ++ [y]).length = (sp_R S 0).length + 1 from List.length_append] at z; exact z)) hrb ht0 ht1 ht2 he0 he1 hzm3 hzm4 hzm5 rfl)⟩
    · have hb14 := z_bt c_14
      have h12 : (sp_R S 0).length = 12 := by have := of_decide_eq_true hb14; have := hra.2.1; omega
      exact j_throwS (text := "the row is full") rfl th_S (by decide +kernel) dX8_type_17 dX8_type_20 dX8_type_21 dX8_type_23 dX8_type_26 (Nat.le_of_ble_eq_true rfl) (Nat.le_of_ble_eq_true rfl) ⟨rfl, rfl, (Or.inr (Or.inr ⟨rfl, sp_k23_3 (Or.inl rfl) hc7 (by rw [sp_i0]; exact h12)⟩)), rfl⟩ (Nat.le_of_ble_eq_true rfl) (Nat.le_of_ble_eq_true rfl)
  · subst e_2
    refine j_astore_n (lo' := [(3, _), (0, _), (1, _), (2, _)]) dX8_type_5 rfl (by decide) rfl ?_
    refine j_iload_n dX8_type_6 rfl ?_
    refine j_callS dX8_type_7 kX8_checkValue lX8_50 stX8_checkValue (c_X8_checkValue_e hl _ _) (Nat.le_of_ble_eq_true rfl) ⟨(Nat.le_of_ble_eq_true rfl), (Nat.le_of_ble_eq_true rfl)⟩ rfl (Nat.le_of_ble_eq_true rfl) rfl rfl (fun _ _ h => by obtain ⟨h1, rfl⟩ := h; exact ⟨rfl, rfl, Or.inr (Or.inl ⟨h1.1, sp_k23_2 (Or.inr rfl) h1.2⟩), rfl⟩) ?_
    rintro _ _ ⟨⟨rfl, hc7⟩, rfl⟩
    refine j_aload_n dX8_type_10 rfl rfl ?_
    refine j_callV (q := (RX1, TX1, 4)) dX8_type_11 kX1_isFull lX8_54 inX1_isFull seX1_isFull rfl rfl (z_frame [6, 7, 8, 9] rfl (by decide) (Nat.le_of_ble_eq_true rfl) (c_X1_isFull_e hl _ _ _ (sp_R S 1) (sp_R S 1).length hrb rfl)) (Nat.le_of_ble_eq_true rfl) ⟨(Nat.le_of_ble_eq_true rfl), (Nat.le_of_ble_eq_true rfl)⟩ rfl (Nat.le_of_ble_eq_true rfl) rfl rfl (fun _ _ h => h.elim) ?_
    rintro _ _ ⟨_, _, ⟨rfl, rfl⟩, rfl, rfl⟩
    refine j_ws (L' := z_cw _ _ _ _ _ _ _ _ _ _ _ _ _ _ _ _ _ _ _ _ _ _ _ _ _ _ _ _ _ _ _ _ _ _ _ _ _ _ _ _ _ _ _ _ _ _ _ _ _ _ _ _ _ _ _ _ []) (by decide) rfl rfl ?_
    refine j_if_eq (tgt := 27) dX8_type_14 (by decide) (fun c_14 => ?_) (fun c_14 => ?_)
    · have hb14 := z_bF c_14
      refine j_aload_n dX8_type_27 rfl rfl ?_
      refine j_iload_n dX8_type_28 rfl ?_
      have hlt : (sp_R S 1).length < 12 := by have := of_decide_eq_false hb14; omega
      refine j_callV (q := (RX1, TX1, 4)) dX8_type_29 kX1_append lX8_65 inX1_append seX1_append rfl rfl (z_frame [6, 7, 8, 9] rfl (by decide) (Nat.le_of_ble_eq_true rfl) (c_X1_append_e hl _ _ _ (sp_R S 1) (sp_R S 1).length y hrb rfl hlt)) (Nat.le_of_ble_eq_true rfl) ⟨(Nat.le_of_ble_eq_true rfl), (Nat.le_of_ble_eq_true rfl)⟩ rfl (Nat.le_of_ble_eq_true rfl) rfl rfl (fun _ _ h => h.elim) ?_
      rintro _ _ ⟨_, _, ⟨rfl, rfl⟩, rfl, rfl⟩
      refine j_ws (L' := z_cw _ _ _ _ _ _ _ _ _ _ _ _ _ _ _ _ _ _ _ _ _ _ _ _ _ _ _ _ _ _ _ _ _ _ _ _ _ _ _ _ _ _ _ _ _ _ _ _ _ _ _ _ _ _ _ _ []) (by decide) rfl rfl ?_
      refine j_aload_n dX8_type_32 rfl rfl ?_
      refine j_getf dX8_type_33 fX8_68 rfl rfl ?_
      refine j_iret dX8_type_36 rfl rfl ?_ (Nat.le_of_ble_eq_true rfl) (Nat.le_of_ble_eq_true rfl)
      refine ⟨rfl, (by first | exact z_cwl | rfl), ?_⟩
      rw [sp_i1]
      exact ⟨sp_k23_0 (Or.inr rfl) hc7 (by omega), rfl, (sp_CWe hra ((by have z := hrb.push (x := y) hlt; rw [← show ((sp_R S 1) ++ [y]).length = (sp_R S 1).length + 1 from List.length_append] at z; exact z)) ht0 ht1 ht2 he0 he1 hzm3 hzm4 hzm5 rfl)⟩
    · have hb14 := z_bt c_14
      have h12 : (sp_R S 1).length = 12 := by have := of_decide_eq_true hb14; have := hrb.2.1; omega
      exact j_throwS (text := "the row is full") rfl th_S (by decide +kernel) dX8_type_17 dX8_type_20 dX8_type_21 dX8_type_23 dX8_type_26 (Nat.le_of_ble_eq_true rfl) (Nat.le_of_ble_eq_true rfl) ⟨rfl, rfl, (Or.inr (Or.inr ⟨rfl, sp_k23_3 (Or.inr rfl) hc7 (by rw [sp_i1]; exact h12)⟩)), rfl⟩ (Nat.le_of_ble_eq_true rfl) (Nat.le_of_ble_eq_true rfl)
set_option maxRecDepth 100000 in
set_option maxHeartbeats 8000000 in
theorem c_X8_drop_p (hl : l.stackTraces = false) (S : sp_S) (fa : Nat → Int32) (fb : Nat → Int32) (mt : Int32) (ft : Nat → Int32) (ct : Nat → Int32) (f0 : Nat → Int32) (g0 : Nat → Int32) (f1 : Nat → Int32) (g1 : Nat → Int32) (c1 : Nat → Int32) (f2 : Nat → Int32) (g2 : Nat → Int32) (c2 : Nat → Int32) (f3 : Nat → Int32) (g3 : Nat → Int32) (c3 : Nat → Int32) (m3 : Int32) (f4 : Nat → Int32) (g4 : Nat → Int32) (c4 : Nat → Int32) (m4 : Int32) (f5 : Nat → Int32) (g5 : Nat → Int32) (c5 : Nat → Int32) (m5 : Int32) (ef0 : Nat → Int32) (ef1 : Nat → Int32) (r : Int32) (m : Int32) (ok : sp_ok S) (hra : z_row 12 (nI (sp_R S 0).length) fa (sp_R S 0)) (hrb : z_row 12 (nI (sp_R S 1).length) fb (sp_R S 1)) (ht0 : z_tba f0 g0 (sp_T S 0)) (ht1 : z_tba f1 g1 (sp_T S 1)) (ht2 : z_tba f2 g2 (sp_T S 2)) (he0 : z_row 10 (nI (sp_E S 0).2.length) ef0 (sp_E S 0).2) (he1 : z_row 10 (nI (sp_E S 1).2.length) ef1 (sp_E S 1).2) (hzm3 : z_m20 m3) (hzm4 : z_m20 m4) (hzm5 : z_m20 m5) : z_CX G l mX8_drop 20 14 120 (z_cw S.1.1 S.1.2 (nI (sp_R S 0).length) (sp_F S 0) fa (sp_C S 0) (nI (sp_R S 1).length) (sp_F S 1) fb (sp_C S 1) mt false ft ct f0 g0 (sp_C S 2) (nI (sp_T S 0).length) 0 f1 g1 c1 (nI (sp_T S 1).length) 0 f2 g2 c2 (nI (sp_T S 2).length) 1 f3 g3 c3 m3 0 f4 g4 c4 m4 0 f5 g5 c5 m5 1 (nI (sp_E S 0).2.length) (sp_E S 0).1.2.1 (sp_E S 0).1.2.2.1 (sp_E S 0).1.2.2.2 (sp_E S 0).1.1 ef0 (nI (sp_E S 1).2.length) (sp_E S 1).1.2.1 (sp_E S 1).1.2.2.1 (sp_E S 1).1.2.2.2 (sp_E S 1).1.1 ef1 []) [.ref 0, .int r, .int m] (fun v L => q_k22 r (m < 1 ∨ nI (sp_R S (sp_i r)).length < m) = 0 ∧ v = some (.int (nI ((sp_R S (sp_i r)).take ((sp_R S (sp_i r)).length - sp_i m)).length)) ∧ sp_CW (sp_uR S (sp_i r) ((sp_R S (sp_i r)).take ((sp_R S (sp_i r)).length - sp_i m))) L) (fun E L => ((z_xI E ∧ q_k22 r (m < 1 ∨ nI (sp_R S (sp_i r)).length < m) = 1) ∨ (z_xA E ∧ q_k22 r (m < 1 ∨ nI (sp_R S (sp_i r)).length < m) = 2)) ∧ L = (z_cw S.1.1 S.1.2 (nI (sp_R S 0).length) (sp_F S 0) fa (sp_C S 0) (nI (sp_R S 1).length) (sp_F S 1) fb (sp_C S 1) mt false ft ct f0 g0 (sp_C S 2) (nI (sp_T S 0).length) 0 f1 g1 c1 (nI (sp_T S 1).length) 0 f2 g2 c2 (nI (sp_T S 2).length) 1 f3 g3 c3 m3 0 f4 g4 c4 m4 0 f5 g5 c5 m5 1 (nI (sp_E S 0).2.length) (sp_E S 0).1.2.1 (sp_E S 0).1.2.2.1 (sp_E S 0).1.2.2.2 (sp_E S 0).1.1 ef0 (nI (sp_E S 1).2.length) (sp_E S 1).1.2.1 (sp_E S 1).1.2.2.1 (sp_E S 1).1.2.2.2 (sp_E S 1).1.1 ef1 [])) := by
  refine z_body hl (by decide) rfl (Nat.le_of_ble_eq_true rfl) ?_
  show z_J G l mX8_drop (z_SX 20 14 120 (z_cw S.1.1 S.1.2 (nI (sp_R S 0).length) (sp_F S 0) fa (sp_C S 0) (nI (sp_R S 1).length) (sp_F S 1) fb (sp_C S 1) mt false ft ct f0 g0 (sp_C S 2) (nI (sp_T S 0).length) 0 f1 g1 c1 (nI (sp_T S 1).length) 0 f2 g2 c2 (nI (sp_T S 2).length) 1 f3 g3 c3 m3 0 f4 g4 c4 m4 0 f5 g5 c5 m5 1 (nI (sp_E S 0).2.length) (sp_E S 0).1.2.1 (sp_E S 0).1.2.2.1 (sp_E S 0).1.2.2.2 (sp_E S 0).1.1 ef0 (nI (sp_E S 1).2.length) (sp_E S 1).1.2.1 (sp_E S 1).1.2.2.1 (sp_E S 1).1.2.2.2 (sp_E S 1).1.1 ef1 []) (fun v L => q_k22 r (m < 1 ∨ nI (sp_R S (sp_i r)).length < m) = 0 ∧ v = some (.int (nI ((sp_R S (sp_i r)).take ((sp_R S (sp_i r)).length - sp_i m)).length)) ∧ sp_CW (sp_uR S (sp_i r) ((sp_R S (sp_i r)).take ((sp_R S (sp_i r)).length - sp_i m))) L) (fun E L => ((z_xI E ∧ q_k22 r (m < 1 ∨ nI (sp_R S (sp_i r)).length < m) = 1) ∨ (z_xA E ∧ q_k22 r (m < 1 ∨ nI (sp_R S (sp_i r)).length < m) = 2)) ∧ L = (z_cw S.1.1 S.1.2 (nI (sp_R S 0).length) (sp_F S 0) fa (sp_C S 0) (nI (sp_R S 1).length) (sp_F S 1) fb (sp_C S 1) mt false ft ct f0 g0 (sp_C S 2) (nI (sp_T S 0).length) 0 f1 g1 c1 (nI (sp_T S 1).length) 0 f2 g2 c2 (nI (sp_T S 2).length) 1 f3 g3 c3 m3 0 f4 g4 c4 m4 0 f5 g5 c5 m5 1 (nI (sp_E S 0).2.length) (sp_E S 0).1.2.1 (sp_E S 0).1.2.2.1 (sp_E S 0).1.2.2.2 (sp_E S 0).1.1 ef0 (nI (sp_E S 1).2.length) (sp_E S 1).1.2.1 (sp_E S 1).1.2.2.1 (sp_E S 1).1.2.2.2 (sp_E S 1).1.1 ef1 []))) 0 [(0, _), (1, _), (2, _)] [] _ 0 0
  refine j_aload_n dX8_drop_0 rfl rfl ?_
  refine j_iload_n dX8_drop_1 rfl ?_
  refine j_callV (q := (RX8, TX8, 9)) dX8_drop_2 kX8_rowFor lX8_46 inX8_rowFor seX8_rowFor rfl rfl (z_dirX (c_X8_rowFor_e hl _ _ _ _ _ _ _ _ _ _ _ _ _ _ _ _ _ _ _ _ _ _ _ _ _ _ _ _ _ _ _ _ _ _ _ _ _ _ _ _ _ _ _ _ _ _ _ _ _ _ _ _ _ _ _ _ _)) (Nat.le_of_ble_eq_true rfl) ⟨(Nat.le_of_ble_eq_true rfl), (Nat.le_of_ble_eq_true rfl)⟩ rfl (Nat.le_of_ble_eq_true rfl) rfl rfl (fun _ _ h => by obtain ⟨_, ⟨h1, rfl⟩, rfl⟩ := h; exact ⟨rfl, rfl, Or.inl ⟨h1.1, sp_k22_1 h1.2⟩, rfl⟩) ?_
  rintro _ _ ⟨_, ⟨_, rfl, hr, rfl⟩, rfl⟩
  rcases hr with ⟨e_2, rfl⟩ | ⟨e_2, rfl⟩
  · subst e_2
    refine j_astore_n (lo' := [(3, _), (0, _), (1, _), (2, _)]) dX8_drop_5 rfl (by decide) rfl ?_
    refine j_iload_n dX8_drop_6 rfl ?_
    refine j_iconst (v := 1) dX8_drop_7 (by decide) ?_
    refine j_aload_n dX8_drop_8 rfl rfl ?_
    refine j_getf dX8_drop_9 fX8_68 rfl rfl ?_
    refine j_callS dX8_drop_12 kX8_checkRange lX8_72 stX8_checkRange (c_X8_checkRange_e hl _ _ _ _) (Nat.le_of_ble_eq_true rfl) ⟨(Nat.le_of_ble_eq_true rfl), (Nat.le_of_ble_eq_true rfl)⟩ rfl (Nat.le_of_ble_eq_true rfl) rfl rfl (fun _ _ h => by obtain ⟨h1, rfl⟩ := h; exact ⟨rfl, rfl, Or.inr ⟨h1.1, sp_k22_2 (Or.inl rfl) (by rw [sp_i0]; exact h1.2)⟩, rfl⟩) ?_
    rintro _ _ ⟨⟨rfl, hc12⟩, rfl⟩
    obtain ⟨k, hk1, hk2, rfl⟩ := sp_nt1 (m := (sp_R S 0).length) rfl (by have := hra.2.1; omega) hc12
    refine j_aload_n dX8_drop_15 rfl rfl ?_
    refine j_iload_n dX8_drop_16 rfl ?_
    refine j_callV (q := (RX1, TX1, 4)) dX8_drop_17 kX1_shorten lX8_76 inX1_shorten seX1_shorten rfl rfl (z_frame [2, 3, 4, 5] rfl (by decide) (Nat.le_of_ble_eq_true rfl) (c_X1_shorten_e hl _ _ _ (sp_R S 0) (sp_R S 0).length k hra rfl hk2)) (Nat.le_of_ble_eq_true rfl) ⟨(Nat.le_of_ble_eq_true rfl), (Nat.le_of_ble_eq_true rfl)⟩ rfl (Nat.le_of_ble_eq_true rfl) rfl rfl (fun _ _ h => h.elim) ?_
    rintro _ _ ⟨_, _, ⟨rfl, rfl⟩, rfl, rfl⟩
    refine j_ws (L' := z_cw _ _ _ _ _ _ _ _ _ _ _ _ _ _ _ _ _ _ _ _ _ _ _ _ _ _ _ _ _ _ _ _ _ _ _ _ _ _ _ _ _ _ _ _ _ _ _ _ _ _ _ _ _ _ _ _ []) (by decide) rfl rfl ?_
    refine j_aload_n dX8_drop_20 rfl rfl ?_
    refine j_getf dX8_drop_21 fX8_68 rfl rfl ?_
    refine j_iret dX8_drop_24 rfl rfl ?_ (Nat.le_of_ble_eq_true rfl) (Nat.le_of_ble_eq_true rfl)
    refine ⟨rfl, (by first | exact z_cwl | rfl), ?_⟩
    rw [sp_i0, sp_in' (n := k) (by have := hra.2.1; omega)]
    exact ⟨sp_k22_0 (Or.inl rfl) hc12, rfl, (sp_CWe ((by have z := hra.take hk2; exact (sp_take_row hra hk2))) hrb ht0 ht1 ht2 he0 he1 hzm3 hzm4 hzm5 rfl)⟩
  · subst e_2
    refine j_astore_n (lo' := [(3, _), (0, _), (1, _), (2, _)]) dX8_drop_5 rfl (by decide) rfl ?_
    refine j_iload_n dX8_drop_6 rfl ?_
    refine j_iconst (v := 1) dX8_drop_7 (by decide) ?_
    refine j_aload_n dX8_drop_8 rfl rfl ?_
    refine j_getf dX8_drop_9 fX8_68 rfl rfl ?_
    refine j_callS dX8_drop_12 kX8_checkRange lX8_72 stX8_checkRange (c_X8_checkRange_e hl _ _ _ _) (Nat.le_of_ble_eq_true rfl) ⟨(Nat.le_of_ble_eq_true rfl), (Nat.le_of_ble_eq_true rfl)⟩ rfl (Nat.le_of_ble_eq_true rfl) rfl rfl (fun _ _ h => by obtain ⟨h1, rfl⟩ := h; exact ⟨rfl, rfl, Or.inr ⟨h1.1, sp_k22_2 (Or.inr rfl) (by rw [sp_i1]; exact h1.2)⟩, rfl⟩) ?_
    rintro _ _ ⟨⟨rfl, hc12⟩, rfl⟩
    obtain ⟨k, hk1, hk2, rfl⟩ := sp_nt1 (m := (sp_R S 1).length) rfl (by have := hrb.2.1; omega) hc12
    refine j_aload_n dX8_drop_15 rfl rfl ?_
    refine j_iload_n dX8_drop_16 rfl ?_
    refine j_callV (q := (RX1, TX1, 4)) dX8_drop_17 kX1_shorten lX8_76 inX1_shorten seX1_shorten rfl rfl (z_frame [6, 7, 8, 9] rfl (by decide) (Nat.le_of_ble_eq_true rfl) (c_X1_shorten_e hl _ _ _ (sp_R S 1) (sp_R S 1).length k hrb rfl hk2)) (Nat.le_of_ble_eq_true rfl) ⟨(Nat.le_of_ble_eq_true rfl), (Nat.le_of_ble_eq_true rfl)⟩ rfl (Nat.le_of_ble_eq_true rfl) rfl rfl (fun _ _ h => h.elim) ?_
    rintro _ _ ⟨_, _, ⟨rfl, rfl⟩, rfl, rfl⟩
    refine j_ws (L' := z_cw _ _ _ _ _ _ _ _ _ _ _ _ _ _ _ _ _ _ _ _ _ _ _ _ _ _ _ _ _ _ _ _ _ _ _ _ _ _ _ _ _ _ _ _ _ _ _ _ _ _ _ _ _ _ _ _ []) (by decide) rfl rfl ?_
    refine j_aload_n dX8_drop_20 rfl rfl ?_
    refine j_getf dX8_drop_21 fX8_68 rfl rfl ?_
    refine j_iret dX8_drop_24 rfl rfl ?_ (Nat.le_of_ble_eq_true rfl) (Nat.le_of_ble_eq_true rfl)
    refine ⟨rfl, (by first | exact z_cwl | rfl), ?_⟩
    rw [sp_i1, sp_in' (n := k) (by have := hrb.2.1; omega)]
    exact ⟨sp_k22_0 (Or.inr rfl) hc12, rfl, (sp_CWe hra ((by have z := hrb.take hk2; exact (sp_take_row hrb hk2))) ht0 ht1 ht2 he0 he1 hzm3 hzm4 hzm5 rfl)⟩
set_option maxRecDepth 100000 in
set_option maxHeartbeats 8000000 in
theorem c_X8_fix_p (hl : l.stackTraces = false) (S : sp_S) (fa : Nat → Int32) (fb : Nat → Int32) (mt : Int32) (ft : Nat → Int32) (ct : Nat → Int32) (f0 : Nat → Int32) (g0 : Nat → Int32) (f1 : Nat → Int32) (g1 : Nat → Int32) (c1 : Nat → Int32) (f2 : Nat → Int32) (g2 : Nat → Int32) (c2 : Nat → Int32) (f3 : Nat → Int32) (g3 : Nat → Int32) (c3 : Nat → Int32) (m3 : Int32) (f4 : Nat → Int32) (g4 : Nat → Int32) (c4 : Nat → Int32) (m4 : Int32) (f5 : Nat → Int32) (g5 : Nat → Int32) (c5 : Nat → Int32) (m5 : Int32) (ef0 : Nat → Int32) (ef1 : Nat → Int32) (r : Int32) (b : Bool) (ok : sp_ok S) (hra : z_row 12 (nI (sp_R S 0).length) fa (sp_R S 0)) (hrb : z_row 12 (nI (sp_R S 1).length) fb (sp_R S 1)) (ht0 : z_tba f0 g0 (sp_T S 0)) (ht1 : z_tba f1 g1 (sp_T S 1)) (ht2 : z_tba f2 g2 (sp_T S 2)) (he0 : z_row 10 (nI (sp_E S 0).2.length) ef0 (sp_E S 0).2) (he1 : z_row 10 (nI (sp_E S 1).2.length) ef1 (sp_E S 1).2) (hzm3 : z_m20 m3) (hzm4 : z_m20 m4) (hzm5 : z_m20 m5) : z_CX G l mX8_fix 20 14 120 (z_cw S.1.1 S.1.2 (nI (sp_R S 0).length) (sp_F S 0) fa (sp_C S 0) (nI (sp_R S 1).length) (sp_F S 1) fb (sp_C S 1) mt false ft ct f0 g0 (sp_C S 2) (nI (sp_T S 0).length) 0 f1 g1 c1 (nI (sp_T S 1).length) 0 f2 g2 c2 (nI (sp_T S 2).length) 1 f3 g3 c3 m3 0 f4 g4 c4 m4 0 f5 g5 c5 m5 1 (nI (sp_E S 0).2.length) (sp_E S 0).1.2.1 (sp_E S 0).1.2.2.1 (sp_E S 0).1.2.2.2 (sp_E S 0).1.1 ef0 (nI (sp_E S 1).2.length) (sp_E S 1).1.2.1 (sp_E S 1).1.2.2.1 (sp_E S 1).1.2.2.2 (sp_E S 1).1.1 ef1 []) [.ref 0, .int r, .int (z_bi b)] (fun v L => q_k2 r = 0 ∧ v = some (.int (z_bi (sp_F S (sp_i r)))) ∧ sp_CW (sp_uF S (sp_i r) b) L) (fun E L => ((z_xI E ∧ q_k2 r = 1)) ∧ L = (z_cw S.1.1 S.1.2 (nI (sp_R S 0).length) (sp_F S 0) fa (sp_C S 0) (nI (sp_R S 1).length) (sp_F S 1) fb (sp_C S 1) mt false ft ct f0 g0 (sp_C S 2) (nI (sp_T S 0).length) 0 f1 g1 c1 (nI (sp_T S 1).length) 0 f2 g2 c2 (nI (sp_T S 2).length) 1 f3 g3 c3 m3 0 f4 g4 c4 m4 0 f5 g5 c5 m5 1 (nI (sp_E S 0).2.length) (sp_E S 0).1.2.1 (sp_E S 0).1.2.2.1 (sp_E S 0).1.2.2.2 (sp_E S 0).1.1 ef0 (nI (sp_E S 1).2.length) (sp_E S 1).1.2.1 (sp_E S 1).1.2.2.1 (sp_E S 1).1.2.2.2 (sp_E S 1).1.1 ef1 [])) := by
  refine z_body hl (by decide) rfl (Nat.le_of_ble_eq_true rfl) ?_
  show z_J G l mX8_fix (z_SX 20 14 120 (z_cw S.1.1 S.1.2 (nI (sp_R S 0).length) (sp_F S 0) fa (sp_C S 0) (nI (sp_R S 1).length) (sp_F S 1) fb (sp_C S 1) mt false ft ct f0 g0 (sp_C S 2) (nI (sp_T S 0).length) 0 f1 g1 c1 (nI (sp_T S 1).length) 0 f2 g2 c2 (nI (sp_T S 2).length) 1 f3 g3 c3 m3 0 f4 g4 c4 m4 0 f5 g5 c5 m5 1 (nI (sp_E S 0).2.length) (sp_E S 0).1.2.1 (sp_E S 0).1.2.2.1 (sp_E S 0).1.2.2.2 (sp_E S 0).1.1 ef0 (nI (sp_E S 1).2.length) (sp_E S 1).1.2.1 (sp_E S 1).1.2.2.1 (sp_E S 1).1.2.2.2 (sp_E S 1).1.1 ef1 []) (fun v L => q_k2 r = 0 ∧ v = some (.int (z_bi (sp_F S (sp_i r)))) ∧ sp_CW (sp_uF S (sp_i r) b) L) (fun E L => ((z_xI E ∧ q_k2 r = 1)) ∧ L = (z_cw S.1.1 S.1.2 (nI (sp_R S 0).length) (sp_F S 0) fa (sp_C S 0) (nI (sp_R S 1).length) (sp_F S 1) fb (sp_C S 1) mt false ft ct f0 g0 (sp_C S 2) (nI (sp_T S 0).length) 0 f1 g1 c1 (nI (sp_T S 1).length) 0 f2 g2 c2 (nI (sp_T S 2).length) 1 f3 g3 c3 m3 0 f4 g4 c4 m4 0 f5 g5 c5 m5 1 (nI (sp_E S 0).2.length) (sp_E S 0).1.2.1 (sp_E S 0).1.2.2.1 (sp_E S 0).1.2.2.2 (sp_E S 0).1.1 ef0 (nI (sp_E S 1).2.length) (sp_E S 1).1.2.1 (sp_E S 1).1.2.2.1 (sp_E S 1).1.2.2.2 (sp_E S 1).1.1 ef1 []))) 0 [(0, _), (1, _), (2, _)] [] _ 0 0
  refine j_aload_n dX8_fix_0 rfl rfl ?_
  refine j_iload_n dX8_fix_1 rfl ?_
  refine j_callV (q := (RX8, TX8, 9)) dX8_fix_2 kX8_rowFor lX8_46 inX8_rowFor seX8_rowFor rfl rfl (z_dirX (c_X8_rowFor_e hl _ _ _ _ _ _ _ _ _ _ _ _ _ _ _ _ _ _ _ _ _ _ _ _ _ _ _ _ _ _ _ _ _ _ _ _ _ _ _ _ _ _ _ _ _ _ _ _ _ _ _ _ _ _ _ _ _)) (Nat.le_of_ble_eq_true rfl) ⟨(Nat.le_of_ble_eq_true rfl), (Nat.le_of_ble_eq_true rfl)⟩ rfl (Nat.le_of_ble_eq_true rfl) rfl rfl (fun _ _ h => by obtain ⟨_, ⟨h1, rfl⟩, rfl⟩ := h; exact ⟨rfl, rfl, ⟨h1.1, sp_k2_1 h1.2⟩, rfl⟩) ?_
  rintro _ _ ⟨_, ⟨_, rfl, hr, rfl⟩, rfl⟩
  rcases hr with ⟨e_2, rfl⟩ | ⟨e_2, rfl⟩
  · subst e_2
    refine j_astore_n (lo' := [(3, _), (0, _), (1, _), (2, _)]) dX8_fix_5 rfl (by decide) rfl ?_
    refine j_aload_n dX8_fix_6 rfl rfl ?_
    refine j_getf dX8_fix_7 fX8_79 rfl rfl ?_
    refine j_callS dX8_fix_10 kX8_oneIf lX8_83 stX8_oneIf (c_X8_oneIf_b hl _ (sp_F S 0)) (Nat.le_of_ble_eq_true rfl) ⟨(Nat.le_of_ble_eq_true rfl), (Nat.le_of_ble_eq_true rfl)⟩ rfl (Nat.le_of_ble_eq_true rfl) rfl rfl (fun _ _ h => h.elim) ?_
    rintro _ _ ⟨rfl, rfl⟩
    refine j_istore (lo' := [(4, _), (3, _), (0, _), (1, _), (2, _)]) dX8_fix_13 (by decide) rfl ?_
    refine j_aload_n dX8_fix_15 rfl rfl ?_
    refine j_iload_n dX8_fix_16 rfl ?_
    refine j_put (w' := (z_cw _ _ _ _ _ _ _ _ _ _ _ _ _ _ _ _ _ _ _ _ _ _ _ _ _ _ _ _ _ _ _ _ _ _ _ _ _ _ _ _ _ _ _ _ _ _ _ _ _ _ _ _ _ _ _ _ [], z_no)) dX8_fix_17 fX8_79 tX1_3 rfl ⟨z_bn _, z_bf _⟩ rfl ?_
    refine j_iload dX8_fix_20 rfl ?_
    refine j_iret dX8_fix_22 rfl rfl ?_ (Nat.le_of_ble_eq_true rfl) (Nat.le_of_ble_eq_true rfl)
    refine ⟨rfl, (by first | exact z_cwl | rfl), ?_⟩
    rw [sp_i0]
    exact ⟨sp_k2_0 (Or.inl rfl), rfl, (sp_CWe hra hrb ht0 ht1 ht2 he0 he1 hzm3 hzm4 hzm5 rfl)⟩
  · subst e_2
    refine j_astore_n (lo' := [(3, _), (0, _), (1, _), (2, _)]) dX8_fix_5 rfl (by decide) rfl ?_
    refine j_aload_n dX8_fix_6 rfl rfl ?_
    refine j_getf dX8_fix_7 fX8_79 rfl rfl ?_
    refine j_callS dX8_fix_10 kX8_oneIf lX8_83 stX8_oneIf (c_X8_oneIf_b hl _ (sp_F S 1)) (Nat.le_of_ble_eq_true rfl) ⟨(Nat.le_of_ble_eq_true rfl), (Nat.le_of_ble_eq_true rfl)⟩ rfl (Nat.le_of_ble_eq_true rfl) rfl rfl (fun _ _ h => h.elim) ?_
    rintro _ _ ⟨rfl, rfl⟩
    refine j_istore (lo' := [(4, _), (3, _), (0, _), (1, _), (2, _)]) dX8_fix_13 (by decide) rfl ?_
    refine j_aload_n dX8_fix_15 rfl rfl ?_
    refine j_iload_n dX8_fix_16 rfl ?_
    refine j_put (w' := (z_cw _ _ _ _ _ _ _ _ _ _ _ _ _ _ _ _ _ _ _ _ _ _ _ _ _ _ _ _ _ _ _ _ _ _ _ _ _ _ _ _ _ _ _ _ _ _ _ _ _ _ _ _ _ _ _ _ [], z_no)) dX8_fix_17 fX8_79 tX1_3 rfl ⟨z_bn _, z_bf _⟩ rfl ?_
    refine j_iload dX8_fix_20 rfl ?_
    refine j_iret dX8_fix_22 rfl rfl ?_ (Nat.le_of_ble_eq_true rfl) (Nat.le_of_ble_eq_true rfl)
    refine ⟨rfl, (by first | exact z_cwl | rfl), ?_⟩
    rw [sp_i1]
    exact ⟨sp_k2_0 (Or.inr rfl), rfl, (sp_CWe hra hrb ht0 ht1 ht2 he0 he1 hzm3 hzm4 hzm5 rfl)⟩
set_option maxRecDepth 100000 in
set_option maxHeartbeats 8000000 in
theorem c_X8_isFixed_p (hl : l.stackTraces = false) (S : sp_S) (fa : Nat → Int32) (fb : Nat → Int32) (mt : Int32) (ft : Nat → Int32) (ct : Nat → Int32) (f0 : Nat → Int32) (g0 : Nat → Int32) (f1 : Nat → Int32) (g1 : Nat → Int32) (c1 : Nat → Int32) (f2 : Nat → Int32) (g2 : Nat → Int32) (c2 : Nat → Int32) (f3 : Nat → Int32) (g3 : Nat → Int32) (c3 : Nat → Int32) (m3 : Int32) (f4 : Nat → Int32) (g4 : Nat → Int32) (c4 : Nat → Int32) (m4 : Int32) (f5 : Nat → Int32) (g5 : Nat → Int32) (c5 : Nat → Int32) (m5 : Int32) (ef0 : Nat → Int32) (ef1 : Nat → Int32) (r : Int32) (ok : sp_ok S) (hra : z_row 12 (nI (sp_R S 0).length) fa (sp_R S 0)) (hrb : z_row 12 (nI (sp_R S 1).length) fb (sp_R S 1)) (ht0 : z_tba f0 g0 (sp_T S 0)) (ht1 : z_tba f1 g1 (sp_T S 1)) (ht2 : z_tba f2 g2 (sp_T S 2)) (he0 : z_row 10 (nI (sp_E S 0).2.length) ef0 (sp_E S 0).2) (he1 : z_row 10 (nI (sp_E S 1).2.length) ef1 (sp_E S 1).2) (hzm3 : z_m20 m3) (hzm4 : z_m20 m4) (hzm5 : z_m20 m5) : z_CX G l mX8_isFixed 20 14 120 (z_cw S.1.1 S.1.2 (nI (sp_R S 0).length) (sp_F S 0) fa (sp_C S 0) (nI (sp_R S 1).length) (sp_F S 1) fb (sp_C S 1) mt false ft ct f0 g0 (sp_C S 2) (nI (sp_T S 0).length) 0 f1 g1 c1 (nI (sp_T S 1).length) 0 f2 g2 c2 (nI (sp_T S 2).length) 1 f3 g3 c3 m3 0 f4 g4 c4 m4 0 f5 g5 c5 m5 1 (nI (sp_E S 0).2.length) (sp_E S 0).1.2.1 (sp_E S 0).1.2.2.1 (sp_E S 0).1.2.2.2 (sp_E S 0).1.1 ef0 (nI (sp_E S 1).2.length) (sp_E S 1).1.2.1 (sp_E S 1).1.2.2.1 (sp_E S 1).1.2.2.2 (sp_E S 1).1.1 ef1 []) [.ref 0, .int r] (fun v L => q_k2 r = 0 ∧ v = some (.int (z_bi (sp_F S (sp_i r)))) ∧ sp_CW (S) L) (fun E L => ((z_xI E ∧ q_k2 r = 1)) ∧ L = (z_cw S.1.1 S.1.2 (nI (sp_R S 0).length) (sp_F S 0) fa (sp_C S 0) (nI (sp_R S 1).length) (sp_F S 1) fb (sp_C S 1) mt false ft ct f0 g0 (sp_C S 2) (nI (sp_T S 0).length) 0 f1 g1 c1 (nI (sp_T S 1).length) 0 f2 g2 c2 (nI (sp_T S 2).length) 1 f3 g3 c3 m3 0 f4 g4 c4 m4 0 f5 g5 c5 m5 1 (nI (sp_E S 0).2.length) (sp_E S 0).1.2.1 (sp_E S 0).1.2.2.1 (sp_E S 0).1.2.2.2 (sp_E S 0).1.1 ef0 (nI (sp_E S 1).2.length) (sp_E S 1).1.2.1 (sp_E S 1).1.2.2.1 (sp_E S 1).1.2.2.2 (sp_E S 1).1.1 ef1 [])) := by
  refine z_body hl (by decide) rfl (Nat.le_of_ble_eq_true rfl) ?_
  show z_J G l mX8_isFixed (z_SX 20 14 120 (z_cw S.1.1 S.1.2 (nI (sp_R S 0).length) (sp_F S 0) fa (sp_C S 0) (nI (sp_R S 1).length) (sp_F S 1) fb (sp_C S 1) mt false ft ct f0 g0 (sp_C S 2) (nI (sp_T S 0).length) 0 f1 g1 c1 (nI (sp_T S 1).length) 0 f2 g2 c2 (nI (sp_T S 2).length) 1 f3 g3 c3 m3 0 f4 g4 c4 m4 0 f5 g5 c5 m5 1 (nI (sp_E S 0).2.length) (sp_E S 0).1.2.1 (sp_E S 0).1.2.2.1 (sp_E S 0).1.2.2.2 (sp_E S 0).1.1 ef0 (nI (sp_E S 1).2.length) (sp_E S 1).1.2.1 (sp_E S 1).1.2.2.1 (sp_E S 1).1.2.2.2 (sp_E S 1).1.1 ef1 []) (fun v L => q_k2 r = 0 ∧ v = some (.int (z_bi (sp_F S (sp_i r)))) ∧ sp_CW (S) L) (fun E L => ((z_xI E ∧ q_k2 r = 1)) ∧ L = (z_cw S.1.1 S.1.2 (nI (sp_R S 0).length) (sp_F S 0) fa (sp_C S 0) (nI (sp_R S 1).length) (sp_F S 1) fb (sp_C S 1) mt false ft ct f0 g0 (sp_C S 2) (nI (sp_T S 0).length) 0 f1 g1 c1 (nI (sp_T S 1).length) 0 f2 g2 c2 (nI (sp_T S 2).length) 1 f3 g3 c3 m3 0 f4 g4 c4 m4 0 f5 g5 c5 m5 1 (nI (sp_E S 0).2.length) (sp_E S 0).1.2.1 (sp_E S 0).1.2.2.1 (sp_E S 0).1.2.2.2 (sp_E S 0).1.1 ef0 (nI (sp_E S 1).2.length) (sp_E S 1).1.2.1 (sp_E S 1).1.2.2.1 (sp_E S 1).1.2.2.2 (sp_E S 1).1.1 ef1 []))) 0 [(0, _), (1, _)] [] _ 0 0
  refine j_aload_n dX8_isFixed_0 rfl rfl ?_
  refine j_iload_n dX8_isFixed_1 rfl ?_
  refine j_callV (q := (RX8, TX8, 9)) dX8_isFixed_2 kX8_rowFor lX8_46 inX8_rowFor seX8_rowFor rfl rfl (z_dirX (c_X8_rowFor_e hl _ _ _ _ _ _ _ _ _ _ _ _ _ _ _ _ _ _ _ _ _ _ _ _ _ _ _ _ _ _ _ _ _ _ _ _ _ _ _ _ _ _ _ _ _ _ _ _ _ _ _ _ _ _ _ _ _)) (Nat.le_of_ble_eq_true rfl) ⟨(Nat.le_of_ble_eq_true rfl), (Nat.le_of_ble_eq_true rfl)⟩ rfl (Nat.le_of_ble_eq_true rfl) rfl rfl (fun _ _ h => by obtain ⟨_, ⟨h1, rfl⟩, rfl⟩ := h; exact ⟨rfl, rfl, ⟨h1.1, sp_k2_1 h1.2⟩, rfl⟩) ?_
  rintro _ _ ⟨_, ⟨_, rfl, hr, rfl⟩, rfl⟩
  rcases hr with ⟨e_2, rfl⟩ | ⟨e_2, rfl⟩
  · subst e_2
    refine j_getf dX8_isFixed_5 fX8_79 rfl rfl ?_
    refine j_iret dX8_isFixed_8 rfl (z_bn _) ?_ (Nat.le_of_ble_eq_true rfl) (Nat.le_of_ble_eq_true rfl)
    refine ⟨rfl, (by first | exact z_cwl | rfl), ?_⟩
    rw [sp_i0]
    exact ⟨sp_k2_0 (Or.inl rfl), rfl, (sp_CWe hra hrb ht0 ht1 ht2 he0 he1 hzm3 hzm4 hzm5 rfl)⟩
  · subst e_2
    refine j_getf dX8_isFixed_5 fX8_79 rfl rfl ?_
    refine j_iret dX8_isFixed_8 rfl (z_bn _) ?_ (Nat.le_of_ble_eq_true rfl) (Nat.le_of_ble_eq_true rfl)
    refine ⟨rfl, (by first | exact z_cwl | rfl), ?_⟩
    rw [sp_i1]
    exact ⟨sp_k2_0 (Or.inr rfl), rfl, (sp_CWe hra hrb ht0 ht1 ht2 he0 he1 hzm3 hzm4 hzm5 rfl)⟩
set_option maxRecDepth 100000 in
set_option maxHeartbeats 8000000 in
theorem c_X8_length_p (hl : l.stackTraces = false) (S : sp_S) (fa : Nat → Int32) (fb : Nat → Int32) (mt : Int32) (ft : Nat → Int32) (ct : Nat → Int32) (f0 : Nat → Int32) (g0 : Nat → Int32) (f1 : Nat → Int32) (g1 : Nat → Int32) (c1 : Nat → Int32) (f2 : Nat → Int32) (g2 : Nat → Int32) (c2 : Nat → Int32) (f3 : Nat → Int32) (g3 : Nat → Int32) (c3 : Nat → Int32) (m3 : Int32) (f4 : Nat → Int32) (g4 : Nat → Int32) (c4 : Nat → Int32) (m4 : Int32) (f5 : Nat → Int32) (g5 : Nat → Int32) (c5 : Nat → Int32) (m5 : Int32) (ef0 : Nat → Int32) (ef1 : Nat → Int32) (r : Int32) (ok : sp_ok S) (hra : z_row 12 (nI (sp_R S 0).length) fa (sp_R S 0)) (hrb : z_row 12 (nI (sp_R S 1).length) fb (sp_R S 1)) (ht0 : z_tba f0 g0 (sp_T S 0)) (ht1 : z_tba f1 g1 (sp_T S 1)) (ht2 : z_tba f2 g2 (sp_T S 2)) (he0 : z_row 10 (nI (sp_E S 0).2.length) ef0 (sp_E S 0).2) (he1 : z_row 10 (nI (sp_E S 1).2.length) ef1 (sp_E S 1).2) (hzm3 : z_m20 m3) (hzm4 : z_m20 m4) (hzm5 : z_m20 m5) : z_CX G l mX8_length 20 14 120 (z_cw S.1.1 S.1.2 (nI (sp_R S 0).length) (sp_F S 0) fa (sp_C S 0) (nI (sp_R S 1).length) (sp_F S 1) fb (sp_C S 1) mt false ft ct f0 g0 (sp_C S 2) (nI (sp_T S 0).length) 0 f1 g1 c1 (nI (sp_T S 1).length) 0 f2 g2 c2 (nI (sp_T S 2).length) 1 f3 g3 c3 m3 0 f4 g4 c4 m4 0 f5 g5 c5 m5 1 (nI (sp_E S 0).2.length) (sp_E S 0).1.2.1 (sp_E S 0).1.2.2.1 (sp_E S 0).1.2.2.2 (sp_E S 0).1.1 ef0 (nI (sp_E S 1).2.length) (sp_E S 1).1.2.1 (sp_E S 1).1.2.2.1 (sp_E S 1).1.2.2.2 (sp_E S 1).1.1 ef1 []) [.ref 0, .int r] (fun v L => q_k2 r = 0 ∧ v = some (.int (nI (sp_R S (sp_i r)).length)) ∧ sp_CW (S) L) (fun E L => ((z_xI E ∧ q_k2 r = 1)) ∧ L = (z_cw S.1.1 S.1.2 (nI (sp_R S 0).length) (sp_F S 0) fa (sp_C S 0) (nI (sp_R S 1).length) (sp_F S 1) fb (sp_C S 1) mt false ft ct f0 g0 (sp_C S 2) (nI (sp_T S 0).length) 0 f1 g1 c1 (nI (sp_T S 1).length) 0 f2 g2 c2 (nI (sp_T S 2).length) 1 f3 g3 c3 m3 0 f4 g4 c4 m4 0 f5 g5 c5 m5 1 (nI (sp_E S 0).2.length) (sp_E S 0).1.2.1 (sp_E S 0).1.2.2.1 (sp_E S 0).1.2.2.2 (sp_E S 0).1.1 ef0 (nI (sp_E S 1).2.length) (sp_E S 1).1.2.1 (sp_E S 1).1.2.2.1 (sp_E S 1).1.2.2.2 (sp_E S 1).1.1 ef1 [])) := by
  refine z_body hl (by decide) rfl (Nat.le_of_ble_eq_true rfl) ?_
  show z_J G l mX8_length (z_SX 20 14 120 (z_cw S.1.1 S.1.2 (nI (sp_R S 0).length) (sp_F S 0) fa (sp_C S 0) (nI (sp_R S 1).length) (sp_F S 1) fb (sp_C S 1) mt false ft ct f0 g0 (sp_C S 2) (nI (sp_T S 0).length) 0 f1 g1 c1 (nI (sp_T S 1).length) 0 f2 g2 c2 (nI (sp_T S 2).length) 1 f3 g3 c3 m3 0 f4 g4 c4 m4 0 f5 g5 c5 m5 1 (nI (sp_E S 0).2.length) (sp_E S 0).1.2.1 (sp_E S 0).1.2.2.1 (sp_E S 0).1.2.2.2 (sp_E S 0).1.1 ef0 (nI (sp_E S 1).2.length) (sp_E S 1).1.2.1 (sp_E S 1).1.2.2.1 (sp_E S 1).1.2.2.2 (sp_E S 1).1.1 ef1 []) (fun v L => q_k2 r = 0 ∧ v = some (.int (nI (sp_R S (sp_i r)).length)) ∧ sp_CW (S) L) (fun E L => ((z_xI E ∧ q_k2 r = 1)) ∧ L = (z_cw S.1.1 S.1.2 (nI (sp_R S 0).length) (sp_F S 0) fa (sp_C S 0) (nI (sp_R S 1).length) (sp_F S 1) fb (sp_C S 1) mt false ft ct f0 g0 (sp_C S 2) (nI (sp_T S 0).length) 0 f1 g1 c1 (nI (sp_T S 1).length) 0 f2 g2 c2 (nI (sp_T S 2).length) 1 f3 g3 c3 m3 0 f4 g4 c4 m4 0 f5 g5 c5 m5 1 (nI (sp_E S 0).2.length) (sp_E S 0).1.2.1 (sp_E S 0).1.2.2.1 (sp_E S 0).1.2.2.2 (sp_E S 0).1.1 ef0 (nI (sp_E S 1).2.length) (sp_E S 1).1.2.1 (sp_E S 1).1.2.2.1 (sp_E S 1).1.2.2.2 (sp_E S 1).1.1 ef1 []))) 0 [(0, _), (1, _)] [] _ 0 0
  refine j_aload_n dX8_length_0 rfl rfl ?_
  refine j_iload_n dX8_length_1 rfl ?_
  refine j_callV (q := (RX8, TX8, 9)) dX8_length_2 kX8_rowFor lX8_46 inX8_rowFor seX8_rowFor rfl rfl (z_dirX (c_X8_rowFor_e hl _ _ _ _ _ _ _ _ _ _ _ _ _ _ _ _ _ _ _ _ _ _ _ _ _ _ _ _ _ _ _ _ _ _ _ _ _ _ _ _ _ _ _ _ _ _ _ _ _ _ _ _ _ _ _ _ _)) (Nat.le_of_ble_eq_true rfl) ⟨(Nat.le_of_ble_eq_true rfl), (Nat.le_of_ble_eq_true rfl)⟩ rfl (Nat.le_of_ble_eq_true rfl) rfl rfl (fun _ _ h => by obtain ⟨_, ⟨h1, rfl⟩, rfl⟩ := h; exact ⟨rfl, rfl, ⟨h1.1, sp_k2_1 h1.2⟩, rfl⟩) ?_
  rintro _ _ ⟨_, ⟨_, rfl, hr, rfl⟩, rfl⟩
  rcases hr with ⟨e_2, rfl⟩ | ⟨e_2, rfl⟩
  · subst e_2
    refine j_getf dX8_length_5 fX8_68 rfl rfl ?_
    refine j_iret dX8_length_8 rfl rfl ?_ (Nat.le_of_ble_eq_true rfl) (Nat.le_of_ble_eq_true rfl)
    refine ⟨rfl, (by first | exact z_cwl | rfl), ?_⟩
    rw [sp_i0]
    exact ⟨sp_k2_0 (Or.inl rfl), rfl, (sp_CWe hra hrb ht0 ht1 ht2 he0 he1 hzm3 hzm4 hzm5 rfl)⟩
  · subst e_2
    refine j_getf dX8_length_5 fX8_68 rfl rfl ?_
    refine j_iret dX8_length_8 rfl rfl ?_ (Nat.le_of_ble_eq_true rfl) (Nat.le_of_ble_eq_true rfl)
    refine ⟨rfl, (by first | exact z_cwl | rfl), ?_⟩
    rw [sp_i1]
    exact ⟨sp_k2_0 (Or.inr rfl), rfl, (sp_CWe hra hrb ht0 ht1 ht2 he0 he1 hzm3 hzm4 hzm5 rfl)⟩
end ZCp
