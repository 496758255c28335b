section ZL5
variable {G : z_G} {l : Launch}
theorem z_m20z : z_m20 0 := by unfold z_m20; decide
set_option maxRecDepth 100000 in
set_option maxHeartbeats 8000000 in
theorem c_X8_rowFor (hl : l.stackTraces = false) (rf : Int32) (kn : Int32) (ma : Int32) (xa : Bool) (fa : Nat → Int32) (ca : Nat → Int32) (mb : Int32) (xb : Bool) (fb : Nat → Int32) (cb : Nat → Int32) (mt : Int32) (xt : Bool) (ft : Nat → Int32) (ct : Nat → Int32) (f0 : Nat → Int32) (g0 : Nat → Int32) (c0 : Nat → Int32) (m0 : Int32) (s0 : Int32) (f1 : Nat → Int32) (g1 : Nat → Int32) (c1 : Nat → Int32) (m1 : Int32) (s1 : Int32) (f2 : Nat → Int32) (g2 : Nat → Int32) (c2 : Nat → Int32) (m2 : Int32) (s2 : Int32) (f3 : Nat → Int32) (g3 : Nat → Int32) (c3 : Nat → Int32) (m3 : Int32) (s3 : Int32) (f4 : Nat → Int32) (g4 : Nat → Int32) (c4 : Nat → Int32) (m4 : Int32) (s4 : Int32) (f5 : Nat → Int32) (g5 : Nat → Int32) (c5 : Nat → Int32) (m5 : Int32) (s5 : Int32) (ek0 : Int32) (em0 : Int32) (es0 : Int32) (el0 : Int32) (b0 : Int32) (ef0 : Nat → Int32) (ek1 : Int32) (em1 : Int32) (es1 : Int32) (el1 : Int32) (b1 : Int32) (ef1 : Nat → Int32) (r : Int32) : z_CX G l mX8_rowFor 10 1 6 (z_cw rf kn ma xa fa ca mb xb fb cb mt xt ft ct f0 g0 c0 m0 s0 f1 g1 c1 m1 s1 f2 g2 c2 m2 s2 f3 g3 c3 m3 s3 f4 g4 c4 m4 s4 f5 g5 c5 m5 s5 ek0 em0 es0 el0 b0 ef0 ek1 em1 es1 el1 b1 ef1 []) [.ref 0, .int r] (fun v L => ∃ n : Nat, v = some (.ref n) ∧ ((r = 0 ∧ n = 2) ∨ (r = 1 ∧ n = 6)) ∧ L = (z_cw rf kn ma xa fa ca mb xb fb cb mt xt ft ct f0 g0 c0 m0 s0 f1 g1 c1 m1 s1 f2 g2 c2 m2 s2 f3 g3 c3 m3 s3 f4 g4 c4 m4 s4 f5 g5 c5 m5 s5 ek0 em0 es0 el0 b0 ef0 ek1 em1 es1 el1 b1 ef1 [])) (fun E L => z_xI E ∧ L = (z_cw rf kn ma xa fa ca mb xb fb cb mt xt ft ct f0 g0 c0 m0 s0 f1 g1 c1 m1 s1 f2 g2 c2 m2 s2 f3 g3 c3 m3 s3 f4 g4 c4 m4 s4 f5 g5 c5 m5 s5 ek0 em0 es0 el0 b0 ef0 ek1 em1 es1 el1 b1 ef1 [])) := by
  refine z_body hl (by decide) rfl (Nat.le_of_ble_eq_true rfl) ?_
  show z_J G l mX8_rowFor (z_SX 10 1 6 (z_cw rf kn ma xa fa ca mb xb fb cb mt xt ft ct f0 g0 c0 m0 s0 f1 g1 c1 m1 s1 f2 g2 c2 m2 s2 f3 g3 c3 m3 s3 f4 g4 c4 m4 s4 f5 g5 c5 m5 s5 ek0 em0 es0 el0 b0 ef0 ek1 em1 es1 el1 b1 ef1 []) (fun v L => ∃ n : Nat, v = some (.ref n) ∧ ((r = 0 ∧ n = 2) ∨ (r = 1 ∧ n = 6)) ∧ L = (z_cw rf kn ma xa fa ca mb xb fb cb mt xt ft ct f0 g0 c0 m0 s0 f1 g1 c1 m1 s1 f2 g2 c2 m2 s2 f3 g3 c3 m3 s3 f4 g4 c4 m4 s4 f5 g5 c5 m5 s5 ek0 em0 es0 el0 b0 ef0 ek1 em1 es1 el1 b1 ef1 [])) (fun E L => z_xI E ∧ L = (z_cw rf kn ma xa fa ca mb xb fb cb mt xt ft ct f0 g0 c0 m0 s0 f1 g1 c1 m1 s1 f2 g2 c2 m2 s2 f3 g3 c3 m3 s3 f4 g4 c4 m4 s4 f5 g5 c5 m5 s5 ek0 em0 es0 el0 b0 ef0 ek1 em1 es1 el1 b1 ef1 []))) 0 [(0, _), (1, _)] [] _ 0 0
  refine j_iload_n dX8_rowFor_0 rfl ?_
  refine j_if_lt (tgt := 13) dX8_rowFor_1 (by decide) (fun c_1 => ?_) (fun c_1 => ?_)
  · exact j_throwSW (text := "there is no such row") rfl th_I (by decide +kernel) dX8_rowFor_13 dX8_rowFor_16 dX8_rowFor_17 dX8_rowFor_20 dX8_rowFor_23 (Nat.le_of_ble_eq_true rfl) (Nat.le_of_ble_eq_true rfl) ⟨rfl, rfl, rfl, rfl⟩ (Nat.le_of_ble_eq_true rfl) (Nat.le_of_ble_eq_true rfl)
  · refine j_iload_n dX8_rowFor_4 rfl ?_
    refine j_aload_n dX8_rowFor_5 rfl rfl ?_
    refine j_getf dX8_rowFor_6 fX8_10 rfl rfl ?_
    refine j_alen dX8_rowFor_9 rfl rfl rfl ?_
    refine j_icmp_lt (tgt := 24) dX8_rowFor_10 (by decide) (fun c_10 => ?_) (fun c_10 => ?_)
    · rcases z_r2 c_1 c_10 with rfl | rfl
      · refine j_aload_n dX8_rowFor_24 rfl rfl ?_
        refine j_getf dX8_rowFor_25 fX8_10 rfl rfl ?_
        refine j_iload_n dX8_rowFor_28 rfl ?_
        refine j_aald (v := .ref 2) dX8_rowFor_29 rfl rfl rfl (vp_in_iff.mpr (by decide)) rfl ?_
        refine j_aret dX8_rowFor_30 rfl (Or.inl ⟨_, rfl⟩) rfl ?_ (Nat.le_of_ble_eq_true rfl) (Nat.le_of_ble_eq_true rfl)
        exact ⟨rfl, rfl, _, rfl, (by first | exact Or.inl ⟨rfl, rfl⟩ | exact Or.inr (⟨rfl, rfl⟩)), rfl⟩
      · refine j_aload_n dX8_rowFor_24 rfl rfl ?_
        refine j_getf dX8_rowFor_25 fX8_10 rfl rfl ?_
        refine j_iload_n dX8_rowFor_28 rfl ?_
        refine j_aald (v := .ref 6) dX8_rowFor_29 rfl rfl rfl (vp_in_iff.mpr (by decide)) rfl ?_
        refine j_aret dX8_rowFor_30 rfl (Or.inl ⟨_, rfl⟩) rfl ?_ (Nat.le_of_ble_eq_true rfl) (Nat.le_of_ble_eq_true rfl)
        exact ⟨rfl, rfl, _, rfl, (by first | exact Or.inl ⟨rfl, rfl⟩ | exact Or.inr (⟨rfl, rfl⟩)), rfl⟩
    · exact j_throwSW (text := "there is no such row") rfl th_I (by decide +kernel) dX8_rowFor_13 dX8_rowFor_16 dX8_rowFor_17 dX8_rowFor_20 dX8_rowFor_23 (Nat.le_of_ble_eq_true rfl) (Nat.le_of_ble_eq_true rfl) ⟨rfl, rfl, rfl, rfl⟩ (Nat.le_of_ble_eq_true rfl) (Nat.le_of_ble_eq_true rfl)
set_option maxRecDepth 100000 in
set_option maxHeartbeats 8000000 in
theorem c_X8_tableFor (hl : l.stackTraces = false) (rf : Int32) (kn : Int32) (ma : Int32) (xa : Bool) (fa : Nat → Int32) (ca : Nat → Int32) (mb : Int32) (xb : Bool) (fb : Nat → Int32) (cb : Nat → Int32) (mt : Int32) (xt : Bool) (ft : Nat → Int32) (ct : Nat → Int32) (f0 : Nat → Int32) (g0 : Nat → Int32) (c0 : Nat → Int32) (m0 : Int32) (s0 : Int32) (f1 : Nat → Int32) (g1 : Nat → Int32) (c1 : Nat → Int32) (m1 : Int32) (s1 : Int32) (f2 : Nat → Int32) (g2 : Nat → Int32) (c2 : Nat → Int32) (m2 : Int32) (s2 : Int32) (f3 : Nat → Int32) (g3 : Nat → Int32) (c3 : Nat → Int32) (m3 : Int32) (s3 : Int32) (f4 : Nat → Int32) (g4 : Nat → Int32) (c4 : Nat → Int32) (m4 : Int32) (s4 : Int32) (f5 : Nat → Int32) (g5 : Nat → Int32) (c5 : Nat → Int32) (m5 : Int32) (s5 : Int32) (ek0 : Int32) (em0 : Int32) (es0 : Int32) (el0 : Int32) (b0 : Int32) (ef0 : Nat → Int32) (ek1 : Int32) (em1 : Int32) (es1 : Int32) (el1 : Int32) (b1 : Int32) (ef1 : Nat → Int32) (r : Int32) : z_CX G l mX8_tableFor 10 1 6 (z_cw rf kn ma xa fa ca mb xb fb cb mt xt ft ct f0 g0 c0 m0 s0 f1 g1 c1 m1 s1 f2 g2 c2 m2 s2 f3 g3 c3 m3 s3 f4 g4 c4 m4 s4 f5 g5 c5 m5 s5 ek0 em0 es0 el0 b0 ef0 ek1 em1 es1 el1 b1 ef1 []) [.ref 0, .int r] (fun v L => ∃ n : Nat, v = some (.ref n) ∧ ((r = 0 ∧ n = 10) ∨ (r = 1 ∧ n = 16) ∨ (r = 2 ∧ n = 21)) ∧ L = (z_cw rf kn ma xa fa ca mb xb fb cb mt xt ft ct f0 g0 c0 m0 s0 f1 g1 c1 m1 s1 f2 g2 c2 m2 s2 f3 g3 c3 m3 s3 f4 g4 c4 m4 s4 f5 g5 c5 m5 s5 ek0 em0 es0 el0 b0 ef0 ek1 em1 es1 el1 b1 ef1 [])) (fun E L => z_xI E ∧ L = (z_cw rf kn ma xa fa ca mb xb fb cb mt xt ft ct f0 g0 c0 m0 s0 f1 g1 c1 m1 s1 f2 g2 c2 m2 s2 f3 g3 c3 m3 s3 f4 g4 c4 m4 s4 f5 g5 c5 m5 s5 ek0 em0 es0 el0 b0 ef0 ek1 em1 es1 el1 b1 ef1 [])) := by
  refine z_body hl (by decide) rfl (Nat.le_of_ble_eq_true rfl) ?_
  show z_J G l mX8_tableFor (z_SX 10 1 6 (z_cw rf kn ma xa fa ca mb xb fb cb mt xt ft ct f0 g0 c0 m0 s0 f1 g1 c1 m1 s1 f2 g2 c2 m2 s2 f3 g3 c3 m3 s3 f4 g4 c4 m4 s4 f5 g5 c5 m5 s5 ek0 em0 es0 el0 b0 ef0 ek1 em1 es1 el1 b1 ef1 []) (fun v L => ∃ n : Nat, v = some (.ref n) ∧ ((r = 0 ∧ n = 10) ∨ (r = 1 ∧ n = 16) ∨ (r = 2 ∧ n = 21)) ∧ L = (z_cw rf kn ma xa fa ca mb xb fb cb mt xt ft ct f0 g0 c0 m0 s0 f1 g1 c1 m1 s1 f2 g2 c2 m2 s2 f3 g3 c3 m3 s3 f4 g4 c4 m4 s4 f5 g5 c5 m5 s5 ek0 em0 es0 el0 b0 ef0 ek1 em1 es1 el1 b1 ef1 [])) (fun E L => z_xI E ∧ L = (z_cw rf kn ma xa fa ca mb xb fb cb mt xt ft ct f0 g0 c0 m0 s0 f1 g1 c1 m1 s1 f2 g2 c2 m2 s2 f3 g3 c3 m3 s3 f4 g4 c4 m4 s4 f5 g5 c5 m5 s5 ek0 em0 es0 el0 b0 ef0 ek1 em1 es1 el1 b1 ef1 []))) 0 [(0, _), (1, _)] [] _ 0 0
  refine j_iload_n dX8_tableFor_0 rfl ?_
  refine j_if_lt (tgt := 13) dX8_tableFor_1 (by decide) (fun c_1 => ?_) (fun c_1 => ?_)
  · exact j_throwSW (text := "there is no such table") rfl th_I (by decide +kernel) dX8_tableFor_13 dX8_tableFor_16 dX8_tableFor_17 dX8_tableFor_20 dX8_tableFor_23 (Nat.le_of_ble_eq_true rfl) (Nat.le_of_ble_eq_true rfl) ⟨rfl, rfl, rfl, rfl⟩ (Nat.le_of_ble_eq_true rfl) (Nat.le_of_ble_eq_true rfl)
  · refine j_iload_n dX8_tableFor_4 rfl ?_
    refine j_aload_n dX8_tableFor_5 rfl rfl ?_
    refine j_getf dX8_tableFor_6 fX8_25 rfl rfl ?_
    refine j_alen dX8_tableFor_9 rfl rfl rfl ?_
    refine j_icmp_lt (tgt := 24) dX8_tableFor_10 (by decide) (fun c_10 => ?_) (fun c_10 => ?_)
    · rcases z_r3 c_1 c_10 with rfl | rfl | rfl
      · refine j_aload_n dX8_tableFor_24 rfl rfl ?_
        refine j_getf dX8_tableFor_25 fX8_25 rfl rfl ?_
        refine j_iload_n dX8_tableFor_28 rfl ?_
        refine j_aald (v := .ref 10) dX8_tableFor_29 rfl rfl rfl (vp_in_iff.mpr (by decide)) rfl ?_
        refine j_aret dX8_tableFor_30 rfl (Or.inl ⟨_, rfl⟩) rfl ?_ (Nat.le_of_ble_eq_true rfl) (Nat.le_of_ble_eq_true rfl)
        exact ⟨rfl, rfl, _, rfl, (by first | exact Or.inl ⟨rfl, rfl⟩ | exact Or.inr (Or.inl ⟨rfl, rfl⟩) | exact Or.inr (Or.inr (⟨rfl, rfl⟩))), rfl⟩
      · refine j_aload_n dX8_tableFor_24 rfl rfl ?_
        refine j_getf dX8_tableFor_25 fX8_25 rfl rfl ?_
        refine j_iload_n dX8_tableFor_28 rfl ?_
        refine j_aald (v := .ref 16) dX8_tableFor_29 rfl rfl rfl (vp_in_iff.mpr (by decide)) rfl ?_
        refine j_aret dX8_tableFor_30 rfl (Or.inl ⟨_, rfl⟩) rfl ?_ (Nat.le_of_ble_eq_true rfl) (Nat.le_of_ble_eq_true rfl)
        exact ⟨rfl, rfl, _, rfl, (by first | exact Or.inl ⟨rfl, rfl⟩ | exact Or.inr (Or.inl ⟨rfl, rfl⟩) | exact Or.inr (Or.inr (⟨rfl, rfl⟩))), rfl⟩
      · refine j_aload_n dX8_tableFor_24 rfl rfl ?_
        refine j_getf dX8_tableFor_25 fX8_25 rfl rfl ?_
        refine j_iload_n dX8_tableFor_28 rfl ?_
        refine j_aald (v := .ref 21) dX8_tableFor_29 rfl rfl rfl (vp_in_iff.mpr (by decide)) rfl ?_
        refine j_aret dX8_tableFor_30 rfl (Or.inl ⟨_, rfl⟩) rfl ?_ (Nat.le_of_ble_eq_true rfl) (Nat.le_of_ble_eq_true rfl)
        exact ⟨rfl, rfl, _, rfl, (by first | exact Or.inl ⟨rfl, rfl⟩ | exact Or.inr (Or.inl ⟨rfl, rfl⟩) | exact Or.inr (Or.inr (⟨rfl, rfl⟩))), rfl⟩
    · exact j_throwSW (text := "there is no such table") rfl th_I (by decide +kernel) dX8_tableFor_13 dX8_tableFor_16 dX8_tableFor_17 dX8_tableFor_20 dX8_tableFor_23 (Nat.le_of_ble_eq_true rfl) (Nat.le_of_ble_eq_true rfl) ⟨rfl, rfl, rfl, rfl⟩ (Nat.le_of_ble_eq_true rfl) (Nat.le_of_ble_eq_true rfl)
set_option maxRecDepth 100000 in
set_option maxHeartbeats 8000000 in
theorem c_X8_hearerFor (hl : l.stackTraces = false) (rf : Int32) (kn : Int32) (ma : Int32) (xa : Bool) (fa : Nat → Int32) (ca : Nat → Int32) (mb : Int32) (xb : Bool) (fb : Nat → Int32) (cb : Nat → Int32) (mt : Int32) (xt : Bool) (ft : Nat → Int32) (ct : Nat → Int32) (f0 : Nat → Int32) (g0 : Nat → Int32) (c0 : Nat → Int32) (m0 : Int32) (s0 : Int32) (f1 : Nat → Int32) (g1 : Nat → Int32) (c1 : Nat → Int32) (m1 : Int32) (s1 : Int32) (f2 : Nat → Int32) (g2 : Nat → Int32) (c2 : Nat → Int32) (m2 : Int32) (s2 : Int32) (f3 : Nat → Int32) (g3 : Nat → Int32) (c3 : Nat → Int32) (m3 : Int32) (s3 : Int32) (f4 : Nat → Int32) (g4 : Nat → Int32) (c4 : Nat → Int32) (m4 : Int32) (s4 : Int32) (f5 : Nat → Int32) (g5 : Nat → Int32) (c5 : Nat → Int32) (m5 : Int32) (s5 : Int32) (ek0 : Int32) (em0 : Int32) (es0 : Int32) (el0 : Int32) (b0 : Int32) (ef0 : Nat → Int32) (ek1 : Int32) (em1 : Int32) (es1 : Int32) (el1 : Int32) (b1 : Int32) (ef1 : Nat → Int32) (r : Int32) : z_CX G l mX8_hearerFor 10 1 6 (z_cw rf kn ma xa fa ca mb xb fb cb mt xt ft ct f0 g0 c0 m0 s0 f1 g1 c1 m1 s1 f2 g2 c2 m2 s2 f3 g3 c3 m3 s3 f4 g4 c4 m4 s4 f5 g5 c5 m5 s5 ek0 em0 es0 el0 b0 ef0 ek1 em1 es1 el1 b1 ef1 []) [.ref 0, .int r] (fun v L => ∃ n : Nat, v = some (.ref n) ∧ ((r = 0 ∧ n = 27) ∨ (r = 1 ∧ n = 29)) ∧ L = (z_cw rf kn ma xa fa ca mb xb fb cb mt xt ft ct f0 g0 c0 m0 s0 f1 g1 c1 m1 s1 f2 g2 c2 m2 s2 f3 g3 c3 m3 s3 f4 g4 c4 m4 s4 f5 g5 c5 m5 s5 ek0 em0 es0 el0 b0 ef0 ek1 em1 es1 el1 b1 ef1 [])) (fun E L => z_xI E ∧ L = (z_cw rf kn ma xa fa ca mb xb fb cb mt xt ft ct f0 g0 c0 m0 s0 f1 g1 c1 m1 s1 f2 g2 c2 m2 s2 f3 g3 c3 m3 s3 f4 g4 c4 m4 s4 f5 g5 c5 m5 s5 ek0 em0 es0 el0 b0 ef0 ek1 em1 es1 el1 b1 ef1 [])) := by
  refine z_body hl (by decide) rfl (Nat.le_of_ble_eq_true rfl) ?_
  show z_J G l mX8_hearerFor (z_SX 10 1 6 (z_cw rf kn ma xa fa ca mb xb fb cb mt xt ft ct f0 g0 c0 m0 s0 f1 g1 c1 m1 s1 f2 g2 c2 m2 s2 f3 g3 c3 m3 s3 f4 g4 c4 m4 s4 f5 g5 c5 m5 s5 ek0 em0 es0 el0 b0 ef0 ek1 em1 es1 el1 b1 ef1 []) (fun v L => ∃ n : Nat, v = some (.ref n) ∧ ((r = 0 ∧ n = 27) ∨ (r = 1 ∧ n = 29)) ∧ L = (z_cw rf kn ma xa fa ca mb xb fb cb mt xt ft ct f0 g0 c0 m0 s0 f1 g1 c1 m1 s1 f2 g2 c2 m2 s2 f3 g3 c3 m3 s3 f4 g4 c4 m4 s4 f5 g5 c5 m5 s5 ek0 em0 es0 el0 b0 ef0 ek1 em1 es1 el1 b1 ef1 [])) (fun E L => z_xI E ∧ L = (z_cw rf kn ma xa fa ca mb xb fb cb mt xt ft ct f0 g0 c0 m0 s0 f1 g1 c1 m1 s1 f2 g2 c2 m2 s2 f3 g3 c3 m3 s3 f4 g4 c4 m4 s4 f5 g5 c5 m5 s5 ek0 em0 es0 el0 b0 ef0 ek1 em1 es1 el1 b1 ef1 []))) 0 [(0, _), (1, _)] [] _ 0 0
  refine j_iload_n dX8_hearerFor_0 rfl ?_
  refine j_if_lt (tgt := 13) dX8_hearerFor_1 (by decide) (fun c_1 => ?_) (fun c_1 => ?_)
  · exact j_throwSW (text := "there is no such hearer") rfl th_I (by decide +kernel) dX8_hearerFor_13 dX8_hearerFor_16 dX8_hearerFor_17 dX8_hearerFor_20 dX8_hearerFor_23 (Nat.le_of_ble_eq_true rfl) (Nat.le_of_ble_eq_true rfl) ⟨rfl, rfl, rfl, rfl⟩ (Nat.le_of_ble_eq_true rfl) (Nat.le_of_ble_eq_true rfl)
  · refine j_iload_n dX8_hearerFor_4 rfl ?_
    refine j_aload_n dX8_hearerFor_5 rfl rfl ?_
    refine j_getf dX8_hearerFor_6 fX8_32 rfl rfl ?_
    refine j_alen dX8_hearerFor_9 rfl rfl rfl ?_
    refine j_icmp_lt (tgt := 24) dX8_hearerFor_10 (by decide) (fun c_10 => ?_) (fun c_10 => ?_)
    · rcases z_r2 c_1 c_10 with rfl | rfl
      · refine j_aload_n dX8_hearerFor_24 rfl rfl ?_
        refine j_getf dX8_hearerFor_25 fX8_32 rfl rfl ?_
        refine j_iload_n dX8_hearerFor_28 rfl ?_
        refine j_aald (v := .ref 27) dX8_hearerFor_29 rfl rfl rfl (vp_in_iff.mpr (by decide)) rfl ?_
        refine j_aret dX8_hearerFor_30 rfl (Or.inl ⟨_, rfl⟩) rfl ?_ (Nat.le_of_ble_eq_true rfl) (Nat.le_of_ble_eq_true rfl)
        exact ⟨rfl, rfl, _, rfl, (by first | exact Or.inl ⟨rfl, rfl⟩ | exact Or.inr (⟨rfl, rfl⟩)), rfl⟩
      · refine j_aload_n dX8_hearerFor_24 rfl rfl ?_
        refine j_getf dX8_hearerFor_25 fX8_32 rfl rfl ?_
        refine j_iload_n dX8_hearerFor_28 rfl ?_
        refine j_aald (v := .ref 29) dX8_hearerFor_29 rfl rfl rfl (vp_in_iff.mpr (by decide)) rfl ?_
        refine j_aret dX8_hearerFor_30 rfl (Or.inl ⟨_, rfl⟩) rfl ?_ (Nat.le_of_ble_eq_true rfl) (Nat.le_of_ble_eq_true rfl)
        exact ⟨rfl, rfl, _, rfl, (by first | exact Or.inl ⟨rfl, rfl⟩ | exact Or.inr (⟨rfl, rfl⟩)), rfl⟩
    · exact j_throwSW (text := "there is no such hearer") rfl th_I (by decide +kernel) dX8_hearerFor_13 dX8_hearerFor_16 dX8_hearerFor_17 dX8_hearerFor_20 dX8_hearerFor_23 (Nat.le_of_ble_eq_true rfl) (Nat.le_of_ble_eq_true rfl) ⟨rfl, rfl, rfl, rfl⟩ (Nat.le_of_ble_eq_true rfl) (Nat.le_of_ble_eq_true rfl)
set_option maxRecDepth 100000 in
set_option maxHeartbeats 8000000 in
theorem c_X8_tableFor_ (hl : l.stackTraces = false) (rf : Int32) (kn : Int32) (ma : Int32) (xa : Bool) (fa : Nat → Int32) (ca : Nat → Int32) (mb : Int32) (xb : Bool) (fb : Nat → Int32) (cb : Nat → Int32) (mt : Int32) (xt : Bool) (ft : Nat → Int32) (ct : Nat → Int32) (f0 : Nat → Int32) (g0 : Nat → Int32) (c0 : Nat → Int32) (m0 : Int32) (s0 : Int32) (f1 : Nat → Int32) (g1 : Nat → Int32) (c1 : Nat → Int32) (m1 : Int32) (s1 : Int32) (f2 : Nat → Int32) (g2 : Nat → Int32) (c2 : Nat → Int32) (m2 : Int32) (s2 : Int32) (f3 : Nat → Int32) (g3 : Nat → Int32) (c3 : Nat → Int32) (m3 : Int32) (s3 : Int32) (f4 : Nat → Int32) (g4 : Nat → Int32) (c4 : Nat → Int32) (m4 : Int32) (s4 : Int32) (f5 : Nat → Int32) (g5 : Nat → Int32) (c5 : Nat → Int32) (m5 : Int32) (s5 : Int32) (ek0 : Int32) (em0 : Int32) (es0 : Int32) (el0 : Int32) (b0 : Int32) (ef0 : Nat → Int32) (ek1 : Int32) (em1 : Int32) (es1 : Int32) (el1 : Int32) (b1 : Int32) (ef1 : Nat → Int32) (r p : Int32) : z_CX G l mX8_tableFor_ 14 3 18 (z_cw rf kn ma xa fa ca mb xb fb cb mt xt ft ct f0 g0 c0 m0 s0 f1 g1 c1 m1 s1 f2 g2 c2 m2 s2 f3 g3 c3 m3 s3 f4 g4 c4 m4 s4 f5 g5 c5 m5 s5 ek0 em0 es0 el0 b0 ef0 ek1 em1 es1 el1 b1 ef1 []) [.ref 0, .int r, .int p] (fun v L => ∃ n : Nat, v = some (.ref n) ∧ ((r = 0 ∧ n = 10) ∨ (r = 1 ∧ n = 16) ∨ (r = 2 ∧ n = 21)) ∧ L = (z_cw rf kn ma xa fa ca mb xb fb cb mt xt ft ct f0 g0 c0 m0 s0 f1 g1 c1 m1 s1 f2 g2 c2 m2 s2 f3 g3 c3 m3 s3 f4 g4 c4 m4 s4 f5 g5 c5 m5 s5 ek0 em0 es0 el0 b0 ef0 ek1 em1 es1 el1 b1 ef1 [])) (fun E L => z_xIA E ∧ L = (z_cw rf kn ma xa fa ca mb xb fb cb mt xt ft ct f0 g0 c0 m0 s0 f1 g1 c1 m1 s1 f2 g2 c2 m2 s2 f3 g3 c3 m3 s3 f4 g4 c4 m4 s4 f5 g5 c5 m5 s5 ek0 em0 es0 el0 b0 ef0 ek1 em1 es1 el1 b1 ef1 [])) := by
  refine z_body hl (by decide) rfl (Nat.le_of_ble_eq_true rfl) ?_
  show z_J G l mX8_tableFor_ (z_SX 14 3 18 (z_cw rf kn ma xa fa ca mb xb fb cb mt xt ft ct f0 g0 c0 m0 s0 f1 g1 c1 m1 s1 f2 g2 c2 m2 s2 f3 g3 c3 m3 s3 f4 g4 c4 m4 s4 f5 g5 c5 m5 s5 ek0 em0 es0 el0 b0 ef0 ek1 em1 es1 el1 b1 ef1 []) (fun v L => ∃ n : Nat, v = some (.ref n) ∧ ((r = 0 ∧ n = 10) ∨ (r = 1 ∧ n = 16) ∨ (r = 2 ∧ n = 21)) ∧ L = (z_cw rf kn ma xa fa ca mb xb fb cb mt xt ft ct f0 g0 c0 m0 s0 f1 g1 c1 m1 s1 f2 g2 c2 m2 s2 f3 g3 c3 m3 s3 f4 g4 c4 m4 s4 f5 g5 c5 m5 s5 ek0 em0 es0 el0 b0 ef0 ek1 em1 es1 el1 b1 ef1 [])) (fun E L => z_xIA E ∧ L = (z_cw rf kn ma xa fa ca mb xb fb cb mt xt ft ct f0 g0 c0 m0 s0 f1 g1 c1 m1 s1 f2 g2 c2 m2 s2 f3 g3 c3 m3 s3 f4 g4 c4 m4 s4 f5 g5 c5 m5 s5 ek0 em0 es0 el0 b0 ef0 ek1 em1 es1 el1 b1 ef1 []))) 0 [(0, _), (1, _), (2, _)] [] _ 0 0
  refine j_aload_n dX8_tableFor__0 rfl rfl ?_
  refine j_iload_n dX8_tableFor__1 rfl ?_
  refine j_callV (q := (RX8, TX8, 9)) dX8_tableFor__2 kX8_tableFor lX8_157 inX8_tableFor seX8_tableFor rfl rfl (z_dirX (c_X8_tableFor hl _ _ _ _ _ _ _ _ _ _ _ _ _ _ _ _ _ _ _ _ _ _ _ _ _ _ _ _ _ _ _ _ _ _ _ _ _ _ _ _ _ _ _ _ _ _ _ _ _ _ _ _ _ _ _ _ _)) (Nat.le_of_ble_eq_true rfl) ⟨(Nat.le_of_ble_eq_true rfl), (Nat.le_of_ble_eq_true rfl)⟩ rfl (Nat.le_of_ble_eq_true rfl) rfl rfl (fun _ _ h => by obtain ⟨_, ⟨h1, rfl⟩, rfl⟩ := h; exact ⟨rfl, rfl, x_I_IA h1, rfl⟩) ?_
  rintro _ _ ⟨_, ⟨_, rfl, hr, rfl⟩, rfl⟩
  have hq_2 := hr
  rcases hr with ⟨e_2, rfl⟩ | ⟨e_2, rfl⟩ | ⟨e_2, rfl⟩
  · refine j_astore_n (lo' := [(3, _), (0, _), (1, _), (2, _)]) dX8_tableFor__5 rfl (by decide) rfl ?_
    refine j_iload_n dX8_tableFor__6 rfl ?_
    refine j_callS dX8_tableFor__7 kX8_checkKey lX8_234 stX8_checkKey (c_X8_checkKey hl _ _) (Nat.le_of_ble_eq_true rfl) ⟨(Nat.le_of_ble_eq_true rfl), (Nat.le_of_ble_eq_true rfl)⟩ rfl (Nat.le_of_ble_eq_true rfl) rfl rfl (fun _ _ h => by obtain ⟨h1, rfl⟩ := h; exact ⟨rfl, rfl, x_A_IA h1, rfl⟩) ?_
    rintro _ _ ⟨rfl, rfl⟩
    refine j_aload_n dX8_tableFor__10 rfl rfl ?_
    refine j_aret dX8_tableFor__11 rfl (Or.inl ⟨_, rfl⟩) rfl ?_ (Nat.le_of_ble_eq_true rfl) (Nat.le_of_ble_eq_true rfl)
    exact ⟨rfl, rfl, _, rfl, (by assumption), rfl⟩
  · refine j_astore_n (lo' := [(3, _), (0, _), (1, _), (2, _)]) dX8_tableFor__5 rfl (by decide) rfl ?_
    refine j_iload_n dX8_tableFor__6 rfl ?_
    refine j_callS dX8_tableFor__7 kX8_checkKey lX8_234 stX8_checkKey (c_X8_checkKey hl _ _) (Nat.le_of_ble_eq_true rfl) ⟨(Nat.le_of_ble_eq_true rfl), (Nat.le_of_ble_eq_true rfl)⟩ rfl (Nat.le_of_ble_eq_true rfl) rfl rfl (fun _ _ h => by obtain ⟨h1, rfl⟩ := h; exact ⟨rfl, rfl, x_A_IA h1, rfl⟩) ?_
    rintro _ _ ⟨rfl, rfl⟩
    refine j_aload_n dX8_tableFor__10 rfl rfl ?_
    refine j_aret dX8_tableFor__11 rfl (Or.inl ⟨_, rfl⟩) rfl ?_ (Nat.le_of_ble_eq_true rfl) (Nat.le_of_ble_eq_true rfl)
    exact ⟨rfl, rfl, _, rfl, (by assumption), rfl⟩
  · refine j_astore_n (lo' := [(3, _), (0, _), (1, _), (2, _)]) dX8_tableFor__5 rfl (by decide) rfl ?_
    refine j_iload_n dX8_tableFor__6 rfl ?_
    refine j_callS dX8_tableFor__7 kX8_checkKey lX8_234 stX8_checkKey (c_X8_checkKey hl _ _) (Nat.le_of_ble_eq_true rfl) ⟨(Nat.le_of_ble_eq_true rfl), (Nat.le_of_ble_eq_true rfl)⟩ rfl (Nat.le_of_ble_eq_true rfl) rfl rfl (fun _ _ h => by obtain ⟨h1, rfl⟩ := h; exact ⟨rfl, rfl, x_A_IA h1, rfl⟩) ?_
    rintro _ _ ⟨rfl, rfl⟩
    refine j_aload_n dX8_tableFor__10 rfl rfl ?_
    refine j_aret dX8_tableFor__11 rfl (Or.inl ⟨_, rfl⟩) rfl ?_ (Nat.le_of_ble_eq_true rfl) (Nat.le_of_ble_eq_true rfl)
    exact ⟨rfl, rfl, _, rfl, (by assumption), rfl⟩
set_option maxRecDepth 100000 in
set_option maxHeartbeats 8000000 in
theorem c_X8_tableToReckon (hl : l.stackTraces = false) (rf : Int32) (kn : Int32) (ma : Int32) (xa : Bool) (fa : Nat → Int32) (ca : Nat → Int32) (mb : Int32) (xb : Bool) (fb : Nat → Int32) (cb : Nat → Int32) (mt : Int32) (xt : Bool) (ft : Nat → Int32) (ct : Nat → Int32) (f0 : Nat → Int32) (g0 : Nat → Int32) (c0 : Nat → Int32) (m0 : Int32) (s0 : Int32) (f1 : Nat → Int32) (g1 : Nat → Int32) (c1 : Nat → Int32) (m1 : Int32) (s1 : Int32) (f2 : Nat → Int32) (g2 : Nat → Int32) (c2 : Nat → Int32) (m2 : Int32) (s2 : Int32) (f3 : Nat → Int32) (g3 : Nat → Int32) (c3 : Nat → Int32) (m3 : Int32) (s3 : Int32) (f4 : Nat → Int32) (g4 : Nat → Int32) (c4 : Nat → Int32) (m4 : Int32) (s4 : Int32) (f5 : Nat → Int32) (g5 : Nat → Int32) (c5 : Nat → Int32) (m5 : Int32) (s5 : Int32) (ek0 : Int32) (em0 : Int32) (es0 : Int32) (el0 : Int32) (b0 : Int32) (ef0 : Nat → Int32) (ek1 : Int32) (em1 : Int32) (es1 : Int32) (el1 : Int32) (b1 : Int32) (ef1 : Nat → Int32) (r p q t : Int32) : z_CX G l mX8_tableToReckon 16 6 36 (z_cw rf kn ma xa fa ca mb xb fb cb mt xt ft ct f0 g0 c0 m0 s0 f1 g1 c1 m1 s1 f2 g2 c2 m2 s2 f3 g3 c3 m3 s3 f4 g4 c4 m4 s4 f5 g5 c5 m5 s5 ek0 em0 es0 el0 b0 ef0 ek1 em1 es1 el1 b1 ef1 []) [.ref 0, .int r, .int p, .int q, .int t] (fun v L => ∃ n : Nat, v = some (.ref n) ∧ ((r = 0 ∧ n = 10) ∨ (r = 1 ∧ n = 16) ∨ (r = 2 ∧ n = 21)) ∧ L = (z_cw rf kn ma xa fa ca mb xb fb cb mt xt ft ct f0 g0 c0 m0 s0 f1 g1 c1 m1 s1 f2 g2 c2 m2 s2 f3 g3 c3 m3 s3 f4 g4 c4 m4 s4 f5 g5 c5 m5 s5 ek0 em0 es0 el0 b0 ef0 ek1 em1 es1 el1 b1 ef1 [])) (fun E L => z_xIA E ∧ L = (z_cw rf kn ma xa fa ca mb xb fb cb mt xt ft ct f0 g0 c0 m0 s0 f1 g1 c1 m1 s1 f2 g2 c2 m2 s2 f3 g3 c3 m3 s3 f4 g4 c4 m4 s4 f5 g5 c5 m5 s5 ek0 em0 es0 el0 b0 ef0 ek1 em1 es1 el1 b1 ef1 [])) := by
  refine z_body hl (by decide) rfl (Nat.le_of_ble_eq_true rfl) ?_
  show z_J G l mX8_tableToReckon (z_SX 16 6 36 (z_cw rf kn ma xa fa ca mb xb fb cb mt xt ft ct f0 g0 c0 m0 s0 f1 g1 c1 m1 s1 f2 g2 c2 m2 s2 f3 g3 c3 m3 s3 f4 g4 c4 m4 s4 f5 g5 c5 m5 s5 ek0 em0 es0 el0 b0 ef0 ek1 em1 es1 el1 b1 ef1 []) (fun v L => ∃ n : Nat, v = some (.ref n) ∧ ((r = 0 ∧ n = 10) ∨ (r = 1 ∧ n = 16) ∨ (r = 2 ∧ n = 21)) ∧ L = (z_cw rf kn ma xa fa ca mb xb fb cb mt xt ft ct f0 g0 c0 m0 s0 f1 g1 c1 m1 s1 f2 g2 c2 m2 s2 f3 g3 c3 m3 s3 f4 g4 c4 m4 s4 f5 g5 c5 m5 s5 ek0 em0 es0 el0 b0 ef0 ek1 em1 es1 el1 b1 ef1 [])) (fun E L => z_xIA E ∧ L = (z_cw rf kn ma xa fa ca mb xb fb cb mt xt ft ct f0 g0 c0 m0 s0 f1 g1 c1 m1 s1 f2 g2 c2 m2 s2 f3 g3 c3 m3 s3 f4 g4 c4 m4 s4 f5 g5 c5 m5 s5 ek0 em0 es0 el0 b0 ef0 ek1 em1 es1 el1 b1 ef1 []))) 0 [(0, _), (1, _), (2, _), (3, _), (4, _)] [] _ 0 0
  refine j_aload_n dX8_tableToReckon_0 rfl rfl ?_
  refine j_iload_n dX8_tableToReckon_1 rfl ?_
  refine j_iload_n dX8_tableToReckon_2 rfl ?_
  refine j_callV (q := (RX8, TX8, 9)) dX8_tableToReckon_3 kX8_tableFor_ lX8_126 inX8_tableFor_ seX8_tableFor_ rfl rfl (z_dirX (c_X8_tableFor_ hl _ _ _ _ _ _ _ _ _ _ _ _ _ _ _ _ _ _ _ _ _ _ _ _ _ _ _ _ _ _ _ _ _ _ _ _ _ _ _ _ _ _ _ _ _ _ _ _ _ _ _ _ _ _ _ _ _ _)) (Nat.le_of_ble_eq_true rfl) ⟨(Nat.le_of_ble_eq_true rfl), (Nat.le_of_ble_eq_true rfl)⟩ rfl (Nat.le_of_ble_eq_true rfl) rfl rfl (fun _ _ h => by obtain ⟨_, ⟨h1, rfl⟩, rfl⟩ := h; exact ⟨rfl, rfl, x_IA_IA h1, rfl⟩) ?_
  rintro _ _ ⟨_, ⟨_, rfl, hr, rfl⟩, rfl⟩
  have hq_3 := hr
  rcases hr with ⟨e_3, rfl⟩ | ⟨e_3, rfl⟩ | ⟨e_3, rfl⟩
  · refine j_astore (lo' := [(5, _), (0, _), (1, _), (2, _), (3, _), (4, _)]) dX8_tableToReckon_6 rfl (by decide) rfl ?_
    refine j_iload_n dX8_tableToReckon_8 rfl ?_
    refine j_iconst (v := 0) dX8_tableToReckon_9 (by decide) ?_
    refine j_iconst (v := 5) dX8_tableToReckon_10 (by decide) ?_
    refine j_callS dX8_tableToReckon_11 kX8_checkRange lX8_72 stX8_checkRange (c_X8_checkRange hl _ _ _ _) (Nat.le_of_ble_eq_true rfl) ⟨(Nat.le_of_ble_eq_true rfl), (Nat.le_of_ble_eq_true rfl)⟩ rfl (Nat.le_of_ble_eq_true rfl) rfl rfl (fun _ _ h => by obtain ⟨h1, rfl⟩ := h; exact ⟨rfl, rfl, x_A_IA h1, rfl⟩) ?_
    rintro _ _ ⟨rfl, rfl⟩
    refine j_iload dX8_tableToReckon_14 rfl ?_
    refine j_callS dX8_tableToReckon_16 kX8_checkValue lX8_50 stX8_checkValue (c_X8_checkValue hl _ _) (Nat.le_of_ble_eq_true rfl) ⟨(Nat.le_of_ble_eq_true rfl), (Nat.le_of_ble_eq_true rfl)⟩ rfl (Nat.le_of_ble_eq_true rfl) rfl rfl (fun _ _ h => by obtain ⟨h1, rfl⟩ := h; exact ⟨rfl, rfl, x_A_IA h1, rfl⟩) ?_
    rintro _ _ ⟨rfl, rfl⟩
    refine j_aload dX8_tableToReckon_19 rfl rfl ?_
    refine j_aret dX8_tableToReckon_21 rfl (Or.inl ⟨_, rfl⟩) rfl ?_ (Nat.le_of_ble_eq_true rfl) (Nat.le_of_ble_eq_true rfl)
    exact ⟨rfl, rfl, _, rfl, (by assumption), rfl⟩
  · refine j_astore (lo' := [(5, _), (0, _), (1, _), (2, _), (3, _), (4, _)]) dX8_tableToReckon_6 rfl (by decide) rfl ?_
    refine j_iload_n dX8_tableToReckon_8 rfl ?_
    refine j_iconst (v := 0) dX8_tableToReckon_9 (by decide) ?_
    refine j_iconst (v := 5) dX8_tableToReckon_10 (by decide) ?_
    refine j_callS dX8_tableToReckon_11 kX8_checkRange lX8_72 stX8_checkRange (c_X8_checkRange hl _ _ _ _) (Nat.le_of_ble_eq_true rfl) ⟨(Nat.le_of_ble_eq_true rfl), (Nat.le_of_ble_eq_true rfl)⟩ rfl (Nat.le_of_ble_eq_true rfl) rfl rfl (fun _ _ h => by obtain ⟨h1, rfl⟩ := h; exact ⟨rfl, rfl, x_A_IA h1, rfl⟩) ?_
    rintro _ _ ⟨rfl, rfl⟩
    refine j_iload dX8_tableToReckon_14 rfl ?_
    refine j_callS dX8_tableToReckon_16 kX8_checkValue lX8_50 stX8_checkValue (c_X8_checkValue hl _ _) (Nat.le_of_ble_eq_true rfl) ⟨(Nat.le_of_ble_eq_true rfl), (Nat.le_of_ble_eq_true rfl)⟩ rfl (Nat.le_of_ble_eq_true rfl) rfl rfl (fun _ _ h => by obtain ⟨h1, rfl⟩ := h; exact ⟨rfl, rfl, x_A_IA h1, rfl⟩) ?_
    rintro _ _ ⟨rfl, rfl⟩
    refine j_aload dX8_tableToReckon_19 rfl rfl ?_
    refine j_aret dX8_tableToReckon_21 rfl (Or.inl ⟨_, rfl⟩) rfl ?_ (Nat.le_of_ble_eq_true rfl) (Nat.le_of_ble_eq_true rfl)
    exact ⟨rfl, rfl, _, rfl, (by assumption), rfl⟩
  · refine j_astore (lo' := [(5, _), (0, _), (1, _), (2, _), (3, _), (4, _)]) dX8_tableToReckon_6 rfl (by decide) rfl ?_
    refine j_iload_n dX8_tableToReckon_8 rfl ?_
    refine j_iconst (v := 0) dX8_tableToReckon_9 (by decide) ?_
    refine j_iconst (v := 5) dX8_tableToReckon_10 (by decide) ?_
    refine j_callS dX8_tableToReckon_11 kX8_checkRange lX8_72 stX8_checkRange (c_X8_checkRange hl _ _ _ _) (Nat.le_of_ble_eq_true rfl) ⟨(Nat.le_of_ble_eq_true rfl), (Nat.le_of_ble_eq_true rfl)⟩ rfl (Nat.le_of_ble_eq_true rfl) rfl rfl (fun _ _ h => by obtain ⟨h1, rfl⟩ := h; exact ⟨rfl, rfl, x_A_IA h1, rfl⟩) ?_
    rintro _ _ ⟨rfl, rfl⟩
    refine j_iload dX8_tableToReckon_14 rfl ?_
    refine j_callS dX8_tableToReckon_16 kX8_checkValue lX8_50 stX8_checkValue (c_X8_checkValue hl _ _) (Nat.le_of_ble_eq_true rfl) ⟨(Nat.le_of_ble_eq_true rfl), (Nat.le_of_ble_eq_true rfl)⟩ rfl (Nat.le_of_ble_eq_true rfl) rfl rfl (fun _ _ h => by obtain ⟨h1, rfl⟩ := h; exact ⟨rfl, rfl, x_A_IA h1, rfl⟩) ?_
    rintro _ _ ⟨rfl, rfl⟩
    refine j_aload dX8_tableToReckon_19 rfl rfl ?_
    refine j_aret dX8_tableToReckon_21 rfl (Or.inl ⟨_, rfl⟩) rfl ?_ (Nat.le_of_ble_eq_true rfl) (Nat.le_of_ble_eq_true rfl)
    exact ⟨rfl, rfl, _, rfl, (by assumption), rfl⟩
set_option maxRecDepth 100000 in
set_option maxHeartbeats 8000000 in
theorem c_X8_refused (hl : l.stackTraces = false) (rf : Int32) (kn : Int32) (ma : Int32) (xa : Bool) (fa : Nat → Int32) (ca : Nat → Int32) (mb : Int32) (xb : Bool) (fb : Nat → Int32) (cb : Nat → Int32) (mt : Int32) (xt : Bool) (ft : Nat → Int32) (ct : Nat → Int32) (f0 : Nat → Int32) (g0 : Nat → Int32) (c0 : Nat → Int32) (m0 : Int32) (s0 : Int32) (f1 : Nat → Int32) (g1 : Nat → Int32) (c1 : Nat → Int32) (m1 : Int32) (s1 : Int32) (f2 : Nat → Int32) (g2 : Nat → Int32) (c2 : Nat → Int32) (m2 : Int32) (s2 : Int32) (f3 : Nat → Int32) (g3 : Nat → Int32) (c3 : Nat → Int32) (m3 : Int32) (s3 : Int32) (f4 : Nat → Int32) (g4 : Nat → Int32) (c4 : Nat → Int32) (m4 : Int32) (s4 : Int32) (f5 : Nat → Int32) (g5 : Nat → Int32) (c5 : Nat → Int32) (m5 : Int32) (s5 : Int32) (ek0 : Int32) (em0 : Int32) (es0 : Int32) (el0 : Int32) (b0 : Int32) (ef0 : Nat → Int32) (ek1 : Int32) (em1 : Int32) (es1 : Int32) (el1 : Int32) (b1 : Int32) (ef1 : Nat → Int32) : z_CF G l mX8_refused 10 0 0 (z_cw rf kn ma xa fa ca mb xb fb cb mt xt ft ct f0 g0 c0 m0 s0 f1 g1 c1 m1 s1 f2 g2 c2 m2 s2 f3 g3 c3 m3 s3 f4 g4 c4 m4 s4 f5 g5 c5 m5 s5 ek0 em0 es0 el0 b0 ef0 ek1 em1 es1 el1 b1 ef1 []) [.ref 0] (fun v L => (∃ x : Int32, v = some (.int x)) ∧ ∃ rf' : Int32, L = (z_cw rf' kn ma xa fa ca mb xb fb cb mt xt ft ct f0 g0 c0 m0 s0 f1 g1 c1 m1 s1 f2 g2 c2 m2 s2 f3 g3 c3 m3 s3 f4 g4 c4 m4 s4 f5 g5 c5 m5 s5 ek0 em0 es0 el0 b0 ef0 ek1 em1 es1 el1 b1 ef1 [])) := by
  refine z_body hl (by decide) rfl (Nat.le_of_ble_eq_true rfl) ?_
  show z_J G l mX8_refused (z_SF 10 0 0 (z_cw rf kn ma xa fa ca mb xb fb cb mt xt ft ct f0 g0 c0 m0 s0 f1 g1 c1 m1 s1 f2 g2 c2 m2 s2 f3 g3 c3 m3 s3 f4 g4 c4 m4 s4 f5 g5 c5 m5 s5 ek0 em0 es0 el0 b0 ef0 ek1 em1 es1 el1 b1 ef1 []) (fun v L => (∃ x : Int32, v = some (.int x)) ∧ ∃ rf' : Int32, L = (z_cw rf' kn ma xa fa ca mb xb fb cb mt xt ft ct f0 g0 c0 m0 s0 f1 g1 c1 m1 s1 f2 g2 c2 m2 s2 f3 g3 c3 m3 s3 f4 g4 c4 m4 s4 f5 g5 c5 m5 s5 ek0 em0 es0 el0 b0 ef0 ek1 em1 es1 el1 b1 ef1 []))) 0 [(0, _)] [] _ 0 0
  refine j_aload_n dX8_refused_0 rfl rfl ?_
  refine j_dup dX8_refused_1 rfl ?_
  refine j_getf dX8_refused_2 fX8_256 rfl rfl ?_
  refine j_iconst (v := 1) dX8_refused_5 (by decide) ?_
  refine j_iadd dX8_refused_6 ?_
  refine j_put (w' := (z_cw _ _ _ _ _ _ _ _ _ _ _ _ _ _ _ _ _ _ _ _ _ _ _ _ _ _ _ _ _ _ _ _ _ _ _ _ _ _ _ _ _ _ _ _ _ _ _ _ _ _ _ _ _ _ _ _ [], z_no)) dX8_refused_7 fX8_256 tX8_7 rfl ⟨rfl, rfl⟩ rfl ?_
  refine j_bipush (v := (-9)) dX8_refused_10 (by decide) ?_
  refine j_iret dX8_refused_12 rfl rfl ?_ (Nat.le_of_ble_eq_true rfl) (Nat.le_of_ble_eq_true rfl)
  exact ⟨rfl, rfl, ⟨_, rfl⟩, _, rfl⟩
set_option maxRecDepth 100000 in
set_option maxHeartbeats 8000000 in
theorem c_X8_answer (hl : l.stackTraces = false) (rf : Int32) (kn : Int32) (ma : Int32) (xa : Bool) (fa : Nat → Int32) (ca : Nat → Int32) (mb : Int32) (xb : Bool) (fb : Nat → Int32) (cb : Nat → Int32) (mt : Int32) (xt : Bool) (ft : Nat → Int32) (ct : Nat → Int32) (f0 : Nat → Int32) (g0 : Nat → Int32) (c0 : Nat → Int32) (m0 : Int32) (s0 : Int32) (f1 : Nat → Int32) (g1 : Nat → Int32) (c1 : Nat → Int32) (m1 : Int32) (s1 : Int32) (f2 : Nat → Int32) (g2 : Nat → Int32) (c2 : Nat → Int32) (m2 : Int32) (s2 : Int32) (f3 : Nat → Int32) (g3 : Nat → Int32) (c3 : Nat → Int32) (m3 : Int32) (s3 : Int32) (f4 : Nat → Int32) (g4 : Nat → Int32) (c4 : Nat → Int32) (m4 : Int32) (s4 : Int32) (f5 : Nat → Int32) (g5 : Nat → Int32) (c5 : Nat → Int32) (m5 : Int32) (s5 : Int32) (ek0 : Int32) (em0 : Int32) (es0 : Int32) (el0 : Int32) (b0 : Int32) (ef0 : Nat → Int32) (ek1 : Int32) (em1 : Int32) (es1 : Int32) (el1 : Int32) (b1 : Int32) (ef1 : Nat → Int32) (t : Int32) : z_CF G l mX8_answer 11 0 0 (z_cw rf kn ma xa fa ca mb xb fb cb mt xt ft ct f0 g0 c0 m0 s0 f1 g1 c1 m1 s1 f2 g2 c2 m2 s2 f3 g3 c3 m3 s3 f4 g4 c4 m4 s4 f5 g5 c5 m5 s5 ek0 em0 es0 el0 b0 ef0 ek1 em1 es1 el1 b1 ef1 []) [.ref 0, .int t] (fun v L => (∃ x : Int32, v = some (.int x)) ∧ ∃ rf' : Int32, L = (z_cw rf' kn ma xa fa ca mb xb fb cb mt xt ft ct f0 g0 c0 m0 s0 f1 g1 c1 m1 s1 f2 g2 c2 m2 s2 f3 g3 c3 m3 s3 f4 g4 c4 m4 s4 f5 g5 c5 m5 s5 ek0 em0 es0 el0 b0 ef0 ek1 em1 es1 el1 b1 ef1 [])) := by
  refine z_body hl (by decide) rfl (Nat.le_of_ble_eq_true rfl) ?_
  show z_J G l mX8_answer (z_SF 11 0 0 (z_cw rf kn ma xa fa ca mb xb fb cb mt xt ft ct f0 g0 c0 m0 s0 f1 g1 c1 m1 s1 f2 g2 c2 m2 s2 f3 g3 c3 m3 s3 f4 g4 c4 m4 s4 f5 g5 c5 m5 s5 ek0 em0 es0 el0 b0 ef0 ek1 em1 es1 el1 b1 ef1 []) (fun v L => (∃ x : Int32, v = some (.int x)) ∧ ∃ rf' : Int32, L = (z_cw rf' kn ma xa fa ca mb xb fb cb mt xt ft ct f0 g0 c0 m0 s0 f1 g1 c1 m1 s1 f2 g2 c2 m2 s2 f3 g3 c3 m3 s3 f4 g4 c4 m4 s4 f5 g5 c5 m5 s5 ek0 em0 es0 el0 b0 ef0 ek1 em1 es1 el1 b1 ef1 []))) 0 [(0, _), (1, _)] [] _ 0 0
  refine j_iload_n dX8_answer_0 rfl ?_
  refine j_sipush (v := (-1001)) dX8_answer_1 (by decide) ?_
  refine j_icmp_ne (tgt := 14) dX8_answer_4 (by decide) (fun c_4 => ?_) (fun c_4 => ?_)
  · refine j_iload_n dX8_answer_14 rfl ?_
    refine j_iret dX8_answer_15 rfl rfl ?_ (Nat.le_of_ble_eq_true rfl) (Nat.le_of_ble_eq_true rfl)
    exact ⟨rfl, rfl, ⟨_, rfl⟩, _, rfl⟩
  · refine j_aload_n dX8_answer_7 rfl rfl ?_
    refine j_callV (q := (RX8, TX8, 9)) dX8_answer_8 kX8_refused lX8_119 inX8_refused seX8_refused rfl rfl (z_dirF (c_X8_refused hl _ _ _ _ _ _ _ _ _ _ _ _ _ _ _ _ _ _ _ _ _ _ _ _ _ _ _ _ _ _ _ _ _ _ _ _ _ _ _ _ _ _ _ _ _ _ _ _ _ _ _ _ _ _ _ _)) (Nat.le_of_ble_eq_true rfl) ⟨(Nat.le_of_ble_eq_true rfl), (Nat.le_of_ble_eq_true rfl)⟩ rfl (Nat.le_of_ble_eq_true rfl) rfl rfl (fun _ _ h => h.elim) ?_
    rintro _ _ ⟨_, ⟨⟨_, rfl⟩, _, rfl⟩, rfl⟩
    refine j_goto (tgt := 15) dX8_answer_11 (by decide) ?_
    refine j_iret dX8_answer_15 rfl rfl ?_ (Nat.le_of_ble_eq_true rfl) (Nat.le_of_ble_eq_true rfl)
    exact ⟨rfl, rfl, ⟨_, rfl⟩, _, rfl⟩
set_option maxRecDepth 100000 in
set_option maxHeartbeats 8000000 in
theorem c_X8_oneIf_b (hl : l.stackTraces = false) (w : z_W) (b : Bool) : z_Con G l mX8_oneIf 10 0 0 w [.int (z_bi b)] (fun v w9 => (v = some (.int (z_bi b))) ∧ w9 = w) (fun _ _ => False) := by
  refine z_body hl (by decide) rfl (Nat.le_of_ble_eq_true rfl) ?_
  show z_J G l mX8_oneIf ((10, 0, 0, w, (fun v w9 => (v = some (.int (z_bi b))) ∧ w9 = w), fun _ _ => False)) 0 [(0, _)] [] _ 0 0
  refine j_iload_n dX8_oneIf_0 rfl ?_
  refine j_if_eq (tgt := 8) dX8_oneIf_1 (by decide) (fun c_1 => ?_) (fun c_1 => ?_)
  · refine j_iconst (v := 0) dX8_oneIf_8 (by decide) ?_
    refine j_iret dX8_oneIf_9 rfl rfl ?_ (Nat.le_of_ble_eq_true rfl) (Nat.le_of_ble_eq_true rfl)
    first | exact ⟨by rw [z_bF c_1]; rfl, rfl⟩ | exact ⟨by rw [z_bt c_1]; rfl, rfl⟩
  · refine j_iconst (v := 1) dX8_oneIf_4 (by decide) ?_
    refine j_goto (tgt := 9) dX8_oneIf_5 (by decide) ?_
    refine j_iret dX8_oneIf_9 rfl rfl ?_ (Nat.le_of_ble_eq_true rfl) (Nat.le_of_ble_eq_true rfl)
    first | exact ⟨by rw [z_bF c_1]; rfl, rfl⟩ | exact ⟨by rw [z_bt c_1]; rfl, rfl⟩
end ZL5
