section ZL7
variable {G : z_G} {l : Launch}
set_option maxRecDepth 100000 in
set_option maxHeartbeats 8000000 in
theorem c_X8_valuesOfRows (hl : l.stackTraces = false) (rf : Int32) (kn : Int32) (ma : Int32) (xa : Bool) (fa : Nat → Int32) (ca : Nat → Int32) (mb : Int32) (xb : Bool) (fb : Nat → Int32) (cb : Nat → Int32) (mt : Int32) (xt : Bool) (ft : Nat → Int32) (ct : Nat → Int32) (f0 : Nat → Int32) (g0 : Nat → Int32) (c0 : Nat → Int32) (m0 : Int32) (s0 : Int32) (f1 : Nat → Int32) (g1 : Nat → Int32) (c1 : Nat → Int32) (m1 : Int32) (s1 : Int32) (f2 : Nat → Int32) (g2 : Nat → Int32) (c2 : Nat → Int32) (m2 : Int32) (s2 : Int32) (f3 : Nat → Int32) (g3 : Nat → Int32) (c3 : Nat → Int32) (m3 : Int32) (s3 : Int32) (f4 : Nat → Int32) (g4 : Nat → Int32) (c4 : Nat → Int32) (m4 : Int32) (s4 : Int32) (f5 : Nat → Int32) (g5 : Nat → Int32) (c5 : Nat → Int32) (m5 : Int32) (s5 : Int32) (ek0 : Int32) (em0 : Int32) (es0 : Int32) (el0 : Int32) (b0 : Int32) (ef0 : Nat → Int32) (ek1 : Int32) (em1 : Int32) (es1 : Int32) (el1 : Int32) (b1 : Int32) (ef1 : Nat → Int32) : z_CF G l mX8_valuesOfRows 10 0 0 (z_cw rf kn ma xa fa ca mb xb fb cb mt xt ft ct f0 g0 c0 m0 s0 f1 g1 c1 m1 s1 f2 g2 c2 m2 s2 f3 g3 c3 m3 s3 f4 g4 c4 m4 s4 f5 g5 c5 m5 s5 ek0 em0 es0 el0 b0 ef0 ek1 em1 es1 el1 b1 ef1 []) [.ref 0] (fun v L => (∃ x : Int32, v = some (.int x)) ∧ L = (z_cw rf kn ma xa fa ca mb xb fb cb mt xt ft ct f0 g0 c0 m0 s0 f1 g1 c1 m1 s1 f2 g2 c2 m2 s2 f3 g3 c3 m3 s3 f4 g4 c4 m4 s4 f5 g5 c5 m5 s5 ek0 em0 es0 el0 b0 ef0 ek1 em1 es1 el1 b1 ef1 [])) := by
  refine z_body hl (by decide) rfl (Nat.le_of_ble_eq_true rfl) ?_
  show z_J G l mX8_valuesOfRows (z_SF 10 0 0 (z_cw rf kn ma xa fa ca mb xb fb cb mt xt ft ct f0 g0 c0 m0 s0 f1 g1 c1 m1 s1 f2 g2 c2 m2 s2 f3 g3 c3 m3 s3 f4 g4 c4 m4 s4 f5 g5 c5 m5 s5 ek0 em0 es0 el0 b0 ef0 ek1 em1 es1 el1 b1 ef1 []) (fun v L => (∃ x : Int32, v = some (.int x)) ∧ L = (z_cw rf kn ma xa fa ca mb xb fb cb mt xt ft ct f0 g0 c0 m0 s0 f1 g1 c1 m1 s1 f2 g2 c2 m2 s2 f3 g3 c3 m3 s3 f4 g4 c4 m4 s4 f5 g5 c5 m5 s5 ek0 em0 es0 el0 b0 ef0 ek1 em1 es1 el1 b1 ef1 []))) 0 [(0, _)] [] _ 0 0
  refine j_iconst (v := 0) dX8_valuesOfRows_0 (by decide) ?_
  refine j_istore_n (lo' := [(1, _), (0, _)]) dX8_valuesOfRows_1 (by decide) rfl ?_
  refine j_aload_n dX8_valuesOfRows_2 rfl rfl ?_
  refine j_getf dX8_valuesOfRows_3 fX8_10 rfl rfl ?_
  refine j_astore_n (lo' := [(2, _), (1, _), (0, _)]) dX8_valuesOfRows_6 rfl (by decide) rfl ?_
  refine j_aload_n dX8_valuesOfRows_7 rfl rfl ?_
  refine j_alen dX8_valuesOfRows_8 rfl rfl rfl ?_
  refine j_istore_n (lo' := [(3, _), (2, _), (1, _), (0, _)]) dX8_valuesOfRows_9 (by decide) rfl ?_
  refine j_iconst (v := 0) dX8_valuesOfRows_10 (by decide) ?_
  refine j_istore (lo' := [(4, _), (3, _), (2, _), (1, _), (0, _)]) dX8_valuesOfRows_11 (by decide) rfl ?_
  refine j_iload dX8_valuesOfRows_13 rfl ?_
  refine j_iload_n dX8_valuesOfRows_15 rfl ?_
  refine j_icmp_ge (tgt := 39) dX8_valuesOfRows_16 (by decide) (fun c_16 => ?_) (fun c_16 => ?_)
  · exact absurd c_16 (by decide)
  · refine j_aload_n dX8_valuesOfRows_19 rfl rfl ?_
    refine j_iload dX8_valuesOfRows_20 rfl ?_
    refine j_aald (v := .ref 2) dX8_valuesOfRows_22 rfl rfl rfl (vp_in_iff.mpr (by decide)) rfl ?_
    refine j_astore (lo' := [(5, _), (4, _), (3, _), (2, _), (1, _), (0, _)]) dX8_valuesOfRows_23 rfl (by decide) rfl ?_
    refine j_iload_n dX8_valuesOfRows_25 rfl ?_
    refine j_aload dX8_valuesOfRows_26 rfl rfl ?_
    refine j_getf dX8_valuesOfRows_28 fX8_68 rfl rfl ?_
    refine j_iadd dX8_valuesOfRows_31 ?_
    refine j_istore_n (lo' := [(1, _), (5, _), (4, _), (3, _), (2, _), (0, _)]) dX8_valuesOfRows_32 (by decide) rfl ?_
    refine j_iinc (lo' := [(4, _), (1, _), (5, _), (3, _), (2, _), (0, _)]) dX8_valuesOfRows_33 rfl rfl (by decide) rfl ?_
    refine j_goto (tgt := 13) dX8_valuesOfRows_36 (by decide) ?_
    refine j_iload dX8_valuesOfRows_13 rfl ?_
    refine j_iload_n dX8_valuesOfRows_15 rfl ?_
    refine j_icmp_ge (tgt := 39) dX8_valuesOfRows_16 (by decide) (fun c_16 => ?_) (fun c_16 => ?_)
    · exact absurd c_16 (by decide)
    · refine j_aload_n dX8_valuesOfRows_19 rfl rfl ?_
      refine j_iload dX8_valuesOfRows_20 rfl ?_
      refine j_aald (v := .ref 6) dX8_valuesOfRows_22 rfl rfl rfl (vp_in_iff.mpr (by decide)) rfl ?_
      refine j_astore (lo' := [(5, _), (4, _), (1, _), (3, _), (2, _), (0, _)]) dX8_valuesOfRows_23 rfl (by decide) rfl ?_
      refine j_iload_n dX8_valuesOfRows_25 rfl ?_
      refine j_aload dX8_valuesOfRows_26 rfl rfl ?_
      refine j_getf dX8_valuesOfRows_28 fX8_68 rfl rfl ?_
      refine j_iadd dX8_valuesOfRows_31 ?_
      refine j_istore_n (lo' := [(1, _), (5, _), (4, _), (3, _), (2, _), (0, _)]) dX8_valuesOfRows_32 (by decide) rfl ?_
      refine j_iinc (lo' := [(4, _), (1, _), (5, _), (3, _), (2, _), (0, _)]) dX8_valuesOfRows_33 rfl rfl (by decide) rfl ?_
      refine j_goto (tgt := 13) dX8_valuesOfRows_36 (by decide) ?_
      refine j_iload dX8_valuesOfRows_13 rfl ?_
      refine j_iload_n dX8_valuesOfRows_15 rfl ?_
      refine j_icmp_ge (tgt := 39) dX8_valuesOfRows_16 (by decide) (fun c_16 => ?_) (fun c_16 => ?_)
      · refine j_iload_n dX8_valuesOfRows_39 rfl ?_
        refine j_iret dX8_valuesOfRows_40 rfl rfl ?_ (Nat.le_of_ble_eq_true rfl) (Nat.le_of_ble_eq_true rfl)
        exact ⟨rfl, rfl, ⟨_, rfl⟩, rfl⟩
      · exact absurd (by decide) c_16
set_option maxRecDepth 100000 in
set_option maxHeartbeats 8000000 in
theorem c_X8_pairsOfTables (hl : l.stackTraces = false) (rf : Int32) (kn : Int32) (ma : Int32) (xa : Bool) (fa : Nat → Int32) (ca : Nat → Int32) (mb : Int32) (xb : Bool) (fb : Nat → Int32) (cb : Nat → Int32) (mt : Int32) (xt : Bool) (ft : Nat → Int32) (ct : Nat → Int32) (f0 : Nat → Int32) (g0 : Nat → Int32) (c0 : Nat → Int32) (m0 : Int32) (s0 : Int32) (f1 : Nat → Int32) (g1 : Nat → Int32) (c1 : Nat → Int32) (m1 : Int32) (s1 : Int32) (f2 : Nat → Int32) (g2 : Nat → Int32) (c2 : Nat → Int32) (m2 : Int32) (s2 : Int32) (f3 : Nat → Int32) (g3 : Nat → Int32) (c3 : Nat → Int32) (m3 : Int32) (s3 : Int32) (f4 : Nat → Int32) (g4 : Nat → Int32) (c4 : Nat → Int32) (m4 : Int32) (s4 : Int32) (f5 : Nat → Int32) (g5 : Nat → Int32) (c5 : Nat → Int32) (m5 : Int32) (s5 : Int32) (ek0 : Int32) (em0 : Int32) (es0 : Int32) (el0 : Int32) (b0 : Int32) (ef0 : Nat → Int32) (ek1 : Int32) (em1 : Int32) (es1 : Int32) (el1 : Int32) (b1 : Int32) (ef1 : Nat → Int32) : z_CF G l mX8_pairsOfTables 10 0 0 (z_cw rf kn ma xa fa ca mb xb fb cb mt xt ft ct f0 g0 c0 m0 s0 f1 g1 c1 m1 s1 f2 g2 c2 m2 s2 f3 g3 c3 m3 s3 f4 g4 c4 m4 s4 f5 g5 c5 m5 s5 ek0 em0 es0 el0 b0 ef0 ek1 em1 es1 el1 b1 ef1 []) [.ref 0] (fun v L => (∃ x : Int32, v = some (.int x)) ∧ L = (z_cw rf kn ma xa fa ca mb xb fb cb mt xt ft ct f0 g0 c0 m0 s0 f1 g1 c1 m1 s1 f2 g2 c2 m2 s2 f3 g3 c3 m3 s3 f4 g4 c4 m4 s4 f5 g5 c5 m5 s5 ek0 em0 es0 el0 b0 ef0 ek1 em1 es1 el1 b1 ef1 [])) := by
  refine z_body hl (by decide) rfl (Nat.le_of_ble_eq_true rfl) ?_
  show z_J G l mX8_pairsOfTables (z_SF 10 0 0 (z_cw rf kn ma xa fa ca mb xb fb cb mt xt ft ct f0 g0 c0 m0 s0 f1 g1 c1 m1 s1 f2 g2 c2 m2 s2 f3 g3 c3 m3 s3 f4 g4 c4 m4 s4 f5 g5 c5 m5 s5 ek0 em0 es0 el0 b0 ef0 ek1 em1 es1 el1 b1 ef1 []) (fun v L => (∃ x : Int32, v = some (.int x)) ∧ L = (z_cw rf kn ma xa fa ca mb xb fb cb mt xt ft ct f0 g0 c0 m0 s0 f1 g1 c1 m1 s1 f2 g2 c2 m2 s2 f3 g3 c3 m3 s3 f4 g4 c4 m4 s4 f5 g5 c5 m5 s5 ek0 em0 es0 el0 b0 ef0 ek1 em1 es1 el1 b1 ef1 []))) 0 [(0, _)] [] _ 0 0
  refine j_iconst (v := 0) dX8_pairsOfTables_0 (by decide) ?_
  refine j_istore_n (lo' := [(1, _), (0, _)]) dX8_pairsOfTables_1 (by decide) rfl ?_
  refine j_aload_n dX8_pairsOfTables_2 rfl rfl ?_
  refine j_getf dX8_pairsOfTables_3 fX8_25 rfl rfl ?_
  refine j_astore_n (lo' := [(2, _), (1, _), (0, _)]) dX8_pairsOfTables_6 rfl (by decide) rfl ?_
  refine j_aload_n dX8_pairsOfTables_7 rfl rfl ?_
  refine j_alen dX8_pairsOfTables_8 rfl rfl rfl ?_
  refine j_istore_n (lo' := [(3, _), (2, _), (1, _), (0, _)]) dX8_pairsOfTables_9 (by decide) rfl ?_
  refine j_iconst (v := 0) dX8_pairsOfTables_10 (by decide) ?_
  refine j_istore (lo' := [(4, _), (3, _), (2, _), (1, _), (0, _)]) dX8_pairsOfTables_11 (by decide) rfl ?_
  refine j_iload dX8_pairsOfTables_13 rfl ?_
  refine j_iload_n dX8_pairsOfTables_15 rfl ?_
  refine j_icmp_ge (tgt := 39) dX8_pairsOfTables_16 (by decide) (fun c_16 => ?_) (fun c_16 => ?_)
  · exact absurd c_16 (by decide)
  · refine j_aload_n dX8_pairsOfTables_19 rfl rfl ?_
    refine j_iload dX8_pairsOfTables_20 rfl ?_
    refine j_aald (v := .ref 10) dX8_pairsOfTables_22 rfl rfl rfl (vp_in_iff.mpr (by decide)) rfl ?_
    refine j_astore (lo' := [(5, _), (4, _), (3, _), (2, _), (1, _), (0, _)]) dX8_pairsOfTables_23 rfl (by decide) rfl ?_
    refine j_iload_n dX8_pairsOfTables_25 rfl ?_
    refine j_aload dX8_pairsOfTables_26 rfl rfl ?_
    refine j_getf dX8_pairsOfTables_28 fX8_165 rfl rfl ?_
    refine j_iadd dX8_pairsOfTables_31 ?_
    refine j_istore_n (lo' := [(1, _), (5, _), (4, _), (3, _), (2, _), (0, _)]) dX8_pairsOfTables_32 (by decide) rfl ?_
    refine j_iinc (lo' := [(4, _), (1, _), (5, _), (3, _), (2, _), (0, _)]) dX8_pairsOfTables_33 rfl rfl (by decide) rfl ?_
    refine j_goto (tgt := 13) dX8_pairsOfTables_36 (by decide) ?_
    refine j_iload dX8_pairsOfTables_13 rfl ?_
    refine j_iload_n dX8_pairsOfTables_15 rfl ?_
    refine j_icmp_ge (tgt := 39) dX8_pairsOfTables_16 (by decide) (fun c_16 => ?_) (fun c_16 => ?_)
    · exact absurd c_16 (by decide)
    · refine j_aload_n dX8_pairsOfTables_19 rfl rfl ?_
      refine j_iload dX8_pairsOfTables_20 rfl ?_
      refine j_aald (v := .ref 16) dX8_pairsOfTables_22 rfl rfl rfl (vp_in_iff.mpr (by decide)) rfl ?_
      refine j_astore (lo' := [(5, _), (4, _), (1, _), (3, _), (2, _), (0, _)]) dX8_pairsOfTables_23 rfl (by decide) rfl ?_
      refine j_iload_n dX8_pairsOfTables_25 rfl ?_
      refine j_aload dX8_pairsOfTables_26 rfl rfl ?_
      refine j_getf dX8_pairsOfTables_28 fX8_165 rfl rfl ?_
      refine j_iadd dX8_pairsOfTables_31 ?_
      refine j_istore_n (lo' := [(1, _), (5, _), (4, _), (3, _), (2, _), (0, _)]) dX8_pairsOfTables_32 (by decide) rfl ?_
      refine j_iinc (lo' := [(4, _), (1, _), (5, _), (3, _), (2, _), (0, _)]) dX8_pairsOfTables_33 rfl rfl (by decide) rfl ?_
      refine j_goto (tgt := 13) dX8_pairsOfTables_36 (by decide) ?_
      refine j_iload dX8_pairsOfTables_13 rfl ?_
      refine j_iload_n dX8_pairsOfTables_15 rfl ?_
      refine j_icmp_ge (tgt := 39) dX8_pairsOfTables_16 (by decide) (fun c_16 => ?_) (fun c_16 => ?_)
      · exact absurd c_16 (by decide)
      · refine j_aload_n dX8_pairsOfTables_19 rfl rfl ?_
        refine j_iload dX8_pairsOfTables_20 rfl ?_
        refine j_aald (v := .ref 21) dX8_pairsOfTables_22 rfl rfl rfl (vp_in_iff.mpr (by decide)) rfl ?_
        refine j_astore (lo' := [(5, _), (4, _), (1, _), (3, _), (2, _), (0, _)]) dX8_pairsOfTables_23 rfl (by decide) rfl ?_
        refine j_iload_n dX8_pairsOfTables_25 rfl ?_
        refine j_aload dX8_pairsOfTables_26 rfl rfl ?_
        refine j_getf dX8_pairsOfTables_28 fX8_165 rfl rfl ?_
        refine j_iadd dX8_pairsOfTables_31 ?_
        refine j_istore_n (lo' := [(1, _), (5, _), (4, _), (3, _), (2, _), (0, _)]) dX8_pairsOfTables_32 (by decide) rfl ?_
        refine j_iinc (lo' := [(4, _), (1, _), (5, _), (3, _), (2, _), (0, _)]) dX8_pairsOfTables_33 rfl rfl (by decide) rfl ?_
        refine j_goto (tgt := 13) dX8_pairsOfTables_36 (by decide) ?_
        refine j_iload dX8_pairsOfTables_13 rfl ?_
        refine j_iload_n dX8_pairsOfTables_15 rfl ?_
        refine j_icmp_ge (tgt := 39) dX8_pairsOfTables_16 (by decide) (fun c_16 => ?_) (fun c_16 => ?_)
        · refine j_iload_n dX8_pairsOfTables_39 rfl ?_
          refine j_iret dX8_pairsOfTables_40 rfl rfl ?_ (Nat.le_of_ble_eq_true rfl) (Nat.le_of_ble_eq_true rfl)
          exact ⟨rfl, rfl, ⟨_, rfl⟩, rfl⟩
        · exact absurd (by decide) c_16
set_option maxRecDepth 100000 in
set_option maxHeartbeats 8000000 in
theorem c_X8_numbersHeard (hl : l.stackTraces = false) (rf : Int32) (kn : Int32) (ma : Int32) (xa : Bool) (fa : Nat → Int32) (ca : Nat → Int32) (mb : Int32) (xb : Bool) (fb : Nat → Int32) (cb : Nat → Int32) (mt : Int32) (xt : Bool) (ft : Nat → Int32) (ct : Nat → Int32) (f0 : Nat → Int32) (g0 : Nat → Int32) (c0 : Nat → Int32) (m0 : Int32) (s0 : Int32) (f1 : Nat → Int32) (g1 : Nat → Int32) (c1 : Nat → Int32) (m1 : Int32) (s1 : Int32) (f2 : Nat → Int32) (g2 : Nat → Int32) (c2 : Nat → Int32) (m2 : Int32) (s2 : Int32) (f3 : Nat → Int32) (g3 : Nat → Int32) (c3 : Nat → Int32) (m3 : Int32) (s3 : Int32) (f4 : Nat → Int32) (g4 : Nat → Int32) (c4 : Nat → Int32) (m4 : Int32) (s4 : Int32) (f5 : Nat → Int32) (g5 : Nat → Int32) (c5 : Nat → Int32) (m5 : Int32) (s5 : Int32) (ek0 : Int32) (em0 : Int32) (es0 : Int32) (el0 : Int32) (b0 : Int32) (ef0 : Nat → Int32) (ek1 : Int32) (em1 : Int32) (es1 : Int32) (el1 : Int32) (b1 : Int32) (ef1 : Nat → Int32) : z_CF G l mX8_numbersHeard 10 0 0 (z_cw rf kn ma xa fa ca mb xb fb cb mt xt ft ct f0 g0 c0 m0 s0 f1 g1 c1 m1 s1 f2 g2 c2 m2 s2 f3 g3 c3 m3 s3 f4 g4 c4 m4 s4 f5 g5 c5 m5 s5 ek0 em0 es0 el0 b0 ef0 ek1 em1 es1 el1 b1 ef1 []) [.ref 0] (fun v L => (∃ x : Int32, v = some (.int x)) ∧ L = (z_cw rf kn ma xa fa ca mb xb fb cb mt xt ft ct f0 g0 c0 m0 s0 f1 g1 c1 m1 s1 f2 g2 c2 m2 s2 f3 g3 c3 m3 s3 f4 g4 c4 m4 s4 f5 g5 c5 m5 s5 ek0 em0 es0 el0 b0 ef0 ek1 em1 es1 el1 b1 ef1 [])) := by
  refine z_body hl (by decide) rfl (Nat.le_of_ble_eq_true rfl) ?_
  show z_J G l mX8_numbersHeard (z_SF 10 0 0 (z_cw rf kn ma xa fa ca mb xb fb cb mt xt ft ct f0 g0 c0 m0 s0 f1 g1 c1 m1 s1 f2 g2 c2 m2 s2 f3 g3 c3 m3 s3 f4 g4 c4 m4 s4 f5 g5 c5 m5 s5 ek0 em0 es0 el0 b0 ef0 ek1 em1 es1 el1 b1 ef1 []) (fun v L => (∃ x : Int32, v = some (.int x)) ∧ L = (z_cw rf kn ma xa fa ca mb xb fb cb mt xt ft ct f0 g0 c0 m0 s0 f1 g1 c1 m1 s1 f2 g2 c2 m2 s2 f3 g3 c3 m3 s3 f4 g4 c4 m4 s4 f5 g5 c5 m5 s5 ek0 em0 es0 el0 b0 ef0 ek1 em1 es1 el1 b1 ef1 []))) 0 [(0, _)] [] _ 0 0
  refine j_iconst (v := 0) dX8_numbersHeard_0 (by decide) ?_
  refine j_istore_n (lo' := [(1, _), (0, _)]) dX8_numbersHeard_1 (by decide) rfl ?_
  refine j_aload_n dX8_numbersHeard_2 rfl rfl ?_
  refine j_getf dX8_numbersHeard_3 fX8_32 rfl rfl ?_
  refine j_astore_n (lo' := [(2, _), (1, _), (0, _)]) dX8_numbersHeard_6 rfl (by decide) rfl ?_
  refine j_aload_n dX8_numbersHeard_7 rfl rfl ?_
  refine j_alen dX8_numbersHeard_8 rfl rfl rfl ?_
  refine j_istore_n (lo' := [(3, _), (2, _), (1, _), (0, _)]) dX8_numbersHeard_9 (by decide) rfl ?_
  refine j_iconst (v := 0) dX8_numbersHeard_10 (by decide) ?_
  refine j_istore (lo' := [(4, _), (3, _), (2, _), (1, _), (0, _)]) dX8_numbersHeard_11 (by decide) rfl ?_
  refine j_iload dX8_numbersHeard_13 rfl ?_
  refine j_iload_n dX8_numbersHeard_15 rfl ?_
  refine j_icmp_ge (tgt := 39) dX8_numbersHeard_16 (by decide) (fun c_16 => ?_) (fun c_16 => ?_)
  · exact absurd c_16 (by decide)
  · refine j_aload_n dX8_numbersHeard_19 rfl rfl ?_
    refine j_iload dX8_numbersHeard_20 rfl ?_
    refine j_aald (v := .ref 27) dX8_numbersHeard_22 rfl rfl rfl (vp_in_iff.mpr (by decide)) rfl ?_
    refine j_astore (lo' := [(5, _), (4, _), (3, _), (2, _), (1, _), (0, _)]) dX8_numbersHeard_23 rfl (by decide) rfl ?_
    refine j_iload_n dX8_numbersHeard_25 rfl ?_
    refine j_aload dX8_numbersHeard_26 rfl rfl ?_
    refine j_getf dX8_numbersHeard_28 fX8_183 rfl rfl ?_
    refine j_iadd dX8_numbersHeard_31 ?_
    refine j_istore_n (lo' := [(1, _), (5, _), (4, _), (3, _), (2, _), (0, _)]) dX8_numbersHeard_32 (by decide) rfl ?_
    refine j_iinc (lo' := [(4, _), (1, _), (5, _), (3, _), (2, _), (0, _)]) dX8_numbersHeard_33 rfl rfl (by decide) rfl ?_
    refine j_goto (tgt := 13) dX8_numbersHeard_36 (by decide) ?_
    refine j_iload dX8_numbersHeard_13 rfl ?_
    refine j_iload_n dX8_numbersHeard_15 rfl ?_
    refine j_icmp_ge (tgt := 39) dX8_numbersHeard_16 (by decide) (fun c_16 => ?_) (fun c_16 => ?_)
    · exact absurd c_16 (by decide)
    · refine j_aload_n dX8_numbersHeard_19 rfl rfl ?_
      refine j_iload dX8_numbersHeard_20 rfl ?_
      refine j_aald (v := .ref 29) dX8_numbersHeard_22 rfl rfl rfl (vp_in_iff.mpr (by decide)) rfl ?_
      refine j_astore (lo' := [(5, _), (4, _), (1, _), (3, _), (2, _), (0, _)]) dX8_numbersHeard_23 rfl (by decide) rfl ?_
      refine j_iload_n dX8_numbersHeard_25 rfl ?_
      refine j_aload dX8_numbersHeard_26 rfl rfl ?_
      refine j_getf dX8_numbersHeard_28 fX8_183 rfl rfl ?_
      refine j_iadd dX8_numbersHeard_31 ?_
      refine j_istore_n (lo' := [(1, _), (5, _), (4, _), (3, _), (2, _), (0, _)]) dX8_numbersHeard_32 (by decide) rfl ?_
      refine j_iinc (lo' := [(4, _), (1, _), (5, _), (3, _), (2, _), (0, _)]) dX8_numbersHeard_33 rfl rfl (by decide) rfl ?_
      refine j_goto (tgt := 13) dX8_numbersHeard_36 (by decide) ?_
      refine j_iload dX8_numbersHeard_13 rfl ?_
      refine j_iload_n dX8_numbersHeard_15 rfl ?_
      refine j_icmp_ge (tgt := 39) dX8_numbersHeard_16 (by decide) (fun c_16 => ?_) (fun c_16 => ?_)
      · refine j_iload_n dX8_numbersHeard_39 rfl ?_
        refine j_iret dX8_numbersHeard_40 rfl rfl ?_ (Nat.le_of_ble_eq_true rfl) (Nat.le_of_ble_eq_true rfl)
        exact ⟨rfl, rfl, ⟨_, rfl⟩, rfl⟩
      · exact absurd (by decide) c_16
end ZL7
