section ZCs
variable {G : z_G} {l : Launch}
set_option maxRecDepth 100000 in
set_option maxHeartbeats 8000000 in
theorem c_X8_isSound_k (hl : l.stackTraces = false) (rf : Int32) (kn : Int32) (ma : Int32) (xa : Bool) (fa : Nat → Int32) (ca : Nat → Int32) (mb : Int32) (xb : Bool) (fb : Nat → Int32) (cb : Nat → Int32) (mt : Int32) (xt : Bool) (ft : Nat → Int32) (ct : Nat → Int32) (f0 : Nat → Int32) (g0 : Nat → Int32) (c0 : Nat → Int32) (m0 : Int32) (s0 : Int32) (f1 : Nat → Int32) (g1 : Nat → Int32) (c1 : Nat → Int32) (m1 : Int32) (s1 : Int32) (f2 : Nat → Int32) (g2 : Nat → Int32) (c2 : Nat → Int32) (m2 : Int32) (s2 : Int32) (f3 : Nat → Int32) (g3 : Nat → Int32) (c3 : Nat → Int32) (m3 : Int32) (s3 : Int32) (f4 : Nat → Int32) (g4 : Nat → Int32) (c4 : Nat → Int32) (m4 : Int32) (s4 : Int32) (f5 : Nat → Int32) (g5 : Nat → Int32) (c5 : Nat → Int32) (m5 : Int32) (s5 : Int32) (ek0 : Int32) (em0 : Int32) (es0 : Int32) (el0 : Int32) (b0 : Int32) (ef0 : Nat → Int32) (ek1 : Int32) (em1 : Int32) (es1 : Int32) (el1 : Int32) (b1 : Int32) (ef1 : Nat → Int32) (h0 : z_m20 m0) (h1 : z_m20 m1) (h2 : z_m20 m2) (h3 : z_m20 m3) (h4 : z_m20 m4) (h5 : z_m20 m5): z_CF G l mX8_isSound 21 12 60 (z_cw rf kn ma xa fa ca mb xb fb cb mt xt ft ct f0 g0 c0 m0 s0 f1 g1 c1 m1 s1 f2 g2 c2 m2 s2 f3 g3 c3 m3 s3 f4 g4 c4 m4 s4 f5 g5 c5 m5 s5 ek0 em0 es0 el0 b0 ef0 ek1 em1 es1 el1 b1 ef1 []) [.ref 0] (fun v L => (∃ b : Bool, v = some (.int (z_bi b))) ∧ ∃ (mt' : Int32) (ft' ct' : Nat → Int32) (f3' g3' c3' : Nat → Int32) (m3' : Int32) (f4' g4' c4' : Nat → Int32) (m4' : Int32) (f5' g5' c5' : Nat → Int32) (m5' : Int32), z_m20 m3' ∧ z_m20 m4' ∧ z_m20 m5' ∧ L = (z_cw rf kn ma xa fa ca mb xb fb cb mt' xt ft' ct' f0 g0 c0 m0 s0 f1 g1 c1 m1 s1 f2 g2 c2 m2 s2 f3' g3' c3' m3' s3 f4' g4' c4' m4' s4 f5' g5' c5' m5' s5 ek0 em0 es0 el0 b0 ef0 ek1 em1 es1 el1 b1 ef1 [])) := by
  refine z_body hl (by decide) rfl (Nat.le_of_ble_eq_true rfl) ?_
  show z_J G l mX8_isSound (z_SF 21 12 60 (z_cw rf kn ma xa fa ca mb xb fb cb mt xt ft ct f0 g0 c0 m0 s0 f1 g1 c1 m1 s1 f2 g2 c2 m2 s2 f3 g3 c3 m3 s3 f4 g4 c4 m4 s4 f5 g5 c5 m5 s5 ek0 em0 es0 el0 b0 ef0 ek1 em1 es1 el1 b1 ef1 []) (fun v L => (∃ b : Bool, v = some (.int (z_bi b))) ∧ ∃ (mt' : Int32) (ft' ct' : Nat → Int32) (f3' g3' c3' : Nat → Int32) (m3' : Int32) (f4' g4' c4' : Nat → Int32) (m4' : Int32) (f5' g5' c5' : Nat → Int32) (m5' : Int32), z_m20 m3' ∧ z_m20 m4' ∧ z_m20 m5' ∧ L = (z_cw rf kn ma xa fa ca mb xb fb cb mt' xt ft' ct' f0 g0 c0 m0 s0 f1 g1 c1 m1 s1 f2 g2 c2 m2 s2 f3' g3' c3' m3' s3 f4' g4' c4' m4' s4 f5' g5' c5' m5' s5 ek0 em0 es0 el0 b0 ef0 ek1 em1 es1 el1 b1 ef1 []))) 0 [(0, _)] [] _ 0 0
  refine j_aload_n dX8_isSound_0 rfl rfl ?_
  refine j_getf dX8_isSound_1 fX8_10 rfl rfl ?_
  refine j_astore_n (lo' := [(1, _), (0, _)]) dX8_isSound_4 rfl (by decide) rfl ?_
  refine j_aload_n dX8_isSound_5 rfl rfl ?_
  refine j_alen dX8_isSound_6 rfl rfl rfl ?_
  refine j_istore_n (lo' := [(2, _), (1, _), (0, _)]) dX8_isSound_7 (by decide) rfl ?_
  refine j_iconst (v := 0) dX8_isSound_8 (by decide) ?_
  refine j_istore_n (lo' := [(3, _), (2, _), (1, _), (0, _)]) dX8_isSound_9 (by decide) rfl ?_
  refine j_iload_n dX8_isSound_10 rfl ?_
  refine j_iload_n dX8_isSound_11 rfl ?_
  refine j_icmp_ge (tgt := 46) dX8_isSound_12 (by decide) (fun c_12 => ?_) (fun c_12 => ?_)
  · exact absurd c_12 (by decide)
  · refine j_aload_n dX8_isSound_15 rfl rfl ?_
    refine j_iload_n dX8_isSound_16 rfl ?_
    refine j_aald (v := .ref 2) dX8_isSound_17 rfl rfl rfl (vp_in_iff.mpr (by decide)) rfl ?_
    refine j_astore (lo' := [(4, _), (3, _), (2, _), (1, _), (0, _)]) dX8_isSound_18 rfl (by decide) rfl ?_
    refine j_aload_n dX8_isSound_20 rfl rfl ?_
    refine j_aload dX8_isSound_21 rfl rfl ?_
    refine j_callV (q := (RX8, TX8, 9)) dX8_isSound_23 kX8_isWalkCounted lX8_259 inX8_isWalkCounted seX8_isWalkCounted rfl rfl (z_dirF (c_X8_isWalkCounted_2 hl _ _ _ _ _ _ _ _ _ _ _ _ _ _ _ _ _ _ _ _ _ _ _ _ _ _ _ _ _ _ _ _ _ _ _ _ _ _ _ _ _ _ _ _ _ _ _ _ _ _ _ _ _ _ _ _)) (Nat.le_of_ble_eq_true rfl) ⟨(Nat.le_of_ble_eq_true rfl), (Nat.le_of_ble_eq_true rfl)⟩ rfl (Nat.le_of_ble_eq_true rfl) rfl rfl (fun _ _ h => h.elim) ?_
    rintro _ _ ⟨_, ⟨⟨b, rfl⟩, _, _, _, rfl⟩, rfl⟩
    refine j_if_eq (tgt := 38) dX8_isSound_26 (by decide) (fun c_26 => ?_) (fun c_26 => ?_)
    · refine j_iconst (v := 0) dX8_isSound_38 (by decide) ?_
      refine j_iret dX8_isSound_39 rfl rfl ?_ (Nat.le_of_ble_eq_true rfl) (Nat.le_of_ble_eq_true rfl)
      first | exact ⟨rfl, rfl, ⟨true, rfl⟩, _, _, _, _, _, _, _, _, _, _, _, _, _, _, _, (by assumption), (by assumption), (by assumption), rfl⟩ | exact ⟨rfl, rfl, ⟨false, rfl⟩, _, _, _, _, _, _, _, _, _, _, _, _, _, _, _, (by assumption), (by assumption), (by assumption), rfl⟩
    · refine j_aload_n dX8_isSound_29 rfl rfl ?_
      refine j_aload dX8_isSound_30 rfl rfl ?_
      refine j_callV (q := (RX8, TX8, 9)) dX8_isSound_32 kX8_isTakingPlain lX8_263 inX8_isTakingPlain seX8_isTakingPlain rfl rfl (z_dirF (c_X8_isTakingPlain_2 hl _ _ _ _ _ _ _ _ _ _ _ _ _ _ _ _ _ _ _ _ _ _ _ _ _ _ _ _ _ _ _ _ _ _ _ _ _ _ _ _ _ _ _ _ _ _ _ _ _ _ _ _ _ _ _ _)) (Nat.le_of_ble_eq_true rfl) ⟨(Nat.le_of_ble_eq_true rfl), (Nat.le_of_ble_eq_true rfl)⟩ rfl (Nat.le_of_ble_eq_true rfl) rfl rfl (fun _ _ h => h.elim) ?_
      rintro _ _ ⟨_, ⟨⟨b, rfl⟩, _, _, _, rfl⟩, rfl⟩
      refine j_if_ne (tgt := 40) dX8_isSound_35 (by decide) (fun c_35 => ?_) (fun c_35 => ?_)
      · refine j_iinc (lo' := [(3, _), (4, _), (2, _), (1, _), (0, _)]) dX8_isSound_40 rfl rfl (by decide) rfl ?_
        refine j_goto (tgt := 10) dX8_isSound_43 (by decide) ?_
        refine j_iload_n dX8_isSound_10 rfl ?_
        refine j_iload_n dX8_isSound_11 rfl ?_
        refine j_icmp_ge (tgt := 46) dX8_isSound_12 (by decide) (fun c_12 => ?_) (fun c_12 => ?_)
        · exact absurd c_12 (by decide)
        · refine j_aload_n dX8_isSound_15 rfl rfl ?_
          refine j_iload_n dX8_isSound_16 rfl ?_
          refine j_aald (v := .ref 6) dX8_isSound_17 rfl rfl rfl (vp_in_iff.mpr (by decide)) rfl ?_
          refine j_astore (lo' := [(4, _), (3, _), (2, _), (1, _), (0, _)]) dX8_isSound_18 rfl (by decide) rfl ?_
          refine j_aload_n dX8_isSound_20 rfl rfl ?_
          refine j_aload dX8_isSound_21 rfl rfl ?_
          refine j_callV (q := (RX8, TX8, 9)) dX8_isSound_23 kX8_isWalkCounted lX8_259 inX8_isWalkCounted seX8_isWalkCounted rfl rfl (z_dirF (c_X8_isWalkCounted_6 hl _ _ _ _ _ _ _ _ _ _ _ _ _ _ _ _ _ _ _ _ _ _ _ _ _ _ _ _ _ _ _ _ _ _ _ _ _ _ _ _ _ _ _ _ _ _ _ _ _ _ _ _ _ _ _ _)) (Nat.le_of_ble_eq_true rfl) ⟨(Nat.le_of_ble_eq_true rfl), (Nat.le_of_ble_eq_true rfl)⟩ rfl (Nat.le_of_ble_eq_true rfl) rfl rfl (fun _ _ h => h.elim) ?_
          rintro _ _ ⟨_, ⟨⟨b, rfl⟩, _, _, _, rfl⟩, rfl⟩
          refine j_if_eq (tgt := 38) dX8_isSound_26 (by decide) (fun c_26 => ?_) (fun c_26 => ?_)
          · refine j_iconst (v := 0) dX8_isSound_38 (by decide) ?_
            refine j_iret dX8_isSound_39 rfl rfl ?_ (Nat.le_of_ble_eq_true rfl) (Nat.le_of_ble_eq_true rfl)
            first | exact ⟨rfl, rfl, ⟨true, rfl⟩, _, _, _, _, _, _, _, _, _, _, _, _, _, _, _, (by assumption), (by assumption), (by assumption), rfl⟩ | exact ⟨rfl, rfl, ⟨false, rfl⟩, _, _, _, _, _, _, _, _, _, _, _, _, _, _, _, (by assumption), (by assumption), (by assumption), rfl⟩
          · refine j_aload_n dX8_isSound_29 rfl rfl ?_
            refine j_aload dX8_isSound_30 rfl rfl ?_
            refine j_callV (q := (RX8, TX8, 9)) dX8_isSound_32 kX8_isTakingPlain lX8_263 inX8_isTakingPlain seX8_isTakingPlain rfl rfl (z_dirF (c_X8_isTakingPlain_6 hl _ _ _ _ _ _ _ _ _ _ _ _ _ _ _ _ _ _ _ _ _ _ _ _ _ _ _ _ _ _ _ _ _ _ _ _ _ _ _ _ _ _ _ _ _ _ _ _ _ _ _ _ _ _ _ _)) (Nat.le_of_ble_eq_true rfl) ⟨(Nat.le_of_ble_eq_true rfl), (Nat.le_of_ble_eq_true rfl)⟩ rfl (Nat.le_of_ble_eq_true rfl) rfl rfl (fun _ _ h => h.elim) ?_
            rintro _ _ ⟨_, ⟨⟨b, rfl⟩, _, _, _, rfl⟩, rfl⟩
            refine j_if_ne (tgt := 40) dX8_isSound_35 (by decide) (fun c_35 => ?_) (fun c_35 => ?_)
            · refine j_iinc (lo' := [(3, _), (4, _), (2, _), (1, _), (0, _)]) dX8_isSound_40 rfl rfl (by decide) rfl ?_
              refine j_goto (tgt := 10) dX8_isSound_43 (by decide) ?_
              refine j_iload_n dX8_isSound_10 rfl ?_
              refine j_iload_n dX8_isSound_11 rfl ?_
              refine j_icmp_ge (tgt := 46) dX8_isSound_12 (by decide) (fun c_12 => ?_) (fun c_12 => ?_)
              · refine j_aload_n dX8_isSound_46 rfl rfl ?_
                refine j_getf dX8_isSound_47 fX8_25 rfl rfl ?_
                refine j_astore_n (lo' := [(1, _), (3, _), (4, _), (2, _), (0, _)]) dX8_isSound_50 rfl (by decide) rfl ?_
                refine j_aload_n dX8_isSound_51 rfl rfl ?_
                refine j_alen dX8_isSound_52 rfl rfl rfl ?_
                refine j_istore_n (lo' := [(2, _), (1, _), (3, _), (4, _), (0, _)]) dX8_isSound_53 (by decide) rfl ?_
                refine j_iconst (v := 0) dX8_isSound_54 (by decide) ?_
                refine j_istore_n (lo' := [(3, _), (2, _), (1, _), (4, _), (0, _)]) dX8_isSound_55 (by decide) rfl ?_
                refine j_iload_n dX8_isSound_56 rfl ?_
                refine j_iload_n dX8_isSound_57 rfl ?_
                refine j_icmp_ge (tgt := 92) dX8_isSound_58 (by decide) (fun c_58 => ?_) (fun c_58 => ?_)
                · exact absurd c_58 (by decide)
                · refine j_aload_n dX8_isSound_61 rfl rfl ?_
                  refine j_iload_n dX8_isSound_62 rfl ?_
                  refine j_aald (v := .ref 10) dX8_isSound_63 rfl rfl rfl (vp_in_iff.mpr (by decide)) rfl ?_
                  refine j_astore (lo' := [(4, _), (3, _), (2, _), (1, _), (0, _)]) dX8_isSound_64 rfl (by decide) rfl ?_
                  refine j_aload_n dX8_isSound_66 rfl rfl ?_
                  refine j_aload dX8_isSound_67 rfl rfl ?_
                  refine j_callV (q := (RX8, TX8, 9)) dX8_isSound_69 kX8_areCopiesLike lX8_266 inX8_areCopiesLike seX8_areCopiesLike rfl rfl (z_dirF (c_X8_areCopiesLike_10 hl _ _ _ _ _ _ _ _ _ _ _ _ _ _ _ _ _ _ _ _ _ _ _ _ _ _ _ _ _ _ _ _ _ _ _ _ _ _ _ _ _ _ _ _ _ _ _ _ _ _ _ _ _ _ _ _ (by assumption) (by assumption) (by assumption) (by assumption) (by assumption) (by assumption))) (Nat.le_of_ble_eq_true rfl) ⟨(Nat.le_of_ble_eq_true rfl), (Nat.le_of_ble_eq_true rfl)⟩ rfl (Nat.le_of_ble_eq_true rfl) rfl rfl (fun _ _ h => h.elim) ?_
                  rintro _ _ ⟨_, ⟨⟨b, rfl⟩, _, _, _, _, _, _, _, _, _, _, _, _, q3, q4, q5, rfl⟩, rfl⟩
                  refine j_if_eq (tgt := 84) dX8_isSound_72 (by decide) (fun c_72 => ?_) (fun c_72 => ?_)
                  · refine j_iconst (v := 0) dX8_isSound_84 (by decide) ?_
                    refine j_iret dX8_isSound_85 rfl rfl ?_ (Nat.le_of_ble_eq_true rfl) (Nat.le_of_ble_eq_true rfl)
                    first | exact ⟨rfl, rfl, ⟨true, rfl⟩, _, _, _, _, _, _, _, _, _, _, _, _, _, _, _, (by assumption), (by assumption), (by assumption), rfl⟩ | exact ⟨rfl, rfl, ⟨false, rfl⟩, _, _, _, _, _, _, _, _, _, _, _, _, _, _, _, (by assumption), (by assumption), (by assumption), rfl⟩
                  · refine j_aload_n dX8_isSound_75 rfl rfl ?_
                    refine j_aload dX8_isSound_76 rfl rfl ?_
                    refine j_callV (q := (RX8, TX8, 9)) dX8_isSound_78 kX8_areCallsLike lX8_269 inX8_areCallsLike seX8_areCallsLike rfl rfl (z_dirF (c_X8_areCallsLike_10 hl _ _ _ _ _ _ _ _ _ _ _ _ _ _ _ _ _ _ _ _ _ _ _ _ _ _ _ _ _ _ _ _ _ _ _ _ _ _ _ _ _ _ _ _ _ _ _ _ _ _ _ _ _ _ _ _ (by assumption) (by assumption) (by assumption) (by assumption) (by assumption) (by assumption))) (Nat.le_of_ble_eq_true rfl) ⟨(Nat.le_of_ble_eq_true rfl), (Nat.le_of_ble_eq_true rfl)⟩ rfl (Nat.le_of_ble_eq_true rfl) rfl rfl (fun _ _ h => h.elim) ?_
                    rintro _ _ ⟨_, ⟨⟨b, rfl⟩, _, _, _, _, _, _, _, _, _, _, _, _, q3, q4, q5, rfl⟩, rfl⟩
                    refine j_if_ne (tgt := 86) dX8_isSound_81 (by decide) (fun c_81 => ?_) (fun c_81 => ?_)
                    · refine j_iinc (lo' := [(3, _), (4, _), (2, _), (1, _), (0, _)]) dX8_isSound_86 rfl rfl (by decide) rfl ?_
                      refine j_goto (tgt := 56) dX8_isSound_89 (by decide) ?_
                      refine j_iload_n dX8_isSound_56 rfl ?_
                      refine j_iload_n dX8_isSound_57 rfl ?_
                      refine j_icmp_ge (tgt := 92) dX8_isSound_58 (by decide) (fun c_58 => ?_) (fun c_58 => ?_)
                      · exact absurd c_58 (by decide)
                      · refine j_aload_n dX8_isSound_61 rfl rfl ?_
                        refine j_iload_n dX8_isSound_62 rfl ?_
                        refine j_aald (v := .ref 16) dX8_isSound_63 rfl rfl rfl (vp_in_iff.mpr (by decide)) rfl ?_
                        refine j_astore (lo' := [(4, _), (3, _), (2, _), (1, _), (0, _)]) dX8_isSound_64 rfl (by decide) rfl ?_
                        refine j_aload_n dX8_isSound_66 rfl rfl ?_
                        refine j_aload dX8_isSound_67 rfl rfl ?_
                        refine j_callV (q := (RX8, TX8, 9)) dX8_isSound_69 kX8_areCopiesLike lX8_266 inX8_areCopiesLike seX8_areCopiesLike rfl rfl (z_dirF (c_X8_areCopiesLike_16 hl _ _ _ _ _ _ _ _ _ _ _ _ _ _ _ _ _ _ _ _ _ _ _ _ _ _ _ _ _ _ _ _ _ _ _ _ _ _ _ _ _ _ _ _ _ _ _ _ _ _ _ _ _ _ _ _ (by assumption) (by assumption) (by assumption) (by assumption) (by assumption) (by assumption))) (Nat.le_of_ble_eq_true rfl) ⟨(Nat.le_of_ble_eq_true rfl), (Nat.le_of_ble_eq_true rfl)⟩ rfl (Nat.le_of_ble_eq_true rfl) rfl rfl (fun _ _ h => h.elim) ?_
                        rintro _ _ ⟨_, ⟨⟨b, rfl⟩, _, _, _, _, _, _, _, _, _, _, _, _, q3, q4, q5, rfl⟩, rfl⟩
                        refine j_if_eq (tgt := 84) dX8_isSound_72 (by decide) (fun c_72 => ?_) (fun c_72 => ?_)
                        · refine j_iconst (v := 0) dX8_isSound_84 (by decide) ?_
                          refine j_iret dX8_isSound_85 rfl rfl ?_ (Nat.le_of_ble_eq_true rfl) (Nat.le_of_ble_eq_true rfl)
                          first | exact ⟨rfl, rfl, ⟨true, rfl⟩, _, _, _, _, _, _, _, _, _, _, _, _, _, _, _, (by assumption), (by assumption), (by assumption), rfl⟩ | exact ⟨rfl, rfl, ⟨false, rfl⟩, _, _, _, _, _, _, _, _, _, _, _, _, _, _, _, (by assumption), (by assumption), (by assumption), rfl⟩
                        · refine j_aload_n dX8_isSound_75 rfl rfl ?_
                          refine j_aload dX8_isSound_76 rfl rfl ?_
                          refine j_callV (q := (RX8, TX8, 9)) dX8_isSound_78 kX8_areCallsLike lX8_269 inX8_areCallsLike seX8_areCallsLike rfl rfl (z_dirF (c_X8_areCallsLike_16 hl _ _ _ _ _ _ _ _ _ _ _ _ _ _ _ _ _ _ _ _ _ _ _ _ _ _ _ _ _ _ _ _ _ _ _ _ _ _ _ _ _ _ _ _ _ _ _ _ _ _ _ _ _ _ _ _ (by assumption) (by assumption) (by assumption) (by assumption) (by assumption) (by assumption))) (Nat.le_of_ble_eq_true rfl) ⟨(Nat.le_of_ble_eq_true rfl), (Nat.le_of_ble_eq_true rfl)⟩ rfl (Nat.le_of_ble_eq_true rfl) rfl rfl (fun _ _ h => h.elim) ?_
                          rintro _ _ ⟨_, ⟨⟨b, rfl⟩, _, _, _, _, _, _, _, _, _, _, _, _, q3, q4, q5, rfl⟩, rfl⟩
                          refine j_if_ne (tgt := 86) dX8_isSound_81 (by decide) (fun c_81 => ?_) (fun c_81 => ?_)
                          · refine j_iinc (lo' := [(3, _), (4, _), (2, _), (1, _), (0, _)]) dX8_isSound_86 rfl rfl (by decide) rfl ?_
                            refine j_goto (tgt := 56) dX8_isSound_89 (by decide) ?_
                            refine j_iload_n dX8_isSound_56 rfl ?_
                            refine j_iload_n dX8_isSound_57 rfl ?_
                            refine j_icmp_ge (tgt := 92) dX8_isSound_58 (by decide) (fun c_58 => ?_) (fun c_58 => ?_)
                            · exact absurd c_58 (by decide)
                            · refine j_aload_n dX8_isSound_61 rfl rfl ?_
                              refine j_iload_n dX8_isSound_62 rfl ?_
                              refine j_aald (v := .ref 21) dX8_isSound_63 rfl rfl rfl (vp_in_iff.mpr (by decide)) rfl ?_
                              refine j_astore (lo' := [(4, _), (3, _), (2, _), (1, _), (0, _)]) dX8_isSound_64 rfl (by decide) rfl ?_
                              refine j_aload_n dX8_isSound_66 rfl rfl ?_
                              refine j_aload dX8_isSound_67 rfl rfl ?_
                              refine j_callV (q := (RX8, TX8, 9)) dX8_isSound_69 kX8_areCopiesLike lX8_266 inX8_areCopiesLike seX8_areCopiesLike rfl rfl (z_dirF (c_X8_areCopiesLike_21 hl _ _ _ _ _ _ _ _ _ _ _ _ _ _ _ _ _ _ _ _ _ _ _ _ _ _ _ _ _ _ _ _ _ _ _ _ _ _ _ _ _ _ _ _ _ _ _ _ _ _ _ _ _ _ _ _ (by assumption) (by assumption) (by assumption) (by assumption) (by assumption) (by assumption))) (Nat.le_of_ble_eq_true rfl) ⟨(Nat.le_of_ble_eq_true rfl), (Nat.le_of_ble_eq_true rfl)⟩ rfl (Nat.le_of_ble_eq_true rfl) rfl rfl (fun _ _ h => h.elim) ?_
                              rintro _ _ ⟨_, ⟨⟨b, rfl⟩, _, _, _, _, _, _, _, _, _, _, _, _, q3, q4, q5, rfl⟩, rfl⟩
                              refine j_if_eq (tgt := 84) dX8_isSound_72 (by decide) (fun c_72 => ?_) (fun c_72 => ?_)
                              · refine j_iconst (v := 0) dX8_isSound_84 (by decide) ?_
                                refine j_iret dX8_isSound_85 rfl rfl ?_ (Nat.le_of_ble_eq_true rfl) (Nat.le_of_ble_eq_true rfl)
                                first | exact ⟨rfl, rfl, ⟨true, rfl⟩, _, _, _, _, _, _, _, _, _, _, _, _, _, _, _, (by assumption), (by assumption), (by assumption), rfl⟩ | exact ⟨rfl, rfl, ⟨false, rfl⟩, _, _, _, _, _, _, _, _, _, _, _, _, _, _, _, (by assumption), (by assumption), (by assumption), rfl⟩
                              · refine j_aload_n dX8_isSound_75 rfl rfl ?_
                                refine j_aload dX8_isSound_76 rfl rfl ?_
                                refine j_callV (q := (RX8, TX8, 9)) dX8_isSound_78 kX8_areCallsLike lX8_269 inX8_areCallsLike seX8_areCallsLike rfl rfl (z_dirF (c_X8_areCallsLike_21 hl _ _ _ _ _ _ _ _ _ _ _ _ _ _ _ _ _ _ _ _ _ _ _ _ _ _ _ _ _ _ _ _ _ _ _ _ _ _ _ _ _ _ _ _ _ _ _ _ _ _ _ _ _ _ _ _ (by assumption) (by assumption) (by assumption) (by assumption) (by assumption) (by assumption))) (Nat.le_of_ble_eq_true rfl) ⟨(Nat.le_of_ble_eq_true rfl), (Nat.le_of_ble_eq_true rfl)⟩ rfl (Nat.le_of_ble_eq_true rfl) rfl rfl (fun _ _ h => h.elim) ?_
                                rintro _ _ ⟨_, ⟨⟨b, rfl⟩, _, _, _, _, _, _, _, _, _, _, _, _, q3, q4, q5, rfl⟩, rfl⟩
                                refine j_if_ne (tgt := 86) dX8_isSound_81 (by decide) (fun c_81 => ?_) (fun c_81 => ?_)
                                · refine j_iinc (lo' := [(3, _), (4, _), (2, _), (1, _), (0, _)]) dX8_isSound_86 rfl rfl (by decide) rfl ?_
                                  refine j_goto (tgt := 56) dX8_isSound_89 (by decide) ?_
                                  refine j_iload_n dX8_isSound_56 rfl ?_
                                  refine j_iload_n dX8_isSound_57 rfl ?_
                                  refine j_icmp_ge (tgt := 92) dX8_isSound_58 (by decide) (fun c_58 => ?_) (fun c_58 => ?_)
                                  · refine j_iconst (v := 1) dX8_isSound_92 (by decide) ?_
                                    refine j_iret dX8_isSound_93 rfl rfl ?_ (Nat.le_of_ble_eq_true rfl) (Nat.le_of_ble_eq_true rfl)
                                    first | exact ⟨rfl, rfl, ⟨true, rfl⟩, _, _, _, _, _, _, _, _, _, _, _, _, _, _, _, (by assumption), (by assumption), (by assumption), rfl⟩ | exact ⟨rfl, rfl, ⟨false, rfl⟩, _, _, _, _, _, _, _, _, _, _, _, _, _, _, _, (by assumption), (by assumption), (by assumption), rfl⟩
                                  · exact absurd (by decide) c_58
                                · refine j_iconst (v := 0) dX8_isSound_84 (by decide) ?_
                                  refine j_iret dX8_isSound_85 rfl rfl ?_ (Nat.le_of_ble_eq_true rfl) (Nat.le_of_ble_eq_true rfl)
                                  first | exact ⟨rfl, rfl, ⟨true, rfl⟩, _, _, _, _, _, _, _, _, _, _, _, _, _, _, _, (by assumption), (by assumption), (by assumption), rfl⟩ | exact ⟨rfl, rfl, ⟨false, rfl⟩, _, _, _, _, _, _, _, _, _, _, _, _, _, _, _, (by assumption), (by assumption), (by assumption), rfl⟩
                          · refine j_iconst (v := 0) dX8_isSound_84 (by decide) ?_
                            refine j_iret dX8_isSound_85 rfl rfl ?_ (Nat.le_of_ble_eq_true rfl) (Nat.le_of_ble_eq_true rfl)
                            first | exact ⟨rfl, rfl, ⟨true, rfl⟩, _, _, _, _, _, _, _, _, _, _, _, _, _, _, _, (by assumption), (by assumption), (by assumption), rfl⟩ | exact ⟨rfl, rfl, ⟨false, rfl⟩, _, _, _, _, _, _, _, _, _, _, _, _, _, _, _, (by assumption), (by assumption), (by assumption), rfl⟩
                    · refine j_iconst (v := 0) dX8_isSound_84 (by decide) ?_
                      refine j_iret dX8_isSound_85 rfl rfl ?_ (Nat.le_of_ble_eq_true rfl) (Nat.le_of_ble_eq_true rfl)
                      first | exact ⟨rfl, rfl, ⟨true, rfl⟩, _, _, _, _, _, _, _, _, _, _, _, _, _, _, _, (by assumption), (by assumption), (by assumption), rfl⟩ | exact ⟨rfl, rfl, ⟨false, rfl⟩, _, _, _, _, _, _, _, _, _, _, _, _, _, _, _, (by assumption), (by assumption), (by assumption), rfl⟩
              · exact absurd (by decide) c_12
            · refine j_iconst (v := 0) dX8_isSound_38 (by decide) ?_
              refine j_iret dX8_isSound_39 rfl rfl ?_ (Nat.le_of_ble_eq_true rfl) (Nat.le_of_ble_eq_true rfl)
              first | exact ⟨rfl, rfl, ⟨true, rfl⟩, _, _, _, _, _, _, _, _, _, _, _, _, _, _, _, (by assumption), (by assumption), (by assumption), rfl⟩ | exact ⟨rfl, rfl, ⟨false, rfl⟩, _, _, _, _, _, _, _, _, _, _, _, _, _, _, _, (by assumption), (by assumption), (by assumption), rfl⟩
      · refine j_iconst (v := 0) dX8_isSound_38 (by decide) ?_
        refine j_iret dX8_isSound_39 rfl rfl ?_ (Nat.le_of_ble_eq_true rfl) (Nat.le_of_ble_eq_true rfl)
        first | exact ⟨rfl, rfl, ⟨true, rfl⟩, _, _, _, _, _, _, _, _, _, _, _, _, _, _, _, (by assumption), (by assumption), (by assumption), rfl⟩ | exact ⟨rfl, rfl, ⟨false, rfl⟩, _, _, _, _, _, _, _, _, _, _, _, _, _, _, _, (by assumption), (by assumption), (by assumption), rfl⟩
end ZCs
