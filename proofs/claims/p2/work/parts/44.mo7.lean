section ZMs7
variable {G : z_G} {l : Launch}
set_option maxRecDepth 100000 in
set_option maxHeartbeats 8000000 in
theorem cm_become (hl : l.stackTraces = false) (w : z_W) (s : z_Z) (t k0 : Nat) (z : Int32) (h : z_mst w s) (ht : t < 3) (hk : k0 < 20) : z_Con G l mX11_become 22 2 52 w [.ref 1000, .int (nI t), .int (nI k0), .int z] (fun v w9 => ∃ (r : Int32) (s9 : z_Z), v = some (.int r) ∧ z_fm 59 w w9 ∧ z_mst w9 s9 ∧ z_key s9 = z_key s) (fun _ _ => False) := by
  have ke0 : z_key s = z_key s := rfl
  refine z_body hl (by decide) rfl (Nat.le_of_ble_eq_true rfl) ?_
  show z_J G l mX11_become _ 0 [(0, _), (1, _), (2, _), (3, _)] [] _ 0 0
  refine j_iload_n dX11_become_0 rfl ?_
  refine j_ldc dX11_become_1 kcX11_67 ?_
  refine j_icmp_ne (tgt := 11) dX11_become_3 (by decide) (fun c_3_4 => ?_) (fun c_3_4 => ?_)
  · refine j_iload_n dX11_become_11 rfl ?_
    refine j_sipush (v := (-1000)) dX11_become_12 (by decide) ?_
    refine j_icmp_eq (tgt := 28) dX11_become_15 (by decide) (fun c_15_7 => ?_) (fun c_15_7 => ?_)
    · refine j_aload_n dX11_become_28 rfl rfl ?_
      refine j_iload_n dX11_become_29 rfl ?_
      refine j_iload_n dX11_become_30 rfl ?_
      refine j_callV (q := (RX11, TX11, 8)) dX11_become_31 kX11_place lX11_130 inX11_place seX11_place h.m rfl (cm_place hl w _ (t) _ h (by omega)) (Nat.le_of_ble_eq_true rfl) ⟨(Nat.le_of_ble_eq_true rfl), (Nat.le_of_ble_eq_true rfl)⟩ rfl (Nat.le_of_ble_eq_true rfl) rfl rfl (fun _ _ h => h.elim) ?_
      rintro _ _ ⟨⟨j503, p503, rfl, hj503, hk503⟩ | ⟨rfl, hno503⟩, hw503⟩
      · refine j_w w hw503 ?_
        have hl503 : j503 < (z_qp s (t)).2.length := (List.getElem?_eq_some_iff.mp hj503).1
        have hz503 : (z_qp s (t)).2.length ≤ 20 := (h.pr (t := t) (by omega)).len
        refine j_if_lt (tgt := 43) dX11_become_34 (by decide) (fun c_34_16 => ?_) (fun c_34_16 => ?_)
        · exact absurd c_34_16 (nI_pos (n := j503) (by omega))
        · refine j_aload_n dX11_become_37 rfl rfl ?_
          refine j_iload_n dX11_become_38 rfl ?_
          refine j_iload_n dX11_become_39 rfl ?_
          refine j_callV (q := (RX11, TX11, 8)) dX11_become_40 kX11_go lX11_151 inX11_go seX11_go h.m rfl (cm_go hl w _ (t) _ h (by omega)) (Nat.le_of_ble_eq_true rfl) ⟨(Nat.le_of_ble_eq_true rfl), (Nat.le_of_ble_eq_true rfl)⟩ rfl (Nat.le_of_ble_eq_true rfl) rfl rfl (fun _ _ h => h.elim) ?_
          rintro _ w1 ⟨s1, rfl, fm1, h1, hk1⟩
          have ke1 := z_ke h1 ke0 hk1
          refine j_iload_n dX11_become_43 rfl ?_
          refine j_iret dX11_become_44 rfl rfl ?_ (Nat.le_of_ble_eq_true rfl) (Nat.le_of_ble_eq_true rfl)
          exact ⟨_, _, rfl, (fm1.le (q' := 59) (by decide)), h1, ke1⟩
      · refine j_w w hw503 ?_
        refine j_if_lt (tgt := 43) dX11_become_34 (by decide) (fun c_34_28 => ?_) (fun c_34_28 => ?_)
        · refine j_iload_n dX11_become_43 rfl ?_
          refine j_iret dX11_become_44 rfl rfl ?_ (Nat.le_of_ble_eq_true rfl) (Nat.le_of_ble_eq_true rfl)
          exact ⟨_, _, rfl, z_fm.rf, h, ke0⟩
        · exact absurd c_34_28 (by decide)
    · refine j_aload_n dX11_become_18 rfl rfl ?_
      refine j_iload_n dX11_become_19 rfl ?_
      refine j_iload_n dX11_become_20 rfl ?_
      refine j_iload_n dX11_become_21 rfl ?_
      refine j_callV (q := (RX11, TX11, 8)) dX11_become_22 kX11_lay lX11_147 inX11_lay seX11_lay h.m rfl (cm_lay hl w _ (t) (k0) _ h (by omega) (by omega)) (Nat.le_of_ble_eq_true rfl) ⟨(Nat.le_of_ble_eq_true rfl), (Nat.le_of_ble_eq_true rfl)⟩ rfl (Nat.le_of_ble_eq_true rfl) rfl rfl (fun _ _ h => h.elim) ?_
      rintro _ w2 ⟨s2, rfl, fm2, h2, hk2⟩
      have ke2 := z_ke h2 ke0 hk2
      refine j_goto (tgt := 43) dX11_become_25 (by decide) ?_
      refine j_iload_n dX11_become_43 rfl ?_
      refine j_iret dX11_become_44 rfl rfl ?_ (Nat.le_of_ble_eq_true rfl) (Nat.le_of_ble_eq_true rfl)
      exact ⟨_, _, rfl, (fm2.le (q' := 59) (by decide)), h2, ke2⟩
  · refine j_aload_n dX11_become_6 rfl rfl ?_
    refine j_callV (q := (RX11, TX11, 8)) dX11_become_7 kX11_nine lX11_105 inX11_nine seX11_nine h.m rfl (cm_nine hl w _ h) (Nat.le_of_ble_eq_true rfl) ⟨(Nat.le_of_ble_eq_true rfl), (Nat.le_of_ble_eq_true rfl)⟩ rfl (Nat.le_of_ble_eq_true rfl) rfl rfl (fun _ _ h => h.elim) ?_
    rintro _ w3 ⟨rfl, fm3, h3⟩
    have ke3 := z_ke h3 ke0 rfl
    refine j_iret dX11_become_10 rfl rfl ?_ (Nat.le_of_ble_eq_true rfl) (Nat.le_of_ble_eq_true rfl)
    exact ⟨_, _, rfl, (fm3.le (q' := 59) (by decide)), h3, ke3⟩
set_option maxRecDepth 100000 in
set_option maxHeartbeats 8000000 in
theorem cm_put (hl : l.stackTraces = false) (w : z_W) (s : z_Z) (x y z : Int32) (h : z_mst w s)  : z_Con G l mX11_put 24 2 52 w [.ref 1000, .int x, .int y, .int z] (fun v w9 => ∃ (r : Int32) (s9 : z_Z), v = some (.int r) ∧ z_fm 59 w w9 ∧ z_mst w9 s9 ∧ z_key s9 = z_key s) (fun _ _ => False) := by
  have ke0 : z_key s = z_key s := rfl
  refine z_body hl (by decide) rfl (Nat.le_of_ble_eq_true rfl) ?_
  show z_J G l mX11_put _ 0 [(0, _), (1, _), (2, _), (3, _)] [] _ 0 0
  refine j_aload_n dX11_put_0 rfl rfl ?_
  refine j_iload_n dX11_put_1 rfl ?_
  refine j_iload_n dX11_put_2 rfl ?_
  refine j_iload_n dX11_put_3 rfl ?_
  refine j_callV (q := (RX11, TX11, 8)) dX11_put_4 kX11_isNoPair lX11_142 inX11_isNoPair seX11_isNoPair h.m rfl (cm_isNoPair hl w _ _ _ _ h) (Nat.le_of_ble_eq_true rfl) ⟨(Nat.le_of_ble_eq_true rfl), (Nat.le_of_ble_eq_true rfl)⟩ rfl (Nat.le_of_ble_eq_true rfl) rfl rfl (fun _ _ h => h.elim) ?_
  rintro _ w1 (⟨i1, k1, rfl, hi1, hk1, rfl, rfl, fm1, h1⟩ | ⟨th1, rfl, fm1, h1⟩)
  · have ke1 := z_ke h1 ke0 rfl
    refine j_if_eq (tgt := 12) dX11_put_7 (by decide) (fun c_7_9 => ?_) (fun c_7_9 => ?_)
    · refine j_aload_n dX11_put_12 rfl rfl ?_
      refine j_iload_n dX11_put_13 rfl ?_
      refine j_iload_n dX11_put_14 rfl ?_
      refine j_callV (q := (RX11, TX11, 8)) dX11_put_15 kX11_valueOf lX11_145 inX11_valueOf seX11_valueOf h1.m rfl (cm_valueOf hl w1 _ (i1) _ h1 (by omega)) (Nat.le_of_ble_eq_true rfl) ⟨(Nat.le_of_ble_eq_true rfl), (Nat.le_of_ble_eq_true rfl)⟩ rfl (Nat.le_of_ble_eq_true rfl) rfl rfl (fun _ _ h => h.elim) ?_
      rintro _ _ ⟨⟨r504, rfl⟩, hw504⟩
      refine j_w w1 hw504 ?_
      refine j_istore (lo' := [(4, _), (0, _), (1, _), (2, _), (3, _)]) dX11_put_18 (by decide) rfl ?_
      refine j_aload_n dX11_put_20 rfl rfl ?_
      refine j_iload_n dX11_put_21 rfl ?_
      refine j_iload_n dX11_put_22 rfl ?_
      refine j_iload_n dX11_put_23 rfl ?_
      refine j_callV (q := (RX11, TX11, 8)) dX11_put_24 kX11_lay lX11_147 inX11_lay seX11_lay h1.m rfl (cm_lay hl w1 _ (i1) (k1) _ h1 (by omega) (by omega)) (Nat.le_of_ble_eq_true rfl) ⟨(Nat.le_of_ble_eq_true rfl), (Nat.le_of_ble_eq_true rfl)⟩ rfl (Nat.le_of_ble_eq_true rfl) rfl rfl (fun _ _ h => h.elim) ?_
      rintro _ w2 ⟨s2, rfl, fm2, h2, hk2⟩
      have ke2 := z_ke h2 ke1 hk2
      refine j_iload dX11_put_27 rfl ?_
      refine j_iret dX11_put_29 rfl rfl ?_ (Nat.le_of_ble_eq_true rfl) (Nat.le_of_ble_eq_true rfl)
      exact ⟨_, _, rfl, ((fm1.le (q' := 59) (by decide)).tr (fm2.le (q' := 59) (by decide))), h2, ke2⟩
    · exact absurd c_7_9 (by decide)
  · have ke1 := z_ke h1 ke0 rfl
    refine j_if_eq (tgt := 12) dX11_put_7 (by decide) (fun c_7_29 => ?_) (fun c_7_29 => ?_)
    · exact absurd c_7_29 (by decide)
    · refine j_iconst (v := 0) dX11_put_10 (by decide) ?_
      refine j_iret dX11_put_11 rfl rfl ?_ (Nat.le_of_ble_eq_true rfl) (Nat.le_of_ble_eq_true rfl)
      exact ⟨_, _, rfl, (fm1.le (q' := 59) (by decide)), h1, ke1⟩
set_option maxRecDepth 100000 in
set_option maxHeartbeats 8000000 in
theorem cm_putIfAbsent (hl : l.stackTraces = false) (w : z_W) (s : z_Z) (x y z : Int32) (h : z_mst w s)  : z_Con G l mX11_putIfAbsent 24 2 52 w [.ref 1000, .int x, .int y, .int z] (fun v w9 => ∃ (r : Int32) (s9 : z_Z), v = some (.int r) ∧ z_fm 59 w w9 ∧ z_mst w9 s9 ∧ z_key s9 = z_key s) (fun _ _ => False) := by
  have ke0 : z_key s = z_key s := rfl
  refine z_body hl (by decide) rfl (Nat.le_of_ble_eq_true rfl) ?_
  show z_J G l mX11_putIfAbsent _ 0 [(0, _), (1, _), (2, _), (3, _)] [] _ 0 0
  refine j_aload_n dX11_putIfAbsent_0 rfl rfl ?_
  refine j_iload_n dX11_putIfAbsent_1 rfl ?_
  refine j_iload_n dX11_putIfAbsent_2 rfl ?_
  refine j_iload_n dX11_putIfAbsent_3 rfl ?_
  refine j_callV (q := (RX11, TX11, 8)) dX11_putIfAbsent_4 kX11_isNoPair lX11_142 inX11_isNoPair seX11_isNoPair h.m rfl (cm_isNoPair hl w _ _ _ _ h) (Nat.le_of_ble_eq_true rfl) ⟨(Nat.le_of_ble_eq_true rfl), (Nat.le_of_ble_eq_true rfl)⟩ rfl (Nat.le_of_ble_eq_true rfl) rfl rfl (fun _ _ h => h.elim) ?_
  rintro _ w1 (⟨i1, k1, rfl, hi1, hk1, rfl, rfl, fm1, h1⟩ | ⟨th1, rfl, fm1, h1⟩)
  · have ke1 := z_ke h1 ke0 rfl
    refine j_if_eq (tgt := 12) dX11_putIfAbsent_7 (by decide) (fun c_7_9 => ?_) (fun c_7_9 => ?_)
    · refine j_aload_n dX11_putIfAbsent_12 rfl rfl ?_
      refine j_iload_n dX11_putIfAbsent_13 rfl ?_
      refine j_iload_n dX11_putIfAbsent_14 rfl ?_
      refine j_callV (q := (RX11, TX11, 8)) dX11_putIfAbsent_15 kX11_valueOf lX11_145 inX11_valueOf seX11_valueOf h1.m rfl (cm_valueOf hl w1 _ (i1) _ h1 (by omega)) (Nat.le_of_ble_eq_true rfl) ⟨(Nat.le_of_ble_eq_true rfl), (Nat.le_of_ble_eq_true rfl)⟩ rfl (Nat.le_of_ble_eq_true rfl) rfl rfl (fun _ _ h => h.elim) ?_
      rintro _ _ ⟨⟨r505, rfl⟩, hw505⟩
      refine j_w w1 hw505 ?_
      refine j_istore (lo' := [(4, _), (0, _), (1, _), (2, _), (3, _)]) dX11_putIfAbsent_18 (by decide) rfl ?_
      refine j_iload dX11_putIfAbsent_20 rfl ?_
      refine j_sipush (v := (-1000)) dX11_putIfAbsent_22 (by decide) ?_
      refine j_icmp_ne (tgt := 35) dX11_putIfAbsent_25 (by decide) (fun c_25_19 => ?_) (fun c_25_19 => ?_)
      · refine j_iload dX11_putIfAbsent_35 rfl ?_
        refine j_iret dX11_putIfAbsent_37 rfl rfl ?_ (Nat.le_of_ble_eq_true rfl) (Nat.le_of_ble_eq_true rfl)
        exact ⟨_, _, rfl, (fm1.le (q' := 59) (by decide)), h1, ke1⟩
      · refine j_aload_n dX11_putIfAbsent_28 rfl rfl ?_
        refine j_iload_n dX11_putIfAbsent_29 rfl ?_
        refine j_iload_n dX11_putIfAbsent_30 rfl ?_
        refine j_iload_n dX11_putIfAbsent_31 rfl ?_
        refine j_callV (q := (RX11, TX11, 8)) dX11_putIfAbsent_32 kX11_lay lX11_147 inX11_lay seX11_lay h1.m rfl (cm_lay hl w1 _ (i1) (k1) _ h1 (by omega) (by omega)) (Nat.le_of_ble_eq_true rfl) ⟨(Nat.le_of_ble_eq_true rfl), (Nat.le_of_ble_eq_true rfl)⟩ rfl (Nat.le_of_ble_eq_true rfl) rfl rfl (fun _ _ h => h.elim) ?_
        rintro _ w2 ⟨s2, rfl, fm2, h2, hk2⟩
        have ke2 := z_ke h2 ke1 hk2
        refine j_iload dX11_putIfAbsent_35 rfl ?_
        refine j_iret dX11_putIfAbsent_37 rfl rfl ?_ (Nat.le_of_ble_eq_true rfl) (Nat.le_of_ble_eq_true rfl)
        exact ⟨_, _, rfl, ((fm1.le (q' := 59) (by decide)).tr (fm2.le (q' := 59) (by decide))), h2, ke2⟩
    · exact absurd c_7_9 (by decide)
  · have ke1 := z_ke h1 ke0 rfl
    refine j_if_eq (tgt := 12) dX11_putIfAbsent_7 (by decide) (fun c_7_35 => ?_) (fun c_7_35 => ?_)
    · exact absurd c_7_35 (by decide)
    · refine j_iconst (v := 0) dX11_putIfAbsent_10 (by decide) ?_
      refine j_iret dX11_putIfAbsent_11 rfl rfl ?_ (Nat.le_of_ble_eq_true rfl) (Nat.le_of_ble_eq_true rfl)
      exact ⟨_, _, rfl, (fm1.le (q' := 59) (by decide)), h1, ke1⟩
set_option maxRecDepth 100000 in
set_option maxHeartbeats 8000000 in
theorem cm_replace (hl : l.stackTraces = false) (w : z_W) (s : z_Z) (x y z : Int32) (h : z_mst w s)  : z_Con G l mX11_replace 24 2 52 w [.ref 1000, .int x, .int y, .int z] (fun v w9 => ∃ (r : Int32) (s9 : z_Z), v = some (.int r) ∧ z_fm 59 w w9 ∧ z_mst w9 s9 ∧ z_key s9 = z_key s) (fun _ _ => False) := by
  have ke0 : z_key s = z_key s := rfl
  refine z_body hl (by decide) rfl (Nat.le_of_ble_eq_true rfl) ?_
  show z_J G l mX11_replace _ 0 [(0, _), (1, _), (2, _), (3, _)] [] _ 0 0
  refine j_aload_n dX11_replace_0 rfl rfl ?_
  refine j_iload_n dX11_replace_1 rfl ?_
  refine j_iload_n dX11_replace_2 rfl ?_
  refine j_iload_n dX11_replace_3 rfl ?_
  refine j_callV (q := (RX11, TX11, 8)) dX11_replace_4 kX11_isNoPair lX11_142 inX11_isNoPair seX11_isNoPair h.m rfl (cm_isNoPair hl w _ _ _ _ h) (Nat.le_of_ble_eq_true rfl) ⟨(Nat.le_of_ble_eq_true rfl), (Nat.le_of_ble_eq_true rfl)⟩ rfl (Nat.le_of_ble_eq_true rfl) rfl rfl (fun _ _ h => h.elim) ?_
  rintro _ w1 (⟨i1, k1, rfl, hi1, hk1, rfl, rfl, fm1, h1⟩ | ⟨th1, rfl, fm1, h1⟩)
  · have ke1 := z_ke h1 ke0 rfl
    refine j_if_eq (tgt := 12) dX11_replace_7 (by decide) (fun c_7_9 => ?_) (fun c_7_9 => ?_)
    · refine j_aload_n dX11_replace_12 rfl rfl ?_
      refine j_iload_n dX11_replace_13 rfl ?_
      refine j_iload_n dX11_replace_14 rfl ?_
      refine j_callV (q := (RX11, TX11, 8)) dX11_replace_15 kX11_valueOf lX11_145 inX11_valueOf seX11_valueOf h1.m rfl (cm_valueOf hl w1 _ (i1) _ h1 (by omega)) (Nat.le_of_ble_eq_true rfl) ⟨(Nat.le_of_ble_eq_true rfl), (Nat.le_of_ble_eq_true rfl)⟩ rfl (Nat.le_of_ble_eq_true rfl) rfl rfl (fun _ _ h => h.elim) ?_
      rintro _ _ ⟨⟨r506, rfl⟩, hw506⟩
      refine j_w w1 hw506 ?_
      refine j_istore (lo' := [(4, _), (0, _), (1, _), (2, _), (3, _)]) dX11_replace_18 (by decide) rfl ?_
      refine j_iload dX11_replace_20 rfl ?_
      refine j_sipush (v := (-1000)) dX11_replace_22 (by decide) ?_
      refine j_icmp_eq (tgt := 35) dX11_replace_25 (by decide) (fun c_25_19 => ?_) (fun c_25_19 => ?_)
      · refine j_iload dX11_replace_35 rfl ?_
        refine j_iret dX11_replace_37 rfl rfl ?_ (Nat.le_of_ble_eq_true rfl) (Nat.le_of_ble_eq_true rfl)
        exact ⟨_, _, rfl, (fm1.le (q' := 59) (by decide)), h1, ke1⟩
      · refine j_aload_n dX11_replace_28 rfl rfl ?_
        refine j_iload_n dX11_replace_29 rfl ?_
        refine j_iload_n dX11_replace_30 rfl ?_
        refine j_iload_n dX11_replace_31 rfl ?_
        refine j_callV (q := (RX11, TX11, 8)) dX11_replace_32 kX11_lay lX11_147 inX11_lay seX11_lay h1.m rfl (cm_lay hl w1 _ (i1) (k1) _ h1 (by omega) (by omega)) (Nat.le_of_ble_eq_true rfl) ⟨(Nat.le_of_ble_eq_true rfl), (Nat.le_of_ble_eq_true rfl)⟩ rfl (Nat.le_of_ble_eq_true rfl) rfl rfl (fun _ _ h => h.elim) ?_
        rintro _ w2 ⟨s2, rfl, fm2, h2, hk2⟩
        have ke2 := z_ke h2 ke1 hk2
        refine j_iload dX11_replace_35 rfl ?_
        refine j_iret dX11_replace_37 rfl rfl ?_ (Nat.le_of_ble_eq_true rfl) (Nat.le_of_ble_eq_true rfl)
        exact ⟨_, _, rfl, ((fm1.le (q' := 59) (by decide)).tr (fm2.le (q' := 59) (by decide))), h2, ke2⟩
    · exact absurd c_7_9 (by decide)
  · have ke1 := z_ke h1 ke0 rfl
    refine j_if_eq (tgt := 12) dX11_replace_7 (by decide) (fun c_7_35 => ?_) (fun c_7_35 => ?_)
    · exact absurd c_7_35 (by decide)
    · refine j_iconst (v := 0) dX11_replace_10 (by decide) ?_
      refine j_iret dX11_replace_11 rfl rfl ?_ (Nat.le_of_ble_eq_true rfl) (Nat.le_of_ble_eq_true rfl)
      exact ⟨_, _, rfl, (fm1.le (q' := 59) (by decide)), h1, ke1⟩
set_option maxRecDepth 100000 in
set_option maxHeartbeats 8000000 in
theorem cm_removePair (hl : l.stackTraces = false) (w : z_W) (s : z_Z) (x y z : Int32) (h : z_mst w s)  : z_Con G l mX11_removePair 24 2 52 w [.ref 1000, .int x, .int y, .int z] (fun v w9 => ∃ (r : Int32) (s9 : z_Z), v = some (.int r) ∧ z_fm 59 w w9 ∧ z_mst w9 s9 ∧ z_key s9 = z_key s) (fun _ _ => False) := by
  have ke0 : z_key s = z_key s := rfl
  refine z_body hl (by decide) rfl (Nat.le_of_ble_eq_true rfl) ?_
  show z_J G l mX11_removePair _ 0 [(0, _), (1, _), (2, _), (3, _)] [] _ 0 0
  refine j_aload_n dX11_removePair_0 rfl rfl ?_
  refine j_iload_n dX11_removePair_1 rfl ?_
  refine j_iload_n dX11_removePair_2 rfl ?_
  refine j_iload_n dX11_removePair_3 rfl ?_
  refine j_callV (q := (RX11, TX11, 8)) dX11_removePair_4 kX11_isNoPair lX11_142 inX11_isNoPair seX11_isNoPair h.m rfl (cm_isNoPair hl w _ _ _ _ h) (Nat.le_of_ble_eq_true rfl) ⟨(Nat.le_of_ble_eq_true rfl), (Nat.le_of_ble_eq_true rfl)⟩ rfl (Nat.le_of_ble_eq_true rfl) rfl rfl (fun _ _ h => h.elim) ?_
  rintro _ w1 (⟨i1, k1, rfl, hi1, hk1, rfl, rfl, fm1, h1⟩ | ⟨th1, rfl, fm1, h1⟩)
  · have ke1 := z_ke h1 ke0 rfl
    refine j_if_eq (tgt := 12) dX11_removePair_7 (by decide) (fun c_7_9 => ?_) (fun c_7_9 => ?_)
    · refine j_aload_n dX11_removePair_12 rfl rfl ?_
      refine j_iload_n dX11_removePair_13 rfl ?_
      refine j_iload_n dX11_removePair_14 rfl ?_
      refine j_callV (q := (RX11, TX11, 8)) dX11_removePair_15 kX11_valueOf lX11_145 inX11_valueOf seX11_valueOf h1.m rfl (cm_valueOf hl w1 _ (i1) _ h1 (by omega)) (Nat.le_of_ble_eq_true rfl) ⟨(Nat.le_of_ble_eq_true rfl), (Nat.le_of_ble_eq_true rfl)⟩ rfl (Nat.le_of_ble_eq_true rfl) rfl rfl (fun _ _ h => h.elim) ?_
      rintro _ _ ⟨⟨r507, rfl⟩, hw507⟩
      refine j_w w1 hw507 ?_
      refine j_iload_n dX11_removePair_18 rfl ?_
      refine j_icmp_ne (tgt := 26) dX11_removePair_19 (by decide) (fun c_19_17 => ?_) (fun c_19_17 => ?_)
      · refine j_iconst (v := 0) dX11_removePair_26 (by decide) ?_
        refine j_istore (lo' := [(4, _), (0, _), (1, _), (2, _), (3, _)]) dX11_removePair_27 (by decide) rfl ?_
        refine j_iload dX11_removePair_29 rfl ?_
        refine j_if_eq (tgt := 40) dX11_removePair_31 (by decide) (fun c_31_21 => ?_) (fun c_31_21 => ?_)
        · refine j_iload dX11_removePair_40 rfl ?_
          refine j_iret dX11_removePair_42 rfl rfl ?_ (Nat.le_of_ble_eq_true rfl) (Nat.le_of_ble_eq_true rfl)
          exact ⟨_, _, rfl, (fm1.le (q' := 59) (by decide)), h1, ke1⟩
        · exact absurd c_31_21 (by decide)
      · refine j_iconst (v := 1) dX11_removePair_22 (by decide) ?_
        refine j_goto (tgt := 27) dX11_removePair_23 (by decide) ?_
        refine j_istore (lo' := [(4, _), (0, _), (1, _), (2, _), (3, _)]) dX11_removePair_27 (by decide) rfl ?_
        refine j_iload dX11_removePair_29 rfl ?_
        refine j_if_eq (tgt := 40) dX11_removePair_31 (by decide) (fun c_31_30 => ?_) (fun c_31_30 => ?_)
        · exact absurd c_31_30 (by decide)
        · refine j_aload_n dX11_removePair_34 rfl rfl ?_
          refine j_iload_n dX11_removePair_35 rfl ?_
          refine j_iload_n dX11_removePair_36 rfl ?_
          refine j_callV (q := (RX11, TX11, 8)) dX11_removePair_37 kX11_go lX11_151 inX11_go seX11_go h1.m rfl (cm_go hl w1 _ (i1) _ h1 (by omega)) (Nat.le_of_ble_eq_true rfl) ⟨(Nat.le_of_ble_eq_true rfl), (Nat.le_of_ble_eq_true rfl)⟩ rfl (Nat.le_of_ble_eq_true rfl) rfl rfl (fun _ _ h => h.elim) ?_
          rintro _ w2 ⟨s2, rfl, fm2, h2, hk2⟩
          have ke2 := z_ke h2 ke1 hk2
          refine j_iload dX11_removePair_40 rfl ?_
          refine j_iret dX11_removePair_42 rfl rfl ?_ (Nat.le_of_ble_eq_true rfl) (Nat.le_of_ble_eq_true rfl)
          exact ⟨_, _, rfl, ((fm1.le (q' := 59) (by decide)).tr (fm2.le (q' := 59) (by decide))), h2, ke2⟩
    · exact absurd c_7_9 (by decide)
  · have ke1 := z_ke h1 ke0 rfl
    refine j_if_eq (tgt := 12) dX11_removePair_7 (by decide) (fun c_7_43 => ?_) (fun c_7_43 => ?_)
    · exact absurd c_7_43 (by decide)
    · refine j_iconst (v := 0) dX11_removePair_10 (by decide) ?_
      refine j_iret dX11_removePair_11 rfl rfl ?_ (Nat.le_of_ble_eq_true rfl) (Nat.le_of_ble_eq_true rfl)
      exact ⟨_, _, rfl, (fm1.le (q' := 59) (by decide)), h1, ke1⟩
set_option maxRecDepth 100000 in
set_option maxHeartbeats 8000000 in
theorem cm_getOr (hl : l.stackTraces = false) (w : z_W) (s : z_Z) (x y z : Int32) (h : z_mst w s)  : z_Con G l mX11_getOr 24 2 52 w [.ref 1000, .int x, .int y, .int z] (fun v w9 => ∃ (r : Int32) (s9 : z_Z), v = some (.int r) ∧ z_fm 59 w w9 ∧ z_mst w9 s9 ∧ z_key s9 = z_key s) (fun _ _ => False) := by
  have ke0 : z_key s = z_key s := rfl
  refine z_body hl (by decide) rfl (Nat.le_of_ble_eq_true rfl) ?_
  show z_J G l mX11_getOr _ 0 [(0, _), (1, _), (2, _), (3, _)] [] _ 0 0
  refine j_aload_n dX11_getOr_0 rfl rfl ?_
  refine j_iload_n dX11_getOr_1 rfl ?_
  refine j_iload_n dX11_getOr_2 rfl ?_
  refine j_iload_n dX11_getOr_3 rfl ?_
  refine j_callV (q := (RX11, TX11, 8)) dX11_getOr_4 kX11_isNoPair lX11_142 inX11_isNoPair seX11_isNoPair h.m rfl (cm_isNoPair hl w _ _ _ _ h) (Nat.le_of_ble_eq_true rfl) ⟨(Nat.le_of_ble_eq_true rfl), (Nat.le_of_ble_eq_true rfl)⟩ rfl (Nat.le_of_ble_eq_true rfl) rfl rfl (fun _ _ h => h.elim) ?_
  rintro _ w1 (⟨i1, k1, rfl, hi1, hk1, rfl, rfl, fm1, h1⟩ | ⟨th1, rfl, fm1, h1⟩)
  · have ke1 := z_ke h1 ke0 rfl
    refine j_if_eq (tgt := 12) dX11_getOr_7 (by decide) (fun c_7_9 => ?_) (fun c_7_9 => ?_)
    · refine j_aload_n dX11_getOr_12 rfl rfl ?_
      refine j_iload_n dX11_getOr_13 rfl ?_
      refine j_iload_n dX11_getOr_14 rfl ?_
      refine j_callV (q := (RX11, TX11, 8)) dX11_getOr_15 kX11_valueOf lX11_145 inX11_valueOf seX11_valueOf h1.m rfl (cm_valueOf hl w1 _ (i1) _ h1 (by omega)) (Nat.le_of_ble_eq_true rfl) ⟨(Nat.le_of_ble_eq_true rfl), (Nat.le_of_ble_eq_true rfl)⟩ rfl (Nat.le_of_ble_eq_true rfl) rfl rfl (fun _ _ h => h.elim) ?_
      rintro _ _ ⟨⟨r508, rfl⟩, hw508⟩
      refine j_w w1 hw508 ?_
      refine j_istore (lo' := [(4, _), (0, _), (1, _), (2, _), (3, _)]) dX11_getOr_18 (by decide) rfl ?_
      refine j_iload dX11_getOr_20 rfl ?_
      refine j_sipush (v := (-1000)) dX11_getOr_22 (by decide) ?_
      refine j_icmp_ne (tgt := 32) dX11_getOr_25 (by decide) (fun c_25_19 => ?_) (fun c_25_19 => ?_)
      · refine j_iload dX11_getOr_32 rfl ?_
        refine j_iret dX11_getOr_34 rfl rfl ?_ (Nat.le_of_ble_eq_true rfl) (Nat.le_of_ble_eq_true rfl)
        exact ⟨_, _, rfl, (fm1.le (q' := 59) (by decide)), h1, ke1⟩
      · refine j_iload_n dX11_getOr_28 rfl ?_
        refine j_goto (tgt := 34) dX11_getOr_29 (by decide) ?_
        refine j_iret dX11_getOr_34 rfl rfl ?_ (Nat.le_of_ble_eq_true rfl) (Nat.le_of_ble_eq_true rfl)
        exact ⟨_, _, rfl, (fm1.le (q' := 59) (by decide)), h1, ke1⟩
    · exact absurd c_7_9 (by decide)
  · have ke1 := z_ke h1 ke0 rfl
    refine j_if_eq (tgt := 12) dX11_getOr_7 (by decide) (fun c_7_29 => ?_) (fun c_7_29 => ?_)
    · exact absurd c_7_29 (by decide)
    · refine j_iconst (v := 0) dX11_getOr_10 (by decide) ?_
      refine j_iret dX11_getOr_11 rfl rfl ?_ (Nat.le_of_ble_eq_true rfl) (Nat.le_of_ble_eq_true rfl)
      exact ⟨_, _, rfl, (fm1.le (q' := 59) (by decide)), h1, ke1⟩
set_option maxRecDepth 100000 in
set_option maxHeartbeats 8000000 in
theorem cm_remove (hl : l.stackTraces = false) (w : z_W) (s : z_Z) (x y : Int32) (h : z_mst w s)  : z_Con G l mX11_remove 24 2 52 w [.ref 1000, .int x, .int y] (fun v w9 => ∃ (r : Int32) (s9 : z_Z), v = some (.int r) ∧ z_fm 59 w w9 ∧ z_mst w9 s9 ∧ z_key s9 = z_key s) (fun _ _ => False) := by
  have ke0 : z_key s = z_key s := rfl
  refine z_body hl (by decide) rfl (Nat.le_of_ble_eq_true rfl) ?_
  show z_J G l mX11_remove _ 0 [(0, _), (1, _), (2, _)] [] _ 0 0
  refine j_aload_n dX11_remove_0 rfl rfl ?_
  refine j_iload_n dX11_remove_1 rfl ?_
  refine j_iload_n dX11_remove_2 rfl ?_
  refine j_iconst (v := 0) dX11_remove_3 (by decide) ?_
  refine j_callV (q := (RX11, TX11, 8)) dX11_remove_4 kX11_isNoPair lX11_142 inX11_isNoPair seX11_isNoPair h.m rfl (cm_isNoPair hl w _ _ _ _ h) (Nat.le_of_ble_eq_true rfl) ⟨(Nat.le_of_ble_eq_true rfl), (Nat.le_of_ble_eq_true rfl)⟩ rfl (Nat.le_of_ble_eq_true rfl) rfl rfl (fun _ _ h => h.elim) ?_
  rintro _ w1 (⟨i1, k1, rfl, hi1, hk1, rfl, rfl, fm1, h1⟩ | ⟨th1, rfl, fm1, h1⟩)
  · have ke1 := z_ke h1 ke0 rfl
    refine j_if_eq (tgt := 12) dX11_remove_7 (by decide) (fun c_7_9 => ?_) (fun c_7_9 => ?_)
    · refine j_aload_n dX11_remove_12 rfl rfl ?_
      refine j_iload_n dX11_remove_13 rfl ?_
      refine j_iload_n dX11_remove_14 rfl ?_
      refine j_callV (q := (RX11, TX11, 8)) dX11_remove_15 kX11_valueOf lX11_145 inX11_valueOf seX11_valueOf h1.m rfl (cm_valueOf hl w1 _ (i1) _ h1 (by omega)) (Nat.le_of_ble_eq_true rfl) ⟨(Nat.le_of_ble_eq_true rfl), (Nat.le_of_ble_eq_true rfl)⟩ rfl (Nat.le_of_ble_eq_true rfl) rfl rfl (fun _ _ h => h.elim) ?_
      rintro _ _ ⟨⟨r509, rfl⟩, hw509⟩
      refine j_w w1 hw509 ?_
      refine j_istore_n (lo' := [(3, _), (0, _), (1, _), (2, _)]) dX11_remove_18 (by decide) rfl ?_
      refine j_aload_n dX11_remove_19 rfl rfl ?_
      refine j_iload_n dX11_remove_20 rfl ?_
      refine j_iload_n dX11_remove_21 rfl ?_
      refine j_callV (q := (RX11, TX11, 8)) dX11_remove_22 kX11_go lX11_151 inX11_go seX11_go h1.m rfl (cm_go hl w1 _ (i1) _ h1 (by omega)) (Nat.le_of_ble_eq_true rfl) ⟨(Nat.le_of_ble_eq_true rfl), (Nat.le_of_ble_eq_true rfl)⟩ rfl (Nat.le_of_ble_eq_true rfl) rfl rfl (fun _ _ h => h.elim) ?_
      rintro _ w2 ⟨s2, rfl, fm2, h2, hk2⟩
      have ke2 := z_ke h2 ke1 hk2
      refine j_iload_n dX11_remove_25 rfl ?_
      refine j_iret dX11_remove_26 rfl rfl ?_ (Nat.le_of_ble_eq_true rfl) (Nat.le_of_ble_eq_true rfl)
      exact ⟨_, _, rfl, ((fm1.le (q' := 59) (by decide)).tr (fm2.le (q' := 59) (by decide))), h2, ke2⟩
    · exact absurd c_7_9 (by decide)
  · have ke1 := z_ke h1 ke0 rfl
    refine j_if_eq (tgt := 12) dX11_remove_7 (by decide) (fun c_7_28 => ?_) (fun c_7_28 => ?_)
    · exact absurd c_7_28 (by decide)
    · refine j_iconst (v := 0) dX11_remove_10 (by decide) ?_
      refine j_iret dX11_remove_11 rfl rfl ?_ (Nat.le_of_ble_eq_true rfl) (Nat.le_of_ble_eq_true rfl)
      exact ⟨_, _, rfl, (fm1.le (q' := 59) (by decide)), h1, ke1⟩
set_option maxRecDepth 100000 in
set_option maxHeartbeats 8000000 in
theorem cm_get (hl : l.stackTraces = false) (w : z_W) (s : z_Z) (x y : Int32) (h : z_mst w s)  : z_Con G l mX11_get 24 2 52 w [.ref 1000, .int x, .int y] (fun v w9 => ∃ (r : Int32) (s9 : z_Z), v = some (.int r) ∧ z_fm 59 w w9 ∧ z_mst w9 s9 ∧ z_key s9 = z_key s) (fun _ _ => False) := by
  have ke0 : z_key s = z_key s := rfl
  refine z_body hl (by decide) rfl (Nat.le_of_ble_eq_true rfl) ?_
  show z_J G l mX11_get _ 0 [(0, _), (1, _), (2, _)] [] _ 0 0
  refine j_aload_n dX11_get_0 rfl rfl ?_
  refine j_iload_n dX11_get_1 rfl ?_
  refine j_iload_n dX11_get_2 rfl ?_
  refine j_iconst (v := 0) dX11_get_3 (by decide) ?_
  refine j_callV (q := (RX11, TX11, 8)) dX11_get_4 kX11_isNoPair lX11_142 inX11_isNoPair seX11_isNoPair h.m rfl (cm_isNoPair hl w _ _ _ _ h) (Nat.le_of_ble_eq_true rfl) ⟨(Nat.le_of_ble_eq_true rfl), (Nat.le_of_ble_eq_true rfl)⟩ rfl (Nat.le_of_ble_eq_true rfl) rfl rfl (fun _ _ h => h.elim) ?_
  rintro _ w1 (⟨i1, k1, rfl, hi1, hk1, rfl, rfl, fm1, h1⟩ | ⟨th1, rfl, fm1, h1⟩)
  · have ke1 := z_ke h1 ke0 rfl
    refine j_if_eq (tgt := 14) dX11_get_7 (by decide) (fun c_7_9 => ?_) (fun c_7_9 => ?_)
    · refine j_aload_n dX11_get_14 rfl rfl ?_
      refine j_iload_n dX11_get_15 rfl ?_
      refine j_iload_n dX11_get_16 rfl ?_
      refine j_callV (q := (RX11, TX11, 8)) dX11_get_17 kX11_valueOf lX11_145 inX11_valueOf seX11_valueOf h1.m rfl (cm_valueOf hl w1 _ (i1) _ h1 (by omega)) (Nat.le_of_ble_eq_true rfl) ⟨(Nat.le_of_ble_eq_true rfl), (Nat.le_of_ble_eq_true rfl)⟩ rfl (Nat.le_of_ble_eq_true rfl) rfl rfl (fun _ _ h => h.elim) ?_
      rintro _ _ ⟨⟨r510, rfl⟩, hw510⟩
      refine j_w w1 hw510 ?_
      refine j_iret dX11_get_20 rfl rfl ?_ (Nat.le_of_ble_eq_true rfl) (Nat.le_of_ble_eq_true rfl)
      exact ⟨_, _, rfl, (fm1.le (q' := 59) (by decide)), h1, ke1⟩
    · exact absurd c_7_9 (by decide)
  · have ke1 := z_ke h1 ke0 rfl
    refine j_if_eq (tgt := 14) dX11_get_7 (by decide) (fun c_7_20 => ?_) (fun c_7_20 => ?_)
    · exact absurd c_7_20 (by decide)
    · refine j_iconst (v := 0) dX11_get_10 (by decide) ?_
      refine j_goto (tgt := 20) dX11_get_11 (by decide) ?_
      refine j_iret dX11_get_20 rfl rfl ?_ (Nat.le_of_ble_eq_true rfl) (Nat.le_of_ble_eq_true rfl)
      exact ⟨_, _, rfl, (fm1.le (q' := 59) (by decide)), h1, ke1⟩
set_option maxRecDepth 100000 in
set_option maxHeartbeats 8000000 in
theorem cm_has (hl : l.stackTraces = false) (w : z_W) (s : z_Z) (x y : Int32) (h : z_mst w s)  : z_Con G l mX11_has 24 2 52 w [.ref 1000, .int x, .int y] (fun v w9 => ∃ (r : Int32) (s9 : z_Z), v = some (.int r) ∧ z_fm 59 w w9 ∧ z_mst w9 s9 ∧ z_key s9 = z_key s) (fun _ _ => False) := by
  have ke0 : z_key s = z_key s := rfl
  refine z_body hl (by decide) rfl (Nat.le_of_ble_eq_true rfl) ?_
  show z_J G l mX11_has _ 0 [(0, _), (1, _), (2, _)] [] _ 0 0
  refine j_aload_n dX11_has_0 rfl rfl ?_
  refine j_iload_n dX11_has_1 rfl ?_
  refine j_iload_n dX11_has_2 rfl ?_
  refine j_iconst (v := 0) dX11_has_3 (by decide) ?_
  refine j_callV (q := (RX11, TX11, 8)) dX11_has_4 kX11_isNoPair lX11_142 inX11_isNoPair seX11_isNoPair h.m rfl (cm_isNoPair hl w _ _ _ _ h) (Nat.le_of_ble_eq_true rfl) ⟨(Nat.le_of_ble_eq_true rfl), (Nat.le_of_ble_eq_true rfl)⟩ rfl (Nat.le_of_ble_eq_true rfl) rfl rfl (fun _ _ h => h.elim) ?_
  rintro _ w1 (⟨i1, k1, rfl, hi1, hk1, rfl, rfl, fm1, h1⟩ | ⟨th1, rfl, fm1, h1⟩)
  · have ke1 := z_ke h1 ke0 rfl
    refine j_if_ne (tgt := 23) dX11_has_7 (by decide) (fun c_7_9 => ?_) (fun c_7_9 => ?_)
    · exact absurd c_7_9 (by decide)
    · refine j_aload_n dX11_has_10 rfl rfl ?_
      refine j_iload_n dX11_has_11 rfl ?_
      refine j_iload_n dX11_has_12 rfl ?_
      refine j_callV (q := (RX11, TX11, 8)) dX11_has_13 kX11_place lX11_130 inX11_place seX11_place h1.m rfl (cm_place hl w1 _ (i1) _ h1 (by omega)) (Nat.le_of_ble_eq_true rfl) ⟨(Nat.le_of_ble_eq_true rfl), (Nat.le_of_ble_eq_true rfl)⟩ rfl (Nat.le_of_ble_eq_true rfl) rfl rfl (fun _ _ h => h.elim) ?_
      rintro _ _ ⟨⟨j511, p511, rfl, hj511, hk511⟩ | ⟨rfl, hno511⟩, hw511⟩
      · refine j_w w1 hw511 ?_
        have hl511 : j511 < (z_qp s (i1)).2.length := (List.getElem?_eq_some_iff.mp hj511).1
        have hz511 : (z_qp s (i1)).2.length ≤ 20 := (h1.pr (t := i1) (by omega)).len
        refine j_if_lt (tgt := 23) dX11_has_16 (by decide) (fun c_16_19 => ?_) (fun c_16_19 => ?_)
        · exact absurd c_16_19 (nI_pos (n := j511) (by omega))
        · refine j_iconst (v := 1) dX11_has_19 (by decide) ?_
          refine j_goto (tgt := 24) dX11_has_20 (by decide) ?_
          refine j_iret dX11_has_24 rfl rfl ?_ (Nat.le_of_ble_eq_true rfl) (Nat.le_of_ble_eq_true rfl)
          exact ⟨_, _, rfl, (fm1.le (q' := 59) (by decide)), h1, ke1⟩
      · refine j_w w1 hw511 ?_
        refine j_if_lt (tgt := 23) dX11_has_16 (by decide) (fun c_16_26 => ?_) (fun c_16_26 => ?_)
        · refine j_iconst (v := 0) dX11_has_23 (by decide) ?_
          refine j_iret dX11_has_24 rfl rfl ?_ (Nat.le_of_ble_eq_true rfl) (Nat.le_of_ble_eq_true rfl)
          exact ⟨_, _, rfl, (fm1.le (q' := 59) (by decide)), h1, ke1⟩
        · exact absurd c_16_26 (by decide)
  · have ke1 := z_ke h1 ke0 rfl
    refine j_if_ne (tgt := 23) dX11_has_7 (by decide) (fun c_7_32 => ?_) (fun c_7_32 => ?_)
    · refine j_iconst (v := 0) dX11_has_23 (by decide) ?_
      refine j_iret dX11_has_24 rfl rfl ?_ (Nat.le_of_ble_eq_true rfl) (Nat.le_of_ble_eq_true rfl)
      exact ⟨_, _, rfl, (fm1.le (q' := 59) (by decide)), h1, ke1⟩
    · exact absurd c_7_32 (by decide)
set_option maxRecDepth 100000 in
set_option maxHeartbeats 8000000 in
theorem cm_replaceIf (hl : l.stackTraces = false) (w : z_W) (s : z_Z) (x y z u : Int32) (h : z_mst w s)  : z_Con G l mX11_replaceIf 26 2 52 w [.ref 1000, .int x, .int y, .int z, .int u] (fun v w9 => ∃ (r : Int32) (s9 : z_Z), v = some (.int r) ∧ z_fm 59 w w9 ∧ z_mst w9 s9 ∧ z_key s9 = z_key s) (fun _ _ => False) := by
  have ke0 : z_key s = z_key s := rfl
  refine z_body hl (by decide) rfl (Nat.le_of_ble_eq_true rfl) ?_
  show z_J G l mX11_replaceIf _ 0 [(0, _), (1, _), (2, _), (3, _), (4, _)] [] _ 0 0
  refine j_aload_n dX11_replaceIf_0 rfl rfl ?_
  refine j_iload_n dX11_replaceIf_1 rfl ?_
  refine j_iload_n dX11_replaceIf_2 rfl ?_
  refine j_iload_n dX11_replaceIf_3 rfl ?_
  refine j_callV (q := (RX11, TX11, 8)) dX11_replaceIf_4 kX11_isNoPair lX11_142 inX11_isNoPair seX11_isNoPair h.m rfl (cm_isNoPair hl w _ _ _ _ h) (Nat.le_of_ble_eq_true rfl) ⟨(Nat.le_of_ble_eq_true rfl), (Nat.le_of_ble_eq_true rfl)⟩ rfl (Nat.le_of_ble_eq_true rfl) rfl rfl (fun _ _ h => h.elim) ?_
  rintro _ w1 (⟨i1, k1, rfl, hi1, hk1, rfl, rfl, fm1, h1⟩ | ⟨th1, rfl, fm1, h1⟩)
  · have ke1 := z_ke h1 ke0 rfl
    refine j_if_ne (tgt := 23) dX11_replaceIf_7 (by decide) (fun c_7_9 => ?_) (fun c_7_9 => ?_)
    · exact absurd c_7_9 (by decide)
    · refine j_aload_n dX11_replaceIf_10 rfl rfl ?_
      refine j_iload dX11_replaceIf_11 rfl ?_
      refine j_callS dX11_replaceIf_13 kX11_isNoValue lX11_79 stX11_isNoValue (cm_isNoValue hl w1 _) (Nat.le_of_ble_eq_true rfl) ⟨(Nat.le_of_ble_eq_true rfl), (Nat.le_of_ble_eq_true rfl)⟩ rfl (Nat.le_of_ble_eq_true rfl) rfl rfl (fun _ _ h => h.elim) ?_
      rintro _ _ ⟨⟨rfl, hno512⟩ | ⟨rfl, hye512⟩, hw512⟩
      · refine j_w w1 hw512 ?_
        refine j_iconst (v := 2) dX11_replaceIf_16 (by decide) ?_
        refine j_callV (q := (RX11, TX11, 8)) dX11_replaceIf_17 kX11_refuse lX11_52 inX11_refuse seX11_refuse h1.m rfl (cm_refuse1 hl w1 _ _ h1 rfl (by decide)) (Nat.le_of_ble_eq_true rfl) ⟨(Nat.le_of_ble_eq_true rfl), (Nat.le_of_ble_eq_true rfl)⟩ rfl (Nat.le_of_ble_eq_true rfl) rfl rfl (fun _ _ h => h.elim) ?_
        rintro _ w2 ⟨rfl, fm2, h2⟩
        have ke2 := z_ke h2 ke1 rfl
        refine j_if_eq (tgt := 25) dX11_replaceIf_20 (by decide) (fun c_20_20 => ?_) (fun c_20_20 => ?_)
        · exact absurd c_20_20 (by decide)
        · refine j_iconst (v := 0) dX11_replaceIf_23 (by decide) ?_
          refine j_iret dX11_replaceIf_24 rfl rfl ?_ (Nat.le_of_ble_eq_true rfl) (Nat.le_of_ble_eq_true rfl)
          exact ⟨_, _, rfl, ((fm1.le (q' := 59) (by decide)).tr (fm2.le (q' := 59) (by decide))), h2, ke2⟩
      · refine j_w w1 hw512 ?_
        refine j_iconst (v := 2) dX11_replaceIf_16 (by decide) ?_
        refine j_callV (q := (RX11, TX11, 8)) dX11_replaceIf_17 kX11_refuse lX11_52 inX11_refuse seX11_refuse h1.m rfl (cm_refuse0 hl w1 _ _ h1 rfl) (Nat.le_of_ble_eq_true rfl) ⟨(Nat.le_of_ble_eq_true rfl), (Nat.le_of_ble_eq_true rfl)⟩ rfl (Nat.le_of_ble_eq_true rfl) rfl rfl (fun _ _ h => h.elim) ?_
        rintro _ _ ⟨rfl, hw513⟩
        refine j_w w1 hw513 ?_
        refine j_if_eq (tgt := 25) dX11_replaceIf_20 (by decide) (fun c_20_30 => ?_) (fun c_20_30 => ?_)
        · refine j_aload_n dX11_replaceIf_25 rfl rfl ?_
          refine j_iload_n dX11_replaceIf_26 rfl ?_
          refine j_iload_n dX11_replaceIf_27 rfl ?_
          refine j_callV (q := (RX11, TX11, 8)) dX11_replaceIf_28 kX11_valueOf lX11_145 inX11_valueOf seX11_valueOf h1.m rfl (cm_valueOf hl w1 _ (i1) _ h1 (by omega)) (Nat.le_of_ble_eq_true rfl) ⟨(Nat.le_of_ble_eq_true rfl), (Nat.le_of_ble_eq_true rfl)⟩ rfl (Nat.le_of_ble_eq_true rfl) rfl rfl (fun _ _ h => h.elim) ?_
          rintro _ _ ⟨⟨r514, rfl⟩, hw514⟩
          refine j_w w1 hw514 ?_
          refine j_iload_n dX11_replaceIf_31 rfl ?_
          refine j_icmp_ne (tgt := 39) dX11_replaceIf_32 (by decide) (fun c_32_38 => ?_) (fun c_32_38 => ?_)
          · refine j_iconst (v := 0) dX11_replaceIf_39 (by decide) ?_
            refine j_istore (lo' := [(5, _), (0, _), (1, _), (2, _), (3, _), (4, _)]) dX11_replaceIf_40 (by decide) rfl ?_
            refine j_iload dX11_replaceIf_42 rfl ?_
            refine j_if_eq (tgt := 55) dX11_replaceIf_44 (by decide) (fun c_44_42 => ?_) (fun c_44_42 => ?_)
            · refine j_iload dX11_replaceIf_55 rfl ?_
              refine j_iret dX11_replaceIf_57 rfl rfl ?_ (Nat.le_of_ble_eq_true rfl) (Nat.le_of_ble_eq_true rfl)
              exact ⟨_, _, rfl, (fm1.le (q' := 59) (by decide)), h1, ke1⟩
            · exact absurd c_44_42 (by decide)
          · refine j_iconst (v := 1) dX11_replaceIf_35 (by decide) ?_
            refine j_goto (tgt := 40) dX11_replaceIf_36 (by decide) ?_
            refine j_istore (lo' := [(5, _), (0, _), (1, _), (2, _), (3, _), (4, _)]) dX11_replaceIf_40 (by decide) rfl ?_
            refine j_iload dX11_replaceIf_42 rfl ?_
            refine j_if_eq (tgt := 55) dX11_replaceIf_44 (by decide) (fun c_44_51 => ?_) (fun c_44_51 => ?_)
            · exact absurd c_44_51 (by decide)
            · refine j_aload_n dX11_replaceIf_47 rfl rfl ?_
              refine j_iload_n dX11_replaceIf_48 rfl ?_
              refine j_iload_n dX11_replaceIf_49 rfl ?_
              refine j_iload dX11_replaceIf_50 rfl ?_
              refine j_callV (q := (RX11, TX11, 8)) dX11_replaceIf_52 kX11_lay lX11_147 inX11_lay seX11_lay h1.m rfl (cm_lay hl w1 _ (i1) (k1) _ h1 (by omega) (by omega)) (Nat.le_of_ble_eq_true rfl) ⟨(Nat.le_of_ble_eq_true rfl), (Nat.le_of_ble_eq_true rfl)⟩ rfl (Nat.le_of_ble_eq_true rfl) rfl rfl (fun _ _ h => h.elim) ?_
              rintro _ w3 ⟨s3, rfl, fm3, h3, hk3⟩
              have ke3 := z_ke h3 ke1 hk3
              refine j_iload dX11_replaceIf_55 rfl ?_
              refine j_iret dX11_replaceIf_57 rfl rfl ?_ (Nat.le_of_ble_eq_true rfl) (Nat.le_of_ble_eq_true rfl)
              exact ⟨_, _, rfl, ((fm1.le (q' := 59) (by decide)).tr (fm3.le (q' := 59) (by decide))), h3, ke3⟩
        · exact absurd c_20_30 (by decide)
  · have ke1 := z_ke h1 ke0 rfl
    refine j_if_ne (tgt := 23) dX11_replaceIf_7 (by decide) (fun c_7_65 => ?_) (fun c_7_65 => ?_)
    · refine j_iconst (v := 0) dX11_replaceIf_23 (by decide) ?_
      refine j_iret dX11_replaceIf_24 rfl rfl ?_ (Nat.le_of_ble_eq_true rfl) (Nat.le_of_ble_eq_true rfl)
      exact ⟨_, _, rfl, (fm1.le (q' := 59) (by decide)), h1, ke1⟩
    · exact absurd c_7_65 (by decide)
set_option maxRecDepth 100000 in
set_option maxHeartbeats 8000000 in
theorem cm_computeIfAbsent (hl : l.stackTraces = false) (w : z_W) (s : z_Z) (x y z u : Int32) (h : z_mst w s)  : z_Con G l mX11_computeIfAbsent 26 2 52 w [.ref 1000, .int x, .int y, .int z, .int u] (fun v w9 => ∃ (r : Int32) (s9 : z_Z), v = some (.int r) ∧ z_fm 59 w w9 ∧ z_mst w9 s9 ∧ z_key s9 = z_key s) (fun _ _ => False) := by
  have ke0 : z_key s = z_key s := rfl
  refine z_body hl (by decide) rfl (Nat.le_of_ble_eq_true rfl) ?_
  show z_J G l mX11_computeIfAbsent _ 0 [(0, _), (1, _), (2, _), (3, _), (4, _)] [] _ 0 0
  refine j_aload_n dX11_computeIfAbsent_0 rfl rfl ?_
  refine j_iload_n dX11_computeIfAbsent_1 rfl ?_
  refine j_iload_n dX11_computeIfAbsent_2 rfl ?_
  refine j_iload_n dX11_computeIfAbsent_3 rfl ?_
  refine j_iload dX11_computeIfAbsent_4 rfl ?_
  refine j_callV (q := (RX11, TX11, 8)) dX11_computeIfAbsent_6 kX11_isNoRule lX11_155 inX11_isNoRule seX11_isNoRule h.m rfl (cm_isNoRule hl w _ _ _ _ _ h) (Nat.le_of_ble_eq_true rfl) ⟨(Nat.le_of_ble_eq_true rfl), (Nat.le_of_ble_eq_true rfl)⟩ rfl (Nat.le_of_ble_eq_true rfl) rfl rfl (fun _ _ h => h.elim) ?_
  rintro _ w1 (⟨i1, k1, rfl, hi1, hk1, rfl, rfl, fm1, h1⟩ | ⟨th1, rfl, fm1, h1⟩)
  · have ke1 := z_ke h1 ke0 rfl
    refine j_if_eq (tgt := 14) dX11_computeIfAbsent_9 (by decide) (fun c_9_10 => ?_) (fun c_9_10 => ?_)
    · refine j_aload_n dX11_computeIfAbsent_14 rfl rfl ?_
      refine j_iload_n dX11_computeIfAbsent_15 rfl ?_
      refine j_iload_n dX11_computeIfAbsent_16 rfl ?_
      refine j_callV (q := (RX11, TX11, 8)) dX11_computeIfAbsent_17 kX11_valueOf lX11_145 inX11_valueOf seX11_valueOf h1.m rfl (cm_valueOf hl w1 _ (i1) _ h1 (by omega)) (Nat.le_of_ble_eq_true rfl) ⟨(Nat.le_of_ble_eq_true rfl), (Nat.le_of_ble_eq_true rfl)⟩ rfl (Nat.le_of_ble_eq_true rfl) rfl rfl (fun _ _ h => h.elim) ?_
      rintro _ _ ⟨⟨r515, rfl⟩, hw515⟩
      refine j_w w1 hw515 ?_
      refine j_istore (lo' := [(5, _), (0, _), (1, _), (2, _), (3, _), (4, _)]) dX11_computeIfAbsent_20 (by decide) rfl ?_
      refine j_iload dX11_computeIfAbsent_22 rfl ?_
      refine j_sipush (v := (-1000)) dX11_computeIfAbsent_24 (by decide) ?_
      refine j_icmp_eq (tgt := 35) dX11_computeIfAbsent_27 (by decide) (fun c_27_20 => ?_) (fun c_27_20 => ?_)
      · refine j_aload_n dX11_computeIfAbsent_35 rfl rfl ?_
        refine j_iload_n dX11_computeIfAbsent_36 rfl ?_
        refine j_iload_n dX11_computeIfAbsent_37 rfl ?_
        refine j_iload_n dX11_computeIfAbsent_38 rfl ?_
        refine j_iload_n dX11_computeIfAbsent_39 rfl ?_
        refine j_iconst (v := 0) dX11_computeIfAbsent_40 (by decide) ?_
        refine j_iload dX11_computeIfAbsent_41 rfl ?_
        refine j_callS dX11_computeIfAbsent_43 kX11_rule lX11_115 stX11_rule (cm_rule hl w1 _ _ _ _) (Nat.le_of_ble_eq_true rfl) ⟨(Nat.le_of_ble_eq_true rfl), (Nat.le_of_ble_eq_true rfl)⟩ rfl (Nat.le_of_ble_eq_true rfl) rfl rfl (fun _ _ h => h.elim) ?_
        rintro _ _ ⟨⟨r516, rfl⟩, hw516⟩
        refine j_w w1 hw516 ?_
        refine j_callV (q := (RX11, TX11, 8)) dX11_computeIfAbsent_46 kX11_become lX11_159 inX11_become seX11_become h1.m rfl (cm_become hl w1 _ (i1) (k1) _ h1 (by omega) (by omega)) (Nat.le_of_ble_eq_true rfl) ⟨(Nat.le_of_ble_eq_true rfl), (Nat.le_of_ble_eq_true rfl)⟩ rfl (Nat.le_of_ble_eq_true rfl) rfl rfl (fun _ _ h => h.elim) ?_
        rintro _ w2 ⟨r2, s2, rfl, fm2, h2, hk2⟩
        have ke2 := z_ke h2 ke1 hk2
        refine j_iret dX11_computeIfAbsent_49 rfl rfl ?_ (Nat.le_of_ble_eq_true rfl) (Nat.le_of_ble_eq_true rfl)
        exact ⟨_, _, rfl, ((fm1.le (q' := 59) (by decide)).tr (fm2.le (q' := 59) (by decide))), h2, ke2⟩
      · refine j_iload dX11_computeIfAbsent_30 rfl ?_
        refine j_goto (tgt := 49) dX11_computeIfAbsent_32 (by decide) ?_
        refine j_iret dX11_computeIfAbsent_49 rfl rfl ?_ (Nat.le_of_ble_eq_true rfl) (Nat.le_of_ble_eq_true rfl)
        exact ⟨_, _, rfl, (fm1.le (q' := 59) (by decide)), h1, ke1⟩
    · exact absurd c_9_10 (by decide)
  · have ke1 := z_ke h1 ke0 rfl
    refine j_if_eq (tgt := 14) dX11_computeIfAbsent_9 (by decide) (fun c_9_42 => ?_) (fun c_9_42 => ?_)
    · exact absurd c_9_42 (by decide)
    · refine j_iconst (v := 0) dX11_computeIfAbsent_12 (by decide) ?_
      refine j_iret dX11_computeIfAbsent_13 rfl rfl ?_ (Nat.le_of_ble_eq_true rfl) (Nat.le_of_ble_eq_true rfl)
      exact ⟨_, _, rfl, (fm1.le (q' := 59) (by decide)), h1, ke1⟩
set_option maxRecDepth 100000 in
set_option maxHeartbeats 8000000 in
theorem cm_computeIfPresent (hl : l.stackTraces = false) (w : z_W) (s : z_Z) (x y z u : Int32) (h : z_mst w s)  : z_Con G l mX11_computeIfPresent 26 2 52 w [.ref 1000, .int x, .int y, .int z, .int u] (fun v w9 => ∃ (r : Int32) (s9 : z_Z), v = some (.int r) ∧ z_fm 59 w w9 ∧ z_mst w9 s9 ∧ z_key s9 = z_key s) (fun _ _ => False) := by
  have ke0 : z_key s = z_key s := rfl
  refine z_body hl (by decide) rfl (Nat.le_of_ble_eq_true rfl) ?_
  show z_J G l mX11_computeIfPresent _ 0 [(0, _), (1, _), (2, _), (3, _), (4, _)] [] _ 0 0
  refine j_aload_n dX11_computeIfPresent_0 rfl rfl ?_
  refine j_iload_n dX11_computeIfPresent_1 rfl ?_
  refine j_iload_n dX11_computeIfPresent_2 rfl ?_
  refine j_iload_n dX11_computeIfPresent_3 rfl ?_
  refine j_iload dX11_computeIfPresent_4 rfl ?_
  refine j_callV (q := (RX11, TX11, 8)) dX11_computeIfPresent_6 kX11_isNoRule lX11_155 inX11_isNoRule seX11_isNoRule h.m rfl (cm_isNoRule hl w _ _ _ _ _ h) (Nat.le_of_ble_eq_true rfl) ⟨(Nat.le_of_ble_eq_true rfl), (Nat.le_of_ble_eq_true rfl)⟩ rfl (Nat.le_of_ble_eq_true rfl) rfl rfl (fun _ _ h => h.elim) ?_
  rintro _ w1 (⟨i1, k1, rfl, hi1, hk1, rfl, rfl, fm1, h1⟩ | ⟨th1, rfl, fm1, h1⟩)
  · have ke1 := z_ke h1 ke0 rfl
    refine j_if_eq (tgt := 14) dX11_computeIfPresent_9 (by decide) (fun c_9_10 => ?_) (fun c_9_10 => ?_)
    · refine j_aload_n dX11_computeIfPresent_14 rfl rfl ?_
      refine j_iload_n dX11_computeIfPresent_15 rfl ?_
      refine j_iload_n dX11_computeIfPresent_16 rfl ?_
      refine j_callV (q := (RX11, TX11, 8)) dX11_computeIfPresent_17 kX11_valueOf lX11_145 inX11_valueOf seX11_valueOf h1.m rfl (cm_valueOf hl w1 _ (i1) _ h1 (by omega)) (Nat.le_of_ble_eq_true rfl) ⟨(Nat.le_of_ble_eq_true rfl), (Nat.le_of_ble_eq_true rfl)⟩ rfl (Nat.le_of_ble_eq_true rfl) rfl rfl (fun _ _ h => h.elim) ?_
      rintro _ _ ⟨⟨r517, rfl⟩, hw517⟩
      refine j_w w1 hw517 ?_
      refine j_istore (lo' := [(5, _), (0, _), (1, _), (2, _), (3, _), (4, _)]) dX11_computeIfPresent_20 (by decide) rfl ?_
      refine j_iload dX11_computeIfPresent_22 rfl ?_
      refine j_sipush (v := (-1000)) dX11_computeIfPresent_24 (by decide) ?_
      refine j_icmp_ne (tgt := 36) dX11_computeIfPresent_27 (by decide) (fun c_27_20 => ?_) (fun c_27_20 => ?_)
      · refine j_aload_n dX11_computeIfPresent_36 rfl rfl ?_
        refine j_iload_n dX11_computeIfPresent_37 rfl ?_
        refine j_iload_n dX11_computeIfPresent_38 rfl ?_
        refine j_iload_n dX11_computeIfPresent_39 rfl ?_
        refine j_iload_n dX11_computeIfPresent_40 rfl ?_
        refine j_iload dX11_computeIfPresent_41 rfl ?_
        refine j_iload dX11_computeIfPresent_43 rfl ?_
        refine j_callS dX11_computeIfPresent_45 kX11_rule lX11_115 stX11_rule (cm_rule hl w1 _ _ _ _) (Nat.le_of_ble_eq_true rfl) ⟨(Nat.le_of_ble_eq_true rfl), (Nat.le_of_ble_eq_true rfl)⟩ rfl (Nat.le_of_ble_eq_true rfl) rfl rfl (fun _ _ h => h.elim) ?_
        rintro _ _ ⟨⟨r518, rfl⟩, hw518⟩
        refine j_w w1 hw518 ?_
        refine j_callV (q := (RX11, TX11, 8)) dX11_computeIfPresent_48 kX11_become lX11_159 inX11_become seX11_become h1.m rfl (cm_become hl w1 _ (i1) (k1) _ h1 (by omega) (by omega)) (Nat.le_of_ble_eq_true rfl) ⟨(Nat.le_of_ble_eq_true rfl), (Nat.le_of_ble_eq_true rfl)⟩ rfl (Nat.le_of_ble_eq_true rfl) rfl rfl (fun _ _ h => h.elim) ?_
        rintro _ w2 ⟨r2, s2, rfl, fm2, h2, hk2⟩
        have ke2 := z_ke h2 ke1 hk2
        refine j_iret dX11_computeIfPresent_51 rfl rfl ?_ (Nat.le_of_ble_eq_true rfl) (Nat.le_of_ble_eq_true rfl)
        exact ⟨_, _, rfl, ((fm1.le (q' := 59) (by decide)).tr (fm2.le (q' := 59) (by decide))), h2, ke2⟩
      · refine j_sipush (v := (-1000)) dX11_computeIfPresent_30 (by decide) ?_
        refine j_goto (tgt := 51) dX11_computeIfPresent_33 (by decide) ?_
        refine j_iret dX11_computeIfPresent_51 rfl rfl ?_ (Nat.le_of_ble_eq_true rfl) (Nat.le_of_ble_eq_true rfl)
        exact ⟨_, _, rfl, (fm1.le (q' := 59) (by decide)), h1, ke1⟩
    · exact absurd c_9_10 (by decide)
  · have ke1 := z_ke h1 ke0 rfl
    refine j_if_eq (tgt := 14) dX11_computeIfPresent_9 (by decide) (fun c_9_42 => ?_) (fun c_9_42 => ?_)
    · exact absurd c_9_42 (by decide)
    · refine j_iconst (v := 0) dX11_computeIfPresent_12 (by decide) ?_
      refine j_iret dX11_computeIfPresent_13 rfl rfl ?_ (Nat.le_of_ble_eq_true rfl) (Nat.le_of_ble_eq_true rfl)
      exact ⟨_, _, rfl, (fm1.le (q' := 59) (by decide)), h1, ke1⟩
set_option maxRecDepth 100000 in
set_option maxHeartbeats 8000000 in
theorem cm_compute (hl : l.stackTraces = false) (w : z_W) (s : z_Z) (x y z u : Int32) (h : z_mst w s)  : z_Con G l mX11_compute 26 2 52 w [.ref 1000, .int x, .int y, .int z, .int u] (fun v w9 => ∃ (r : Int32) (s9 : z_Z), v = some (.int r) ∧ z_fm 59 w w9 ∧ z_mst w9 s9 ∧ z_key s9 = z_key s) (fun _ _ => False) := by
  have ke0 : z_key s = z_key s := rfl
  refine z_body hl (by decide) rfl (Nat.le_of_ble_eq_true rfl) ?_
  show z_J G l mX11_compute _ 0 [(0, _), (1, _), (2, _), (3, _), (4, _)] [] _ 0 0
  refine j_aload_n dX11_compute_0 rfl rfl ?_
  refine j_iload_n dX11_compute_1 rfl ?_
  refine j_iload_n dX11_compute_2 rfl ?_
  refine j_iload_n dX11_compute_3 rfl ?_
  refine j_iload dX11_compute_4 rfl ?_
  refine j_callV (q := (RX11, TX11, 8)) dX11_compute_6 kX11_isNoRule lX11_155 inX11_isNoRule seX11_isNoRule h.m rfl (cm_isNoRule hl w _ _ _ _ _ h) (Nat.le_of_ble_eq_true rfl) ⟨(Nat.le_of_ble_eq_true rfl), (Nat.le_of_ble_eq_true rfl)⟩ rfl (Nat.le_of_ble_eq_true rfl) rfl rfl (fun _ _ h => h.elim) ?_
  rintro _ w1 (⟨i1, k1, rfl, hi1, hk1, rfl, rfl, fm1, h1⟩ | ⟨th1, rfl, fm1, h1⟩)
  · have ke1 := z_ke h1 ke0 rfl
    refine j_if_eq (tgt := 14) dX11_compute_9 (by decide) (fun c_9_10 => ?_) (fun c_9_10 => ?_)
    · refine j_aload_n dX11_compute_14 rfl rfl ?_
      refine j_iload_n dX11_compute_15 rfl ?_
      refine j_iload_n dX11_compute_16 rfl ?_
      refine j_callV (q := (RX11, TX11, 8)) dX11_compute_17 kX11_valueOf lX11_145 inX11_valueOf seX11_valueOf h1.m rfl (cm_valueOf hl w1 _ (i1) _ h1 (by omega)) (Nat.le_of_ble_eq_true rfl) ⟨(Nat.le_of_ble_eq_true rfl), (Nat.le_of_ble_eq_true rfl)⟩ rfl (Nat.le_of_ble_eq_true rfl) rfl rfl (fun _ _ h => h.elim) ?_
      rintro _ _ ⟨⟨r519, rfl⟩, hw519⟩
      refine j_w w1 hw519 ?_
      refine j_istore (lo' := [(5, _), (0, _), (1, _), (2, _), (3, _), (4, _)]) dX11_compute_20 (by decide) rfl ?_
      refine j_aload_n dX11_compute_22 rfl rfl ?_
      refine j_iload_n dX11_compute_23 rfl ?_
      refine j_iload_n dX11_compute_24 rfl ?_
      refine j_iload_n dX11_compute_25 rfl ?_
      refine j_iload_n dX11_compute_26 rfl ?_
      refine j_iload dX11_compute_27 rfl ?_
      refine j_sipush (v := (-1000)) dX11_compute_29 (by decide) ?_
      refine j_icmp_ne (tgt := 39) dX11_compute_32 (by decide) (fun c_32_25 => ?_) (fun c_32_25 => ?_)
      · refine j_iload dX11_compute_39 rfl ?_
        refine j_iload dX11_compute_41 rfl ?_
        refine j_callS dX11_compute_43 kX11_rule lX11_115 stX11_rule (cm_rule hl w1 _ _ _ _) (Nat.le_of_ble_eq_true rfl) ⟨(Nat.le_of_ble_eq_true rfl), (Nat.le_of_ble_eq_true rfl)⟩ rfl (Nat.le_of_ble_eq_true rfl) rfl rfl (fun _ _ h => h.elim) ?_
        rintro _ _ ⟨⟨r520, rfl⟩, hw520⟩
        refine j_w w1 hw520 ?_
        refine j_callV (q := (RX11, TX11, 8)) dX11_compute_46 kX11_become lX11_159 inX11_become seX11_become h1.m rfl (cm_become hl w1 _ (i1) (k1) _ h1 (by omega) (by omega)) (Nat.le_of_ble_eq_true rfl) ⟨(Nat.le_of_ble_eq_true rfl), (Nat.le_of_ble_eq_true rfl)⟩ rfl (Nat.le_of_ble_eq_true rfl) rfl rfl (fun _ _ h => h.elim) ?_
        rintro _ w2 ⟨r2, s2, rfl, fm2, h2, hk2⟩
        have ke2 := z_ke h2 ke1 hk2
        refine j_iret dX11_compute_49 rfl rfl ?_ (Nat.le_of_ble_eq_true rfl) (Nat.le_of_ble_eq_true rfl)
        exact ⟨_, _, rfl, ((fm1.le (q' := 59) (by decide)).tr (fm2.le (q' := 59) (by decide))), h2, ke2⟩
      · refine j_iconst (v := 0) dX11_compute_35 (by decide) ?_
        refine j_goto (tgt := 41) dX11_compute_36 (by decide) ?_
        refine j_iload dX11_compute_41 rfl ?_
        refine j_callS dX11_compute_43 kX11_rule lX11_115 stX11_rule (cm_rule hl w1 _ _ _ _) (Nat.le_of_ble_eq_true rfl) ⟨(Nat.le_of_ble_eq_true rfl), (Nat.le_of_ble_eq_true rfl)⟩ rfl (Nat.le_of_ble_eq_true rfl) rfl rfl (fun _ _ h => h.elim) ?_
        rintro _ _ ⟨⟨r521, rfl⟩, hw521⟩
        refine j_w w1 hw521 ?_
        refine j_callV (q := (RX11, TX11, 8)) dX11_compute_46 kX11_become lX11_159 inX11_become seX11_become h1.m rfl (cm_become hl w1 _ (i1) (k1) _ h1 (by omega) (by omega)) (Nat.le_of_ble_eq_true rfl) ⟨(Nat.le_of_ble_eq_true rfl), (Nat.le_of_ble_eq_true rfl)⟩ rfl (Nat.le_of_ble_eq_true rfl) rfl rfl (fun _ _ h => h.elim) ?_
        rintro _ w3 ⟨r3, s3, rfl, fm3, h3, hk3⟩
        have ke3 := z_ke h3 ke1 hk3
        refine j_iret dX11_compute_49 rfl rfl ?_ (Nat.le_of_ble_eq_true rfl) (Nat.le_of_ble_eq_true rfl)
        exact ⟨_, _, rfl, ((fm1.le (q' := 59) (by decide)).tr (fm3.le (q' := 59) (by decide))), h3, ke3⟩
    · exact absurd c_9_10 (by decide)
  · have ke1 := z_ke h1 ke0 rfl
    refine j_if_eq (tgt := 14) dX11_compute_9 (by decide) (fun c_9_49 => ?_) (fun c_9_49 => ?_)
    · exact absurd c_9_49 (by decide)
    · refine j_iconst (v := 0) dX11_compute_12 (by decide) ?_
      refine j_iret dX11_compute_13 rfl rfl ?_ (Nat.le_of_ble_eq_true rfl) (Nat.le_of_ble_eq_true rfl)
      exact ⟨_, _, rfl, (fm1.le (q' := 59) (by decide)), h1, ke1⟩
set_option maxRecDepth 100000 in
set_option maxHeartbeats 8000000 in
theorem cm_merge (hl : l.stackTraces = false) (w : z_W) (s : z_Z) (x y z u : Int32) (h : z_mst w s)  : z_Con G l mX11_merge 26 2 52 w [.ref 1000, .int x, .int y, .int z, .int u] (fun v w9 => ∃ (r : Int32) (s9 : z_Z), v = some (.int r) ∧ z_fm 59 w w9 ∧ z_mst w9 s9 ∧ z_key s9 = z_key s) (fun _ _ => False) := by
  have ke0 : z_key s = z_key s := rfl
  refine z_body hl (by decide) rfl (Nat.le_of_ble_eq_true rfl) ?_
  show z_J G l mX11_merge _ 0 [(0, _), (1, _), (2, _), (3, _), (4, _)] [] _ 0 0
  refine j_aload_n dX11_merge_0 rfl rfl ?_
  refine j_iload_n dX11_merge_1 rfl ?_
  refine j_iload_n dX11_merge_2 rfl ?_
  refine j_iload dX11_merge_3 rfl ?_
  refine j_iload_n dX11_merge_5 rfl ?_
  refine j_callV (q := (RX11, TX11, 8)) dX11_merge_6 kX11_isNoRule lX11_155 inX11_isNoRule seX11_isNoRule h.m rfl (cm_isNoRule hl w _ _ _ _ _ h) (Nat.le_of_ble_eq_true rfl) ⟨(Nat.le_of_ble_eq_true rfl), (Nat.le_of_ble_eq_true rfl)⟩ rfl (Nat.le_of_ble_eq_true rfl) rfl rfl (fun _ _ h => h.elim) ?_
  rintro _ w1 (⟨i1, k1, rfl, hi1, hk1, rfl, rfl, fm1, h1⟩ | ⟨th1, rfl, fm1, h1⟩)
  · have ke1 := z_ke h1 ke0 rfl
    refine j_if_eq (tgt := 14) dX11_merge_9 (by decide) (fun c_9_10 => ?_) (fun c_9_10 => ?_)
    · refine j_aload_n dX11_merge_14 rfl rfl ?_
      refine j_iload_n dX11_merge_15 rfl ?_
      refine j_iload_n dX11_merge_16 rfl ?_
      refine j_callV (q := (RX11, TX11, 8)) dX11_merge_17 kX11_valueOf lX11_145 inX11_valueOf seX11_valueOf h1.m rfl (cm_valueOf hl w1 _ (i1) _ h1 (by omega)) (Nat.le_of_ble_eq_true rfl) ⟨(Nat.le_of_ble_eq_true rfl), (Nat.le_of_ble_eq_true rfl)⟩ rfl (Nat.le_of_ble_eq_true rfl) rfl rfl (fun _ _ h => h.elim) ?_
      rintro _ _ ⟨⟨r522, rfl⟩, hw522⟩
      refine j_w w1 hw522 ?_
      refine j_istore (lo' := [(5, _), (0, _), (1, _), (2, _), (3, _), (4, _)]) dX11_merge_20 (by decide) rfl ?_
      refine j_aload_n dX11_merge_22 rfl rfl ?_
      refine j_iload_n dX11_merge_23 rfl ?_
      refine j_iload_n dX11_merge_24 rfl ?_
      refine j_iload dX11_merge_25 rfl ?_
      refine j_sipush (v := (-1000)) dX11_merge_27 (by decide) ?_
      refine j_icmp_ne (tgt := 37) dX11_merge_30 (by decide) (fun c_30_23 => ?_) (fun c_30_23 => ?_)
      · refine j_iload dX11_merge_37 rfl ?_
        refine j_iload_n dX11_merge_39 rfl ?_
        refine j_iload dX11_merge_40 rfl ?_
        refine j_iload_n dX11_merge_42 rfl ?_
        refine j_callS dX11_merge_43 kX11_rule lX11_115 stX11_rule (cm_rule hl w1 _ _ _ _) (Nat.le_of_ble_eq_true rfl) ⟨(Nat.le_of_ble_eq_true rfl), (Nat.le_of_ble_eq_true rfl)⟩ rfl (Nat.le_of_ble_eq_true rfl) rfl rfl (fun _ _ h => h.elim) ?_
        rintro _ _ ⟨⟨r523, rfl⟩, hw523⟩
        refine j_w w1 hw523 ?_
        refine j_callV (q := (RX11, TX11, 8)) dX11_merge_46 kX11_become lX11_159 inX11_become seX11_become h1.m rfl (cm_become hl w1 _ (i1) (k1) _ h1 (by omega) (by omega)) (Nat.le_of_ble_eq_true rfl) ⟨(Nat.le_of_ble_eq_true rfl), (Nat.le_of_ble_eq_true rfl)⟩ rfl (Nat.le_of_ble_eq_true rfl) rfl rfl (fun _ _ h => h.elim) ?_
        rintro _ w2 ⟨r2, s2, rfl, fm2, h2, hk2⟩
        have ke2 := z_ke h2 ke1 hk2
        refine j_iret dX11_merge_49 rfl rfl ?_ (Nat.le_of_ble_eq_true rfl) (Nat.le_of_ble_eq_true rfl)
        exact ⟨_, _, rfl, ((fm1.le (q' := 59) (by decide)).tr (fm2.le (q' := 59) (by decide))), h2, ke2⟩
      · refine j_iload_n dX11_merge_33 rfl ?_
        refine j_goto (tgt := 46) dX11_merge_34 (by decide) ?_
        refine j_callV (q := (RX11, TX11, 8)) dX11_merge_46 kX11_become lX11_159 inX11_become seX11_become h1.m rfl (cm_become hl w1 _ (i1) (k1) _ h1 (by omega) (by omega)) (Nat.le_of_ble_eq_true rfl) ⟨(Nat.le_of_ble_eq_true rfl), (Nat.le_of_ble_eq_true rfl)⟩ rfl (Nat.le_of_ble_eq_true rfl) rfl rfl (fun _ _ h => h.elim) ?_
        rintro _ w3 ⟨r3, s3, rfl, fm3, h3, hk3⟩
        have ke3 := z_ke h3 ke1 hk3
        refine j_iret dX11_merge_49 rfl rfl ?_ (Nat.le_of_ble_eq_true rfl) (Nat.le_of_ble_eq_true rfl)
        exact ⟨_, _, rfl, ((fm1.le (q' := 59) (by decide)).tr (fm3.le (q' := 59) (by decide))), h3, ke3⟩
    · exact absurd c_9_10 (by decide)
  · have ke1 := z_ke h1 ke0 rfl
    refine j_if_eq (tgt := 14) dX11_merge_9 (by decide) (fun c_9_45 => ?_) (fun c_9_45 => ?_)
    · exact absurd c_9_45 (by decide)
    · refine j_iconst (v := 0) dX11_merge_12 (by decide) ?_
      refine j_iret dX11_merge_13 rfl rfl ?_ (Nat.le_of_ble_eq_true rfl) (Nat.le_of_ble_eq_true rfl)
      exact ⟨_, _, rfl, (fm1.le (q' := 59) (by decide)), h1, ke1⟩
set_option maxRecDepth 100000 in
set_option maxHeartbeats 8000000 in
theorem cm_size (hl : l.stackTraces = false) (w : z_W) (s : z_Z) (x : Int32) (h : z_mst w s)  : z_Con G l mX11_size 20 0 0 w [.ref 1000, .int x] (fun v w9 => ∃ (r : Int32) (s9 : z_Z), v = some (.int r) ∧ z_fm 59 w w9 ∧ z_mst w9 s9 ∧ z_key s9 = z_key s) (fun _ _ => False) := by
  have ke0 : z_key s = z_key s := rfl
  refine z_body hl (by decide) rfl (Nat.le_of_ble_eq_true rfl) ?_
  show z_J G l mX11_size _ 0 [(0, _), (1, _)] [] _ 0 0
  refine j_aload_n dX11_size_0 rfl rfl ?_
  refine j_iload_n dX11_size_1 rfl ?_
  refine j_callS dX11_size_2 kX11_isNoTable lX11_136 stX11_isNoTable (cm_isNoTable hl w _) (Nat.le_of_ble_eq_true rfl) ⟨(Nat.le_of_ble_eq_true rfl), (Nat.le_of_ble_eq_true rfl)⟩ rfl (Nat.le_of_ble_eq_true rfl) rfl rfl (fun _ _ h => h.elim) ?_
  rintro _ _ ⟨⟨rfl, hno524⟩ | ⟨rfl, i524, hi524, rfl⟩, hw524⟩
  · refine j_w w hw524 ?_
    refine j_iconst (v := 1) dX11_size_5 (by decide) ?_
    refine j_callV (q := (RX11, TX11, 8)) dX11_size_6 kX11_start lX11_76 inX11_start seX11_start h.m rfl (cm_start1 hl w _ _ h (by decide)) (Nat.le_of_ble_eq_true rfl) ⟨(Nat.le_of_ble_eq_true rfl), (Nat.le_of_ble_eq_true rfl)⟩ rfl (Nat.le_of_ble_eq_true rfl) rfl rfl (fun _ _ h => h.elim) ?_
    rintro _ w1 ⟨rfl, fm1, h1⟩
    have ke1 := z_ke h1 ke0 rfl
    refine j_if_eq (tgt := 16) dX11_size_9 (by decide) (fun c_9_11 => ?_) (fun c_9_11 => ?_)
    · exact absurd c_9_11 (by decide)
    · refine j_iconst (v := 0) dX11_size_12 (by decide) ?_
      refine j_goto (tgt := 30) dX11_size_13 (by decide) ?_
      refine j_iret dX11_size_30 rfl rfl ?_ (Nat.le_of_ble_eq_true rfl) (Nat.le_of_ble_eq_true rfl)
      exact ⟨_, _, rfl, (fm1.le (q' := 59) (by decide)), h1, ke1⟩
  · refine j_w w hw524 ?_
    refine j_iconst (v := 1) dX11_size_5 (by decide) ?_
    refine j_callV (q := (RX11, TX11, 8)) dX11_size_6 kX11_start lX11_76 inX11_start seX11_start h.m rfl (cm_start0 hl w _ _ h) (Nat.le_of_ble_eq_true rfl) ⟨(Nat.le_of_ble_eq_true rfl), (Nat.le_of_ble_eq_true rfl)⟩ rfl (Nat.le_of_ble_eq_true rfl) rfl rfl (fun _ _ h => h.elim) ?_
    rintro _ w2 ⟨rfl, fm2, h2⟩
    have ke2 := z_ke h2 ke0 rfl
    refine j_if_eq (tgt := 16) dX11_size_9 (by decide) (fun c_9_22 => ?_) (fun c_9_22 => ?_)
    · refine j_aload_n dX11_size_16 rfl rfl ?_
      refine j_getf dX11_size_17 fX11_34 h2.m rfl ?_
      refine j_iload_n dX11_size_20 rfl ?_
      obtain ⟨lv526, -, lg526⟩ := z_li.cell h2.tabs
      refine j_callV (q := (RJx4a65c, TJx4a65c, 3)) dX11_size_21 kJx4a65c_get_915e3 lX11_82 inJx4a65c_get_915e3 seJx4a65c_get_915e3 lg526 rfl (cl_get hl w2 47 1007 _ _ (i524) _ h2.tabs (z_thr3 (t := i524) (by omega))) (Nat.le_of_ble_eq_true rfl) ⟨(Nat.le_of_ble_eq_true rfl), (Nat.le_of_ble_eq_true rfl)⟩ rfl (Nat.le_of_ble_eq_true rfl) rfl rfl (fun _ _ h => h.elim) ?_
      rintro _ _ ⟨rfl, hw527⟩
      refine j_w w2 hw527 ?_
      refine j_castS dX11_size_24 (z_w 1341 ((lwg_6 96).trans (by decide +kernel)) (by decide +kernel)) (z_li.is (h2.tb (t := i524) (by omega))) ?_
      obtain ⟨lv529, -, lg529⟩ := z_li.cell (h2.tb (t := i524) (by omega))
      refine j_callV (q := (RJx4a65c, TJx4a65c, 3)) dX11_size_27 kJx4a65c_size_8abf5 lX11_86 inJx4a65c_size_8abf5 seJx4a65c_size_8abf5 lg529 rfl (cl_sizeR hl w2 _ _ _ _ (h2.tb (t := i524) (by omega))) (Nat.le_of_ble_eq_true rfl) ⟨(Nat.le_of_ble_eq_true rfl), (Nat.le_of_ble_eq_true rfl)⟩ rfl (Nat.le_of_ble_eq_true rfl) rfl rfl (fun _ _ h => h.elim) ?_
      rintro _ _ ⟨⟨n530, rfl, hn530⟩, hw530⟩
      refine j_w w2 hw530 ?_
      have hn530 : n530 = (z_qp s (i524)).2.length := hn530
      have hz530 : (z_qp s (i524)).2.length ≤ 20 := (h2.pr (t := i524) (by omega)).len
      refine j_iret dX11_size_30 rfl rfl ?_ (Nat.le_of_ble_eq_true rfl) (Nat.le_of_ble_eq_true rfl)
      exact ⟨_, _, rfl, (fm2.le (q' := 59) (by decide)), h2, ke2⟩
    · exact absurd c_9_22 (by decide)
set_option maxRecDepth 100000 in
set_option maxHeartbeats 8000000 in
theorem cm_clear (hl : l.stackTraces = false) (w : z_W) (s : z_Z) (x : Int32) (h : z_mst w s)  : z_Con G l mX11_clear 20 0 0 w [.ref 1000, .int x] (fun v w9 => ∃ (r : Int32) (s9 : z_Z), v = some (.int r) ∧ z_fm 59 w w9 ∧ z_mst w9 s9 ∧ z_key s9 = z_key s) (fun _ _ => False) := by
  have ke0 : z_key s = z_key s := rfl
  refine z_body hl (by decide) rfl (Nat.le_of_ble_eq_true rfl) ?_
  show z_J G l mX11_clear _ 0 [(0, _), (1, _)] [] _ 0 0
  refine j_aload_n dX11_clear_0 rfl rfl ?_
  refine j_iload_n dX11_clear_1 rfl ?_
  refine j_callS dX11_clear_2 kX11_isNoTable lX11_136 stX11_isNoTable (cm_isNoTable hl w _) (Nat.le_of_ble_eq_true rfl) ⟨(Nat.le_of_ble_eq_true rfl), (Nat.le_of_ble_eq_true rfl)⟩ rfl (Nat.le_of_ble_eq_true rfl) rfl rfl (fun _ _ h => h.elim) ?_
  rintro _ _ ⟨⟨rfl, hno531⟩ | ⟨rfl, i531, hi531, rfl⟩, hw531⟩
  · refine j_w w hw531 ?_
    refine j_iconst (v := 1) dX11_clear_5 (by decide) ?_
    refine j_callV (q := (RX11, TX11, 8)) dX11_clear_6 kX11_start lX11_76 inX11_start seX11_start h.m rfl (cm_start1 hl w _ _ h (by decide)) (Nat.le_of_ble_eq_true rfl) ⟨(Nat.le_of_ble_eq_true rfl), (Nat.le_of_ble_eq_true rfl)⟩ rfl (Nat.le_of_ble_eq_true rfl) rfl rfl (fun _ _ h => h.elim) ?_
    rintro _ w1 ⟨rfl, fm1, h1⟩
    have ke1 := z_ke h1 ke0 rfl
    refine j_if_eq (tgt := 14) dX11_clear_9 (by decide) (fun c_9_11 => ?_) (fun c_9_11 => ?_)
    · exact absurd c_9_11 (by decide)
    · refine j_iconst (v := 0) dX11_clear_12 (by decide) ?_
      refine j_iret dX11_clear_13 rfl rfl ?_ (Nat.le_of_ble_eq_true rfl) (Nat.le_of_ble_eq_true rfl)
      exact ⟨_, _, rfl, (fm1.le (q' := 59) (by decide)), h1, ke1⟩
  · refine j_w w hw531 ?_
    refine j_iconst (v := 1) dX11_clear_5 (by decide) ?_
    refine j_callV (q := (RX11, TX11, 8)) dX11_clear_6 kX11_start lX11_76 inX11_start seX11_start h.m rfl (cm_start0 hl w _ _ h) (Nat.le_of_ble_eq_true rfl) ⟨(Nat.le_of_ble_eq_true rfl), (Nat.le_of_ble_eq_true rfl)⟩ rfl (Nat.le_of_ble_eq_true rfl) rfl rfl (fun _ _ h => h.elim) ?_
    rintro _ w2 ⟨rfl, fm2, h2⟩
    have ke2 := z_ke h2 ke0 rfl
    refine j_if_eq (tgt := 14) dX11_clear_9 (by decide) (fun c_9_21 => ?_) (fun c_9_21 => ?_)
    · refine j_aload_n dX11_clear_14 rfl rfl ?_
      refine j_getf dX11_clear_15 fX11_34 h2.m rfl ?_
      refine j_iload_n dX11_clear_18 rfl ?_
      obtain ⟨lv533, -, lg533⟩ := z_li.cell h2.tabs
      refine j_callV (q := (RJx4a65c, TJx4a65c, 3)) dX11_clear_19 kJx4a65c_get_915e3 lX11_82 inJx4a65c_get_915e3 seJx4a65c_get_915e3 lg533 rfl (cl_get hl w2 47 1007 _ _ (i531) _ h2.tabs (z_thr3 (t := i531) (by omega))) (Nat.le_of_ble_eq_true rfl) ⟨(Nat.le_of_ble_eq_true rfl), (Nat.le_of_ble_eq_true rfl)⟩ rfl (Nat.le_of_ble_eq_true rfl) rfl rfl (fun _ _ h => h.elim) ?_
      rintro _ _ ⟨rfl, hw534⟩
      refine j_w w2 hw534 ?_
      refine j_castS dX11_clear_22 (z_w 1341 ((lwg_6 96).trans (by decide +kernel)) (by decide +kernel)) (z_li.is (h2.tb (t := i531) (by omega))) ?_
      obtain ⟨lv536, -, lg536⟩ := z_li.cell (h2.tb (t := i531) (by omega))
      refine j_callV (q := (RJx4a65c, TJx4a65c, 3)) dX11_clear_25 kJx4a65c_size_8abf5 lX11_86 inJx4a65c_size_8abf5 seJx4a65c_size_8abf5 lg536 rfl (cl_sizeR hl w2 _ _ _ _ (h2.tb (t := i531) (by omega))) (Nat.le_of_ble_eq_true rfl) ⟨(Nat.le_of_ble_eq_true rfl), (Nat.le_of_ble_eq_true rfl)⟩ rfl (Nat.le_of_ble_eq_true rfl) rfl rfl (fun _ _ h => h.elim) ?_
      rintro _ _ ⟨⟨n537, rfl, hn537⟩, hw537⟩
      refine j_w w2 hw537 ?_
      have hn537 : n537 = (z_qp s (i531)).2.length := hn537
      have hz537 : (z_qp s (i531)).2.length ≤ 20 := (h2.pr (t := i531) (by omega)).len
      refine j_istore_n (lo' := [(2, _), (0, _), (1, _)]) dX11_clear_28 (by decide) rfl ?_
      refine j_aload_n dX11_clear_29 rfl rfl ?_
      refine j_getf dX11_clear_30 fX11_34 h2.m rfl ?_
      refine j_iload_n dX11_clear_33 rfl ?_
      obtain ⟨lv539, -, lg539⟩ := z_li.cell h2.tabs
      refine j_callV (q := (RJx4a65c, TJx4a65c, 3)) dX11_clear_34 kJx4a65c_get_915e3 lX11_82 inJx4a65c_get_915e3 seJx4a65c_get_915e3 lg539 rfl (cl_get hl w2 47 1007 _ _ (i531) _ h2.tabs (z_thr3 (t := i531) (by omega))) (Nat.le_of_ble_eq_true rfl) ⟨(Nat.le_of_ble_eq_true rfl), (Nat.le_of_ble_eq_true rfl)⟩ rfl (Nat.le_of_ble_eq_true rfl) rfl rfl (fun _ _ h => h.elim) ?_
      rintro _ _ ⟨rfl, hw540⟩
      refine j_w w2 hw540 ?_
      refine j_castS dX11_clear_37 (z_w 1341 ((lwg_6 96).trans (by decide +kernel)) (by decide +kernel)) (z_li.is (h2.tb (t := i531) (by omega))) ?_
      obtain ⟨lv542, -, lg542⟩ := z_li.cell (h2.tb (t := i531) (by omega))
      refine j_callV (q := (RJx4a65c, TJx4a65c, 3)) dX11_clear_40 kJx4a65c_clear_da8c8 lX11_176 inJx4a65c_clear_da8c8 seJx4a65c_clear_da8c8 lg542 rfl (cl_clear hl w2 _ _ _ _ (h2.tb (t := i531) (by omega)) h2.fn) (Nat.le_of_ble_eq_true rfl) ⟨(Nat.le_of_ble_eq_true rfl), (Nat.le_of_ble_eq_true rfl)⟩ rfl (Nat.le_of_ble_eq_true rfl) rfl rfl (fun _ _ h => h.elim) ?_
      rintro _ w3 ⟨rfl, fw3, mo3, hr3⟩
      have fm3 := fw3.fm (q := 56) (by omega)
      have h3 := h2.li51 (t0 := i531) (P := []) (by omega) fw3 hr3 z_pr.nil
      have ke3 := z_ke h3 ke2 rfl
      refine j_iload_n dX11_clear_43 rfl ?_
      refine j_iret dX11_clear_44 rfl rfl ?_ (Nat.le_of_ble_eq_true rfl) (Nat.le_of_ble_eq_true rfl)
      exact ⟨_, _, rfl, ((fm2.le (q' := 59) (by decide)).tr (fm3.le (q' := 59) (by decide))), h3, ke3⟩
    · exact absurd c_9_21 (by decide)
set_option maxRecDepth 100000 in
set_option maxHeartbeats 8000000 in
theorem cm_areLike (hl : l.stackTraces = false) (w : z_W) (s : z_Z) (x y : Int32) (h : z_mst w s)  : z_Con G l mX11_areLike 24 0 0 w [.ref 1000, .int x, .int y] (fun v w9 => ∃ (r : Int32) (s9 : z_Z), v = some (.int r) ∧ z_fm 59 w w9 ∧ z_mst w9 s9 ∧ z_key s9 = z_key s) (fun _ _ => False) := by
  have ke0 : z_key s = z_key s := rfl
  refine z_body hl (by decide) rfl (Nat.le_of_ble_eq_true rfl) ?_
  show z_J G l mX11_areLike _ 0 [(0, _), (1, _), (2, _)] [] _ 0 0
  refine j_aload_n dX11_areLike_0 rfl rfl ?_
  refine j_iload_n dX11_areLike_1 rfl ?_
  refine j_callS dX11_areLike_2 kX11_isNoTable lX11_136 stX11_isNoTable (cm_isNoTable hl w _) (Nat.le_of_ble_eq_true rfl) ⟨(Nat.le_of_ble_eq_true rfl), (Nat.le_of_ble_eq_true rfl)⟩ rfl (Nat.le_of_ble_eq_true rfl) rfl rfl (fun _ _ h => h.elim) ?_
  rintro _ _ ⟨⟨rfl, hno543⟩ | ⟨rfl, i543, hi543, rfl⟩, hw543⟩
  · refine j_w w hw543 ?_
    refine j_if_ne (tgt := 15) dX11_areLike_5 (by decide) (fun c_5_7 => ?_) (fun c_5_7 => ?_)
    · refine j_iconst (v := 1) dX11_areLike_15 (by decide) ?_
      refine j_goto (tgt := 20) dX11_areLike_16 (by decide) ?_
      refine j_iconst (v := 1) dX11_areLike_20 (by decide) ?_
      refine j_callV (q := (RX11, TX11, 8)) dX11_areLike_21 kX11_start lX11_76 inX11_start seX11_start h.m rfl (cm_start1 hl w _ _ h (by decide)) (Nat.le_of_ble_eq_true rfl) ⟨(Nat.le_of_ble_eq_true rfl), (Nat.le_of_ble_eq_true rfl)⟩ rfl (Nat.le_of_ble_eq_true rfl) rfl rfl (fun _ _ h => h.elim) ?_
      rintro _ w1 ⟨rfl, fm1, h1⟩
      have ke1 := z_ke h1 ke0 rfl
      refine j_if_eq (tgt := 29) dX11_areLike_24 (by decide) (fun c_24_14 => ?_) (fun c_24_14 => ?_)
      · exact absurd c_24_14 (by decide)
      · refine j_iconst (v := 0) dX11_areLike_27 (by decide) ?_
        refine j_iret dX11_areLike_28 rfl rfl ?_ (Nat.le_of_ble_eq_true rfl) (Nat.le_of_ble_eq_true rfl)
        exact ⟨_, _, rfl, (fm1.le (q' := 59) (by decide)), h1, ke1⟩
    · exact absurd c_5_7 (by decide)
  · refine j_w w hw543 ?_
    refine j_if_ne (tgt := 15) dX11_areLike_5 (by decide) (fun c_5_21 => ?_) (fun c_5_21 => ?_)
    · exact absurd c_5_21 (by decide)
    · refine j_iload_n dX11_areLike_8 rfl ?_
      refine j_callS dX11_areLike_9 kX11_isNoTable lX11_136 stX11_isNoTable (cm_isNoTable hl w _) (Nat.le_of_ble_eq_true rfl) ⟨(Nat.le_of_ble_eq_true rfl), (Nat.le_of_ble_eq_true rfl)⟩ rfl (Nat.le_of_ble_eq_true rfl) rfl rfl (fun _ _ h => h.elim) ?_
      rintro _ _ ⟨⟨rfl, hno544⟩ | ⟨rfl, i544, hi544, rfl⟩, hw544⟩
      · refine j_w w hw544 ?_
        refine j_if_eq (tgt := 19) dX11_areLike_12 (by decide) (fun c_12_27 => ?_) (fun c_12_27 => ?_)
        · exact absurd c_12_27 (by decide)
        · refine j_iconst (v := 1) dX11_areLike_15 (by decide) ?_
          refine j_goto (tgt := 20) dX11_areLike_16 (by decide) ?_
          refine j_iconst (v := 1) dX11_areLike_20 (by decide) ?_
          refine j_callV (q := (RX11, TX11, 8)) dX11_areLike_21 kX11_start lX11_76 inX11_start seX11_start h.m rfl (cm_start1 hl w _ _ h (by decide)) (Nat.le_of_ble_eq_true rfl) ⟨(Nat.le_of_ble_eq_true rfl), (Nat.le_of_ble_eq_true rfl)⟩ rfl (Nat.le_of_ble_eq_true rfl) rfl rfl (fun _ _ h => h.elim) ?_
          rintro _ w2 ⟨rfl, fm2, h2⟩
          have ke2 := z_ke h2 ke0 rfl
          refine j_if_eq (tgt := 29) dX11_areLike_24 (by decide) (fun c_24_35 => ?_) (fun c_24_35 => ?_)
          · exact absurd c_24_35 (by decide)
          · refine j_iconst (v := 0) dX11_areLike_27 (by decide) ?_
            refine j_iret dX11_areLike_28 rfl rfl ?_ (Nat.le_of_ble_eq_true rfl) (Nat.le_of_ble_eq_true rfl)
            exact ⟨_, _, rfl, (fm2.le (q' := 59) (by decide)), h2, ke2⟩
      · refine j_w w hw544 ?_
        refine j_if_eq (tgt := 19) dX11_areLike_12 (by decide) (fun c_12_41 => ?_) (fun c_12_41 => ?_)
        · refine j_iconst (v := 0) dX11_areLike_19 (by decide) ?_
          refine j_iconst (v := 1) dX11_areLike_20 (by decide) ?_
          refine j_callV (q := (RX11, TX11, 8)) dX11_areLike_21 kX11_start lX11_76 inX11_start seX11_start h.m rfl (cm_start0 hl w _ _ h) (Nat.le_of_ble_eq_true rfl) ⟨(Nat.le_of_ble_eq_true rfl), (Nat.le_of_ble_eq_true rfl)⟩ rfl (Nat.le_of_ble_eq_true rfl) rfl rfl (fun _ _ h => h.elim) ?_
          rintro _ w3 ⟨rfl, fm3, h3⟩
          have ke3 := z_ke h3 ke0 rfl
          refine j_if_eq (tgt := 29) dX11_areLike_24 (by decide) (fun c_24_47 => ?_) (fun c_24_47 => ?_)
          · refine j_iconst (v := 0) dX11_areLike_29 (by decide) ?_
            refine j_istore_n (lo' := [(3, _), (0, _), (1, _), (2, _)]) dX11_areLike_30 (by decide) rfl ?_
            have loop31 : ∀ (n9 : Nat) (w4 : z_W) (s1 : z_Z) (j : Nat), (j ≤ 20) → (20 < j + n9) → (z_mst w4 s1) → (z_fm 59 w w4) → (z_key s1 = z_key s) → z_J G l mX11_areLike (24, 0, 0, w, (fun v w9 => ∃ (r : Int32) (s9 : z_Z), v = some (.int r) ∧ z_fm 59 w w9 ∧ z_mst w9 s9 ∧ z_key s9 = z_key s), (fun _ _ => False)) 31 [(0, .ref 1000), (1, .int (nI i543)), (2, .int (nI i544)), (3, .int (nI j))] [] w4 0 0 := by
              intro n9
              induction n9 with
              | zero => intro w4 s1 j hj hf9 hm hfm hke; exact absurd hf9 (by omega)
              | succ n9 ih =>
                intro w4 s1 j hj hf9 hm hfm hke
                refine j_iload_n dX11_areLike_31 rfl ?_
                refine j_bipush (v := 20) dX11_areLike_32 (by decide) ?_
                refine j_icmp_ge (tgt := 60) dX11_areLike_34 (by decide) (fun c_34_58 => ?_) (fun c_34_58 => ?_)
                · have hb34 : 20 ≤ j := (nI_leI (a := 20) (b := j) (by omega) (by omega)).mp c_34_58
                  refine j_iconst (v := 1) dX11_areLike_60 (by decide) ?_
                  refine j_iret dX11_areLike_61 rfl rfl ?_ (Nat.le_of_ble_eq_true rfl) (Nat.le_of_ble_eq_true rfl)
                  exact ⟨_, _, rfl, hfm, hm, hke⟩
                · have hb34 : j < 20 := Nat.not_le.mp (fun z => c_34_58 ((nI_leI (a := 20) (b := j) (by omega) (by omega)).mpr z))
                  refine j_aload_n dX11_areLike_37 rfl rfl ?_
                  refine j_iload_n dX11_areLike_38 rfl ?_
                  refine j_iload_n dX11_areLike_39 rfl ?_
                  refine j_callV (q := (RX11, TX11, 8)) dX11_areLike_40 kX11_valueOf lX11_145 inX11_valueOf seX11_valueOf hm.m rfl (cm_valueOf hl w4 _ (i543) _ hm (by omega)) (Nat.le_of_ble_eq_true rfl) ⟨(Nat.le_of_ble_eq_true rfl), (Nat.le_of_ble_eq_true rfl)⟩ rfl (Nat.le_of_ble_eq_true rfl) rfl rfl (fun _ _ h => h.elim) ?_
                  rintro _ _ ⟨⟨r545, rfl⟩, hw545⟩
                  refine j_w w4 hw545 ?_
                  refine j_aload_n dX11_areLike_43 rfl rfl ?_
                  refine j_iload_n dX11_areLike_44 rfl ?_
                  refine j_iload_n dX11_areLike_45 rfl ?_
                  refine j_callV (q := (RX11, TX11, 8)) dX11_areLike_46 kX11_valueOf lX11_145 inX11_valueOf seX11_valueOf hm.m rfl (cm_valueOf hl w4 _ (i544) _ hm (by omega)) (Nat.le_of_ble_eq_true rfl) ⟨(Nat.le_of_ble_eq_true rfl), (Nat.le_of_ble_eq_true rfl)⟩ rfl (Nat.le_of_ble_eq_true rfl) rfl rfl (fun _ _ h => h.elim) ?_
                  rintro _ _ ⟨⟨r546, rfl⟩, hw546⟩
                  refine j_w w4 hw546 ?_
                  refine j_icmp_eq (tgt := 54) dX11_areLike_49 (by decide) (fun c_49_76 => ?_) (fun c_49_76 => ?_)
                  · refine j_iinc (lo' := [(3, _), (0, _), (1, _), (2, _)]) dX11_areLike_54 rfl (z_inc _) (by decide) rfl ?_
                    refine j_goto (tgt := 31) dX11_areLike_57 (by decide) ?_
                    exact j_lo2 (ih w4 _ (j + 1) (by omega) (by omega) hm hfm hke) (z_q1 rfl (z_q1 rfl (z_q1 rfl (z_q1 rfl z_q0))))
                  · refine j_iconst (v := 0) dX11_areLike_52 (by decide) ?_
                    refine j_iret dX11_areLike_53 rfl rfl ?_ (Nat.le_of_ble_eq_true rfl) (Nat.le_of_ble_eq_true rfl)
                    exact ⟨_, _, rfl, hfm, hm, hke⟩
            exact j_lo2 (loop31 21 w3 _ 0 (by omega) (by omega) h3 (fm3.le (q' := 59) (by decide)) ke3) (z_q1 rfl (z_q1 rfl (z_q1 rfl (z_q1 rfl z_q0))))
          · exact absurd c_24_47 (by decide)
        · exact absurd c_12_41 (by decide)
set_option maxRecDepth 100000 in
set_option maxHeartbeats 8000000 in
theorem cm_isTrue (hl : l.stackTraces = false) (w : z_W) (s : z_Z)  (h : z_mst w s)  : z_Con G l mX11_isTrue 16 0 0 w [.ref 1000] (fun v w9 => (∃ r : Int32, v = some (.int r) ∧ narrow .boolean (.int r) = .int r) ∧ w9 = w) (fun _ _ => False) := by
  refine z_body hl (by decide) rfl (Nat.le_of_ble_eq_true rfl) ?_
  show z_J G l mX11_isTrue _ 0 [(0, _)] [] _ 0 0
  refine j_iconst (v := 1) dX11_isTrue_0 (by decide) ?_
  refine j_istore_n (lo' := [(1, _), (0, _)]) dX11_isTrue_1 (by decide) rfl ?_
  have loop2 : ∀ (n9 : Nat) (w1 : z_W) (j : Nat), (1 ≤ j) → (j ≤ 21) → (21 < j + n9) → (z_mst w1 s) → (w1 = w) → z_J G l mX11_isTrue (16, 0, 0, w, (fun v w9 => (∃ r : Int32, v = some (.int r) ∧ narrow .boolean (.int r) = .int r) ∧ w9 = w), (fun _ _ => False)) 2 [(0, .ref 1000), (1, .int (nI j))] [] w1 0 0 := by
    intro n9
    induction n9 with
    | zero => intro w1 j hj1 hj hf9 hm hW; exact absurd hf9 (by omega)
    | succ n9 ih =>
      intro w1 j hj1 hj hf9 hm hW
      refine j_iload_n dX11_isTrue_2 rfl ?_
      refine j_aload_n dX11_isTrue_3 rfl rfl ?_
      refine j_getf dX11_isTrue_4 fX11_34 hm.m rfl ?_
      refine j_iconst (v := 2) dX11_isTrue_7 (by decide) ?_
      obtain ⟨lv548, -, lg548⟩ := z_li.cell hm.tabs
      refine j_callV (q := (RJx4a65c, TJx4a65c, 3)) dX11_isTrue_8 kJx4a65c_get_915e3 lX11_82 inJx4a65c_get_915e3 seJx4a65c_get_915e3 lg548 rfl (cl_get hl w1 47 1007 _ _ (2) _ hm.tabs (z_thr3 (t := 2) (by decide))) (Nat.le_of_ble_eq_true rfl) ⟨(Nat.le_of_ble_eq_true rfl), (Nat.le_of_ble_eq_true rfl)⟩ rfl (Nat.le_of_ble_eq_true rfl) rfl rfl (fun _ _ h => h.elim) ?_
      rintro _ _ ⟨rfl, hw549⟩
      refine j_w w1 hw549 ?_
      refine j_castS dX11_isTrue_11 (z_w 1341 ((lwg_6 96).trans (by decide +kernel)) (by decide +kernel)) (z_li.is (hm.tb (t := 2) (by decide))) ?_
      obtain ⟨lv551, -, lg551⟩ := z_li.cell (hm.tb (t := 2) (by decide))
      refine j_callV (q := (RJx4a65c, TJx4a65c, 3)) dX11_isTrue_14 kJx4a65c_size_8abf5 lX11_86 inJx4a65c_size_8abf5 seJx4a65c_size_8abf5 lg551 rfl (cl_sizeR hl w1 _ _ _ _ (hm.tb (t := 2) (by decide))) (Nat.le_of_ble_eq_true rfl) ⟨(Nat.le_of_ble_eq_true rfl), (Nat.le_of_ble_eq_true rfl)⟩ rfl (Nat.le_of_ble_eq_true rfl) rfl rfl (fun _ _ h => h.elim) ?_
      rintro _ _ ⟨⟨n552, rfl, hn552⟩, hw552⟩
      refine j_w w1 hw552 ?_
      have hn552 : n552 = (z_qp s (2)).2.length := hn552
      have hz552 : (z_qp s (2)).2.length ≤ 20 := (hm.pr (t := 2) (by decide)).len
      refine j_icmp_ge (tgt := 73) dX11_isTrue_17 (by decide) (fun c_17_25 => ?_) (fun c_17_25 => ?_)
      · have hb17 : n552 ≤ j := (nI_leI (a := n552) (b := j) (by omega) (by omega)).mp c_17_25
        refine j_iconst (v := 1) dX11_isTrue_73 (by decide) ?_
        refine j_iret dX11_isTrue_74 rfl rfl ?_ (Nat.le_of_ble_eq_true rfl) (Nat.le_of_ble_eq_true rfl)
        exact ⟨⟨_, rfl, rfl⟩, hW⟩
      · have hb17 : j < n552 := Nat.not_le.mp (fun z => c_17_25 ((nI_leI (a := n552) (b := j) (by omega) (by omega)).mpr z))
        refine j_aload_n dX11_isTrue_20 rfl rfl ?_
        refine j_getf dX11_isTrue_21 fX11_34 hm.m rfl ?_
        refine j_iconst (v := 2) dX11_isTrue_24 (by decide) ?_
        obtain ⟨lv554, -, lg554⟩ := z_li.cell hm.tabs
        refine j_callV (q := (RJx4a65c, TJx4a65c, 3)) dX11_isTrue_25 kJx4a65c_get_915e3 lX11_82 inJx4a65c_get_915e3 seJx4a65c_get_915e3 lg554 rfl (cl_get hl w1 47 1007 _ _ (2) _ hm.tabs (z_thr3 (t := 2) (by decide))) (Nat.le_of_ble_eq_true rfl) ⟨(Nat.le_of_ble_eq_true rfl), (Nat.le_of_ble_eq_true rfl)⟩ rfl (Nat.le_of_ble_eq_true rfl) rfl rfl (fun _ _ h => h.elim) ?_
        rintro _ _ ⟨rfl, hw555⟩
        refine j_w w1 hw555 ?_
        refine j_castS dX11_isTrue_28 (z_w 1341 ((lwg_6 96).trans (by decide +kernel)) (by decide +kernel)) (z_li.is (hm.tb (t := 2) (by decide))) ?_
        refine j_iload_n dX11_isTrue_31 rfl ?_
        obtain ⟨p557, hp557, hq557, hk557⟩ := z_rs_ex (P := (z_qp s (2)).2) (k := j) (by omega)
        obtain ⟨lv558, -, lg558⟩ := z_li.cell (hm.tb (t := 2) (by decide))
        refine j_callV (q := (RJx4a65c, TJx4a65c, 3)) dX11_isTrue_32 kJx4a65c_get_915e3 lX11_82 inJx4a65c_get_915e3 seJx4a65c_get_915e3 lg558 rfl (cl_get hl w1 _ _ _ _ (j) _ (hm.tb (t := 2) (by decide)) hq557) (Nat.le_of_ble_eq_true rfl) ⟨(Nat.le_of_ble_eq_true rfl), (Nat.le_of_ble_eq_true rfl)⟩ rfl (Nat.le_of_ble_eq_true rfl) rfl rfl (fun _ _ h => h.elim) ?_
        rintro _ _ ⟨rfl, hw559⟩
        refine j_w w1 hw559 ?_
        refine j_castS dX11_isTrue_35 (z_w 1663 ((lwg_7 178).trans (by decide +kernel)) (by decide +kernel)) (z_isA ((hm.pr (t := 2) (by decide)).1 p557 hp557).2) ?_
        refine j_iconst (v := 0) dX11_isTrue_38 (by decide) ?_
        refine j_ld dX11_isTrue_39 ((hm.pr (t := 2) (by decide)).1 p557 hp557).2 (vp_in_nI (n := 0) (by decide) (by decide)) ?_
        refine j_aload_n dX11_isTrue_40 rfl rfl ?_
        refine j_getf dX11_isTrue_41 fX11_34 hm.m rfl ?_
        refine j_iconst (v := 2) dX11_isTrue_44 (by decide) ?_
        obtain ⟨lv563, -, lg563⟩ := z_li.cell hm.tabs
        refine j_callV (q := (RJx4a65c, TJx4a65c, 3)) dX11_isTrue_45 kJx4a65c_get_915e3 lX11_82 inJx4a65c_get_915e3 seJx4a65c_get_915e3 lg563 rfl (cl_get hl w1 47 1007 _ _ (2) _ hm.tabs (z_thr3 (t := 2) (by decide))) (Nat.le_of_ble_eq_true rfl) ⟨(Nat.le_of_ble_eq_true rfl), (Nat.le_of_ble_eq_true rfl)⟩ rfl (Nat.le_of_ble_eq_true rfl) rfl rfl (fun _ _ h => h.elim) ?_
        rintro _ _ ⟨rfl, hw564⟩
        refine j_w w1 hw564 ?_
        refine j_castS dX11_isTrue_48 (z_w 1341 ((lwg_6 96).trans (by decide +kernel)) (by decide +kernel)) (z_li.is (hm.tb (t := 2) (by decide))) ?_
        refine j_iload_n dX11_isTrue_51 rfl ?_
        refine j_iconst (v := 1) dX11_isTrue_52 (by decide) ?_
        refine j_isub dX11_isTrue_53 ?_
        refine j_top (congrArg Value.int (pk_sub (a := j) (b := 1) (by omega))) ?_
        obtain ⟨p566, hp566, hq566, hk566⟩ := z_rs_ex (P := (z_qp s (2)).2) (k := (j - 1)) (by omega)
        obtain ⟨lv567, -, lg567⟩ := z_li.cell (hm.tb (t := 2) (by decide))
        refine j_callV (q := (RJx4a65c, TJx4a65c, 3)) dX11_isTrue_54 kJx4a65c_get_915e3 lX11_82 inJx4a65c_get_915e3 seJx4a65c_get_915e3 lg567 rfl (cl_get hl w1 _ _ _ _ ((j - 1)) _ (hm.tb (t := 2) (by decide)) hq566) (Nat.le_of_ble_eq_true rfl) ⟨(Nat.le_of_ble_eq_true rfl), (Nat.le_of_ble_eq_true rfl)⟩ rfl (Nat.le_of_ble_eq_true rfl) rfl rfl (fun _ _ h => h.elim) ?_
        rintro _ _ ⟨rfl, hw568⟩
        refine j_w w1 hw568 ?_
        refine j_castS dX11_isTrue_57 (z_w 1663 ((lwg_7 178).trans (by decide +kernel)) (by decide +kernel)) (z_isA ((hm.pr (t := 2) (by decide)).1 p566 hp566).2) ?_
        refine j_iconst (v := 0) dX11_isTrue_60 (by decide) ?_
        refine j_ld dX11_isTrue_61 ((hm.pr (t := 2) (by decide)).1 p566 hp566).2 (vp_in_nI (n := 0) (by decide) (by decide)) ?_
        refine j_icmp_gt (tgt := 67) dX11_isTrue_62 (by decide) (fun c_62_68 => ?_) (fun c_62_68 => ?_)
        · refine j_iinc (lo' := [(1, _), (0, _)]) dX11_isTrue_67 rfl (z_inc _) (by decide) rfl ?_
          refine j_goto (tgt := 2) dX11_isTrue_70 (by decide) ?_
          exact j_lo2 (ih w1 (j + 1) (by omega) (by omega) (by omega) hm hW) (z_q1 rfl (z_q1 rfl z_q0))
        · refine j_iconst (v := 0) dX11_isTrue_65 (by decide) ?_
          refine j_iret dX11_isTrue_66 rfl rfl ?_ (Nat.le_of_ble_eq_true rfl) (Nat.le_of_ble_eq_true rfl)
          exact ⟨⟨_, rfl, rfl⟩, hW⟩
  exact j_lo2 (loop2 21 w 1 (by omega) (by omega) (by omega) h rfl) (z_q1 rfl (z_q1 rfl z_q0))
set_option maxRecDepth 100000 in
set_option maxHeartbeats 8000000 in
theorem cm_isSound (hl : l.stackTraces = false) (w : z_W) (s : z_Z)  (h : z_mst w s)  : z_Con G l mX11_isSound 20 0 0 w [.ref 1000] (fun v w9 => ∃ (r : Int32) (s9 : z_Z), v = some (.int r) ∧ z_fm 59 w w9 ∧ z_mst w9 s9 ∧ z_key s9 = z_key s) (fun _ _ => False) := by
  have ke0 : z_key s = z_key s := rfl
  refine z_body hl (by decide) rfl (Nat.le_of_ble_eq_true rfl) ?_
  show z_J G l mX11_isSound _ 0 [(0, _)] [] _ 0 0
  refine j_aload_n dX11_isSound_0 rfl rfl ?_
  refine j_iconst (v := 0) dX11_isSound_1 (by decide) ?_
  refine j_put (w' := _) dX11_isSound_2 fX11_48 tX11_0 h.m ⟨rfl, rfl⟩ rfl ?_
  refine j_seal (by omega) ?_
  intro w1 u1
  have fw1 := u1.fw (ρ := 40) (by omega) (by omega)
  have h1 := h.up40 fw1 u1.1
  have ke1 := z_ke h1 ke0 rfl
  refine j_aload_n dX11_isSound_5 rfl rfl ?_
  refine j_callV (q := (RX11, TX11, 8)) dX11_isSound_6 kX11_isTrue lX11_240 inX11_isTrue seX11_isTrue h1.m rfl (cm_isTrue hl w1 _ h1) (Nat.le_of_ble_eq_true rfl) ⟨(Nat.le_of_ble_eq_true rfl), (Nat.le_of_ble_eq_true rfl)⟩ rfl (Nat.le_of_ble_eq_true rfl) rfl rfl (fun _ _ h => h.elim) ?_
  rintro _ _ ⟨⟨r571, rfl, hnrX⟩, hw571⟩
  refine j_w w1 hw571 ?_
  refine j_iret dX11_isSound_9 rfl hnrX ?_ (Nat.le_of_ble_eq_true rfl) (Nat.le_of_ble_eq_true rfl)
  exact ⟨_, _, rfl, (fw1.fm (q := 59) (by omega)), h1, ke1⟩
set_option maxRecDepth 100000 in
set_option maxHeartbeats 8000000 in
theorem cm_copy (hl : l.stackTraces = false) (w : z_W) (s : z_Z) (x : Int32) (h : z_mst w s)  : z_Con G l mX11_copy 22 2 15 w [.ref 1000, .int x] (fun v w9 => ∃ (r : Int32) (s9 : z_Z), v = some (.int r) ∧ z_fm 59 w w9 ∧ z_mst w9 s9 ∧ z_key s9 = z_key s) (fun _ _ => False) := by
  have ke0 : z_key s = z_key s := rfl
  refine z_body hl (by decide) rfl (Nat.le_of_ble_eq_true rfl) ?_
  show z_J G l mX11_copy _ 0 [(0, _), (1, _)] [] _ 0 0
  refine j_aload_n dX11_copy_0 rfl rfl ?_
  refine j_iload_n dX11_copy_1 rfl ?_
  refine j_callS dX11_copy_2 kX11_isNoTwo lX11_72 stX11_isNoTwo (cm_isNoTwo hl w _) (Nat.le_of_ble_eq_true rfl) ⟨(Nat.le_of_ble_eq_true rfl), (Nat.le_of_ble_eq_true rfl)⟩ rfl (Nat.le_of_ble_eq_true rfl) rfl rfl (fun _ _ h => h.elim) ?_
  rintro _ _ ⟨⟨rfl, hno572⟩ | ⟨rfl, i572, hi572, rfl⟩, hw572⟩
  · refine j_w w hw572 ?_
    refine j_iconst (v := 1) dX11_copy_5 (by decide) ?_
    refine j_callV (q := (RX11, TX11, 8)) dX11_copy_6 kX11_start lX11_76 inX11_start seX11_start h.m rfl (cm_start1 hl w _ _ h (by decide)) (Nat.le_of_ble_eq_true rfl) ⟨(Nat.le_of_ble_eq_true rfl), (Nat.le_of_ble_eq_true rfl)⟩ rfl (Nat.le_of_ble_eq_true rfl) rfl rfl (fun _ _ h => h.elim) ?_
    rintro _ w1 ⟨rfl, fm1, h1⟩
    have ke1 := z_ke h1 ke0 rfl
    refine j_if_eq (tgt := 14) dX11_copy_9 (by decide) (fun c_9_11 => ?_) (fun c_9_11 => ?_)
    · exact absurd c_9_11 (by decide)
    · refine j_iconst (v := 0) dX11_copy_12 (by decide) ?_
      refine j_iret dX11_copy_13 rfl rfl ?_ (Nat.le_of_ble_eq_true rfl) (Nat.le_of_ble_eq_true rfl)
      exact ⟨_, _, rfl, (fm1.le (q' := 59) (by decide)), h1, ke1⟩
  · refine j_w w hw572 ?_
    refine j_iconst (v := 1) dX11_copy_5 (by decide) ?_
    refine j_callV (q := (RX11, TX11, 8)) dX11_copy_6 kX11_start lX11_76 inX11_start seX11_start h.m rfl (cm_start0 hl w _ _ h) (Nat.le_of_ble_eq_true rfl) ⟨(Nat.le_of_ble_eq_true rfl), (Nat.le_of_ble_eq_true rfl)⟩ rfl (Nat.le_of_ble_eq_true rfl) rfl rfl (fun _ _ h => h.elim) ?_
    rintro _ w2 ⟨rfl, fm2, h2⟩
    have ke2 := z_ke h2 ke0 rfl
    refine j_if_eq (tgt := 14) dX11_copy_9 (by decide) (fun c_9_21 => ?_) (fun c_9_21 => ?_)
    · refine j_aload_n dX11_copy_14 rfl rfl ?_
      refine j_getf dX11_copy_15 fX11_21 h2.m rfl ?_
      refine j_iload_n dX11_copy_18 rfl ?_
      obtain ⟨x1, hx1a, hx1b, hx1c⟩ := z_fresh (11 + i572) (by omega) h2.fn
      refine j_new (w' := _) (n := x1) dX11_copy_19 nX11_18 rfl (z_alW hx1c hx1a) (Nat.le_of_ble_eq_true rfl) (Nat.le_of_ble_eq_true rfl) ?_
      refine j_seal hx1a ?_
      intro w3 u3
      have hx3 : ∀ (k : Nat) (e : z_E), z_g w2 k = some e → z_g w3 k = some e := fun k e hk => (u3.2.1 k (z_neF hx1c hk)).trans ((fun _ _ z => z) k e hk)
      have fw3 := u3.fw hx1a hx1b
      have h3 := h2.mono hx3 (u3.2.2.2 h2.fn)
      refine j_dup dX11_copy_22 rfl ?_
      refine j_aload_n dX11_copy_23 rfl rfl ?_
      refine j_getf dX11_copy_24 fX11_21 h3.m rfl ?_
      refine j_iconst (v := 1) dX11_copy_27 (by decide) ?_
      refine j_iload_n dX11_copy_28 rfl ?_
      refine j_isub dX11_copy_29 ?_
      refine j_top (congrArg Value.int (show (1 : Int32) - nI i572 = nI (1 - i572) from pk_sub (a := 1) (b := i572) (by omega))) ?_
      obtain ⟨lv574, -, lg574⟩ := z_li.cell h3.rows
      refine j_callV (q := (RJx4a65c, TJx4a65c, 3)) dX11_copy_30 kJx4a65c_get_915e3 lX11_82 inJx4a65c_get_915e3 seJx4a65c_get_915e3 lg574 rfl (cl_get hl w3 41 1001 _ _ ((1 - i572)) _ h3.rows (z_two2 (i := (1 - i572)) (by omega))) (Nat.le_of_ble_eq_true rfl) ⟨(Nat.le_of_ble_eq_true rfl), (Nat.le_of_ble_eq_true rfl)⟩ rfl (Nat.le_of_ble_eq_true rfl) rfl rfl (fun _ _ h => h.elim) ?_
      rintro _ _ ⟨rfl, hw575⟩
      refine j_w w3 hw575 ?_
      refine j_castY (C := "java/util/ArrayList") (nm := "java/util/Collection") dX11_copy_33 (z_w 1616 ((lwg_7 131).trans (by decide +kernel)) (by decide +kernel)) (z_wn 1624 ((lwg_7 139).trans (by decide +kernel)) (by decide +kernel)) (z_li.is (h3.rw (i := (1 - i572)) (by omega)).1) ?_
      refine j_callI dX11_copy_36 kJx4a65c_init_4bcb3 rfl lX11_125 inJx4a65c_init_4bcb3 rfl (cl_initC hl w3 (11 + i572) (11 + (1 - i572)) x1 _ 12 _ _ hx1a hx1b u3.1 (h3.rw (i := (1 - i572)) (by omega)).1 (by omega) (fun z => by have h9 := (h3.rw (i := (1 - i572)) (by omega)).1.2.1; rw [z, hx1b] at h9; omega) (by omega) h3.fn (by rw [z_bx_len]; exact (h3.rw (i := (1 - i572)) (by omega)).2) (by decide) z_bx_fl) (Nat.le_of_ble_eq_true rfl) ⟨(Nat.le_of_ble_eq_true rfl), (Nat.le_of_ble_eq_true rfl)⟩ rfl (Nat.le_of_ble_eq_true rfl) rfl rfl (fun _ _ h => h.elim) ?_
      rintro _ w4 ⟨rfl, fw4, hr4⟩
      have gm4 := fw4.g (Or.inr (by omega)) h3.m
      have hrows4 := h3.rows.fw fw4 (by omega)
      obtain ⟨lv577, -, lg577⟩ := z_li.cell hrows4
      refine j_callV (q := (RJx4a65c, TJx4a65c, 3)) dX11_copy_39 kJx4a65c_set_bcc79 lX11_119 inJx4a65c_set_bcc79 seJx4a65c_set_bcc79 lg577 rfl (cl_set hl w4 41 1001 _ _ (i572) _ (.ref x1) hrows4 (z_two2 (f := (z_qr s).2) (i := i572) (by omega)) ⟨Or.inr ⟨x1, rfl, Or.inr (show x1 % 64 ≠ 41 by omega)⟩, "java/util/ArrayList", hr4.is, (z_wn 1984 ((lwg_9 19).trans (by decide +kernel)) (by decide +kernel))⟩) (Nat.le_of_ble_eq_true rfl) ⟨(Nat.le_of_ble_eq_true rfl), (Nat.le_of_ble_eq_true rfl)⟩ rfl (Nat.le_of_ble_eq_true rfl) rfl rfl (fun _ _ h => h.elim) ?_
      rintro _ w5 ⟨rfl, fw5, hr5⟩
      have h5 := h3.cp (i0 := i572) (by omega) fw4 fw5 hr5 hr4 (h3.rw (i := 1 - i572) (by omega)).2
      have fm5 : z_fm 56 _ w5 := (fw4.fm (by omega)).tr (fw5.fm (by omega))
      have ke5 := z_ke h5 ke2 rfl
      refine j_pop dX11_copy_42 rfl ?_
      refine j_aload_n dX11_copy_43 rfl rfl ?_
      refine j_getf dX11_copy_44 fX11_21 h5.m rfl ?_
      refine j_iload_n dX11_copy_47 rfl ?_
      obtain ⟨lv579, -, lg579⟩ := z_li.cell h5.rows
      refine j_callV (q := (RJx4a65c, TJx4a65c, 3)) dX11_copy_48 kJx4a65c_get_915e3 lX11_82 inJx4a65c_get_915e3 seJx4a65c_get_915e3 lg579 rfl (cl_get hl w5 41 1001 _ _ (i572) _ h5.rows (z_two2 (i := i572) (by omega))) (Nat.le_of_ble_eq_true rfl) ⟨(Nat.le_of_ble_eq_true rfl), (Nat.le_of_ble_eq_true rfl)⟩ rfl (Nat.le_of_ble_eq_true rfl) rfl rfl (fun _ _ h => h.elim) ?_
      rintro _ _ ⟨rfl, hw580⟩
      refine j_w w5 hw580 ?_
      refine j_castS dX11_copy_51 (z_w 1341 ((lwg_6 96).trans (by decide +kernel)) (by decide +kernel)) (z_li.is (h5.rw (i := i572) (by omega)).1) ?_
      obtain ⟨lv582, -, lg582⟩ := z_li.cell (h5.rw (i := i572) (by omega)).1
      refine j_callV (q := (RJx4a65c, TJx4a65c, 3)) dX11_copy_54 kJx4a65c_size_8abf5 lX11_86 inJx4a65c_size_8abf5 seJx4a65c_size_8abf5 lg582 rfl (cl_sizeB hl w5 _ _ _ _ (h5.rw (i := i572) (by omega)).1) (Nat.le_of_ble_eq_true rfl) ⟨(Nat.le_of_ble_eq_true rfl), (Nat.le_of_ble_eq_true rfl)⟩ rfl (Nat.le_of_ble_eq_true rfl) rfl rfl (fun _ _ h => h.elim) ?_
      rintro _ _ ⟨⟨n583, rfl, hn583⟩, hw583⟩
      refine j_w w5 hw583 ?_
      refine j_iret dX11_copy_57 rfl rfl ?_ (Nat.le_of_ble_eq_true rfl) (Nat.le_of_ble_eq_true rfl)
      exact ⟨_, _, rfl, (((fm2.le (q' := 59) (by decide)).tr (fw3.fm (q := 59) (by omega))).tr (fm5.le (q' := 59) (by decide))), h5, ke5⟩
    · exact absurd c_9_21 (by decide)
end ZMs7
