section ZMq
variable {G : z_G} {l : Launch}
set_option maxRecDepth 100000 in
set_option maxHeartbeats 8000000 in
theorem cm_heardTold (hl : l.stackTraces = false) (w : z_W) (s : z_Z) (i : Nat) (y : Int32) (h : z_mst w s) (hi : i < 2) : z_Con G l mX11_heardTold 10 0 0 w [.ref 1000, .int (nI i), .int y] (fun v w9 => (∃ r : Int32, v = some (.int r)) ∧ w9 = w) (fun _ _ => False) := by
  have ke0 : z_key s = z_key s := rfl
  refine z_body hl (by decide) rfl (Nat.le_of_ble_eq_true rfl) ?_
  show z_J G l mX11_heardTold _ 0 [(0, _), (1, _), (2, _)] [] _ 0 0
  refine j_aload_n dX11_heardTold_0 rfl rfl ?_
  refine j_getf dX11_heardTold_1 fX11_40 h.m rfl ?_
  refine j_iload_n dX11_heardTold_4 rfl ?_
  obtain ⟨fz1, gz1, hz1⟩ := h.hs
  refine j_aald (v := .ref (1009 + i)) dX11_heardTold_5 gz1 rfl rfl (vp_in_nI (by omega) (by omega)) (by rw [z_cla (by omega)]; exact hz1 _ (by omega)) ?_
  refine j_astore_n (lo' := [(3, _), (0, _), (1, _), (2, _)]) dX11_heardTold_6 rfl (by decide) rfl ?_
  refine j_iload_n dX11_heardTold_7 rfl ?_
  refine j_if_ne (tgt := 18) dX11_heardTold_8 (by decide) (fun c_8_9 => ?_) (fun c_8_9 => ?_)
  · refine j_iload_n dX11_heardTold_18 rfl ?_
    refine j_iconst (v := 1) dX11_heardTold_19 (by decide) ?_
    refine j_icmp_ne (tgt := 30) dX11_heardTold_20 (by decide) (fun c_20_12 => ?_) (fun c_20_12 => ?_)
    · refine j_iload_n dX11_heardTold_30 rfl ?_
      refine j_iconst (v := 2) dX11_heardTold_31 (by decide) ?_
      refine j_icmp_ne (tgt := 42) dX11_heardTold_32 (by decide) (fun c_32_15 => ?_) (fun c_32_15 => ?_)
      · refine j_aload_n dX11_heardTold_42 rfl rfl ?_
        refine j_getf dX11_heardTold_43 fX11_190 (h.hd (i := i) (by omega)) rfl ?_
        refine j_iret dX11_heardTold_46 rfl rfl ?_ (Nat.le_of_ble_eq_true rfl) (Nat.le_of_ble_eq_true rfl)
        exact ⟨⟨_, rfl⟩, rfl⟩
      · refine j_aload_n dX11_heardTold_35 rfl rfl ?_
        refine j_getf dX11_heardTold_36 fX11_202 (h.hd (i := i) (by omega)) rfl ?_
        refine j_goto (tgt := 46) dX11_heardTold_39 (by decide) ?_
        refine j_iret dX11_heardTold_46 rfl rfl ?_ (Nat.le_of_ble_eq_true rfl) (Nat.le_of_ble_eq_true rfl)
        exact ⟨⟨_, rfl⟩, rfl⟩
    · refine j_aload_n dX11_heardTold_23 rfl rfl ?_
      refine j_getf dX11_heardTold_24 fX11_199 (h.hd (i := i) (by omega)) rfl ?_
      refine j_goto (tgt := 46) dX11_heardTold_27 (by decide) ?_
      refine j_iret dX11_heardTold_46 rfl rfl ?_ (Nat.le_of_ble_eq_true rfl) (Nat.le_of_ble_eq_true rfl)
      exact ⟨⟨_, rfl⟩, rfl⟩
  · refine j_aload_n dX11_heardTold_11 rfl rfl ?_
    refine j_getf dX11_heardTold_12 fX11_193 (h.hd (i := i) (by omega)) rfl ?_
    refine j_goto (tgt := 46) dX11_heardTold_15 (by decide) ?_
    refine j_iret dX11_heardTold_46 rfl rfl ?_ (Nat.le_of_ble_eq_true rfl) (Nat.le_of_ble_eq_true rfl)
    exact ⟨⟨_, rfl⟩, rfl⟩
set_option maxRecDepth 100000 in
set_option maxHeartbeats 8000000 in
theorem cm_length (hl : l.stackTraces = false) (w : z_W) (s : z_Z) (x : Int32) (h : z_mst w s)  : z_Con G l mX11_length 20 0 0 w [.ref 1000, .int x] (fun v w9 => ∃ (r : Int32) (s9 : z_Z), v = some (.int r) ∧ z_fm 59 w w9 ∧ z_mst w9 s9 ∧ z_key s9 = z_key s) (fun _ _ => False) := by
  have ke0 : z_key s = z_key s := rfl
  refine z_body hl (by decide) rfl (Nat.le_of_ble_eq_true rfl) ?_
  show z_J G l mX11_length _ 0 [(0, _), (1, _)] [] _ 0 0
  refine j_aload_n dX11_length_0 rfl rfl ?_
  refine j_iload_n dX11_length_1 rfl ?_
  refine j_callS dX11_length_2 kX11_isNoTwo lX11_72 stX11_isNoTwo (cm_isNoTwo hl w _) (Nat.le_of_ble_eq_true rfl) ⟨(Nat.le_of_ble_eq_true rfl), (Nat.le_of_ble_eq_true rfl)⟩ rfl (Nat.le_of_ble_eq_true rfl) rfl rfl (fun _ _ h => h.elim) ?_
  rintro _ _ ⟨⟨rfl, hno2⟩ | ⟨rfl, i2, hi2, rfl⟩, hw2⟩
  · refine j_w w hw2 ?_
    refine j_iconst (v := 1) dX11_length_5 (by decide) ?_
    refine j_callV (q := (RX11, TX11, 8)) dX11_length_6 kX11_start lX11_76 inX11_start seX11_start h.m rfl (cm_start1 hl w _ _ h (by decide)) (Nat.le_of_ble_eq_true rfl) ⟨(Nat.le_of_ble_eq_true rfl), (Nat.le_of_ble_eq_true rfl)⟩ rfl (Nat.le_of_ble_eq_true rfl) rfl rfl (fun _ _ h => h.elim) ?_
    rintro _ w1 ⟨rfl, fm1, h1⟩
    have ke1 := z_ke h1 ke0 rfl
    refine j_if_eq (tgt := 16) dX11_length_9 (by decide) (fun c_9_11 => ?_) (fun c_9_11 => ?_)
    · exact absurd c_9_11 (by decide)
    · refine j_iconst (v := 0) dX11_length_12 (by decide) ?_
      refine j_goto (tgt := 30) dX11_length_13 (by decide) ?_
      refine j_iret dX11_length_30 rfl rfl ?_ (Nat.le_of_ble_eq_true rfl) (Nat.le_of_ble_eq_true rfl)
      exact ⟨_, _, rfl, (fm1.le (q' := 59) (by decide)), h1, ke1⟩
  · refine j_w w hw2 ?_
    refine j_iconst (v := 1) dX11_length_5 (by decide) ?_
    refine j_callV (q := (RX11, TX11, 8)) dX11_length_6 kX11_start lX11_76 inX11_start seX11_start h.m rfl (cm_start0 hl w _ _ h) (Nat.le_of_ble_eq_true rfl) ⟨(Nat.le_of_ble_eq_true rfl), (Nat.le_of_ble_eq_true rfl)⟩ rfl (Nat.le_of_ble_eq_true rfl) rfl rfl (fun _ _ h => h.elim) ?_
    rintro _ w2 ⟨rfl, fm2, h2⟩
    have ke2 := z_ke h2 ke0 rfl
    refine j_if_eq (tgt := 16) dX11_length_9 (by decide) (fun c_9_22 => ?_) (fun c_9_22 => ?_)
    · refine j_aload_n dX11_length_16 rfl rfl ?_
      refine j_getf dX11_length_17 fX11_21 h2.m rfl ?_
      refine j_iload_n dX11_length_20 rfl ?_
      obtain ⟨lv4, -, lg4⟩ := z_li.cell h2.rows
      refine j_callV (q := (RJx4a65c, TJx4a65c, 3)) dX11_length_21 kJx4a65c_get_915e3 lX11_82 inJx4a65c_get_915e3 seJx4a65c_get_915e3 lg4 rfl (cl_get hl w2 41 1001 _ _ (i2) _ h2.rows (z_two2 (i := i2) (by omega))) (Nat.le_of_ble_eq_true rfl) ⟨(Nat.le_of_ble_eq_true rfl), (Nat.le_of_ble_eq_true rfl)⟩ rfl (Nat.le_of_ble_eq_true rfl) rfl rfl (fun _ _ h => h.elim) ?_
      rintro _ _ ⟨rfl, hw5⟩
      refine j_w w2 hw5 ?_
      refine j_castS dX11_length_24 (z_w 1341 ((lwg_6 96).trans (by decide +kernel)) (by decide +kernel)) (z_li.is (h2.rw (i := i2) (by omega)).1) ?_
      obtain ⟨lv7, -, lg7⟩ := z_li.cell (h2.rw (i := i2) (by omega)).1
      refine j_callV (q := (RJx4a65c, TJx4a65c, 3)) dX11_length_27 kJx4a65c_size_8abf5 lX11_86 inJx4a65c_size_8abf5 seJx4a65c_size_8abf5 lg7 rfl (cl_sizeB hl w2 _ _ _ _ (h2.rw (i := i2) (by omega)).1) (Nat.le_of_ble_eq_true rfl) ⟨(Nat.le_of_ble_eq_true rfl), (Nat.le_of_ble_eq_true rfl)⟩ rfl (Nat.le_of_ble_eq_true rfl) rfl rfl (fun _ _ h => h.elim) ?_
      rintro _ _ ⟨⟨n8, rfl, hn8⟩, hw8⟩
      refine j_w w2 hw8 ?_
      have hn8 : n8 = (z_qw s (i2)).2.length := hn8
      have hz8 : (z_qw s (i2)).2.length ≤ 12 := (h2.rw (i := i2) (by omega)).2
      refine j_iret dX11_length_30 rfl rfl ?_ (Nat.le_of_ble_eq_true rfl) (Nat.le_of_ble_eq_true rfl)
      exact ⟨_, _, rfl, (fm2.le (q' := 59) (by decide)), h2, ke2⟩
    · exact absurd c_9_22 (by decide)
set_option maxRecDepth 100000 in
set_option maxHeartbeats 8000000 in
theorem cm_at (hl : l.stackTraces = false) (w : z_W) (s : z_Z) (x y : Int32) (h : z_mst w s)  : z_Con G l mX11_at 20 0 0 w [.ref 1000, .int x, .int y] (fun v w9 => ∃ (r : Int32) (s9 : z_Z), v = some (.int r) ∧ z_fm 59 w w9 ∧ z_mst w9 s9 ∧ z_key s9 = z_key s) (fun _ _ => False) := by
  have ke0 : z_key s = z_key s := rfl
  refine z_body hl (by decide) rfl (Nat.le_of_ble_eq_true rfl) ?_
  show z_J G l mX11_at _ 0 [(0, _), (1, _), (2, _)] [] _ 0 0
  refine j_aload_n dX11_at_0 rfl rfl ?_
  refine j_iload_n dX11_at_1 rfl ?_
  refine j_callS dX11_at_2 kX11_isNoTwo lX11_72 stX11_isNoTwo (cm_isNoTwo hl w _) (Nat.le_of_ble_eq_true rfl) ⟨(Nat.le_of_ble_eq_true rfl), (Nat.le_of_ble_eq_true rfl)⟩ rfl (Nat.le_of_ble_eq_true rfl) rfl rfl (fun _ _ h => h.elim) ?_
  rintro _ _ ⟨⟨rfl, hno9⟩ | ⟨rfl, i9, hi9, rfl⟩, hw9⟩
  · refine j_w w hw9 ?_
    refine j_iconst (v := 1) dX11_at_5 (by decide) ?_
    refine j_callV (q := (RX11, TX11, 8)) dX11_at_6 kX11_start lX11_76 inX11_start seX11_start h.m rfl (cm_start1 hl w _ _ h (by decide)) (Nat.le_of_ble_eq_true rfl) ⟨(Nat.le_of_ble_eq_true rfl), (Nat.le_of_ble_eq_true rfl)⟩ rfl (Nat.le_of_ble_eq_true rfl) rfl rfl (fun _ _ h => h.elim) ?_
    rintro _ w1 ⟨rfl, fm1, h1⟩
    have ke1 := z_ke h1 ke0 rfl
    refine j_if_ne (tgt := 49) dX11_at_9 (by decide) (fun c_9_11 => ?_) (fun c_9_11 => ?_)
    · refine j_iconst (v := 0) dX11_at_49 (by decide) ?_
      refine j_goto (tgt := 74) dX11_at_50 (by decide) ?_
      refine j_iret dX11_at_74 rfl rfl ?_ (Nat.le_of_ble_eq_true rfl) (Nat.le_of_ble_eq_true rfl)
      exact ⟨_, _, rfl, (fm1.le (q' := 59) (by decide)), h1, ke1⟩
    · exact absurd c_9_11 (by decide)
  · refine j_w w hw9 ?_
    refine j_iconst (v := 1) dX11_at_5 (by decide) ?_
    refine j_callV (q := (RX11, TX11, 8)) dX11_at_6 kX11_start lX11_76 inX11_start seX11_start h.m rfl (cm_start0 hl w _ _ h) (Nat.le_of_ble_eq_true rfl) ⟨(Nat.le_of_ble_eq_true rfl), (Nat.le_of_ble_eq_true rfl)⟩ rfl (Nat.le_of_ble_eq_true rfl) rfl rfl (fun _ _ h => h.elim) ?_
    rintro _ w2 ⟨rfl, fm2, h2⟩
    have ke2 := z_ke h2 ke0 rfl
    refine j_if_ne (tgt := 49) dX11_at_9 (by decide) (fun c_9_22 => ?_) (fun c_9_22 => ?_)
    · exact absurd c_9_22 (by decide)
    · refine j_aload_n dX11_at_12 rfl rfl ?_
      refine j_iload_n dX11_at_13 rfl ?_
      refine j_iconst (v := 0) dX11_at_14 (by decide) ?_
      refine j_aload_n dX11_at_15 rfl rfl ?_
      refine j_getf dX11_at_16 fX11_21 h2.m rfl ?_
      refine j_iload_n dX11_at_19 rfl ?_
      obtain ⟨lv11, -, lg11⟩ := z_li.cell h2.rows
      refine j_callV (q := (RJx4a65c, TJx4a65c, 3)) dX11_at_20 kJx4a65c_get_915e3 lX11_82 inJx4a65c_get_915e3 seJx4a65c_get_915e3 lg11 rfl (cl_get hl w2 41 1001 _ _ (i9) _ h2.rows (z_two2 (i := i9) (by omega))) (Nat.le_of_ble_eq_true rfl) ⟨(Nat.le_of_ble_eq_true rfl), (Nat.le_of_ble_eq_true rfl)⟩ rfl (Nat.le_of_ble_eq_true rfl) rfl rfl (fun _ _ h => h.elim) ?_
      rintro _ _ ⟨rfl, hw12⟩
      refine j_w w2 hw12 ?_
      refine j_castS dX11_at_23 (z_w 1341 ((lwg_6 96).trans (by decide +kernel)) (by decide +kernel)) (z_li.is (h2.rw (i := i9) (by omega)).1) ?_
      obtain ⟨lv14, -, lg14⟩ := z_li.cell (h2.rw (i := i9) (by omega)).1
      refine j_callV (q := (RJx4a65c, TJx4a65c, 3)) dX11_at_26 kJx4a65c_size_8abf5 lX11_86 inJx4a65c_size_8abf5 seJx4a65c_size_8abf5 lg14 rfl (cl_sizeB hl w2 _ _ _ _ (h2.rw (i := i9) (by omega)).1) (Nat.le_of_ble_eq_true rfl) ⟨(Nat.le_of_ble_eq_true rfl), (Nat.le_of_ble_eq_true rfl)⟩ rfl (Nat.le_of_ble_eq_true rfl) rfl rfl (fun _ _ h => h.elim) ?_
      rintro _ _ ⟨⟨n15, rfl, hn15⟩, hw15⟩
      refine j_w w2 hw15 ?_
      have hn15 : n15 = (z_qw s (i9)).2.length := hn15
      have hz15 : (z_qw s (i9)).2.length ≤ 12 := (h2.rw (i := i9) (by omega)).2
      refine j_iconst (v := 1) dX11_at_29 (by decide) ?_
      refine j_isub dX11_at_30 ?_
      refine j_callS dX11_at_31 kX11_isIn lX11_59 stX11_isIn (cm_isIn hl w2 _ _ _) (Nat.le_of_ble_eq_true rfl) ⟨(Nat.le_of_ble_eq_true rfl), (Nat.le_of_ble_eq_true rfl)⟩ rfl (Nat.le_of_ble_eq_true rfl) rfl rfl (fun _ _ h => h.elim) ?_
      rintro _ _ ⟨⟨rfl, hye16⟩ | ⟨rfl, hno16⟩, hw16⟩
      · refine j_w w2 hw16 ?_
        obtain ⟨k16, hk16, rfl⟩ := z_natm (by omega) hye16
        refine j_if_ne (tgt := 41) dX11_at_34 (by decide) (fun c_34_47 => ?_) (fun c_34_47 => ?_)
        · refine j_iconst (v := 0) dX11_at_41 (by decide) ?_
          refine j_iconst (v := 1) dX11_at_42 (by decide) ?_
          refine j_callV (q := (RX11, TX11, 8)) dX11_at_43 kX11_refuse lX11_52 inX11_refuse seX11_refuse h2.m rfl (cm_refuse0 hl w2 _ _ h2 rfl) (Nat.le_of_ble_eq_true rfl) ⟨(Nat.le_of_ble_eq_true rfl), (Nat.le_of_ble_eq_true rfl)⟩ rfl (Nat.le_of_ble_eq_true rfl) rfl rfl (fun _ _ h => h.elim) ?_
          rintro _ _ ⟨rfl, hw17⟩
          refine j_w w2 hw17 ?_
          refine j_if_eq (tgt := 53) dX11_at_46 (by decide) (fun c_46_53 => ?_) (fun c_46_53 => ?_)
          · refine j_aload_n dX11_at_53 rfl rfl ?_
            refine j_getf dX11_at_54 fX11_21 h2.m rfl ?_
            refine j_iload_n dX11_at_57 rfl ?_
            obtain ⟨lv19, -, lg19⟩ := z_li.cell h2.rows
            refine j_callV (q := (RJx4a65c, TJx4a65c, 3)) dX11_at_58 kJx4a65c_get_915e3 lX11_82 inJx4a65c_get_915e3 seJx4a65c_get_915e3 lg19 rfl (cl_get hl w2 41 1001 _ _ (i9) _ h2.rows (z_two2 (i := i9) (by omega))) (Nat.le_of_ble_eq_true rfl) ⟨(Nat.le_of_ble_eq_true rfl), (Nat.le_of_ble_eq_true rfl)⟩ rfl (Nat.le_of_ble_eq_true rfl) rfl rfl (fun _ _ h => h.elim) ?_
            rintro _ _ ⟨rfl, hw20⟩
            refine j_w w2 hw20 ?_
            refine j_castS dX11_at_61 (z_w 1341 ((lwg_6 96).trans (by decide +kernel)) (by decide +kernel)) (z_li.is (h2.rw (i := i9) (by omega)).1) ?_
            refine j_iload_n dX11_at_64 rfl ?_
            obtain ⟨lv23, -, lg23⟩ := z_li.cell (h2.rw (i := i9) (by omega)).1
            refine j_callV (q := (RJx4a65c, TJx4a65c, 3)) dX11_at_65 kJx4a65c_get_915e3 lX11_82 inJx4a65c_get_915e3 seJx4a65c_get_915e3 lg23 rfl (cl_get hl w2 _ _ _ _ (k16) _ (h2.rw (i := i9) (by omega)).1 (z_bx_get (B := (z_qw s (i9)).2) (by omega))) (Nat.le_of_ble_eq_true rfl) ⟨(Nat.le_of_ble_eq_true rfl), (Nat.le_of_ble_eq_true rfl)⟩ rfl (Nat.le_of_ble_eq_true rfl) rfl rfl (fun _ _ h => h.elim) ?_
            rintro _ _ ⟨rfl, hw24⟩
            refine j_w w2 hw24 ?_
            refine j_castS dX11_at_68 (z_w 1567 ((lwg_7 82).trans (by decide +kernel)) (by decide +kernel)) rfl ?_
            refine j_callVB (v0 := .float _) (C := "java/lang/Integer") dX11_at_71 kJ6_intValue_8abf5 lX11_99 inJ6_intValue_8abf5 seJ6_intValue_8abf5 rfl (c_J6_intValue_8abf5 hl w2 _) (Nat.le_of_ble_eq_true rfl) ⟨(Nat.le_of_ble_eq_true rfl), (Nat.le_of_ble_eq_true rfl)⟩ rfl (Nat.le_of_ble_eq_true rfl) rfl rfl (fun _ _ h => h.elim) ?_
            rintro _ _ ⟨rfl, hw26⟩
            refine j_w w2 hw26 ?_
            refine j_iret dX11_at_74 rfl rfl ?_ (Nat.le_of_ble_eq_true rfl) (Nat.le_of_ble_eq_true rfl)
            exact ⟨_, _, rfl, (fm2.le (q' := 59) (by decide)), h2, ke2⟩
          · exact absurd c_46_53 (by decide)
        · exact absurd c_34_47 (by decide)
      · refine j_w w2 hw16 ?_
        refine j_if_ne (tgt := 41) dX11_at_34 (by decide) (fun c_34_76 => ?_) (fun c_34_76 => ?_)
        · exact absurd c_34_76 (by decide)
        · refine j_iconst (v := 1) dX11_at_37 (by decide) ?_
          refine j_goto (tgt := 42) dX11_at_38 (by decide) ?_
          refine j_iconst (v := 1) dX11_at_42 (by decide) ?_
          refine j_callV (q := (RX11, TX11, 8)) dX11_at_43 kX11_refuse lX11_52 inX11_refuse seX11_refuse h2.m rfl (cm_refuse1 hl w2 _ _ h2 rfl (by decide)) (Nat.le_of_ble_eq_true rfl) ⟨(Nat.le_of_ble_eq_true rfl), (Nat.le_of_ble_eq_true rfl)⟩ rfl (Nat.le_of_ble_eq_true rfl) rfl rfl (fun _ _ h => h.elim) ?_
          rintro _ w3 ⟨rfl, fm3, h3⟩
          have ke3 := z_ke h3 ke2 rfl
          refine j_if_eq (tgt := 53) dX11_at_46 (by decide) (fun c_46_84 => ?_) (fun c_46_84 => ?_)
          · exact absurd c_46_84 (by decide)
          · refine j_iconst (v := 0) dX11_at_49 (by decide) ?_
            refine j_goto (tgt := 74) dX11_at_50 (by decide) ?_
            refine j_iret dX11_at_74 rfl rfl ?_ (Nat.le_of_ble_eq_true rfl) (Nat.le_of_ble_eq_true rfl)
            exact ⟨_, _, rfl, ((fm2.le (q' := 59) (by decide)).tr (fm3.le (q' := 59) (by decide))), h3, ke3⟩
set_option maxRecDepth 100000 in
set_option maxHeartbeats 8000000 in
theorem cm_isFixed (hl : l.stackTraces = false) (w : z_W) (s : z_Z) (x : Int32) (h : z_mst w s)  : z_Con G l mX11_isFixed 20 0 0 w [.ref 1000, .int x] (fun v w9 => ∃ (r : Int32) (s9 : z_Z), v = some (.int r) ∧ z_fm 59 w w9 ∧ z_mst w9 s9 ∧ z_key s9 = z_key s) (fun _ _ => False) := by
  have ke0 : z_key s = z_key s := rfl
  refine z_body hl (by decide) rfl (Nat.le_of_ble_eq_true rfl) ?_
  show z_J G l mX11_isFixed _ 0 [(0, _), (1, _)] [] _ 0 0
  refine j_aload_n dX11_isFixed_0 rfl rfl ?_
  refine j_iload_n dX11_isFixed_1 rfl ?_
  refine j_callS dX11_isFixed_2 kX11_isNoTwo lX11_72 stX11_isNoTwo (cm_isNoTwo hl w _) (Nat.le_of_ble_eq_true rfl) ⟨(Nat.le_of_ble_eq_true rfl), (Nat.le_of_ble_eq_true rfl)⟩ rfl (Nat.le_of_ble_eq_true rfl) rfl rfl (fun _ _ h => h.elim) ?_
  rintro _ _ ⟨⟨rfl, hno27⟩ | ⟨rfl, i27, hi27, rfl⟩, hw27⟩
  · refine j_w w hw27 ?_
    refine j_iconst (v := 1) dX11_isFixed_5 (by decide) ?_
    refine j_callV (q := (RX11, TX11, 8)) dX11_isFixed_6 kX11_start lX11_76 inX11_start seX11_start h.m rfl (cm_start1 hl w _ _ h (by decide)) (Nat.le_of_ble_eq_true rfl) ⟨(Nat.le_of_ble_eq_true rfl), (Nat.le_of_ble_eq_true rfl)⟩ rfl (Nat.le_of_ble_eq_true rfl) rfl rfl (fun _ _ h => h.elim) ?_
    rintro _ w1 ⟨rfl, fm1, h1⟩
    have ke1 := z_ke h1 ke0 rfl
    refine j_if_ne (tgt := 25) dX11_isFixed_9 (by decide) (fun c_9_11 => ?_) (fun c_9_11 => ?_)
    · refine j_iconst (v := 0) dX11_isFixed_25 (by decide) ?_
      refine j_iret dX11_isFixed_26 rfl rfl ?_ (Nat.le_of_ble_eq_true rfl) (Nat.le_of_ble_eq_true rfl)
      exact ⟨_, _, rfl, (fm1.le (q' := 59) (by decide)), h1, ke1⟩
    · exact absurd c_9_11 (by decide)
  · refine j_w w hw27 ?_
    refine j_iconst (v := 1) dX11_isFixed_5 (by decide) ?_
    refine j_callV (q := (RX11, TX11, 8)) dX11_isFixed_6 kX11_start lX11_76 inX11_start seX11_start h.m rfl (cm_start0 hl w _ _ h) (Nat.le_of_ble_eq_true rfl) ⟨(Nat.le_of_ble_eq_true rfl), (Nat.le_of_ble_eq_true rfl)⟩ rfl (Nat.le_of_ble_eq_true rfl) rfl rfl (fun _ _ h => h.elim) ?_
    rintro _ w2 ⟨rfl, fm2, h2⟩
    have ke2 := z_ke h2 ke0 rfl
    refine j_if_ne (tgt := 25) dX11_isFixed_9 (by decide) (fun c_9_21 => ?_) (fun c_9_21 => ?_)
    · exact absurd c_9_21 (by decide)
    · refine j_aload_n dX11_isFixed_12 rfl rfl ?_
      refine j_getf dX11_isFixed_13 fX11_25 h2.m rfl ?_
      refine j_iload_n dX11_isFixed_16 rfl ?_
      refine j_zald dX11_isFixed_17 h2.fx (vp_in_nI (by omega) (by omega)) rfl ?_
      refine j_if_eq (tgt := 25) dX11_isFixed_18 (by decide) (fun c_18_27 => ?_) (fun c_18_27 => ?_)
      · refine j_iconst (v := 0) dX11_isFixed_25 (by decide) ?_
        refine j_iret dX11_isFixed_26 rfl rfl ?_ (Nat.le_of_ble_eq_true rfl) (Nat.le_of_ble_eq_true rfl)
        exact ⟨_, _, rfl, (fm2.le (q' := 59) (by decide)), h2, ke2⟩
      · refine j_iconst (v := 1) dX11_isFixed_21 (by decide) ?_
        refine j_goto (tgt := 26) dX11_isFixed_22 (by decide) ?_
        refine j_iret dX11_isFixed_26 rfl rfl ?_ (Nat.le_of_ble_eq_true rfl) (Nat.le_of_ble_eq_true rfl)
        exact ⟨_, _, rfl, (fm2.le (q' := 59) (by decide)), h2, ke2⟩
set_option maxRecDepth 100000 in
set_option maxHeartbeats 8000000 in
theorem cm_counts (hl : l.stackTraces = false) (w : z_W) (s : z_Z) (x y : Int32) (h : z_mst w s)  : z_Con G l mX11_counts 20 0 0 w [.ref 1000, .int x, .int y] (fun v w9 => ∃ (r : Int32) (s9 : z_Z), v = some (.int r) ∧ z_fm 59 w w9 ∧ z_mst w9 s9 ∧ z_key s9 = z_key s) (fun _ _ => False) := by
  have ke0 : z_key s = z_key s := rfl
  refine z_body hl (by decide) rfl (Nat.le_of_ble_eq_true rfl) ?_
  show z_J G l mX11_counts _ 0 [(0, _), (1, _), (2, _)] [] _ 0 0
  refine j_aload_n dX11_counts_0 rfl rfl ?_
  refine j_iload_n dX11_counts_1 rfl ?_
  refine j_callS dX11_counts_2 kX11_isNoTwo lX11_72 stX11_isNoTwo (cm_isNoTwo hl w _) (Nat.le_of_ble_eq_true rfl) ⟨(Nat.le_of_ble_eq_true rfl), (Nat.le_of_ble_eq_true rfl)⟩ rfl (Nat.le_of_ble_eq_true rfl) rfl rfl (fun _ _ h => h.elim) ?_
  rintro _ _ ⟨⟨rfl, hno29⟩ | ⟨rfl, i29, hi29, rfl⟩, hw29⟩
  · refine j_w w hw29 ?_
    refine j_iconst (v := 1) dX11_counts_5 (by decide) ?_
    refine j_callV (q := (RX11, TX11, 8)) dX11_counts_6 kX11_start lX11_76 inX11_start seX11_start h.m rfl (cm_start1 hl w _ _ h (by decide)) (Nat.le_of_ble_eq_true rfl) ⟨(Nat.le_of_ble_eq_true rfl), (Nat.le_of_ble_eq_true rfl)⟩ rfl (Nat.le_of_ble_eq_true rfl) rfl rfl (fun _ _ h => h.elim) ?_
    rintro _ w1 ⟨rfl, fm1, h1⟩
    have ke1 := z_ke h1 ke0 rfl
    refine j_if_ne (tgt := 34) dX11_counts_9 (by decide) (fun c_9_11 => ?_) (fun c_9_11 => ?_)
    · refine j_iconst (v := 0) dX11_counts_34 (by decide) ?_
      refine j_goto (tgt := 46) dX11_counts_35 (by decide) ?_
      refine j_iret dX11_counts_46 rfl rfl ?_ (Nat.le_of_ble_eq_true rfl) (Nat.le_of_ble_eq_true rfl)
      exact ⟨_, _, rfl, (fm1.le (q' := 59) (by decide)), h1, ke1⟩
    · exact absurd c_9_11 (by decide)
  · refine j_w w hw29 ?_
    refine j_iconst (v := 1) dX11_counts_5 (by decide) ?_
    refine j_callV (q := (RX11, TX11, 8)) dX11_counts_6 kX11_start lX11_76 inX11_start seX11_start h.m rfl (cm_start0 hl w _ _ h) (Nat.le_of_ble_eq_true rfl) ⟨(Nat.le_of_ble_eq_true rfl), (Nat.le_of_ble_eq_true rfl)⟩ rfl (Nat.le_of_ble_eq_true rfl) rfl rfl (fun _ _ h => h.elim) ?_
    rintro _ w2 ⟨rfl, fm2, h2⟩
    have ke2 := z_ke h2 ke0 rfl
    refine j_if_ne (tgt := 34) dX11_counts_9 (by decide) (fun c_9_22 => ?_) (fun c_9_22 => ?_)
    · exact absurd c_9_22 (by decide)
    · refine j_aload_n dX11_counts_12 rfl rfl ?_
      refine j_iload_n dX11_counts_13 rfl ?_
      refine j_iconst (v := 0) dX11_counts_14 (by decide) ?_
      refine j_iconst (v := 4) dX11_counts_15 (by decide) ?_
      refine j_callS dX11_counts_16 kX11_isIn lX11_59 stX11_isIn (cm_isIn hl w2 _ _ _) (Nat.le_of_ble_eq_true rfl) ⟨(Nat.le_of_ble_eq_true rfl), (Nat.le_of_ble_eq_true rfl)⟩ rfl (Nat.le_of_ble_eq_true rfl) rfl rfl (fun _ _ h => h.elim) ?_
      rintro _ _ ⟨⟨rfl, hi30⟩ | ⟨rfl, hno30⟩, hw30⟩
      · refine j_w w2 hw30 ?_
        obtain ⟨i30, hi30', rfl⟩ := z_nat (m := 4) rfl rfl (by omega) hi30
        refine j_if_ne (tgt := 26) dX11_counts_19 (by decide) (fun c_19_32 => ?_) (fun c_19_32 => ?_)
        · refine j_iconst (v := 0) dX11_counts_26 (by decide) ?_
          refine j_iconst (v := 2) dX11_counts_27 (by decide) ?_
          refine j_callV (q := (RX11, TX11, 8)) dX11_counts_28 kX11_refuse lX11_52 inX11_refuse seX11_refuse h2.m rfl (cm_refuse0 hl w2 _ _ h2 rfl) (Nat.le_of_ble_eq_true rfl) ⟨(Nat.le_of_ble_eq_true rfl), (Nat.le_of_ble_eq_true rfl)⟩ rfl (Nat.le_of_ble_eq_true rfl) rfl rfl (fun _ _ h => h.elim) ?_
          rintro _ _ ⟨rfl, hw31⟩
          refine j_w w2 hw31 ?_
          refine j_if_eq (tgt := 38) dX11_counts_31 (by decide) (fun c_31_38 => ?_) (fun c_31_38 => ?_)
          · refine j_aload_n dX11_counts_38 rfl rfl ?_
            refine j_getf dX11_counts_39 fX11_31 h2.m rfl ?_
            refine j_iload_n dX11_counts_42 rfl ?_
            obtain ⟨fz32, gz32, hz32⟩ := h2.co
            refine j_aald (v := .ref (1004 + i29)) dX11_counts_43 gz32 rfl rfl (vp_in_nI (by omega) (by omega)) (by rw [z_cla (by omega)]; exact hz32 _ (by omega)) ?_
            refine j_iload_n dX11_counts_44 rfl ?_
            refine j_ld dX11_counts_45 (h2.cn (i := i29) (by omega)) (vp_in_nI (by omega) (by omega)) ?_
            refine j_iret dX11_counts_46 rfl rfl ?_ (Nat.le_of_ble_eq_true rfl) (Nat.le_of_ble_eq_true rfl)
            exact ⟨_, _, rfl, (fm2.le (q' := 59) (by decide)), h2, ke2⟩
          · exact absurd c_31_38 (by decide)
        · exact absurd c_19_32 (by decide)
      · refine j_w w2 hw30 ?_
        refine j_if_ne (tgt := 26) dX11_counts_19 (by decide) (fun c_19_51 => ?_) (fun c_19_51 => ?_)
        · exact absurd c_19_51 (by decide)
        · refine j_iconst (v := 1) dX11_counts_22 (by decide) ?_
          refine j_goto (tgt := 27) dX11_counts_23 (by decide) ?_
          refine j_iconst (v := 2) dX11_counts_27 (by decide) ?_
          refine j_callV (q := (RX11, TX11, 8)) dX11_counts_28 kX11_refuse lX11_52 inX11_refuse seX11_refuse h2.m rfl (cm_refuse1 hl w2 _ _ h2 rfl (by decide)) (Nat.le_of_ble_eq_true rfl) ⟨(Nat.le_of_ble_eq_true rfl), (Nat.le_of_ble_eq_true rfl)⟩ rfl (Nat.le_of_ble_eq_true rfl) rfl rfl (fun _ _ h => h.elim) ?_
          rintro _ w3 ⟨rfl, fm3, h3⟩
          have ke3 := z_ke h3 ke2 rfl
          refine j_if_eq (tgt := 38) dX11_counts_31 (by decide) (fun c_31_59 => ?_) (fun c_31_59 => ?_)
          · exact absurd c_31_59 (by decide)
          · refine j_iconst (v := 0) dX11_counts_34 (by decide) ?_
            refine j_goto (tgt := 46) dX11_counts_35 (by decide) ?_
            refine j_iret dX11_counts_46 rfl rfl ?_ (Nat.le_of_ble_eq_true rfl) (Nat.le_of_ble_eq_true rfl)
            exact ⟨_, _, rfl, ((fm2.le (q' := 59) (by decide)).tr (fm3.le (q' := 59) (by decide))), h3, ke3⟩
set_option maxRecDepth 100000 in
set_option maxHeartbeats 8000000 in
theorem cm_shelfCounts (hl : l.stackTraces = false) (w : z_W) (s : z_Z) (x : Int32) (h : z_mst w s)  : z_Con G l mX11_shelfCounts 20 0 0 w [.ref 1000, .int x] (fun v w9 => ∃ (r : Int32) (s9 : z_Z), v = some (.int r) ∧ z_fm 59 w w9 ∧ z_mst w9 s9 ∧ z_key s9 = z_key s) (fun _ _ => False) := by
  have ke0 : z_key s = z_key s := rfl
  refine z_body hl (by decide) rfl (Nat.le_of_ble_eq_true rfl) ?_
  show z_J G l mX11_shelfCounts _ 0 [(0, _), (1, _)] [] _ 0 0
  refine j_aload_n dX11_shelfCounts_0 rfl rfl ?_
  refine j_iload_n dX11_shelfCounts_1 rfl ?_
  refine j_iconst (v := 0) dX11_shelfCounts_2 (by decide) ?_
  refine j_bipush (v := 6) dX11_shelfCounts_3 (by decide) ?_
  refine j_callS dX11_shelfCounts_5 kX11_isIn lX11_59 stX11_isIn (cm_isIn hl w _ _ _) (Nat.le_of_ble_eq_true rfl) ⟨(Nat.le_of_ble_eq_true rfl), (Nat.le_of_ble_eq_true rfl)⟩ rfl (Nat.le_of_ble_eq_true rfl) rfl rfl (fun _ _ h => h.elim) ?_
  rintro _ _ ⟨⟨rfl, hi34⟩ | ⟨rfl, hno34⟩, hw34⟩
  · refine j_w w hw34 ?_
    obtain ⟨i34, hi34', rfl⟩ := z_nat (m := 6) rfl rfl (by omega) hi34
    refine j_if_ne (tgt := 15) dX11_shelfCounts_8 (by decide) (fun c_8_10 => ?_) (fun c_8_10 => ?_)
    · refine j_iconst (v := 0) dX11_shelfCounts_15 (by decide) ?_
      refine j_iconst (v := 1) dX11_shelfCounts_16 (by decide) ?_
      refine j_callV (q := (RX11, TX11, 8)) dX11_shelfCounts_17 kX11_start lX11_76 inX11_start seX11_start h.m rfl (cm_start0 hl w _ _ h) (Nat.le_of_ble_eq_true rfl) ⟨(Nat.le_of_ble_eq_true rfl), (Nat.le_of_ble_eq_true rfl)⟩ rfl (Nat.le_of_ble_eq_true rfl) rfl rfl (fun _ _ h => h.elim) ?_
      rintro _ w1 ⟨rfl, fm1, h1⟩
      have ke1 := z_ke h1 ke0 rfl
      refine j_if_eq (tgt := 27) dX11_shelfCounts_20 (by decide) (fun c_20_16 => ?_) (fun c_20_16 => ?_)
      · refine j_aload_n dX11_shelfCounts_27 rfl rfl ?_
        refine j_getf dX11_shelfCounts_28 fX11_31 h1.m rfl ?_
        refine j_iconst (v := 2) dX11_shelfCounts_31 (by decide) ?_
        obtain ⟨fz35, gz35, hz35⟩ := h1.co
        refine j_aald (v := .ref (1004 + 2)) dX11_shelfCounts_32 gz35 rfl rfl (vp_in_nI (n := 2) (by decide) (by decide)) (by rw [show (2 : Int32).toNatClampNeg = 2 by decide]; exact hz35 _ (by decide)) ?_
        refine j_iload_n dX11_shelfCounts_33 rfl ?_
        refine j_ld dX11_shelfCounts_34 (h1.cn (i := 2) (by decide)) (vp_in_nI (by omega) (by omega)) ?_
        refine j_iret dX11_shelfCounts_35 rfl rfl ?_ (Nat.le_of_ble_eq_true rfl) (Nat.le_of_ble_eq_true rfl)
        exact ⟨_, _, rfl, (fm1.le (q' := 59) (by decide)), h1, ke1⟩
      · exact absurd c_20_16 (by decide)
    · exact absurd c_8_10 (by decide)
  · refine j_w w hw34 ?_
    refine j_if_ne (tgt := 15) dX11_shelfCounts_8 (by decide) (fun c_8_29 => ?_) (fun c_8_29 => ?_)
    · exact absurd c_8_29 (by decide)
    · refine j_iconst (v := 1) dX11_shelfCounts_11 (by decide) ?_
      refine j_goto (tgt := 16) dX11_shelfCounts_12 (by decide) ?_
      refine j_iconst (v := 1) dX11_shelfCounts_16 (by decide) ?_
      refine j_callV (q := (RX11, TX11, 8)) dX11_shelfCounts_17 kX11_start lX11_76 inX11_start seX11_start h.m rfl (cm_start1 hl w _ _ h (by decide)) (Nat.le_of_ble_eq_true rfl) ⟨(Nat.le_of_ble_eq_true rfl), (Nat.le_of_ble_eq_true rfl)⟩ rfl (Nat.le_of_ble_eq_true rfl) rfl rfl (fun _ _ h => h.elim) ?_
      rintro _ w2 ⟨rfl, fm2, h2⟩
      have ke2 := z_ke h2 ke0 rfl
      refine j_if_eq (tgt := 27) dX11_shelfCounts_20 (by decide) (fun c_20_37 => ?_) (fun c_20_37 => ?_)
      · exact absurd c_20_37 (by decide)
      · refine j_iconst (v := 0) dX11_shelfCounts_23 (by decide) ?_
        refine j_goto (tgt := 35) dX11_shelfCounts_24 (by decide) ?_
        refine j_iret dX11_shelfCounts_35 rfl rfl ?_ (Nat.le_of_ble_eq_true rfl) (Nat.le_of_ble_eq_true rfl)
        exact ⟨_, _, rfl, (fm2.le (q' := 59) (by decide)), h2, ke2⟩
set_option maxRecDepth 100000 in
set_option maxHeartbeats 8000000 in
theorem cm_heard (hl : l.stackTraces = false) (w : z_W) (s : z_Z) (x y : Int32) (h : z_mst w s)  : z_Con G l mX11_heard 20 0 0 w [.ref 1000, .int x, .int y] (fun v w9 => ∃ (r : Int32) (s9 : z_Z), v = some (.int r) ∧ z_fm 59 w w9 ∧ z_mst w9 s9 ∧ z_key s9 = z_key s) (fun _ _ => False) := by
  have ke0 : z_key s = z_key s := rfl
  refine z_body hl (by decide) rfl (Nat.le_of_ble_eq_true rfl) ?_
  show z_J G l mX11_heard _ 0 [(0, _), (1, _), (2, _)] [] _ 0 0
  refine j_aload_n dX11_heard_0 rfl rfl ?_
  refine j_iload_n dX11_heard_1 rfl ?_
  refine j_callS dX11_heard_2 kX11_isNoTwo lX11_72 stX11_isNoTwo (cm_isNoTwo hl w _) (Nat.le_of_ble_eq_true rfl) ⟨(Nat.le_of_ble_eq_true rfl), (Nat.le_of_ble_eq_true rfl)⟩ rfl (Nat.le_of_ble_eq_true rfl) rfl rfl (fun _ _ h => h.elim) ?_
  rintro _ _ ⟨⟨rfl, hno37⟩ | ⟨rfl, i37, hi37, rfl⟩, hw37⟩
  · refine j_w w hw37 ?_
    refine j_iconst (v := 1) dX11_heard_5 (by decide) ?_
    refine j_callV (q := (RX11, TX11, 8)) dX11_heard_6 kX11_start lX11_76 inX11_start seX11_start h.m rfl (cm_start1 hl w _ _ h (by decide)) (Nat.le_of_ble_eq_true rfl) ⟨(Nat.le_of_ble_eq_true rfl), (Nat.le_of_ble_eq_true rfl)⟩ rfl (Nat.le_of_ble_eq_true rfl) rfl rfl (fun _ _ h => h.elim) ?_
    rintro _ w1 ⟨rfl, fm1, h1⟩
    have ke1 := z_ke h1 ke0 rfl
    refine j_if_ne (tgt := 34) dX11_heard_9 (by decide) (fun c_9_11 => ?_) (fun c_9_11 => ?_)
    · refine j_iconst (v := 0) dX11_heard_34 (by decide) ?_
      refine j_goto (tgt := 44) dX11_heard_35 (by decide) ?_
      refine j_iret dX11_heard_44 rfl rfl ?_ (Nat.le_of_ble_eq_true rfl) (Nat.le_of_ble_eq_true rfl)
      exact ⟨_, _, rfl, (fm1.le (q' := 59) (by decide)), h1, ke1⟩
    · exact absurd c_9_11 (by decide)
  · refine j_w w hw37 ?_
    refine j_iconst (v := 1) dX11_heard_5 (by decide) ?_
    refine j_callV (q := (RX11, TX11, 8)) dX11_heard_6 kX11_start lX11_76 inX11_start seX11_start h.m rfl (cm_start0 hl w _ _ h) (Nat.le_of_ble_eq_true rfl) ⟨(Nat.le_of_ble_eq_true rfl), (Nat.le_of_ble_eq_true rfl)⟩ rfl (Nat.le_of_ble_eq_true rfl) rfl rfl (fun _ _ h => h.elim) ?_
    rintro _ w2 ⟨rfl, fm2, h2⟩
    have ke2 := z_ke h2 ke0 rfl
    refine j_if_ne (tgt := 34) dX11_heard_9 (by decide) (fun c_9_22 => ?_) (fun c_9_22 => ?_)
    · exact absurd c_9_22 (by decide)
    · refine j_aload_n dX11_heard_12 rfl rfl ?_
      refine j_iload_n dX11_heard_13 rfl ?_
      refine j_iconst (v := 0) dX11_heard_14 (by decide) ?_
      refine j_iconst (v := 3) dX11_heard_15 (by decide) ?_
      refine j_callS dX11_heard_16 kX11_isIn lX11_59 stX11_isIn (cm_isIn hl w2 _ _ _) (Nat.le_of_ble_eq_true rfl) ⟨(Nat.le_of_ble_eq_true rfl), (Nat.le_of_ble_eq_true rfl)⟩ rfl (Nat.le_of_ble_eq_true rfl) rfl rfl (fun _ _ h => h.elim) ?_
      rintro _ _ ⟨⟨rfl, hi38⟩ | ⟨rfl, hno38⟩, hw38⟩
      · refine j_w w2 hw38 ?_
        obtain ⟨i38, hi38', rfl⟩ := z_nat (m := 3) rfl rfl (by omega) hi38
        refine j_if_ne (tgt := 26) dX11_heard_19 (by decide) (fun c_19_32 => ?_) (fun c_19_32 => ?_)
        · refine j_iconst (v := 0) dX11_heard_26 (by decide) ?_
          refine j_iconst (v := 2) dX11_heard_27 (by decide) ?_
          refine j_callV (q := (RX11, TX11, 8)) dX11_heard_28 kX11_refuse lX11_52 inX11_refuse seX11_refuse h2.m rfl (cm_refuse0 hl w2 _ _ h2 rfl) (Nat.le_of_ble_eq_true rfl) ⟨(Nat.le_of_ble_eq_true rfl), (Nat.le_of_ble_eq_true rfl)⟩ rfl (Nat.le_of_ble_eq_true rfl) rfl rfl (fun _ _ h => h.elim) ?_
          rintro _ _ ⟨rfl, hw39⟩
          refine j_w w2 hw39 ?_
          refine j_if_eq (tgt := 38) dX11_heard_31 (by decide) (fun c_31_38 => ?_) (fun c_31_38 => ?_)
          · refine j_aload_n dX11_heard_38 rfl rfl ?_
            refine j_iload_n dX11_heard_39 rfl ?_
            refine j_iload_n dX11_heard_40 rfl ?_
            refine j_callV (q := (RX11, TX11, 8)) dX11_heard_41 kX11_heardTold lX11_205 inX11_heardTold seX11_heardTold h2.m rfl (cm_heardTold hl w2 _ _ _ h2 (by omega)) (Nat.le_of_ble_eq_true rfl) ⟨(Nat.le_of_ble_eq_true rfl), (Nat.le_of_ble_eq_true rfl)⟩ rfl (Nat.le_of_ble_eq_true rfl) rfl rfl (fun _ _ h => h.elim) ?_
            rintro _ _ ⟨⟨r40, rfl⟩, hw40⟩
            refine j_w w2 hw40 ?_
            refine j_iret dX11_heard_44 rfl rfl ?_ (Nat.le_of_ble_eq_true rfl) (Nat.le_of_ble_eq_true rfl)
            exact ⟨_, _, rfl, (fm2.le (q' := 59) (by decide)), h2, ke2⟩
          · exact absurd c_31_38 (by decide)
        · exact absurd c_19_32 (by decide)
      · refine j_w w2 hw38 ?_
        refine j_if_ne (tgt := 26) dX11_heard_19 (by decide) (fun c_19_50 => ?_) (fun c_19_50 => ?_)
        · exact absurd c_19_50 (by decide)
        · refine j_iconst (v := 1) dX11_heard_22 (by decide) ?_
          refine j_goto (tgt := 27) dX11_heard_23 (by decide) ?_
          refine j_iconst (v := 2) dX11_heard_27 (by decide) ?_
          refine j_callV (q := (RX11, TX11, 8)) dX11_heard_28 kX11_refuse lX11_52 inX11_refuse seX11_refuse h2.m rfl (cm_refuse1 hl w2 _ _ h2 rfl (by decide)) (Nat.le_of_ble_eq_true rfl) ⟨(Nat.le_of_ble_eq_true rfl), (Nat.le_of_ble_eq_true rfl)⟩ rfl (Nat.le_of_ble_eq_true rfl) rfl rfl (fun _ _ h => h.elim) ?_
          rintro _ w3 ⟨rfl, fm3, h3⟩
          have ke3 := z_ke h3 ke2 rfl
          refine j_if_eq (tgt := 38) dX11_heard_31 (by decide) (fun c_31_58 => ?_) (fun c_31_58 => ?_)
          · exact absurd c_31_58 (by decide)
          · refine j_iconst (v := 0) dX11_heard_34 (by decide) ?_
            refine j_goto (tgt := 44) dX11_heard_35 (by decide) ?_
            refine j_iret dX11_heard_44 rfl rfl ?_ (Nat.le_of_ble_eq_true rfl) (Nat.le_of_ble_eq_true rfl)
            exact ⟨_, _, rfl, ((fm2.le (q' := 59) (by decide)).tr (fm3.le (q' := 59) (by decide))), h3, ke3⟩
set_option maxRecDepth 100000 in
set_option maxHeartbeats 8000000 in
theorem cm_takeStep (hl : l.stackTraces = false) (w : z_W) (s : z_Z) (x y : Int32) (h : z_mst w s)  : z_Con G l mX11_takeStep 20 0 0 w [.ref 1000, .int x, .int y] (fun v w9 => ∃ (r : Int32) (s9 : z_Z), v = some (.int r) ∧ z_fm 59 w w9 ∧ z_mst w9 s9 ∧ z_key s9 = z_key s) (fun _ _ => False) := by
  have ke0 : z_key s = z_key s := rfl
  refine z_body hl (by decide) rfl (Nat.le_of_ble_eq_true rfl) ?_
  show z_J G l mX11_takeStep _ 0 [(0, _), (1, _), (2, _)] [] _ 0 0
  refine j_aload_n dX11_takeStep_0 rfl rfl ?_
  refine j_iload_n dX11_takeStep_1 rfl ?_
  refine j_callS dX11_takeStep_2 kX11_isNoValue lX11_79 stX11_isNoValue (cm_isNoValue hl w _) (Nat.le_of_ble_eq_true rfl) ⟨(Nat.le_of_ble_eq_true rfl), (Nat.le_of_ble_eq_true rfl)⟩ rfl (Nat.le_of_ble_eq_true rfl) rfl rfl (fun _ _ h => h.elim) ?_
  rintro _ _ ⟨⟨rfl, hno41⟩ | ⟨rfl, hye41⟩, hw41⟩
  · refine j_w w hw41 ?_
    refine j_if_ne (tgt := 20) dX11_takeStep_5 (by decide) (fun c_5_7 => ?_) (fun c_5_7 => ?_)
    · refine j_iconst (v := 1) dX11_takeStep_20 (by decide) ?_
      refine j_goto (tgt := 25) dX11_takeStep_21 (by decide) ?_
      refine j_iconst (v := 1) dX11_takeStep_25 (by decide) ?_
      refine j_callV (q := (RX11, TX11, 8)) dX11_takeStep_26 kX11_start lX11_76 inX11_start seX11_start h.m rfl (cm_start1 hl w _ _ h (by decide)) (Nat.le_of_ble_eq_true rfl) ⟨(Nat.le_of_ble_eq_true rfl), (Nat.le_of_ble_eq_true rfl)⟩ rfl (Nat.le_of_ble_eq_true rfl) rfl rfl (fun _ _ h => h.elim) ?_
      rintro _ w1 ⟨rfl, fm1, h1⟩
      have ke1 := z_ke h1 ke0 rfl
      refine j_if_eq (tgt := 36) dX11_takeStep_29 (by decide) (fun c_29_14 => ?_) (fun c_29_14 => ?_)
      · exact absurd c_29_14 (by decide)
      · refine j_iconst (v := 0) dX11_takeStep_32 (by decide) ?_
        refine j_goto (tgt := 40) dX11_takeStep_33 (by decide) ?_
        refine j_iret dX11_takeStep_40 rfl rfl ?_ (Nat.le_of_ble_eq_true rfl) (Nat.le_of_ble_eq_true rfl)
        exact ⟨_, _, rfl, (fm1.le (q' := 59) (by decide)), h1, ke1⟩
    · exact absurd c_5_7 (by decide)
  · refine j_w w hw41 ?_
    refine j_if_ne (tgt := 20) dX11_takeStep_5 (by decide) (fun c_5_22 => ?_) (fun c_5_22 => ?_)
    · exact absurd c_5_22 (by decide)
    · refine j_iload_n dX11_takeStep_8 rfl ?_
      refine j_callS dX11_takeStep_9 kX11_isNoValue lX11_79 stX11_isNoValue (cm_isNoValue hl w _) (Nat.le_of_ble_eq_true rfl) ⟨(Nat.le_of_ble_eq_true rfl), (Nat.le_of_ble_eq_true rfl)⟩ rfl (Nat.le_of_ble_eq_true rfl) rfl rfl (fun _ _ h => h.elim) ?_
      rintro _ _ ⟨⟨rfl, hno42⟩ | ⟨rfl, hye42⟩, hw42⟩
      · refine j_w w hw42 ?_
        refine j_if_ne (tgt := 20) dX11_takeStep_12 (by decide) (fun c_12_28 => ?_) (fun c_12_28 => ?_)
        · refine j_iconst (v := 1) dX11_takeStep_20 (by decide) ?_
          refine j_goto (tgt := 25) dX11_takeStep_21 (by decide) ?_
          refine j_iconst (v := 1) dX11_takeStep_25 (by decide) ?_
          refine j_callV (q := (RX11, TX11, 8)) dX11_takeStep_26 kX11_start lX11_76 inX11_start seX11_start h.m rfl (cm_start1 hl w _ _ h (by decide)) (Nat.le_of_ble_eq_true rfl) ⟨(Nat.le_of_ble_eq_true rfl), (Nat.le_of_ble_eq_true rfl)⟩ rfl (Nat.le_of_ble_eq_true rfl) rfl rfl (fun _ _ h => h.elim) ?_
          rintro _ w2 ⟨rfl, fm2, h2⟩
          have ke2 := z_ke h2 ke0 rfl
          refine j_if_eq (tgt := 36) dX11_takeStep_29 (by decide) (fun c_29_35 => ?_) (fun c_29_35 => ?_)
          · exact absurd c_29_35 (by decide)
          · refine j_iconst (v := 0) dX11_takeStep_32 (by decide) ?_
            refine j_goto (tgt := 40) dX11_takeStep_33 (by decide) ?_
            refine j_iret dX11_takeStep_40 rfl rfl ?_ (Nat.le_of_ble_eq_true rfl) (Nat.le_of_ble_eq_true rfl)
            exact ⟨_, _, rfl, (fm2.le (q' := 59) (by decide)), h2, ke2⟩
        · exact absurd c_12_28 (by decide)
      · refine j_w w hw42 ?_
        refine j_if_ne (tgt := 20) dX11_takeStep_12 (by decide) (fun c_12_43 => ?_) (fun c_12_43 => ?_)
        · exact absurd c_12_43 (by decide)
        · refine j_iload_n dX11_takeStep_15 rfl ?_
          refine j_iload_n dX11_takeStep_16 rfl ?_
          refine j_icmp_le (tgt := 24) dX11_takeStep_17 (by decide) (fun c_17_47 => ?_) (fun c_17_47 => ?_)
          · refine j_iconst (v := 0) dX11_takeStep_24 (by decide) ?_
            refine j_iconst (v := 1) dX11_takeStep_25 (by decide) ?_
            refine j_callV (q := (RX11, TX11, 8)) dX11_takeStep_26 kX11_start lX11_76 inX11_start seX11_start h.m rfl (cm_start0 hl w _ _ h) (Nat.le_of_ble_eq_true rfl) ⟨(Nat.le_of_ble_eq_true rfl), (Nat.le_of_ble_eq_true rfl)⟩ rfl (Nat.le_of_ble_eq_true rfl) rfl rfl (fun _ _ h => h.elim) ?_
            rintro _ w3 ⟨rfl, fm3, h3⟩
            have ke3 := z_ke h3 ke0 rfl
            refine j_if_eq (tgt := 36) dX11_takeStep_29 (by decide) (fun c_29_53 => ?_) (fun c_29_53 => ?_)
            · refine j_aload_n dX11_takeStep_36 rfl rfl ?_
              refine j_callV (q := (RX11, TX11, 8)) dX11_takeStep_37 kX11_nine lX11_105 inX11_nine seX11_nine h3.m rfl (cm_nine hl w3 _ h3) (Nat.le_of_ble_eq_true rfl) ⟨(Nat.le_of_ble_eq_true rfl), (Nat.le_of_ble_eq_true rfl)⟩ rfl (Nat.le_of_ble_eq_true rfl) rfl rfl (fun _ _ h => h.elim) ?_
              rintro _ w4 ⟨rfl, fm4, h4⟩
              have ke4 := z_ke h4 ke3 rfl
              refine j_iret dX11_takeStep_40 rfl rfl ?_ (Nat.le_of_ble_eq_true rfl) (Nat.le_of_ble_eq_true rfl)
              exact ⟨_, _, rfl, ((fm3.le (q' := 59) (by decide)).tr (fm4.le (q' := 59) (by decide))), h4, ke4⟩
            · exact absurd c_29_53 (by decide)
          · refine j_iconst (v := 1) dX11_takeStep_20 (by decide) ?_
            refine j_goto (tgt := 25) dX11_takeStep_21 (by decide) ?_
            refine j_iconst (v := 1) dX11_takeStep_25 (by decide) ?_
            refine j_callV (q := (RX11, TX11, 8)) dX11_takeStep_26 kX11_start lX11_76 inX11_start seX11_start h.m rfl (cm_start1 hl w _ _ h (by decide)) (Nat.le_of_ble_eq_true rfl) ⟨(Nat.le_of_ble_eq_true rfl), (Nat.le_of_ble_eq_true rfl)⟩ rfl (Nat.le_of_ble_eq_true rfl) rfl rfl (fun _ _ h => h.elim) ?_
            rintro _ w5 ⟨rfl, fm5, h5⟩
            have ke5 := z_ke h5 ke0 rfl
            refine j_if_eq (tgt := 36) dX11_takeStep_29 (by decide) (fun c_29_67 => ?_) (fun c_29_67 => ?_)
            · exact absurd c_29_67 (by decide)
            · refine j_iconst (v := 0) dX11_takeStep_32 (by decide) ?_
              refine j_goto (tgt := 40) dX11_takeStep_33 (by decide) ?_
              refine j_iret dX11_takeStep_40 rfl rfl ?_ (Nat.le_of_ble_eq_true rfl) (Nat.le_of_ble_eq_true rfl)
              exact ⟨_, _, rfl, (fm5.le (q' := 59) (by decide)), h5, ke5⟩
set_option maxRecDepth 100000 in
set_option maxHeartbeats 8000000 in
theorem cm_given (hl : l.stackTraces = false) (w : z_W) (s : z_Z) (a b c d : Int32) (h : z_mst w s)  : z_Con G l mX11_given 20 0 0 w [.ref 1000, .int a, .int b, .int c, .int d] (fun v w9 => ∃ (r : Int32) (s9 : z_Z), v = some (.int r) ∧ z_fm 59 w w9 ∧ z_mst w9 s9 ∧ z_key s9 = z_key s) (fun _ _ => False) := by
  have ke0 : z_key s = z_key s := rfl
  refine z_body hl (by decide) rfl (Nat.le_of_ble_eq_true rfl) ?_
  show z_J G l mX11_given _ 0 [(0, _), (1, _), (2, _), (3, _), (4, _)] [] _ 0 0
  refine j_aload_n dX11_given_0 rfl rfl ?_
  refine j_iload_n dX11_given_1 rfl ?_
  refine j_callS dX11_given_2 kX11_isNoKey lX11_139 stX11_isNoKey (cm_isNoKey hl w _) (Nat.le_of_ble_eq_true rfl) ⟨(Nat.le_of_ble_eq_true rfl), (Nat.le_of_ble_eq_true rfl)⟩ rfl (Nat.le_of_ble_eq_true rfl) rfl rfl (fun _ _ h => h.elim) ?_
  rintro _ _ ⟨⟨rfl, hno43⟩ | ⟨rfl, i43, hi43, rfl⟩, hw43⟩
  · refine j_w w hw43 ?_
    refine j_if_ne (tgt := 38) dX11_given_5 (by decide) (fun c_5_7 => ?_) (fun c_5_7 => ?_)
    · refine j_iconst (v := 1) dX11_given_38 (by decide) ?_
      refine j_goto (tgt := 43) dX11_given_39 (by decide) ?_
      refine j_iconst (v := 1) dX11_given_43 (by decide) ?_
      refine j_callV (q := (RX11, TX11, 8)) dX11_given_44 kX11_start lX11_76 inX11_start seX11_start h.m rfl (cm_start1 hl w _ _ h (by decide)) (Nat.le_of_ble_eq_true rfl) ⟨(Nat.le_of_ble_eq_true rfl), (Nat.le_of_ble_eq_true rfl)⟩ rfl (Nat.le_of_ble_eq_true rfl) rfl rfl (fun _ _ h => h.elim) ?_
      rintro _ w1 ⟨rfl, fm1, h1⟩
      have ke1 := z_ke h1 ke0 rfl
      refine j_if_eq (tgt := 52) dX11_given_47 (by decide) (fun c_47_14 => ?_) (fun c_47_14 => ?_)
      · exact absurd c_47_14 (by decide)
      · refine j_iconst (v := 0) dX11_given_50 (by decide) ?_
        refine j_iret dX11_given_51 rfl rfl ?_ (Nat.le_of_ble_eq_true rfl) (Nat.le_of_ble_eq_true rfl)
        exact ⟨_, _, rfl, (fm1.le (q' := 59) (by decide)), h1, ke1⟩
    · exact absurd c_5_7 (by decide)
  · refine j_w w hw43 ?_
    refine j_if_ne (tgt := 38) dX11_given_5 (by decide) (fun c_5_21 => ?_) (fun c_5_21 => ?_)
    · exact absurd c_5_21 (by decide)
    · refine j_iload_n dX11_given_8 rfl ?_
      refine j_sipush (v := (-1000)) dX11_given_9 (by decide) ?_
      refine j_sipush (v := 999) dX11_given_12 (by decide) ?_
      refine j_callS dX11_given_15 kX11_isIn lX11_59 stX11_isIn (cm_isIn hl w _ _ _) (Nat.le_of_ble_eq_true rfl) ⟨(Nat.le_of_ble_eq_true rfl), (Nat.le_of_ble_eq_true rfl)⟩ rfl (Nat.le_of_ble_eq_true rfl) rfl rfl (fun _ _ h => h.elim) ?_
      rintro _ _ ⟨⟨rfl, hye44⟩ | ⟨rfl, hno44⟩, hw44⟩
      · refine j_w w hw44 ?_
        refine j_if_eq (tgt := 38) dX11_given_18 (by decide) (fun c_18_29 => ?_) (fun c_18_29 => ?_)
        · exact absurd c_18_29 (by decide)
        · refine j_iload_n dX11_given_21 rfl ?_
          refine j_iconst (v := 0) dX11_given_22 (by decide) ?_
          refine j_iconst (v := 5) dX11_given_23 (by decide) ?_
          refine j_callS dX11_given_24 kX11_isIn lX11_59 stX11_isIn (cm_isIn hl w _ _ _) (Nat.le_of_ble_eq_true rfl) ⟨(Nat.le_of_ble_eq_true rfl), (Nat.le_of_ble_eq_true rfl)⟩ rfl (Nat.le_of_ble_eq_true rfl) rfl rfl (fun _ _ h => h.elim) ?_
          rintro _ _ ⟨⟨rfl, hi45⟩ | ⟨rfl, hno45⟩, hw45⟩
          · refine j_w w hw45 ?_
            obtain ⟨i45, hi45', rfl⟩ := z_nat (m := 5) rfl rfl (by omega) hi45
            refine j_if_eq (tgt := 38) dX11_given_27 (by decide) (fun c_27_38 => ?_) (fun c_27_38 => ?_)
            · exact absurd c_27_38 (by decide)
            · refine j_iload dX11_given_30 rfl ?_
              refine j_callS dX11_given_32 kX11_isNoValue lX11_79 stX11_isNoValue (cm_isNoValue hl w _) (Nat.le_of_ble_eq_true rfl) ⟨(Nat.le_of_ble_eq_true rfl), (Nat.le_of_ble_eq_true rfl)⟩ rfl (Nat.le_of_ble_eq_true rfl) rfl rfl (fun _ _ h => h.elim) ?_
              rintro _ _ ⟨⟨rfl, hno46⟩ | ⟨rfl, hye46⟩, hw46⟩
              · refine j_w w hw46 ?_
                refine j_if_eq (tgt := 42) dX11_given_35 (by decide) (fun c_35_44 => ?_) (fun c_35_44 => ?_)
                · exact absurd c_35_44 (by decide)
                · refine j_iconst (v := 1) dX11_given_38 (by decide) ?_
                  refine j_goto (tgt := 43) dX11_given_39 (by decide) ?_
                  refine j_iconst (v := 1) dX11_given_43 (by decide) ?_
                  refine j_callV (q := (RX11, TX11, 8)) dX11_given_44 kX11_start lX11_76 inX11_start seX11_start h.m rfl (cm_start1 hl w _ _ h (by decide)) (Nat.le_of_ble_eq_true rfl) ⟨(Nat.le_of_ble_eq_true rfl), (Nat.le_of_ble_eq_true rfl)⟩ rfl (Nat.le_of_ble_eq_true rfl) rfl rfl (fun _ _ h => h.elim) ?_
                  rintro _ w2 ⟨rfl, fm2, h2⟩
                  have ke2 := z_ke h2 ke0 rfl
                  refine j_if_eq (tgt := 52) dX11_given_47 (by decide) (fun c_47_52 => ?_) (fun c_47_52 => ?_)
                  · exact absurd c_47_52 (by decide)
                  · refine j_iconst (v := 0) dX11_given_50 (by decide) ?_
                    refine j_iret dX11_given_51 rfl rfl ?_ (Nat.le_of_ble_eq_true rfl) (Nat.le_of_ble_eq_true rfl)
                    exact ⟨_, _, rfl, (fm2.le (q' := 59) (by decide)), h2, ke2⟩
              · refine j_w w hw46 ?_
                refine j_if_eq (tgt := 42) dX11_given_35 (by decide) (fun c_35_58 => ?_) (fun c_35_58 => ?_)
                · refine j_iconst (v := 0) dX11_given_42 (by decide) ?_
                  refine j_iconst (v := 1) dX11_given_43 (by decide) ?_
                  refine j_callV (q := (RX11, TX11, 8)) dX11_given_44 kX11_start lX11_76 inX11_start seX11_start h.m rfl (cm_start0 hl w _ _ h) (Nat.le_of_ble_eq_true rfl) ⟨(Nat.le_of_ble_eq_true rfl), (Nat.le_of_ble_eq_true rfl)⟩ rfl (Nat.le_of_ble_eq_true rfl) rfl rfl (fun _ _ h => h.elim) ?_
                  rintro _ w3 ⟨rfl, fm3, h3⟩
                  have ke3 := z_ke h3 ke0 rfl
                  refine j_if_eq (tgt := 52) dX11_given_47 (by decide) (fun c_47_64 => ?_) (fun c_47_64 => ?_)
                  · refine j_iload_n dX11_given_52 rfl ?_
                    refine j_iload_n dX11_given_53 rfl ?_
                    refine j_iload_n dX11_given_54 rfl ?_
                    refine j_sipush (v := (-1000)) dX11_given_55 (by decide) ?_
                    refine j_icmp_ne (tgt := 65) dX11_given_58 (by decide) (fun c_58_69 => ?_) (fun c_58_69 => ?_)
                    · refine j_iload_n dX11_given_65 rfl ?_
                      refine j_iload dX11_given_66 rfl ?_
                      refine j_callS dX11_given_68 kX11_rule lX11_115 stX11_rule (cm_rule hl w3 _ _ _ _) (Nat.le_of_ble_eq_true rfl) ⟨(Nat.le_of_ble_eq_true rfl), (Nat.le_of_ble_eq_true rfl)⟩ rfl (Nat.le_of_ble_eq_true rfl) rfl rfl (fun _ _ h => h.elim) ?_
                      rintro _ _ ⟨⟨r47, rfl⟩, hw47⟩
                      refine j_w w3 hw47 ?_
                      refine j_istore (lo' := [(5, _), (0, _), (1, _), (2, _), (3, _), (4, _)]) dX11_given_71 (by decide) rfl ?_
                      refine j_iload dX11_given_73 rfl ?_
                      refine j_ldc dX11_given_75 kcX11_67 ?_
                      refine j_icmp_ne (tgt := 85) dX11_given_77 (by decide) (fun c_77_78 => ?_) (fun c_77_78 => ?_)
                      · refine j_iload dX11_given_85 rfl ?_
                        refine j_iret dX11_given_87 rfl rfl ?_ (Nat.le_of_ble_eq_true rfl) (Nat.le_of_ble_eq_true rfl)
                        exact ⟨_, _, rfl, (fm3.le (q' := 59) (by decide)), h3, ke3⟩
                      · refine j_bipush (v := (-9)) dX11_given_80 (by decide) ?_
                        refine j_goto (tgt := 87) dX11_given_82 (by decide) ?_
                        refine j_iret dX11_given_87 rfl rfl ?_ (Nat.le_of_ble_eq_true rfl) (Nat.le_of_ble_eq_true rfl)
                        exact ⟨_, _, rfl, (fm3.le (q' := 59) (by decide)), h3, ke3⟩
                    · refine j_iconst (v := 0) dX11_given_61 (by decide) ?_
                      refine j_goto (tgt := 66) dX11_given_62 (by decide) ?_
                      refine j_iload dX11_given_66 rfl ?_
                      refine j_callS dX11_given_68 kX11_rule lX11_115 stX11_rule (cm_rule hl w3 _ _ _ _) (Nat.le_of_ble_eq_true rfl) ⟨(Nat.le_of_ble_eq_true rfl), (Nat.le_of_ble_eq_true rfl)⟩ rfl (Nat.le_of_ble_eq_true rfl) rfl rfl (fun _ _ h => h.elim) ?_
                      rintro _ _ ⟨⟨r48, rfl⟩, hw48⟩
                      refine j_w w3 hw48 ?_
                      refine j_istore (lo' := [(5, _), (0, _), (1, _), (2, _), (3, _), (4, _)]) dX11_given_71 (by decide) rfl ?_
                      refine j_iload dX11_given_73 rfl ?_
                      refine j_ldc dX11_given_75 kcX11_67 ?_
                      refine j_icmp_ne (tgt := 85) dX11_given_77 (by decide) (fun c_77_95 => ?_) (fun c_77_95 => ?_)
                      · refine j_iload dX11_given_85 rfl ?_
                        refine j_iret dX11_given_87 rfl rfl ?_ (Nat.le_of_ble_eq_true rfl) (Nat.le_of_ble_eq_true rfl)
                        exact ⟨_, _, rfl, (fm3.le (q' := 59) (by decide)), h3, ke3⟩
                      · refine j_bipush (v := (-9)) dX11_given_80 (by decide) ?_
                        refine j_goto (tgt := 87) dX11_given_82 (by decide) ?_
                        refine j_iret dX11_given_87 rfl rfl ?_ (Nat.le_of_ble_eq_true rfl) (Nat.le_of_ble_eq_true rfl)
                        exact ⟨_, _, rfl, (fm3.le (q' := 59) (by decide)), h3, ke3⟩
                  · exact absurd c_47_64 (by decide)
                · exact absurd c_35_58 (by decide)
          · refine j_w w hw45 ?_
            refine j_if_eq (tgt := 38) dX11_given_27 (by decide) (fun c_27_106 => ?_) (fun c_27_106 => ?_)
            · refine j_iconst (v := 1) dX11_given_38 (by decide) ?_
              refine j_goto (tgt := 43) dX11_given_39 (by decide) ?_
              refine j_iconst (v := 1) dX11_given_43 (by decide) ?_
              refine j_callV (q := (RX11, TX11, 8)) dX11_given_44 kX11_start lX11_76 inX11_start seX11_start h.m rfl (cm_start1 hl w _ _ h (by decide)) (Nat.le_of_ble_eq_true rfl) ⟨(Nat.le_of_ble_eq_true rfl), (Nat.le_of_ble_eq_true rfl)⟩ rfl (Nat.le_of_ble_eq_true rfl) rfl rfl (fun _ _ h => h.elim) ?_
              rintro _ w4 ⟨rfl, fm4, h4⟩
              have ke4 := z_ke h4 ke0 rfl
              refine j_if_eq (tgt := 52) dX11_given_47 (by decide) (fun c_47_113 => ?_) (fun c_47_113 => ?_)
              · exact absurd c_47_113 (by decide)
              · refine j_iconst (v := 0) dX11_given_50 (by decide) ?_
                refine j_iret dX11_given_51 rfl rfl ?_ (Nat.le_of_ble_eq_true rfl) (Nat.le_of_ble_eq_true rfl)
                exact ⟨_, _, rfl, (fm4.le (q' := 59) (by decide)), h4, ke4⟩
            · exact absurd c_27_106 (by decide)
      · refine j_w w hw44 ?_
        refine j_if_eq (tgt := 38) dX11_given_18 (by decide) (fun c_18_120 => ?_) (fun c_18_120 => ?_)
        · refine j_iconst (v := 1) dX11_given_38 (by decide) ?_
          refine j_goto (tgt := 43) dX11_given_39 (by decide) ?_
          refine j_iconst (v := 1) dX11_given_43 (by decide) ?_
          refine j_callV (q := (RX11, TX11, 8)) dX11_given_44 kX11_start lX11_76 inX11_start seX11_start h.m rfl (cm_start1 hl w _ _ h (by decide)) (Nat.le_of_ble_eq_true rfl) ⟨(Nat.le_of_ble_eq_true rfl), (Nat.le_of_ble_eq_true rfl)⟩ rfl (Nat.le_of_ble_eq_true rfl) rfl rfl (fun _ _ h => h.elim) ?_
          rintro _ w5 ⟨rfl, fm5, h5⟩
          have ke5 := z_ke h5 ke0 rfl
          refine j_if_eq (tgt := 52) dX11_given_47 (by decide) (fun c_47_127 => ?_) (fun c_47_127 => ?_)
          · exact absurd c_47_127 (by decide)
          · refine j_iconst (v := 0) dX11_given_50 (by decide) ?_
            refine j_iret dX11_given_51 rfl rfl ?_ (Nat.le_of_ble_eq_true rfl) (Nat.le_of_ble_eq_true rfl)
            exact ⟨_, _, rfl, (fm5.le (q' := 59) (by decide)), h5, ke5⟩
        · exact absurd c_18_120 (by decide)
set_option maxRecDepth 100000 in
set_option maxHeartbeats 8000000 in
theorem cm_tested (hl : l.stackTraces = false) (w : z_W) (s : z_Z) (x y z : Int32) (h : z_mst w s)  : z_Con G l mX11_tested 20 0 0 w [.ref 1000, .int x, .int y, .int z] (fun v w9 => ∃ (r : Int32) (s9 : z_Z), v = some (.int r) ∧ z_fm 59 w w9 ∧ z_mst w9 s9 ∧ z_key s9 = z_key s) (fun _ _ => False) := by
  have ke0 : z_key s = z_key s := rfl
  refine z_body hl (by decide) rfl (Nat.le_of_ble_eq_true rfl) ?_
  show z_J G l mX11_tested _ 0 [(0, _), (1, _), (2, _), (3, _)] [] _ 0 0
  refine j_aload_n dX11_tested_0 rfl rfl ?_
  refine j_iload_n dX11_tested_1 rfl ?_
  refine j_iconst (v := 0) dX11_tested_2 (by decide) ?_
  refine j_iconst (v := 5) dX11_tested_3 (by decide) ?_
  refine j_callS dX11_tested_4 kX11_isIn lX11_59 stX11_isIn (cm_isIn hl w _ _ _) (Nat.le_of_ble_eq_true rfl) ⟨(Nat.le_of_ble_eq_true rfl), (Nat.le_of_ble_eq_true rfl)⟩ rfl (Nat.le_of_ble_eq_true rfl) rfl rfl (fun _ _ h => h.elim) ?_
  rintro _ _ ⟨⟨rfl, hi49⟩ | ⟨rfl, hno49⟩, hw49⟩
  · refine j_w w hw49 ?_
    obtain ⟨i49, hi49', rfl⟩ := z_nat (m := 5) rfl rfl (by omega) hi49
    refine j_if_eq (tgt := 24) dX11_tested_7 (by decide) (fun c_7_10 => ?_) (fun c_7_10 => ?_)
    · exact absurd c_7_10 (by decide)
    · refine j_iload_n dX11_tested_10 rfl ?_
      refine j_callS dX11_tested_11 kX11_isNoValue lX11_79 stX11_isNoValue (cm_isNoValue hl w _) (Nat.le_of_ble_eq_true rfl) ⟨(Nat.le_of_ble_eq_true rfl), (Nat.le_of_ble_eq_true rfl)⟩ rfl (Nat.le_of_ble_eq_true rfl) rfl rfl (fun _ _ h => h.elim) ?_
      rintro _ _ ⟨⟨rfl, hno50⟩ | ⟨rfl, hye50⟩, hw50⟩
      · refine j_w w hw50 ?_
        refine j_if_ne (tgt := 24) dX11_tested_14 (by decide) (fun c_14_16 => ?_) (fun c_14_16 => ?_)
        · refine j_iconst (v := 1) dX11_tested_24 (by decide) ?_
          refine j_goto (tgt := 29) dX11_tested_25 (by decide) ?_
          refine j_iconst (v := 1) dX11_tested_29 (by decide) ?_
          refine j_callV (q := (RX11, TX11, 8)) dX11_tested_30 kX11_start lX11_76 inX11_start seX11_start h.m rfl (cm_start1 hl w _ _ h (by decide)) (Nat.le_of_ble_eq_true rfl) ⟨(Nat.le_of_ble_eq_true rfl), (Nat.le_of_ble_eq_true rfl)⟩ rfl (Nat.le_of_ble_eq_true rfl) rfl rfl (fun _ _ h => h.elim) ?_
          rintro _ w1 ⟨rfl, fm1, h1⟩
          have ke1 := z_ke h1 ke0 rfl
          refine j_if_eq (tgt := 38) dX11_tested_33 (by decide) (fun c_33_23 => ?_) (fun c_33_23 => ?_)
          · exact absurd c_33_23 (by decide)
          · refine j_iconst (v := 0) dX11_tested_36 (by decide) ?_
            refine j_iret dX11_tested_37 rfl rfl ?_ (Nat.le_of_ble_eq_true rfl) (Nat.le_of_ble_eq_true rfl)
            exact ⟨_, _, rfl, (fm1.le (q' := 59) (by decide)), h1, ke1⟩
        · exact absurd c_14_16 (by decide)
      · refine j_w w hw50 ?_
        refine j_if_ne (tgt := 24) dX11_tested_14 (by decide) (fun c_14_30 => ?_) (fun c_14_30 => ?_)
        · exact absurd c_14_30 (by decide)
        · refine j_iload_n dX11_tested_17 rfl ?_
          refine j_callS dX11_tested_18 kX11_isNoValue lX11_79 stX11_isNoValue (cm_isNoValue hl w _) (Nat.le_of_ble_eq_true rfl) ⟨(Nat.le_of_ble_eq_true rfl), (Nat.le_of_ble_eq_true rfl)⟩ rfl (Nat.le_of_ble_eq_true rfl) rfl rfl (fun _ _ h => h.elim) ?_
          rintro _ _ ⟨⟨rfl, hno51⟩ | ⟨rfl, hye51⟩, hw51⟩
          · refine j_w w hw51 ?_
            refine j_if_eq (tgt := 28) dX11_tested_21 (by decide) (fun c_21_36 => ?_) (fun c_21_36 => ?_)
            · exact absurd c_21_36 (by decide)
            · refine j_iconst (v := 1) dX11_tested_24 (by decide) ?_
              refine j_goto (tgt := 29) dX11_tested_25 (by decide) ?_
              refine j_iconst (v := 1) dX11_tested_29 (by decide) ?_
              refine j_callV (q := (RX11, TX11, 8)) dX11_tested_30 kX11_start lX11_76 inX11_start seX11_start h.m rfl (cm_start1 hl w _ _ h (by decide)) (Nat.le_of_ble_eq_true rfl) ⟨(Nat.le_of_ble_eq_true rfl), (Nat.le_of_ble_eq_true rfl)⟩ rfl (Nat.le_of_ble_eq_true rfl) rfl rfl (fun _ _ h => h.elim) ?_
              rintro _ w2 ⟨rfl, fm2, h2⟩
              have ke2 := z_ke h2 ke0 rfl
              refine j_if_eq (tgt := 38) dX11_tested_33 (by decide) (fun c_33_44 => ?_) (fun c_33_44 => ?_)
              · exact absurd c_33_44 (by decide)
              · refine j_iconst (v := 0) dX11_tested_36 (by decide) ?_
                refine j_iret dX11_tested_37 rfl rfl ?_ (Nat.le_of_ble_eq_true rfl) (Nat.le_of_ble_eq_true rfl)
                exact ⟨_, _, rfl, (fm2.le (q' := 59) (by decide)), h2, ke2⟩
          · refine j_w w hw51 ?_
            refine j_if_eq (tgt := 28) dX11_tested_21 (by decide) (fun c_21_50 => ?_) (fun c_21_50 => ?_)
            · refine j_iconst (v := 0) dX11_tested_28 (by decide) ?_
              refine j_iconst (v := 1) dX11_tested_29 (by decide) ?_
              refine j_callV (q := (RX11, TX11, 8)) dX11_tested_30 kX11_start lX11_76 inX11_start seX11_start h.m rfl (cm_start0 hl w _ _ h) (Nat.le_of_ble_eq_true rfl) ⟨(Nat.le_of_ble_eq_true rfl), (Nat.le_of_ble_eq_true rfl)⟩ rfl (Nat.le_of_ble_eq_true rfl) rfl rfl (fun _ _ h => h.elim) ?_
              rintro _ w3 ⟨rfl, fm3, h3⟩
              have ke3 := z_ke h3 ke0 rfl
              refine j_if_eq (tgt := 38) dX11_tested_33 (by decide) (fun c_33_56 => ?_) (fun c_33_56 => ?_)
              · refine j_iload_n dX11_tested_38 rfl ?_
                refine j_iload_n dX11_tested_39 rfl ?_
                refine j_iload_n dX11_tested_40 rfl ?_
                refine j_callS dX11_tested_41 kX11_test lX11_112 stX11_test (cm_test hl w3 _ _ _) (Nat.le_of_ble_eq_true rfl) ⟨(Nat.le_of_ble_eq_true rfl), (Nat.le_of_ble_eq_true rfl)⟩ rfl (Nat.le_of_ble_eq_true rfl) rfl rfl (fun _ _ h => h.elim) ?_
                rintro _ _ ⟨⟨r52, rfl⟩, hw52⟩
                refine j_w w3 hw52 ?_
                refine j_istore (lo' := [(4, _), (0, _), (1, _), (2, _), (3, _)]) dX11_tested_44 (by decide) rfl ?_
                refine j_iload dX11_tested_46 rfl ?_
                refine j_ldc dX11_tested_48 kcX11_67 ?_
                refine j_icmp_ne (tgt := 58) dX11_tested_50 (by decide) (fun c_50_66 => ?_) (fun c_50_66 => ?_)
                · refine j_iload dX11_tested_58 rfl ?_
                  refine j_iret dX11_tested_60 rfl rfl ?_ (Nat.le_of_ble_eq_true rfl) (Nat.le_of_ble_eq_true rfl)
                  exact ⟨_, _, rfl, (fm3.le (q' := 59) (by decide)), h3, ke3⟩
                · refine j_bipush (v := (-9)) dX11_tested_53 (by decide) ?_
                  refine j_goto (tgt := 60) dX11_tested_55 (by decide) ?_
                  refine j_iret dX11_tested_60 rfl rfl ?_ (Nat.le_of_ble_eq_true rfl) (Nat.le_of_ble_eq_true rfl)
                  exact ⟨_, _, rfl, (fm3.le (q' := 59) (by decide)), h3, ke3⟩
              · exact absurd c_33_56 (by decide)
            · exact absurd c_21_50 (by decide)
  · refine j_w w hw49 ?_
    refine j_if_eq (tgt := 24) dX11_tested_7 (by decide) (fun c_7_77 => ?_) (fun c_7_77 => ?_)
    · refine j_iconst (v := 1) dX11_tested_24 (by decide) ?_
      refine j_goto (tgt := 29) dX11_tested_25 (by decide) ?_
      refine j_iconst (v := 1) dX11_tested_29 (by decide) ?_
      refine j_callV (q := (RX11, TX11, 8)) dX11_tested_30 kX11_start lX11_76 inX11_start seX11_start h.m rfl (cm_start1 hl w _ _ h (by decide)) (Nat.le_of_ble_eq_true rfl) ⟨(Nat.le_of_ble_eq_true rfl), (Nat.le_of_ble_eq_true rfl)⟩ rfl (Nat.le_of_ble_eq_true rfl) rfl rfl (fun _ _ h => h.elim) ?_
      rintro _ w4 ⟨rfl, fm4, h4⟩
      have ke4 := z_ke h4 ke0 rfl
      refine j_if_eq (tgt := 38) dX11_tested_33 (by decide) (fun c_33_84 => ?_) (fun c_33_84 => ?_)
      · exact absurd c_33_84 (by decide)
      · refine j_iconst (v := 0) dX11_tested_36 (by decide) ?_
        refine j_iret dX11_tested_37 rfl rfl ?_ (Nat.le_of_ble_eq_true rfl) (Nat.le_of_ble_eq_true rfl)
        exact ⟨_, _, rfl, (fm4.le (q' := 59) (by decide)), h4, ke4⟩
    · exact absurd c_7_77 (by decide)
set_option maxRecDepth 100000 in
set_option maxHeartbeats 8000000 in
theorem cm_fix (hl : l.stackTraces = false) (w : z_W) (s : z_Z) (x y : Int32) (h : z_mst w s) (hy : narrow .boolean (.int y) = .int y) : z_Con G l mX11_fix 20 0 0 w [.ref 1000, .int x, .int y] (fun v w9 => ∃ (r : Int32) (s9 : z_Z), v = some (.int r) ∧ z_fm 59 w w9 ∧ z_mst w9 s9 ∧ (z_key s9 = z_key s ∨ ∃ i, i < 2 ∧ x = nI i ∧ z_key s9 = (s.1.2.2, z_ui (z_qf s) i y, fun h => (z_qh s h).1))) (fun _ _ => False) := by
  have ke0 : z_key s = z_key s := rfl
  refine z_body hl (by decide) rfl (Nat.le_of_ble_eq_true rfl) ?_
  show z_J G l mX11_fix _ 0 [(0, _), (1, _), (2, _)] [] _ 0 0
  refine j_aload_n dX11_fix_0 rfl rfl ?_
  refine j_iload_n dX11_fix_1 rfl ?_
  refine j_callS dX11_fix_2 kX11_isNoTwo lX11_72 stX11_isNoTwo (cm_isNoTwo hl w _) (Nat.le_of_ble_eq_true rfl) ⟨(Nat.le_of_ble_eq_true rfl), (Nat.le_of_ble_eq_true rfl)⟩ rfl (Nat.le_of_ble_eq_true rfl) rfl rfl (fun _ _ h => h.elim) ?_
  rintro _ _ ⟨⟨rfl, hno53⟩ | ⟨rfl, i53, hi53, rfl⟩, hw53⟩
  · refine j_w w hw53 ?_
    refine j_iconst (v := 1) dX11_fix_5 (by decide) ?_
    refine j_callV (q := (RX11, TX11, 8)) dX11_fix_6 kX11_start lX11_76 inX11_start seX11_start h.m rfl (cm_start1 hl w _ _ h (by decide)) (Nat.le_of_ble_eq_true rfl) ⟨(Nat.le_of_ble_eq_true rfl), (Nat.le_of_ble_eq_true rfl)⟩ rfl (Nat.le_of_ble_eq_true rfl) rfl rfl (fun _ _ h => h.elim) ?_
    rintro _ w1 ⟨rfl, fm1, h1⟩
    have ke1 := z_ke h1 ke0 rfl
    refine j_if_eq (tgt := 14) dX11_fix_9 (by decide) (fun c_9_11 => ?_) (fun c_9_11 => ?_)
    · exact absurd c_9_11 (by decide)
    · refine j_iconst (v := 0) dX11_fix_12 (by decide) ?_
      refine j_iret dX11_fix_13 rfl rfl ?_ (Nat.le_of_ble_eq_true rfl) (Nat.le_of_ble_eq_true rfl)
      exact ⟨_, _, rfl, (fm1.le (q' := 59) (by decide)), h1, Or.inl ke1⟩
  · refine j_w w hw53 ?_
    refine j_iconst (v := 1) dX11_fix_5 (by decide) ?_
    refine j_callV (q := (RX11, TX11, 8)) dX11_fix_6 kX11_start lX11_76 inX11_start seX11_start h.m rfl (cm_start0 hl w _ _ h) (Nat.le_of_ble_eq_true rfl) ⟨(Nat.le_of_ble_eq_true rfl), (Nat.le_of_ble_eq_true rfl)⟩ rfl (Nat.le_of_ble_eq_true rfl) rfl rfl (fun _ _ h => h.elim) ?_
    rintro _ w2 ⟨rfl, fm2, h2⟩
    have ke2 := z_ke h2 ke0 rfl
    refine j_if_eq (tgt := 14) dX11_fix_9 (by decide) (fun c_9_21 => ?_) (fun c_9_21 => ?_)
    · refine j_aload_n dX11_fix_14 rfl rfl ?_
      refine j_getf dX11_fix_15 fX11_25 h2.m rfl ?_
      refine j_iload_n dX11_fix_18 rfl ?_
      refine j_zald dX11_fix_19 h2.fx (vp_in_nI (by omega) (by omega)) rfl ?_
      refine j_callS dX11_fix_20 kX11_one lX11_68 stX11_one (cm_one hl w2 _) (Nat.le_of_ble_eq_true rfl) ⟨(Nat.le_of_ble_eq_true rfl), (Nat.le_of_ble_eq_true rfl)⟩ rfl (Nat.le_of_ble_eq_true rfl) rfl rfl (fun _ _ h => h.elim) ?_
      rintro _ _ ⟨⟨rfl, -⟩ | ⟨rfl, -⟩, hw55⟩
      · refine j_w w2 hw55 ?_
        refine j_istore_n (lo' := [(3, _), (0, _), (1, _), (2, _)]) dX11_fix_23 (by decide) rfl ?_
        refine j_aload_n dX11_fix_24 rfl rfl ?_
        refine j_getf dX11_fix_25 fX11_25 h2.m rfl ?_
        refine j_iload_n dX11_fix_28 rfl ?_
        refine j_iload_n dX11_fix_29 rfl ?_
        refine j_zsto (w' := _) dX11_fix_30 h2.fx (vp_in_nI (by omega) (by omega)) hy rfl ?_
        refine j_seal (by omega) ?_
        intro w3 u3
        have fw3 := u3.fw (ρ := 42) (by omega) (by omega)
        have h3 := h2.up42 fw3 u3.1
        refine j_iload_n dX11_fix_31 rfl ?_
        refine j_iret dX11_fix_32 rfl rfl ?_ (Nat.le_of_ble_eq_true rfl) (Nat.le_of_ble_eq_true rfl)
        exact ⟨_, _, rfl, ((fm2.le (q' := 59) (by decide)).tr (fw3.fm (q := 59) (by omega))), h3, Or.inr ⟨i53, by omega, rfl, by unfold z_key; show (s.1.2.2, z_ui (z_qf s) (nI i53).toNatClampNeg y, fun h => (z_qh s h).1) = _; rw [z_cla (by omega)]⟩⟩
      · refine j_w w2 hw55 ?_
        refine j_istore_n (lo' := [(3, _), (0, _), (1, _), (2, _)]) dX11_fix_23 (by decide) rfl ?_
        refine j_aload_n dX11_fix_24 rfl rfl ?_
        refine j_getf dX11_fix_25 fX11_25 h2.m rfl ?_
        refine j_iload_n dX11_fix_28 rfl ?_
        refine j_iload_n dX11_fix_29 rfl ?_
        refine j_zsto (w' := _) dX11_fix_30 h2.fx (vp_in_nI (by omega) (by omega)) hy rfl ?_
        refine j_seal (by omega) ?_
        intro w4 u4
        have fw4 := u4.fw (ρ := 42) (by omega) (by omega)
        have h4 := h2.up42 fw4 u4.1
        refine j_iload_n dX11_fix_31 rfl ?_
        refine j_iret dX11_fix_32 rfl rfl ?_ (Nat.le_of_ble_eq_true rfl) (Nat.le_of_ble_eq_true rfl)
        exact ⟨_, _, rfl, ((fm2.le (q' := 59) (by decide)).tr (fw4.fm (q := 59) (by omega))), h4, Or.inr ⟨i53, by omega, rfl, by unfold z_key; show (s.1.2.2, z_ui (z_qf s) (nI i53).toNatClampNeg y, fun h => (z_qh s h).1) = _; rw [z_cla (by omega)]⟩⟩
    · exact absurd c_9_21 (by decide)
set_option maxRecDepth 100000 in
set_option maxHeartbeats 8000000 in
theorem cm_stop (hl : l.stackTraces = false) (w : z_W) (s : z_Z) (x y : Int32) (h : z_mst w s)  : z_Con G l mX11_stop 20 0 0 w [.ref 1000, .int x, .int y] (fun v w9 => ∃ (r : Int32) (s9 : z_Z), v = some (.int r) ∧ z_fm 59 w w9 ∧ z_mst w9 s9 ∧ (z_key s9 = z_key s ∨ ∃ i, i < 2 ∧ x = nI i ∧ z_key s9 = (s.1.2.2, z_qf s, z_fu (fun h => (z_qh s h).1) i y))) (fun _ _ => False) := by
  have ke0 : z_key s = z_key s := rfl
  refine z_body hl (by decide) rfl (Nat.le_of_ble_eq_true rfl) ?_
  show z_J G l mX11_stop _ 0 [(0, _), (1, _), (2, _)] [] _ 0 0
  refine j_aload_n dX11_stop_0 rfl rfl ?_
  refine j_iload_n dX11_stop_1 rfl ?_
  refine j_callS dX11_stop_2 kX11_isNoTwo lX11_72 stX11_isNoTwo (cm_isNoTwo hl w _) (Nat.le_of_ble_eq_true rfl) ⟨(Nat.le_of_ble_eq_true rfl), (Nat.le_of_ble_eq_true rfl)⟩ rfl (Nat.le_of_ble_eq_true rfl) rfl rfl (fun _ _ h => h.elim) ?_
  rintro _ _ ⟨⟨rfl, hno58⟩ | ⟨rfl, i58, hi58, rfl⟩, hw58⟩
  · refine j_w w hw58 ?_
    refine j_iconst (v := 1) dX11_stop_5 (by decide) ?_
    refine j_callV (q := (RX11, TX11, 8)) dX11_stop_6 kX11_start lX11_76 inX11_start seX11_start h.m rfl (cm_start1 hl w _ _ h (by decide)) (Nat.le_of_ble_eq_true rfl) ⟨(Nat.le_of_ble_eq_true rfl), (Nat.le_of_ble_eq_true rfl)⟩ rfl (Nat.le_of_ble_eq_true rfl) rfl rfl (fun _ _ h => h.elim) ?_
    rintro _ w1 ⟨rfl, fm1, h1⟩
    have ke1 := z_ke h1 ke0 rfl
    refine j_if_ne (tgt := 37) dX11_stop_9 (by decide) (fun c_9_11 => ?_) (fun c_9_11 => ?_)
    · refine j_iconst (v := 0) dX11_stop_37 (by decide) ?_
      refine j_iret dX11_stop_38 rfl rfl ?_ (Nat.le_of_ble_eq_true rfl) (Nat.le_of_ble_eq_true rfl)
      exact ⟨_, _, rfl, (fm1.le (q' := 59) (by decide)), h1, Or.inl ke1⟩
    · exact absurd c_9_11 (by decide)
  · refine j_w w hw58 ?_
    refine j_iconst (v := 1) dX11_stop_5 (by decide) ?_
    refine j_callV (q := (RX11, TX11, 8)) dX11_stop_6 kX11_start lX11_76 inX11_start seX11_start h.m rfl (cm_start0 hl w _ _ h) (Nat.le_of_ble_eq_true rfl) ⟨(Nat.le_of_ble_eq_true rfl), (Nat.le_of_ble_eq_true rfl)⟩ rfl (Nat.le_of_ble_eq_true rfl) rfl rfl (fun _ _ h => h.elim) ?_
    rintro _ w2 ⟨rfl, fm2, h2⟩
    have ke2 := z_ke h2 ke0 rfl
    refine j_if_ne (tgt := 37) dX11_stop_9 (by decide) (fun c_9_21 => ?_) (fun c_9_21 => ?_)
    · exact absurd c_9_21 (by decide)
    · refine j_aload_n dX11_stop_12 rfl rfl ?_
      refine j_iload_n dX11_stop_13 rfl ?_
      refine j_sipush (v := (-1000)) dX11_stop_14 (by decide) ?_
      refine j_ldc dX11_stop_17 kcX11_189 ?_
      refine j_callS dX11_stop_19 kX11_isIn lX11_59 stX11_isIn (cm_isIn hl w2 _ _ _) (Nat.le_of_ble_eq_true rfl) ⟨(Nat.le_of_ble_eq_true rfl), (Nat.le_of_ble_eq_true rfl)⟩ rfl (Nat.le_of_ble_eq_true rfl) rfl rfl (fun _ _ h => h.elim) ?_
      rintro _ _ ⟨⟨rfl, hye59⟩ | ⟨rfl, hno59⟩, hw59⟩
      · refine j_w w2 hw59 ?_
        refine j_if_ne (tgt := 29) dX11_stop_22 (by decide) (fun c_22_30 => ?_) (fun c_22_30 => ?_)
        · refine j_iconst (v := 0) dX11_stop_29 (by decide) ?_
          refine j_iconst (v := 2) dX11_stop_30 (by decide) ?_
          refine j_callV (q := (RX11, TX11, 8)) dX11_stop_31 kX11_refuse lX11_52 inX11_refuse seX11_refuse h2.m rfl (cm_refuse0 hl w2 _ _ h2 rfl) (Nat.le_of_ble_eq_true rfl) ⟨(Nat.le_of_ble_eq_true rfl), (Nat.le_of_ble_eq_true rfl)⟩ rfl (Nat.le_of_ble_eq_true rfl) rfl rfl (fun _ _ h => h.elim) ?_
          rintro _ _ ⟨rfl, hw60⟩
          refine j_w w2 hw60 ?_
          refine j_if_eq (tgt := 39) dX11_stop_34 (by decide) (fun c_34_36 => ?_) (fun c_34_36 => ?_)
          · refine j_aload_n dX11_stop_39 rfl rfl ?_
            refine j_getf dX11_stop_40 fX11_40 h2.m rfl ?_
            refine j_iload_n dX11_stop_43 rfl ?_
            obtain ⟨fz61, gz61, hz61⟩ := h2.hs
            refine j_aald (v := .ref (1009 + i58)) dX11_stop_44 gz61 rfl rfl (vp_in_nI (by omega) (by omega)) (by rw [z_cla (by omega)]; exact hz61 _ (by omega)) ?_
            refine j_getf dX11_stop_45 fX11_190 (h2.hd (i := i58) (by omega)) rfl ?_
            refine j_istore_n (lo' := [(3, _), (0, _), (1, _), (2, _)]) dX11_stop_48 (by decide) rfl ?_
            refine j_aload_n dX11_stop_49 rfl rfl ?_
            refine j_getf dX11_stop_50 fX11_40 h2.m rfl ?_
            refine j_iload_n dX11_stop_53 rfl ?_
            obtain ⟨fz62, gz62, hz62⟩ := h2.hs
            refine j_aald (v := .ref (1009 + i58)) dX11_stop_54 gz62 rfl rfl (vp_in_nI (by omega) (by omega)) (by rw [z_cla (by omega)]; exact hz62 _ (by omega)) ?_
            refine j_iload_n dX11_stop_55 rfl ?_
            refine j_put (w' := _) dX11_stop_56 fX11_190 tX10_0 (h2.hd (i := i58) (by omega)) ⟨rfl, rfl⟩ rfl ?_
            refine j_seal (by omega) ?_
            intro w3 u3
            have fw3 := u3.fw (ρ := 49 + i58) (by omega) (by omega)
            have h3 := h2.up49 (i0 := i58) (by omega) fw3 u3.1
            refine j_iload_n dX11_stop_59 rfl ?_
            refine j_iret dX11_stop_60 rfl rfl ?_ (Nat.le_of_ble_eq_true rfl) (Nat.le_of_ble_eq_true rfl)
            exact ⟨_, _, rfl, ((fm2.le (q' := 59) (by decide)).tr (fw3.fm (q := 59) (by omega))), h3, Or.inr ⟨i58, by omega, rfl, z_keS⟩⟩
          · exact absurd c_34_36 (by decide)
        · exact absurd c_22_30 (by decide)
      · refine j_w w2 hw59 ?_
        refine j_if_ne (tgt := 29) dX11_stop_22 (by decide) (fun c_22_61 => ?_) (fun c_22_61 => ?_)
        · exact absurd c_22_61 (by decide)
        · refine j_iconst (v := 1) dX11_stop_25 (by decide) ?_
          refine j_goto (tgt := 30) dX11_stop_26 (by decide) ?_
          refine j_iconst (v := 2) dX11_stop_30 (by decide) ?_
          refine j_callV (q := (RX11, TX11, 8)) dX11_stop_31 kX11_refuse lX11_52 inX11_refuse seX11_refuse h2.m rfl (cm_refuse1 hl w2 _ _ h2 rfl (by decide)) (Nat.le_of_ble_eq_true rfl) ⟨(Nat.le_of_ble_eq_true rfl), (Nat.le_of_ble_eq_true rfl)⟩ rfl (Nat.le_of_ble_eq_true rfl) rfl rfl (fun _ _ h => h.elim) ?_
          rintro _ w4 ⟨rfl, fm4, h4⟩
          have ke4 := z_ke h4 ke2 rfl
          refine j_if_eq (tgt := 39) dX11_stop_34 (by decide) (fun c_34_69 => ?_) (fun c_34_69 => ?_)
          · exact absurd c_34_69 (by decide)
          · refine j_iconst (v := 0) dX11_stop_37 (by decide) ?_
            refine j_iret dX11_stop_38 rfl rfl ?_ (Nat.le_of_ble_eq_true rfl) (Nat.le_of_ble_eq_true rfl)
            exact ⟨_, _, rfl, ((fm2.le (q' := 59) (by decide)).tr (fm4.le (q' := 59) (by decide))), h4, Or.inl ke4⟩
set_option maxRecDepth 100000 in
set_option maxHeartbeats 8000000 in
theorem cm_forget (hl : l.stackTraces = false) (w : z_W) (s : z_Z) (x : Int32) (h : z_mst w s)  : z_Con G l mX11_forget 20 0 0 w [.ref 1000, .int x] (fun v w9 => ∃ (r : Int32) (s9 : z_Z), v = some (.int r) ∧ z_fm 59 w w9 ∧ z_mst w9 s9 ∧ z_key s9 = z_key s) (fun _ _ => False) := by
  have ke0 : z_key s = z_key s := rfl
  refine z_body hl (by decide) rfl (Nat.le_of_ble_eq_true rfl) ?_
  show z_J G l mX11_forget _ 0 [(0, _), (1, _)] [] _ 0 0
  refine j_aload_n dX11_forget_0 rfl rfl ?_
  refine j_iload_n dX11_forget_1 rfl ?_
  refine j_callS dX11_forget_2 kX11_isNoTwo lX11_72 stX11_isNoTwo (cm_isNoTwo hl w _) (Nat.le_of_ble_eq_true rfl) ⟨(Nat.le_of_ble_eq_true rfl), (Nat.le_of_ble_eq_true rfl)⟩ rfl (Nat.le_of_ble_eq_true rfl) rfl rfl (fun _ _ h => h.elim) ?_
  rintro _ _ ⟨⟨rfl, hno63⟩ | ⟨rfl, i63, hi63, rfl⟩, hw63⟩
  · refine j_w w hw63 ?_
    refine j_iconst (v := 1) dX11_forget_5 (by decide) ?_
    refine j_callV (q := (RX11, TX11, 8)) dX11_forget_6 kX11_start lX11_76 inX11_start seX11_start h.m rfl (cm_start1 hl w _ _ h (by decide)) (Nat.le_of_ble_eq_true rfl) ⟨(Nat.le_of_ble_eq_true rfl), (Nat.le_of_ble_eq_true rfl)⟩ rfl (Nat.le_of_ble_eq_true rfl) rfl rfl (fun _ _ h => h.elim) ?_
    rintro _ w1 ⟨rfl, fm1, h1⟩
    have ke1 := z_ke h1 ke0 rfl
    refine j_if_eq (tgt := 14) dX11_forget_9 (by decide) (fun c_9_11 => ?_) (fun c_9_11 => ?_)
    · exact absurd c_9_11 (by decide)
    · refine j_iconst (v := 0) dX11_forget_12 (by decide) ?_
      refine j_iret dX11_forget_13 rfl rfl ?_ (Nat.le_of_ble_eq_true rfl) (Nat.le_of_ble_eq_true rfl)
      exact ⟨_, _, rfl, (fm1.le (q' := 59) (by decide)), h1, ke1⟩
  · refine j_w w hw63 ?_
    refine j_iconst (v := 1) dX11_forget_5 (by decide) ?_
    refine j_callV (q := (RX11, TX11, 8)) dX11_forget_6 kX11_start lX11_76 inX11_start seX11_start h.m rfl (cm_start0 hl w _ _ h) (Nat.le_of_ble_eq_true rfl) ⟨(Nat.le_of_ble_eq_true rfl), (Nat.le_of_ble_eq_true rfl)⟩ rfl (Nat.le_of_ble_eq_true rfl) rfl rfl (fun _ _ h => h.elim) ?_
    rintro _ w2 ⟨rfl, fm2, h2⟩
    have ke2 := z_ke h2 ke0 rfl
    refine j_if_eq (tgt := 14) dX11_forget_9 (by decide) (fun c_9_21 => ?_) (fun c_9_21 => ?_)
    · refine j_aload_n dX11_forget_14 rfl rfl ?_
      refine j_getf dX11_forget_15 fX11_40 h2.m rfl ?_
      refine j_iload_n dX11_forget_18 rfl ?_
      obtain ⟨fz64, gz64, hz64⟩ := h2.hs
      refine j_aald (v := .ref (1009 + i63)) dX11_forget_19 gz64 rfl rfl (vp_in_nI (by omega) (by omega)) (by rw [z_cla (by omega)]; exact hz64 _ (by omega)) ?_
      refine j_getf dX11_forget_20 fX11_193 (h2.hd (i := i63) (by omega)) rfl ?_
      refine j_istore_n (lo' := [(2, _), (0, _), (1, _)]) dX11_forget_23 (by decide) rfl ?_
      refine j_aload_n dX11_forget_24 rfl rfl ?_
      refine j_getf dX11_forget_25 fX11_40 h2.m rfl ?_
      refine j_iload_n dX11_forget_28 rfl ?_
      obtain ⟨fz65, gz65, hz65⟩ := h2.hs
      refine j_aald (v := .ref (1009 + i63)) dX11_forget_29 gz65 rfl rfl (vp_in_nI (by omega) (by omega)) (by rw [z_cla (by omega)]; exact hz65 _ (by omega)) ?_
      refine j_callVN (q := (RX10, TX10, 5)) dX11_forget_30 kX10_forget lX11_196 inX10_forget seX10_forget (h2.hd (i := i63) (by omega)) rfl (cm_forgetH hl w2 _ (i63) h2 (by omega)) (Nat.le_of_ble_eq_true rfl) ⟨(Nat.le_of_ble_eq_true rfl), (Nat.le_of_ble_eq_true rfl)⟩ rfl (Nat.le_of_ble_eq_true rfl) rfl rfl (fun _ _ h => h.elim) ?_
      rintro _ w3 ⟨rfl, s3, fm3, h3, hk3, hx3, hr3⟩
      have ke3 := z_ke h3 ke2 hk3
      refine j_iload_n dX11_forget_33 rfl ?_
      refine j_iret dX11_forget_34 rfl rfl ?_ (Nat.le_of_ble_eq_true rfl) (Nat.le_of_ble_eq_true rfl)
      exact ⟨_, _, rfl, ((fm2.le (q' := 59) (by decide)).tr (fm3.le (q' := 59) (by decide))), h3, ke3⟩
    · exact absurd c_9_21 (by decide)
set_option maxRecDepth 100000 in
set_option maxHeartbeats 8000000 in
theorem cm_isNoSpan (hl : l.stackTraces = false) (w : z_W) (x y z : Int32)  : z_Con G l mX11_isNoSpan 14 0 0 w [.int x, .int y, .int z] (fun v w9 => ((v = some (.int 1)) ∨ (v = some (.int 0) ∧ z_vl x ∧ z_vl y ∧ (1 ≤ z ∧ z ≤ 99) ∧ z_mny x y z ≤ 40)) ∧ w9 = w) (fun _ _ => False) := by
  refine z_body hl (by decide) rfl (Nat.le_of_ble_eq_true rfl) ?_
  show z_J G l mX11_isNoSpan _ 0 [(0, _), (1, _), (2, _)] [] _ 0 0
  refine j_iload_n dX11_isNoSpan_0 rfl ?_
  refine j_callS dX11_isNoSpan_1 kX11_isNoValue lX11_79 stX11_isNoValue (cm_isNoValue hl w _) (Nat.le_of_ble_eq_true rfl) ⟨(Nat.le_of_ble_eq_true rfl), (Nat.le_of_ble_eq_true rfl)⟩ rfl (Nat.le_of_ble_eq_true rfl) rfl rfl (fun _ _ h => h.elim) ?_
  rintro _ _ ⟨⟨rfl, hno66⟩ | ⟨rfl, hye66⟩, hw66⟩
  · refine j_w w hw66 ?_
    refine j_if_ne (tgt := 35) dX11_isNoSpan_4 (by decide) (fun c_4_6 => ?_) (fun c_4_6 => ?_)
    · refine j_iconst (v := 1) dX11_isNoSpan_35 (by decide) ?_
      refine j_goto (tgt := 40) dX11_isNoSpan_36 (by decide) ?_
      refine j_iret dX11_isNoSpan_40 rfl rfl ?_ (Nat.le_of_ble_eq_true rfl) (Nat.le_of_ble_eq_true rfl)
      exact ⟨Or.inl rfl, rfl⟩
    · exact absurd c_4_6 (by decide)
  · refine j_w w hw66 ?_
    refine j_if_ne (tgt := 35) dX11_isNoSpan_4 (by decide) (fun c_4_13 => ?_) (fun c_4_13 => ?_)
    · exact absurd c_4_13 (by decide)
    · refine j_iload_n dX11_isNoSpan_7 rfl ?_
      refine j_callS dX11_isNoSpan_8 kX11_isNoValue lX11_79 stX11_isNoValue (cm_isNoValue hl w _) (Nat.le_of_ble_eq_true rfl) ⟨(Nat.le_of_ble_eq_true rfl), (Nat.le_of_ble_eq_true rfl)⟩ rfl (Nat.le_of_ble_eq_true rfl) rfl rfl (fun _ _ h => h.elim) ?_
      rintro _ _ ⟨⟨rfl, hno67⟩ | ⟨rfl, hye67⟩, hw67⟩
      · refine j_w w hw67 ?_
        refine j_if_ne (tgt := 35) dX11_isNoSpan_11 (by decide) (fun c_11_19 => ?_) (fun c_11_19 => ?_)
        · refine j_iconst (v := 1) dX11_isNoSpan_35 (by decide) ?_
          refine j_goto (tgt := 40) dX11_isNoSpan_36 (by decide) ?_
          refine j_iret dX11_isNoSpan_40 rfl rfl ?_ (Nat.le_of_ble_eq_true rfl) (Nat.le_of_ble_eq_true rfl)
          exact ⟨Or.inl rfl, rfl⟩
        · exact absurd c_11_19 (by decide)
      · refine j_w w hw67 ?_
        refine j_if_ne (tgt := 35) dX11_isNoSpan_11 (by decide) (fun c_11_26 => ?_) (fun c_11_26 => ?_)
        · exact absurd c_11_26 (by decide)
        · refine j_iload_n dX11_isNoSpan_14 rfl ?_
          refine j_iconst (v := 1) dX11_isNoSpan_15 (by decide) ?_
          refine j_bipush (v := 99) dX11_isNoSpan_16 (by decide) ?_
          refine j_callS dX11_isNoSpan_18 kX11_isIn lX11_59 stX11_isIn (cm_isIn hl w _ _ _) (Nat.le_of_ble_eq_true rfl) ⟨(Nat.le_of_ble_eq_true rfl), (Nat.le_of_ble_eq_true rfl)⟩ rfl (Nat.le_of_ble_eq_true rfl) rfl rfl (fun _ _ h => h.elim) ?_
          rintro _ _ ⟨⟨rfl, hye68⟩ | ⟨rfl, hno68⟩, hw68⟩
          · refine j_w w hw68 ?_
            refine j_if_eq (tgt := 35) dX11_isNoSpan_21 (by decide) (fun c_21_34 => ?_) (fun c_21_34 => ?_)
            · exact absurd c_21_34 (by decide)
            · refine j_iload_n dX11_isNoSpan_24 rfl ?_
              refine j_iload_n dX11_isNoSpan_25 rfl ?_
              refine j_iload_n dX11_isNoSpan_26 rfl ?_
              refine j_callS dX11_isNoSpan_27 kX11_many lX11_179 stX11_many (cm_many hl w _ _ _ (z_ne0 hye68.1)) (Nat.le_of_ble_eq_true rfl) ⟨(Nat.le_of_ble_eq_true rfl), (Nat.le_of_ble_eq_true rfl)⟩ rfl (Nat.le_of_ble_eq_true rfl) rfl rfl (fun _ _ h => h.elim) ?_
              rintro _ _ ⟨rfl, hw69⟩
              refine j_w w hw69 ?_
              refine j_bipush (v := 40) dX11_isNoSpan_30 (by decide) ?_
              refine j_icmp_le (tgt := 39) dX11_isNoSpan_32 (by decide) (fun c_32_43 => ?_) (fun c_32_43 => ?_)
              · refine j_iconst (v := 0) dX11_isNoSpan_39 (by decide) ?_
                refine j_iret dX11_isNoSpan_40 rfl rfl ?_ (Nat.le_of_ble_eq_true rfl) (Nat.le_of_ble_eq_true rfl)
                exact ⟨Or.inr ⟨rfl, hye66, hye67, hye68, c_32_43⟩, rfl⟩
              · refine j_iconst (v := 1) dX11_isNoSpan_35 (by decide) ?_
                refine j_goto (tgt := 40) dX11_isNoSpan_36 (by decide) ?_
                refine j_iret dX11_isNoSpan_40 rfl rfl ?_ (Nat.le_of_ble_eq_true rfl) (Nat.le_of_ble_eq_true rfl)
                exact ⟨Or.inl rfl, rfl⟩
          · refine j_w w hw68 ?_
            refine j_if_eq (tgt := 35) dX11_isNoSpan_21 (by decide) (fun c_21_52 => ?_) (fun c_21_52 => ?_)
            · refine j_iconst (v := 1) dX11_isNoSpan_35 (by decide) ?_
              refine j_goto (tgt := 40) dX11_isNoSpan_36 (by decide) ?_
              refine j_iret dX11_isNoSpan_40 rfl rfl ?_ (Nat.le_of_ble_eq_true rfl) (Nat.le_of_ble_eq_true rfl)
              exact ⟨Or.inl rfl, rfl⟩
            · exact absurd c_21_52 (by decide)
set_option maxRecDepth 100000 in
set_option maxHeartbeats 8000000 in
theorem cm_span (hl : l.stackTraces = false) (w : z_W) (s : z_Z) (x y z : Int32) (a0 g : Nat) (h : z_mst w s) (hz : 1 ≤ z ∧ z ≤ 99) (hm40 : z_mny x y z ≤ 40) (ha : a0 ≤ 40) (hg : g < 2) : z_Con G l mX11_span 20 80 1240 w [.ref 1000, .int x, .int y, .int z, .int (nI a0), .int (nI g)] (fun v w9 => ∃ (r : Int32) (s9 : z_Z), v = some (.int r) ∧ z_fm 59 w w9 ∧ z_mst w9 s9 ∧ z_key s9 = z_key s) (fun _ _ => False) := by
  have ke0 : z_key s = z_key s := rfl
  refine z_body hl (by decide) rfl (Nat.le_of_ble_eq_true rfl) ?_
  show z_J G l mX11_span _ 0 [(0, _), (1, _), (2, _), (3, _), (4, _), (5, _)] [] _ 0 0
  refine j_iconst (v := 0) dX11_span_0 (by decide) ?_
  refine j_istore (lo' := [(6, _), (0, _), (1, _), (2, _), (3, _), (4, _), (5, _)]) dX11_span_1 (by decide) rfl ?_
  refine j_iload dX11_span_3 rfl ?_
  refine j_istore (lo' := [(7, _), (6, _), (0, _), (1, _), (2, _), (3, _), (4, _), (5, _)]) dX11_span_5 (by decide) rfl ?_
  have loop7 : ∀ (n9 : Nat) (w1 : z_W) (s1 : z_Z) (j : Nat) (m : Int32), a0 + j ≤ 40 → 40 < a0 + j + n9 → z_mst w1 s1 → z_fm 59 w w1 → z_key s1 = z_key s → z_J G l mX11_span (20, 80, 1240, w, (fun v w9 => ∃ (r : Int32) (s9 : z_Z), v = some (.int r) ∧ z_fm 59 w w9 ∧ z_mst w9 s9 ∧ z_key s9 = z_key s), (fun _ _ => False)) 7 [(0, .ref 1000), (1, .int x), (2, .int y), (3, .int z), (4, .int (nI a0)), (5, .int (nI g)), (6, .int m), (7, .int (nI (a0 + j)))] [] w1 (2 * j) (31 * j) := by
    intro n9
    induction n9 with
    | zero => intro w1 s1 j m hj hf9 hm hfm hke; exact absurd hf9 (by omega)
    | succ n9 ih =>
      intro w1 s1 j m hj hf9 hm hfm hke
      refine j_iload dX11_span_7 rfl ?_
      refine j_iload_n dX11_span_9 rfl ?_
      refine j_iload_n dX11_span_10 rfl ?_
      refine j_iload_n dX11_span_11 rfl ?_
      refine j_callS dX11_span_12 kX11_many lX11_179 stX11_many (cm_many hl w1 _ _ _ (z_ne0 hz.1)) (Nat.le_of_ble_eq_true rfl) ⟨(by show _ ≤ 80; omega), (by show _ ≤ 1240; omega)⟩ rfl (Nat.le_of_ble_eq_true rfl) rfl rfl (fun _ _ h => h.elim) ?_
      rintro _ _ ⟨rfl, hw70⟩
      refine j_w w1 hw70 ?_
      refine j_icmp_ge (tgt := 51) dX11_span_15 (by decide) (fun c_15_19 => ?_) (fun c_15_19 => ?_)
      · refine j_iload dX11_span_51 rfl ?_
        refine j_iret dX11_span_53 rfl rfl ?_ (by show _ ≤ 80; omega) (by show _ ≤ 1240; omega)
        exact ⟨_, _, rfl, hfm, hm, hke⟩
      · have hlt := z_lt40 c_15_19 hm40 (by omega)
        refine j_aload_n dX11_span_18 rfl rfl ?_
        refine j_getf dX11_span_19 fX11_40 hm.m rfl ?_
        refine j_iload dX11_span_22 rfl ?_
        obtain ⟨fz71, gz71, hz71⟩ := hm.hs
        refine j_aald (v := .ref (1009 + g)) dX11_span_24 gz71 rfl rfl (vp_in_nI (by omega) (by omega)) (by rw [z_cla (by omega)]; exact hz71 _ (by omega)) ?_
        refine j_iload_n dX11_span_25 rfl ?_
        refine j_iload dX11_span_26 rfl ?_
        refine j_iload_n dX11_span_28 rfl ?_
        refine j_imul dX11_span_29 ?_
        refine j_iadd dX11_span_30 ?_
        refine j_callVN (q := (RX10, TX10, 5)) dX11_span_31 kX10_refuses lX11_102 inX10_refuses seX10_refuses (hm.hd (i := g) (by omega)) rfl (cm_refuses hl w1 _ (g) _ hm (by omega)) (Nat.le_of_ble_eq_true rfl) ⟨(by show _ ≤ 80; omega), (by show _ ≤ 1240; omega)⟩ rfl (Nat.le_of_ble_eq_true rfl) rfl rfl (fun _ _ h => h.elim) ?_
        rintro _ w2 (⟨rfl, hst2, hw2⟩ | ⟨rfl, hst2, s2, fm2, h2, hk2, hx2, hh2, hr2, ho2⟩)
        · refine j_w w1 hw2 ?_
          refine j_if_eq (tgt := 42) dX11_span_34 (by decide) (fun c_34_37 => ?_) (fun c_34_37 => ?_)
          · exact absurd c_34_37 (by decide)
          · refine j_aload_n dX11_span_37 rfl rfl ?_
            refine j_callV (q := (RX11, TX11, 8)) dX11_span_38 kX11_nine lX11_105 inX11_nine seX11_nine hm.m rfl (cm_nine hl w1 _ hm) (Nat.le_of_ble_eq_true rfl) ⟨(by show _ ≤ 80; omega), (by show _ ≤ 1240; omega)⟩ rfl (Nat.le_of_ble_eq_true rfl) rfl rfl (fun _ _ h => h.elim) ?_
            rintro _ w3 ⟨rfl, fm3, h3⟩
            have ke3 := z_ke h3 hke rfl
            refine j_iret dX11_span_41 rfl rfl ?_ (by show _ ≤ 80; omega) (by show _ ≤ 1240; omega)
            exact ⟨_, _, rfl, (hfm.tr (fm3.le (q' := 59) (by decide))), h3, ke3⟩
        · have ke2 := z_ke h2 hke hk2
          refine j_if_eq (tgt := 42) dX11_span_34 (by decide) (fun c_34_46 => ?_) (fun c_34_46 => ?_)
          · refine j_iinc (lo' := [(6, _), (0, _), (1, _), (2, _), (3, _), (4, _), (5, _), (7, _)]) dX11_span_42 rfl rfl (by decide) rfl ?_
            refine j_iinc (lo' := [(7, _), (6, _), (0, _), (1, _), (2, _), (3, _), (4, _), (5, _)]) dX11_span_45 rfl (z_inc _) (by decide) rfl ?_
            refine j_goto (tgt := 7) dX11_span_48 (by decide) ?_
            refine j_widen (kc' := (2 * (j + 1))) (ks' := (31 * (j + 1))) (by omega) (by omega) ?_
            exact j_lo2 (ih w2 _ (j + 1) _ (by omega) (by omega) h2 (hfm.tr (fm2.le (q' := 59) (by decide))) ke2) (z_q1 rfl (z_q1 rfl (z_q1 rfl (z_q1 rfl (z_q1 rfl (z_q1 rfl (z_q1 rfl (z_q1 rfl z_q0))))))))
          · exact absurd c_34_46 (by decide)
  refine j_widen (kc' := (2 * 0)) (ks' := (31 * 0)) (by omega) (by omega) ?_
  exact j_lo2 (loop7 41 w _ 0 0 (by omega) (by omega) h z_fm.rf ke0) (z_q1 rfl (z_q1 rfl (z_q1 rfl (z_q1 rfl (z_q1 rfl (z_q1 rfl (z_q1 rfl (z_q1 rfl z_q0))))))))
set_option maxRecDepth 100000 in
set_option maxHeartbeats 8000000 in
theorem cm_hearSpan (hl : l.stackTraces = false) (w : z_W) (s : z_Z) (x y z u : Int32) (h : z_mst w s)  : z_Con G l mX11_hearSpan 24 80 1240 w [.ref 1000, .int x, .int y, .int z, .int u] (fun v w9 => ∃ (r : Int32) (s9 : z_Z), v = some (.int r) ∧ z_fm 59 w w9 ∧ z_mst w9 s9 ∧ z_key s9 = z_key s) (fun _ _ => False) := by
  have ke0 : z_key s = z_key s := rfl
  refine z_body hl (by decide) rfl (Nat.le_of_ble_eq_true rfl) ?_
  show z_J G l mX11_hearSpan _ 0 [(0, _), (1, _), (2, _), (3, _), (4, _)] [] _ 0 0
  refine j_aload_n dX11_hearSpan_0 rfl rfl ?_
  refine j_iload dX11_hearSpan_1 rfl ?_
  refine j_callS dX11_hearSpan_3 kX11_isNoTwo lX11_72 stX11_isNoTwo (cm_isNoTwo hl w _) (Nat.le_of_ble_eq_true rfl) ⟨(Nat.le_of_ble_eq_true rfl), (Nat.le_of_ble_eq_true rfl)⟩ rfl (Nat.le_of_ble_eq_true rfl) rfl rfl (fun _ _ h => h.elim) ?_
  rintro _ _ ⟨⟨rfl, hno72⟩ | ⟨rfl, i72, hi72, rfl⟩, hw72⟩
  · refine j_w w hw72 ?_
    refine j_iconst (v := 1) dX11_hearSpan_6 (by decide) ?_
    refine j_callV (q := (RX11, TX11, 8)) dX11_hearSpan_7 kX11_start lX11_76 inX11_start seX11_start h.m rfl (cm_start1 hl w _ _ h (by decide)) (Nat.le_of_ble_eq_true rfl) ⟨(Nat.le_of_ble_eq_true rfl), (Nat.le_of_ble_eq_true rfl)⟩ rfl (Nat.le_of_ble_eq_true rfl) rfl rfl (fun _ _ h => h.elim) ?_
    rintro _ w1 ⟨rfl, fm1, h1⟩
    have ke1 := z_ke h1 ke0 rfl
    refine j_if_ne (tgt := 27) dX11_hearSpan_10 (by decide) (fun c_10_11 => ?_) (fun c_10_11 => ?_)
    · refine j_iconst (v := 0) dX11_hearSpan_27 (by decide) ?_
      refine j_goto (tgt := 41) dX11_hearSpan_28 (by decide) ?_
      refine j_iret dX11_hearSpan_41 rfl rfl ?_ (Nat.le_of_ble_eq_true rfl) (Nat.le_of_ble_eq_true rfl)
      exact ⟨_, _, rfl, (fm1.le (q' := 59) (by decide)), h1, ke1⟩
    · exact absurd c_10_11 (by decide)
  · refine j_w w hw72 ?_
    refine j_iconst (v := 1) dX11_hearSpan_6 (by decide) ?_
    refine j_callV (q := (RX11, TX11, 8)) dX11_hearSpan_7 kX11_start lX11_76 inX11_start seX11_start h.m rfl (cm_start0 hl w _ _ h) (Nat.le_of_ble_eq_true rfl) ⟨(Nat.le_of_ble_eq_true rfl), (Nat.le_of_ble_eq_true rfl)⟩ rfl (Nat.le_of_ble_eq_true rfl) rfl rfl (fun _ _ h => h.elim) ?_
    rintro _ w2 ⟨rfl, fm2, h2⟩
    have ke2 := z_ke h2 ke0 rfl
    refine j_if_ne (tgt := 27) dX11_hearSpan_10 (by decide) (fun c_10_22 => ?_) (fun c_10_22 => ?_)
    · exact absurd c_10_22 (by decide)
    · refine j_aload_n dX11_hearSpan_13 rfl rfl ?_
      refine j_iload_n dX11_hearSpan_14 rfl ?_
      refine j_iload_n dX11_hearSpan_15 rfl ?_
      refine j_iload_n dX11_hearSpan_16 rfl ?_
      refine j_callS dX11_hearSpan_17 kX11_isNoSpan lX11_182 stX11_isNoSpan (cm_isNoSpan hl w2 _ _ _) (Nat.le_of_ble_eq_true rfl) ⟨(Nat.le_of_ble_eq_true rfl), (Nat.le_of_ble_eq_true rfl)⟩ rfl (Nat.le_of_ble_eq_true rfl) rfl rfl (fun _ _ h => h.elim) ?_
      rintro _ _ ⟨rfl | ⟨rfl, hx73, hy73, hz73, hm73⟩, hw73⟩
      · refine j_w w2 hw73 ?_
        refine j_iconst (v := 2) dX11_hearSpan_20 (by decide) ?_
        refine j_callV (q := (RX11, TX11, 8)) dX11_hearSpan_21 kX11_refuse lX11_52 inX11_refuse seX11_refuse h2.m rfl (cm_refuse1 hl w2 _ _ h2 rfl (by decide)) (Nat.le_of_ble_eq_true rfl) ⟨(Nat.le_of_ble_eq_true rfl), (Nat.le_of_ble_eq_true rfl)⟩ rfl (Nat.le_of_ble_eq_true rfl) rfl rfl (fun _ _ h => h.elim) ?_
        rintro _ w3 ⟨rfl, fm3, h3⟩
        have ke3 := z_ke h3 ke2 rfl
        refine j_if_eq (tgt := 31) dX11_hearSpan_24 (by decide) (fun c_24_35 => ?_) (fun c_24_35 => ?_)
        · exact absurd c_24_35 (by decide)
        · refine j_iconst (v := 0) dX11_hearSpan_27 (by decide) ?_
          refine j_goto (tgt := 41) dX11_hearSpan_28 (by decide) ?_
          refine j_iret dX11_hearSpan_41 rfl rfl ?_ (Nat.le_of_ble_eq_true rfl) (Nat.le_of_ble_eq_true rfl)
          exact ⟨_, _, rfl, ((fm2.le (q' := 59) (by decide)).tr (fm3.le (q' := 59) (by decide))), h3, ke3⟩
      · refine j_w w2 hw73 ?_
        refine j_iconst (v := 2) dX11_hearSpan_20 (by decide) ?_
        refine j_callV (q := (RX11, TX11, 8)) dX11_hearSpan_21 kX11_refuse lX11_52 inX11_refuse seX11_refuse h2.m rfl (cm_refuse0 hl w2 _ _ h2 rfl) (Nat.le_of_ble_eq_true rfl) ⟨(Nat.le_of_ble_eq_true rfl), (Nat.le_of_ble_eq_true rfl)⟩ rfl (Nat.le_of_ble_eq_true rfl) rfl rfl (fun _ _ h => h.elim) ?_
        rintro _ _ ⟨rfl, hw74⟩
        refine j_w w2 hw74 ?_
        refine j_if_eq (tgt := 31) dX11_hearSpan_24 (by decide) (fun c_24_46 => ?_) (fun c_24_46 => ?_)
        · refine j_aload_n dX11_hearSpan_31 rfl rfl ?_
          refine j_iload_n dX11_hearSpan_32 rfl ?_
          refine j_iload_n dX11_hearSpan_33 rfl ?_
          refine j_iload_n dX11_hearSpan_34 rfl ?_
          refine j_iconst (v := 0) dX11_hearSpan_35 (by decide) ?_
          refine j_iload dX11_hearSpan_36 rfl ?_
          refine j_callV (q := (RX11, TX11, 8)) dX11_hearSpan_38 kX11_span lX11_185 inX11_span seX11_span h2.m rfl (cm_span hl w2 _ _ _ _ (0) (i72) h2 hz73 hm73 (by omega) (by omega)) (Nat.le_of_ble_eq_true rfl) ⟨(Nat.le_of_ble_eq_true rfl), (Nat.le_of_ble_eq_true rfl)⟩ rfl (Nat.le_of_ble_eq_true rfl) rfl rfl (fun _ _ h => h.elim) ?_
          rintro _ w4 ⟨r4, s4, rfl, fm4, h4, hk4⟩
          have ke4 := z_ke h4 ke2 hk4
          refine j_iret dX11_hearSpan_41 rfl rfl ?_ (Nat.le_of_ble_eq_true rfl) (Nat.le_of_ble_eq_true rfl)
          exact ⟨_, _, rfl, ((fm2.le (q' := 59) (by decide)).tr (fm4.le (q' := 59) (by decide))), h4, ke4⟩
        · exact absurd c_24_46 (by decide)
set_option maxRecDepth 100000 in
set_option maxHeartbeats 8000000 in
theorem cm_hearSteps (hl : l.stackTraces = false) (w : z_W) (s : z_Z) (x y z t u : Int32) (h : z_mst w s)  : z_Con G l mX11_hearSteps 24 80 1240 w [.ref 1000, .int x, .int y, .int z, .int t, .int u] (fun v w9 => ∃ (r : Int32) (s9 : z_Z), v = some (.int r) ∧ z_fm 59 w w9 ∧ z_mst w9 s9 ∧ z_key s9 = z_key s) (fun _ _ => False) := by
  have ke0 : z_key s = z_key s := rfl
  refine z_body hl (by decide) rfl (Nat.le_of_ble_eq_true rfl) ?_
  show z_J G l mX11_hearSteps _ 0 [(0, _), (1, _), (2, _), (3, _), (4, _), (5, _)] [] _ 0 0
  refine j_aload_n dX11_hearSteps_0 rfl rfl ?_
  refine j_iload dX11_hearSteps_1 rfl ?_
  refine j_callS dX11_hearSteps_3 kX11_isNoTwo lX11_72 stX11_isNoTwo (cm_isNoTwo hl w _) (Nat.le_of_ble_eq_true rfl) ⟨(Nat.le_of_ble_eq_true rfl), (Nat.le_of_ble_eq_true rfl)⟩ rfl (Nat.le_of_ble_eq_true rfl) rfl rfl (fun _ _ h => h.elim) ?_
  rintro _ _ ⟨⟨rfl, hno75⟩ | ⟨rfl, i75, hi75, rfl⟩, hw75⟩
  · refine j_w w hw75 ?_
    refine j_iconst (v := 1) dX11_hearSteps_6 (by decide) ?_
    refine j_callV (q := (RX11, TX11, 8)) dX11_hearSteps_7 kX11_start lX11_76 inX11_start seX11_start h.m rfl (cm_start1 hl w _ _ h (by decide)) (Nat.le_of_ble_eq_true rfl) ⟨(Nat.le_of_ble_eq_true rfl), (Nat.le_of_ble_eq_true rfl)⟩ rfl (Nat.le_of_ble_eq_true rfl) rfl rfl (fun _ _ h => h.elim) ?_
    rintro _ w1 ⟨rfl, fm1, h1⟩
    have ke1 := z_ke h1 ke0 rfl
    refine j_if_ne (tgt := 50) dX11_hearSteps_10 (by decide) (fun c_10_11 => ?_) (fun c_10_11 => ?_)
    · refine j_iconst (v := 0) dX11_hearSteps_50 (by decide) ?_
      refine j_goto (tgt := 65) dX11_hearSteps_51 (by decide) ?_
      refine j_iret dX11_hearSteps_65 rfl rfl ?_ (Nat.le_of_ble_eq_true rfl) (Nat.le_of_ble_eq_true rfl)
      exact ⟨_, _, rfl, (fm1.le (q' := 59) (by decide)), h1, ke1⟩
    · exact absurd c_10_11 (by decide)
  · refine j_w w hw75 ?_
    refine j_iconst (v := 1) dX11_hearSteps_6 (by decide) ?_
    refine j_callV (q := (RX11, TX11, 8)) dX11_hearSteps_7 kX11_start lX11_76 inX11_start seX11_start h.m rfl (cm_start0 hl w _ _ h) (Nat.le_of_ble_eq_true rfl) ⟨(Nat.le_of_ble_eq_true rfl), (Nat.le_of_ble_eq_true rfl)⟩ rfl (Nat.le_of_ble_eq_true rfl) rfl rfl (fun _ _ h => h.elim) ?_
    rintro _ w2 ⟨rfl, fm2, h2⟩
    have ke2 := z_ke h2 ke0 rfl
    refine j_if_ne (tgt := 50) dX11_hearSteps_10 (by decide) (fun c_10_22 => ?_) (fun c_10_22 => ?_)
    · exact absurd c_10_22 (by decide)
    · refine j_aload_n dX11_hearSteps_13 rfl rfl ?_
      refine j_iload_n dX11_hearSteps_14 rfl ?_
      refine j_iload_n dX11_hearSteps_15 rfl ?_
      refine j_iload_n dX11_hearSteps_16 rfl ?_
      refine j_callS dX11_hearSteps_17 kX11_isNoSpan lX11_182 stX11_isNoSpan (cm_isNoSpan hl w2 _ _ _) (Nat.le_of_ble_eq_true rfl) ⟨(Nat.le_of_ble_eq_true rfl), (Nat.le_of_ble_eq_true rfl)⟩ rfl (Nat.le_of_ble_eq_true rfl) rfl rfl (fun _ _ h => h.elim) ?_
      rintro _ _ ⟨rfl | ⟨rfl, hx76, hy76, hz76, hm76⟩, hw76⟩
      · refine j_w w2 hw76 ?_
        refine j_if_ne (tgt := 38) dX11_hearSteps_20 (by decide) (fun c_20_31 => ?_) (fun c_20_31 => ?_)
        · refine j_iconst (v := 1) dX11_hearSteps_38 (by decide) ?_
          refine j_goto (tgt := 43) dX11_hearSteps_39 (by decide) ?_
          refine j_iconst (v := 2) dX11_hearSteps_43 (by decide) ?_
          refine j_callV (q := (RX11, TX11, 8)) dX11_hearSteps_44 kX11_refuse lX11_52 inX11_refuse seX11_refuse h2.m rfl (cm_refuse1 hl w2 _ _ h2 rfl (by decide)) (Nat.le_of_ble_eq_true rfl) ⟨(Nat.le_of_ble_eq_true rfl), (Nat.le_of_ble_eq_true rfl)⟩ rfl (Nat.le_of_ble_eq_true rfl) rfl rfl (fun _ _ h => h.elim) ?_
          rintro _ w3 ⟨rfl, fm3, h3⟩
          have ke3 := z_ke h3 ke2 rfl
          refine j_if_eq (tgt := 54) dX11_hearSteps_47 (by decide) (fun c_47_38 => ?_) (fun c_47_38 => ?_)
          · exact absurd c_47_38 (by decide)
          · refine j_iconst (v := 0) dX11_hearSteps_50 (by decide) ?_
            refine j_goto (tgt := 65) dX11_hearSteps_51 (by decide) ?_
            refine j_iret dX11_hearSteps_65 rfl rfl ?_ (Nat.le_of_ble_eq_true rfl) (Nat.le_of_ble_eq_true rfl)
            exact ⟨_, _, rfl, ((fm2.le (q' := 59) (by decide)).tr (fm3.le (q' := 59) (by decide))), h3, ke3⟩
        · exact absurd c_20_31 (by decide)
      · refine j_w w2 hw76 ?_
        refine j_if_ne (tgt := 38) dX11_hearSteps_20 (by decide) (fun c_20_46 => ?_) (fun c_20_46 => ?_)
        · exact absurd c_20_46 (by decide)
        · refine j_iload dX11_hearSteps_23 rfl ?_
          refine j_iconst (v := 0) dX11_hearSteps_25 (by decide) ?_
          refine j_iload_n dX11_hearSteps_26 rfl ?_
          refine j_iload_n dX11_hearSteps_27 rfl ?_
          refine j_iload_n dX11_hearSteps_28 rfl ?_
          refine j_callS dX11_hearSteps_29 kX11_many lX11_179 stX11_many (cm_many hl w2 _ _ _ (z_ne0 hz76.1)) (Nat.le_of_ble_eq_true rfl) ⟨(Nat.le_of_ble_eq_true rfl), (Nat.le_of_ble_eq_true rfl)⟩ rfl (Nat.le_of_ble_eq_true rfl) rfl rfl (fun _ _ h => h.elim) ?_
          rintro _ _ ⟨rfl, hw77⟩
          refine j_w w2 hw77 ?_
          refine j_callS dX11_hearSteps_32 kX11_isIn lX11_59 stX11_isIn (cm_isIn hl w2 _ _ _) (Nat.le_of_ble_eq_true rfl) ⟨(Nat.le_of_ble_eq_true rfl), (Nat.le_of_ble_eq_true rfl)⟩ rfl (Nat.le_of_ble_eq_true rfl) rfl rfl (fun _ _ h => h.elim) ?_
          rintro _ _ ⟨⟨rfl, hye78⟩ | ⟨rfl, hno78⟩, hw78⟩
          · refine j_w w2 hw78 ?_
            obtain ⟨k78, hk78, rfl⟩ := z_nat40 hm76 hye78
            refine j_if_ne (tgt := 42) dX11_hearSteps_35 (by decide) (fun c_35_60 => ?_) (fun c_35_60 => ?_)
            · refine j_iconst (v := 0) dX11_hearSteps_42 (by decide) ?_
              refine j_iconst (v := 2) dX11_hearSteps_43 (by decide) ?_
              refine j_callV (q := (RX11, TX11, 8)) dX11_hearSteps_44 kX11_refuse lX11_52 inX11_refuse seX11_refuse h2.m rfl (cm_refuse0 hl w2 _ _ h2 rfl) (Nat.le_of_ble_eq_true rfl) ⟨(Nat.le_of_ble_eq_true rfl), (Nat.le_of_ble_eq_true rfl)⟩ rfl (Nat.le_of_ble_eq_true rfl) rfl rfl (fun _ _ h => h.elim) ?_
              rintro _ _ ⟨rfl, hw79⟩
              refine j_w w2 hw79 ?_
              refine j_if_eq (tgt := 54) dX11_hearSteps_47 (by decide) (fun c_47_66 => ?_) (fun c_47_66 => ?_)
              · refine j_aload_n dX11_hearSteps_54 rfl rfl ?_
                refine j_iload_n dX11_hearSteps_55 rfl ?_
                refine j_iload_n dX11_hearSteps_56 rfl ?_
                refine j_iload_n dX11_hearSteps_57 rfl ?_
                refine j_iload dX11_hearSteps_58 rfl ?_
                refine j_iload dX11_hearSteps_60 rfl ?_
                refine j_callV (q := (RX11, TX11, 8)) dX11_hearSteps_62 kX11_span lX11_185 inX11_span seX11_span h2.m rfl (cm_span hl w2 _ _ _ _ (k78) (i75) h2 hz76 hm76 (by omega) (by omega)) (Nat.le_of_ble_eq_true rfl) ⟨(Nat.le_of_ble_eq_true rfl), (Nat.le_of_ble_eq_true rfl)⟩ rfl (Nat.le_of_ble_eq_true rfl) rfl rfl (fun _ _ h => h.elim) ?_
                rintro _ w4 ⟨r4, s4, rfl, fm4, h4, hk4⟩
                have ke4 := z_ke h4 ke2 hk4
                refine j_iret dX11_hearSteps_65 rfl rfl ?_ (Nat.le_of_ble_eq_true rfl) (Nat.le_of_ble_eq_true rfl)
                exact ⟨_, _, rfl, ((fm2.le (q' := 59) (by decide)).tr (fm4.le (q' := 59) (by decide))), h4, ke4⟩
              · exact absurd c_47_66 (by decide)
            · exact absurd c_35_60 (by decide)
          · refine j_w w2 hw78 ?_
            refine j_if_ne (tgt := 42) dX11_hearSteps_35 (by decide) (fun c_35_81 => ?_) (fun c_35_81 => ?_)
            · exact absurd c_35_81 (by decide)
            · refine j_iconst (v := 1) dX11_hearSteps_38 (by decide) ?_
              refine j_goto (tgt := 43) dX11_hearSteps_39 (by decide) ?_
              refine j_iconst (v := 2) dX11_hearSteps_43 (by decide) ?_
              refine j_callV (q := (RX11, TX11, 8)) dX11_hearSteps_44 kX11_refuse lX11_52 inX11_refuse seX11_refuse h2.m rfl (cm_refuse1 hl w2 _ _ h2 rfl (by decide)) (Nat.le_of_ble_eq_true rfl) ⟨(Nat.le_of_ble_eq_true rfl), (Nat.le_of_ble_eq_true rfl)⟩ rfl (Nat.le_of_ble_eq_true rfl) rfl rfl (fun _ _ h => h.elim) ?_
              rintro _ w5 ⟨rfl, fm5, h5⟩
              have ke5 := z_ke h5 ke2 rfl
              refine j_if_eq (tgt := 54) dX11_hearSteps_47 (by decide) (fun c_47_89 => ?_) (fun c_47_89 => ?_)
              · exact absurd c_47_89 (by decide)
              · refine j_iconst (v := 0) dX11_hearSteps_50 (by decide) ?_
                refine j_goto (tgt := 65) dX11_hearSteps_51 (by decide) ?_
                refine j_iret dX11_hearSteps_65 rfl rfl ?_ (Nat.le_of_ble_eq_true rfl) (Nat.le_of_ble_eq_true rfl)
                exact ⟨_, _, rfl, ((fm2.le (q' := 59) (by decide)).tr (fm5.le (q' := 59) (by decide))), h5, ke5⟩
end ZMq
