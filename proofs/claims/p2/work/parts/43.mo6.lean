section ZMs6
variable {G : z_G} {l : Launch}
set_option maxRecDepth 100000 in
set_option maxHeartbeats 8000000 in
theorem cm_go (hl : l.stackTraces = false) (w : z_W) (s : z_Z) (t : Nat) (y : Int32) (h : z_mst w s) (ht : t < 3) : z_Con G l mX11_go 20 0 0 w [.ref 1000, .int (nI t), .int y] (fun v w9 => ∃ (s9 : z_Z), v = none ∧ z_fm 59 w w9 ∧ z_mst w9 s9 ∧ z_key s9 = z_key s) (fun _ _ => False) := by
  have ke0 : z_key s = z_key s := rfl
  refine z_body hl (by decide) rfl (Nat.le_of_ble_eq_true rfl) ?_
  show z_J G l mX11_go _ 0 [(0, _), (1, _), (2, _)] [] _ 0 0
  refine j_iload_n dX11_go_0 rfl ?_
  refine j_if_ne (tgt := 17) dX11_go_1 (by decide) (fun c_1_3 => ?_) (fun c_1_3 => ?_)
  · have hb1 : ¬ t = 0 := fun z => c_1_3 (show nI t = nI 0 by rw [z])
    refine j_aload_n dX11_go_17 rfl rfl ?_
    refine j_iload_n dX11_go_18 rfl ?_
    refine j_iload_n dX11_go_19 rfl ?_
    refine j_callV (q := (RX11, TX11, 8)) dX11_go_20 kX11_place lX11_130 inX11_place seX11_place h.m rfl (cm_place hl w _ (t) _ h (by omega)) (Nat.le_of_ble_eq_true rfl) ⟨(Nat.le_of_ble_eq_true rfl), (Nat.le_of_ble_eq_true rfl)⟩ rfl (Nat.le_of_ble_eq_true rfl) rfl rfl (fun _ _ h => h.elim) ?_
    rintro _ _ ⟨⟨j391, p391, rfl, hj391, hk391⟩ | ⟨rfl, hno391⟩, hw391⟩
    · refine j_w w hw391 ?_
      have hl391 : j391 < (z_qp s (t)).2.length := (List.getElem?_eq_some_iff.mp hj391).1
      have hz391 : (z_qp s (t)).2.length ≤ 20 := (h.pr (t := t) (by omega)).len
      refine j_istore_n (lo' := [(3, _), (0, _), (1, _), (2, _)]) dX11_go_23 (by decide) rfl ?_
      refine j_iload_n dX11_go_24 rfl ?_
      refine j_if_lt (tgt := 44) dX11_go_25 (by decide) (fun c_25_15 => ?_) (fun c_25_15 => ?_)
      · exact absurd c_25_15 (nI_pos (n := j391) (by omega))
      · refine j_aload_n dX11_go_28 rfl rfl ?_
        refine j_getf dX11_go_29 fX11_34 h.m rfl ?_
        refine j_iload_n dX11_go_32 rfl ?_
        obtain ⟨lv393, -, lg393⟩ := z_li.cell h.tabs
        refine j_callV (q := (RJx4a65c, TJx4a65c, 3)) dX11_go_33 kJx4a65c_get_915e3 lX11_82 inJx4a65c_get_915e3 seJx4a65c_get_915e3 lg393 rfl (cl_get hl w 47 1007 _ _ (t) _ h.tabs (z_thr3 (t := t) (by omega))) (Nat.le_of_ble_eq_true rfl) ⟨(Nat.le_of_ble_eq_true rfl), (Nat.le_of_ble_eq_true rfl)⟩ rfl (Nat.le_of_ble_eq_true rfl) rfl rfl (fun _ _ h => h.elim) ?_
        rintro _ _ ⟨rfl, hw394⟩
        refine j_w w hw394 ?_
        refine j_castS dX11_go_36 (z_w 1341 ((lwg_6 96).trans (by decide +kernel)) (by decide +kernel)) (z_li.is (h.tb (t := t) (by omega))) ?_
        refine j_iload_n dX11_go_39 rfl ?_
        obtain ⟨lv396, -, lg396⟩ := z_li.cell (h.tb (t := t) (by omega))
        refine j_callV (q := (RJx4a65c, TJx4a65c, 3)) dX11_go_40 kJx4a65c_remove_915e3 lX11_96 inJx4a65c_remove_915e3 seJx4a65c_remove_915e3 lg396 rfl (cl_rem hl w _ _ _ _ (j391) _ (h.tb (t := t) (by omega)) (z_rs_get (P := (z_qp s t).2) (by omega)) h.fn (z_rs_el (h.pr (t := t) (by omega)) (by omega))) (Nat.le_of_ble_eq_true rfl) ⟨(Nat.le_of_ble_eq_true rfl), (Nat.le_of_ble_eq_true rfl)⟩ rfl (Nat.le_of_ble_eq_true rfl) rfl rfl (fun _ _ h => h.elim) ?_
        rintro _ w1 ⟨rfl, fw1, mo1, hr1⟩
        rw [z_rs_rem] at hr1
        have fm1 := fw1.fm (q := 56) (by omega)
        have h1 := h.li51 (t0 := t) (P := (z_qp s t).2.eraseIdx (j391)) (by omega) fw1 hr1 (z_pr.m (fun n _ h2 => fw1.2.2 n (Or.inr (by omega))) (h.pr (t := t) (by omega)).rem)
        have ke1 := z_ke h1 ke0 rfl
        refine j_pop dX11_go_43 rfl ?_
        refine j_vret dX11_go_44 rfl ?_ (Nat.le_of_ble_eq_true rfl) (Nat.le_of_ble_eq_true rfl)
        exact ⟨_, rfl, (fm1.le (q' := 59) (by decide)), h1, ke1⟩
    · refine j_w w hw391 ?_
      refine j_istore_n (lo' := [(3, _), (0, _), (1, _), (2, _)]) dX11_go_23 (by decide) rfl ?_
      refine j_iload_n dX11_go_24 rfl ?_
      refine j_if_lt (tgt := 44) dX11_go_25 (by decide) (fun c_25_39 => ?_) (fun c_25_39 => ?_)
      · refine j_vret dX11_go_44 rfl ?_ (Nat.le_of_ble_eq_true rfl) (Nat.le_of_ble_eq_true rfl)
        exact ⟨_, rfl, z_fm.rf, h, ke0⟩
      · exact absurd c_25_39 (by decide)
  · have hb1 : t = 0 := nI_inj (a := t) (b := 0) c_1_3 (by omega) (by omega)
    refine j_aload_n dX11_go_4 rfl rfl ?_
    refine j_getf dX11_go_5 fX11_31 h.m rfl ?_
    refine j_iconst (v := 2) dX11_go_8 (by decide) ?_
    obtain ⟨fz397, gz397, hz397⟩ := h.co
    refine j_aald (v := .ref (1004 + 2)) dX11_go_9 gz397 rfl rfl (vp_in_nI (n := 2) (by decide) (by decide)) (by rw [show (2 : Int32).toNatClampNeg = 2 by decide]; exact hz397 _ (by decide)) ?_
    refine j_bipush (v := 6) dX11_go_10 (by decide) ?_
    refine j_dup2 dX11_go_12 rfl rfl ?_
    refine j_ld dX11_go_13 (h.cn (i := 2) (by decide)) (vp_in_nI (n := 6) (by decide) (by decide)) ?_
    refine j_iconst (v := 1) dX11_go_14 (by decide) ?_
    refine j_iadd dX11_go_15 ?_
    refine j_sto (w' := _) dX11_go_16 (h.cn (i := 2) (by decide)) (vp_in_nI (n := 6) (by decide) (by decide)) rfl ?_
    refine j_seal (by omega) ?_
    intro w2 u2
    have fw2 := u2.fw (ρ := 44 + 2) (by omega) (by omega)
    have h2 := h.up44 (i0 := 2) (by decide) fw2 u2.1
    have ke2 := z_ke h2 ke0 rfl
    refine j_aload_n dX11_go_17 rfl rfl ?_
    refine j_iload_n dX11_go_18 rfl ?_
    refine j_iload_n dX11_go_19 rfl ?_
    refine j_callV (q := (RX11, TX11, 8)) dX11_go_20 kX11_place lX11_130 inX11_place seX11_place h2.m rfl (cm_place hl w2 _ (t) _ h2 (by omega)) (Nat.le_of_ble_eq_true rfl) ⟨(Nat.le_of_ble_eq_true rfl), (Nat.le_of_ble_eq_true rfl)⟩ rfl (Nat.le_of_ble_eq_true rfl) rfl rfl (fun _ _ h => h.elim) ?_
    rintro _ _ ⟨⟨j400, p400, rfl, hj400, hk400⟩ | ⟨rfl, hno400⟩, hw400⟩
    · refine j_w w2 hw400 ?_
      have hl400 : j400 < (z_qp s (t)).2.length := (List.getElem?_eq_some_iff.mp hj400).1
      have hz400 : (z_qp s (t)).2.length ≤ 20 := (h2.pr (t := t) (by omega)).len
      refine j_istore_n (lo' := [(3, _), (0, _), (1, _), (2, _)]) dX11_go_23 (by decide) rfl ?_
      refine j_iload_n dX11_go_24 rfl ?_
      refine j_if_lt (tgt := 44) dX11_go_25 (by decide) (fun c_25_70 => ?_) (fun c_25_70 => ?_)
      · exact absurd c_25_70 (nI_pos (n := j400) (by omega))
      · refine j_aload_n dX11_go_28 rfl rfl ?_
        refine j_getf dX11_go_29 fX11_34 h2.m rfl ?_
        refine j_iload_n dX11_go_32 rfl ?_
        obtain ⟨lv402, -, lg402⟩ := z_li.cell h2.tabs
        refine j_callV (q := (RJx4a65c, TJx4a65c, 3)) dX11_go_33 kJx4a65c_get_915e3 lX11_82 inJx4a65c_get_915e3 seJx4a65c_get_915e3 lg402 rfl (cl_get hl w2 47 1007 _ _ (t) _ h2.tabs (z_thr3 (t := t) (by omega))) (Nat.le_of_ble_eq_true rfl) ⟨(Nat.le_of_ble_eq_true rfl), (Nat.le_of_ble_eq_true rfl)⟩ rfl (Nat.le_of_ble_eq_true rfl) rfl rfl (fun _ _ h => h.elim) ?_
        rintro _ _ ⟨rfl, hw403⟩
        refine j_w w2 hw403 ?_
        refine j_castS dX11_go_36 (z_w 1341 ((lwg_6 96).trans (by decide +kernel)) (by decide +kernel)) (z_li.is (h2.tb (t := t) (by omega))) ?_
        refine j_iload_n dX11_go_39 rfl ?_
        obtain ⟨lv405, -, lg405⟩ := z_li.cell (h2.tb (t := t) (by omega))
        refine j_callV (q := (RJx4a65c, TJx4a65c, 3)) dX11_go_40 kJx4a65c_remove_915e3 lX11_96 inJx4a65c_remove_915e3 seJx4a65c_remove_915e3 lg405 rfl (cl_rem hl w2 _ _ _ _ (j400) _ (h2.tb (t := t) (by omega)) (z_rs_get (P := (z_qp s t).2) (by omega)) h2.fn (z_rs_el (h2.pr (t := t) (by omega)) (by omega))) (Nat.le_of_ble_eq_true rfl) ⟨(Nat.le_of_ble_eq_true rfl), (Nat.le_of_ble_eq_true rfl)⟩ rfl (Nat.le_of_ble_eq_true rfl) rfl rfl (fun _ _ h => h.elim) ?_
        rintro _ w3 ⟨rfl, fw3, mo3, hr3⟩
        rw [z_rs_rem] at hr3
        have fm3 := fw3.fm (q := 56) (by omega)
        have h3 := h2.li51 (t0 := t) (P := (z_qp s t).2.eraseIdx (j400)) (by omega) fw3 hr3 (z_pr.m (fun n _ h2 => fw3.2.2 n (Or.inr (by omega))) (h2.pr (t := t) (by omega)).rem)
        have ke3 := z_ke h3 ke2 rfl
        refine j_pop dX11_go_43 rfl ?_
        refine j_vret dX11_go_44 rfl ?_ (Nat.le_of_ble_eq_true rfl) (Nat.le_of_ble_eq_true rfl)
        exact ⟨_, rfl, ((fw2.fm (q := 59) (by omega)).tr (fm3.le (q' := 59) (by decide))), h3, ke3⟩
    · refine j_w w2 hw400 ?_
      refine j_istore_n (lo' := [(3, _), (0, _), (1, _), (2, _)]) dX11_go_23 (by decide) rfl ?_
      refine j_iload_n dX11_go_24 rfl ?_
      refine j_if_lt (tgt := 44) dX11_go_25 (by decide) (fun c_25_94 => ?_) (fun c_25_94 => ?_)
      · refine j_vret dX11_go_44 rfl ?_ (Nat.le_of_ble_eq_true rfl) (Nat.le_of_ble_eq_true rfl)
        exact ⟨_, rfl, (fw2.fm (q := 59) (by omega)), h2, ke2⟩
      · exact absurd c_25_94 (by decide)
set_option maxRecDepth 100000 in
set_option maxHeartbeats 8000000 in
theorem cm_lay (hl : l.stackTraces = false) (w : z_W) (s : z_Z) (t k0 : Nat) (z : Int32) (h : z_mst w s) (ht : t < 3) (hk : k0 < 20) : z_Con G l mX11_lay 20 2 52 w [.ref 1000, .int (nI t), .int (nI k0), .int z] (fun v w9 => ∃ (s9 : z_Z), v = none ∧ z_fm 59 w w9 ∧ z_mst w9 s9 ∧ z_key s9 = z_key s) (fun _ _ => False) := by
  have ke0 : z_key s = z_key s := rfl
  refine z_body hl (by decide) rfl (Nat.le_of_ble_eq_true rfl) ?_
  show z_J G l mX11_lay _ 0 [(0, _), (1, _), (2, _), (3, _)] [] _ 0 0
  refine j_iload_n dX11_lay_0 rfl ?_
  refine j_if_ne (tgt := 16) dX11_lay_1 (by decide) (fun c_1_3 => ?_) (fun c_1_3 => ?_)
  · have hb1 : ¬ t = 0 := fun z => c_1_3 (show nI t = nI 0 by rw [z])
    refine j_aload_n dX11_lay_16 rfl rfl ?_
    refine j_iload_n dX11_lay_17 rfl ?_
    refine j_iload_n dX11_lay_18 rfl ?_
    refine j_callV (q := (RX11, TX11, 8)) dX11_lay_19 kX11_place lX11_130 inX11_place seX11_place h.m rfl (cm_place hl w _ (t) _ h (by omega)) (Nat.le_of_ble_eq_true rfl) ⟨(Nat.le_of_ble_eq_true rfl), (Nat.le_of_ble_eq_true rfl)⟩ rfl (Nat.le_of_ble_eq_true rfl) rfl rfl (fun _ _ h => h.elim) ?_
    rintro _ _ ⟨⟨j406, p406, rfl, hj406, hk406⟩ | ⟨rfl, hno406⟩, hw406⟩
    · refine j_w w hw406 ?_
      have hl406 : j406 < (z_qp s (t)).2.length := (List.getElem?_eq_some_iff.mp hj406).1
      have hz406 : (z_qp s (t)).2.length ≤ 20 := (h.pr (t := t) (by omega)).len
      refine j_istore (lo' := [(4, _), (0, _), (1, _), (2, _), (3, _)]) dX11_lay_22 (by decide) rfl ?_
      refine j_iload dX11_lay_24 rfl ?_
      refine j_if_lt (tgt := 52) dX11_lay_26 (by decide) (fun c_26_15 => ?_) (fun c_26_15 => ?_)
      · exact absurd c_26_15 (nI_pos (n := j406) (by omega))
      · refine j_aload_n dX11_lay_29 rfl rfl ?_
        refine j_getf dX11_lay_30 fX11_34 h.m rfl ?_
        refine j_iload_n dX11_lay_33 rfl ?_
        obtain ⟨lv408, -, lg408⟩ := z_li.cell h.tabs
        refine j_callV (q := (RJx4a65c, TJx4a65c, 3)) dX11_lay_34 kJx4a65c_get_915e3 lX11_82 inJx4a65c_get_915e3 seJx4a65c_get_915e3 lg408 rfl (cl_get hl w 47 1007 _ _ (t) _ h.tabs (z_thr3 (t := t) (by omega))) (Nat.le_of_ble_eq_true rfl) ⟨(Nat.le_of_ble_eq_true rfl), (Nat.le_of_ble_eq_true rfl)⟩ rfl (Nat.le_of_ble_eq_true rfl) rfl rfl (fun _ _ h => h.elim) ?_
        rintro _ _ ⟨rfl, hw409⟩
        refine j_w w hw409 ?_
        refine j_castS dX11_lay_37 (z_w 1341 ((lwg_6 96).trans (by decide +kernel)) (by decide +kernel)) (z_li.is (h.tb (t := t) (by omega))) ?_
        refine j_iload dX11_lay_40 rfl ?_
        obtain ⟨p411, hp411, hq411, hk411⟩ := z_rs_ex (P := (z_qp s (t)).2) (k := j406) (by omega)
        obtain ⟨lv412, -, lg412⟩ := z_li.cell (h.tb (t := t) (by omega))
        refine j_callV (q := (RJx4a65c, TJx4a65c, 3)) dX11_lay_42 kJx4a65c_get_915e3 lX11_82 inJx4a65c_get_915e3 seJx4a65c_get_915e3 lg412 rfl (cl_get hl w _ _ _ _ (j406) _ (h.tb (t := t) (by omega)) hq411) (Nat.le_of_ble_eq_true rfl) ⟨(Nat.le_of_ble_eq_true rfl), (Nat.le_of_ble_eq_true rfl)⟩ rfl (Nat.le_of_ble_eq_true rfl) rfl rfl (fun _ _ h => h.elim) ?_
        rintro _ _ ⟨rfl, hw413⟩
        refine j_w w hw413 ?_
        refine j_castS dX11_lay_45 (z_w 1663 ((lwg_7 178).trans (by decide +kernel)) (by decide +kernel)) (z_isA ((h.pr (t := t) (by omega)).1 p411 hp411).2) ?_
        refine j_iconst (v := 1) dX11_lay_48 (by decide) ?_
        refine j_iload_n dX11_lay_49 rfl ?_
        refine j_sto (w' := _) dX11_lay_50 ((h.pr (t := t) (by omega)).1 p411 hp411).2 (vp_in_nI (n := 1) (by decide) (by decide)) rfl ?_
        refine j_seal (((h.pr (t := t) (by omega)).1 p411 hp411).1.1) ?_
        intro w1 u1
        have hpp1 := ((h.pr (t := t) (by omega)).1 p411 hp411).1
        have fw1 := u1.fw (ρ := 14 + t) hpp1.1 hpp1.2.1
        have h1 := h.up14 (t0 := t) (by omega) hp411 u1 (z_ui_ne (by decide))
        have ke1 := z_ke h1 ke0 rfl
        refine j_vret dX11_lay_51 rfl ?_ (Nat.le_of_ble_eq_true rfl) (Nat.le_of_ble_eq_true rfl)
        exact ⟨_, rfl, (fw1.fm (q := 59) (by omega)), h1, ke1⟩
    · refine j_w w hw406 ?_
      refine j_istore (lo' := [(4, _), (0, _), (1, _), (2, _), (3, _)]) dX11_lay_22 (by decide) rfl ?_
      refine j_iload dX11_lay_24 rfl ?_
      refine j_if_lt (tgt := 52) dX11_lay_26 (by decide) (fun c_26_46 => ?_) (fun c_26_46 => ?_)
      · refine j_aload_n dX11_lay_52 rfl rfl ?_
        refine j_getf dX11_lay_53 fX11_34 h.m rfl ?_
        refine j_iload_n dX11_lay_56 rfl ?_
        obtain ⟨lv417, -, lg417⟩ := z_li.cell h.tabs
        refine j_callV (q := (RJx4a65c, TJx4a65c, 3)) dX11_lay_57 kJx4a65c_get_915e3 lX11_82 inJx4a65c_get_915e3 seJx4a65c_get_915e3 lg417 rfl (cl_get hl w 47 1007 _ _ (t) _ h.tabs (z_thr3 (t := t) (by omega))) (Nat.le_of_ble_eq_true rfl) ⟨(Nat.le_of_ble_eq_true rfl), (Nat.le_of_ble_eq_true rfl)⟩ rfl (Nat.le_of_ble_eq_true rfl) rfl rfl (fun _ _ h => h.elim) ?_
        rintro _ _ ⟨rfl, hw418⟩
        refine j_w w hw418 ?_
        refine j_castS dX11_lay_60 (z_w 1341 ((lwg_6 96).trans (by decide +kernel)) (by decide +kernel)) (z_li.is (h.tb (t := t) (by omega))) ?_
        obtain ⟨lv420, -, lg420⟩ := z_li.cell (h.tb (t := t) (by omega))
        refine j_callV (q := (RJx4a65c, TJx4a65c, 3)) dX11_lay_63 kJx4a65c_size_8abf5 lX11_86 inJx4a65c_size_8abf5 seJx4a65c_size_8abf5 lg420 rfl (cl_sizeR hl w _ _ _ _ (h.tb (t := t) (by omega))) (Nat.le_of_ble_eq_true rfl) ⟨(Nat.le_of_ble_eq_true rfl), (Nat.le_of_ble_eq_true rfl)⟩ rfl (Nat.le_of_ble_eq_true rfl) rfl rfl (fun _ _ h => h.elim) ?_
        rintro _ _ ⟨⟨n421, rfl, hn421⟩, hw421⟩
        refine j_w w hw421 ?_
        have hn421 : n421 = (z_qp s (t)).2.length := hn421
        have hz421 : (z_qp s (t)).2.length ≤ 20 := (h.pr (t := t) (by omega)).len
        refine j_istore (lo' := [(5, _), (4, _), (0, _), (1, _), (2, _), (3, _)]) dX11_lay_66 (by decide) rfl ?_
        obtain ⟨wl, sl, hml, hkl, hfl, hpl⟩ : ∃ (wl : z_W) (sl : z_Z), z_mst wl sl ∧ z_key sl = z_key s ∧ z_fm 59 w wl ∧ wl = w ∧ z_qp sl = z_qp s ∧ z_qk sl = z_qk s := ⟨w, _, h, ke0, z_fm.rf, rfl, rfl, rfl⟩
        obtain ⟨hwl, hqp, hqk⟩ := hpl
        refine j_w wl hwl.symm ?_
        have hno : ∀ p ∈ (z_qp sl t).2, ¬ z_qk sl p 0 = nI k0 := by rw [hqp, hqk]; exact hno406
        have hzl : (z_qp sl t).2.length ≤ 20 := (hml.pr (t := t) ht).len
        have hnl : n421 = (z_qp sl t).2.length := by rw [hqp]; exact hn421
        have loop68 : ∀ (n9 : Nat) (w2 : z_W) (a : Nat), (a ≤ (z_qp sl t).2.length) → (a < n9) → (z_mst w2 sl) → (w2 = wl) → z_J G l mX11_lay (20, 2, 52, w, (fun v w9 => ∃ (s9 : z_Z), v = none ∧ z_fm 59 w w9 ∧ z_mst w9 s9 ∧ z_key s9 = z_key s), (fun _ _ => False)) 68 [(0, .ref 1000), (1, .int (nI t)), (2, .int (nI k0)), (3, .int z), (4, .int (-1)), (5, .int (nI a))] [] w2 0 0 := by
          intro n9
          induction n9 with
          | zero => intro w2 a hj hf9 hm hW; exact absurd hf9 (Nat.not_lt_zero _)
          | succ n9 ih =>
            intro w2 a hj hf9 hm hW
            refine j_iload_n dX11_lay_68 rfl ?_
            refine j_iconst (v := 2) dX11_lay_69 (by decide) ?_
            refine j_icmp_ne (tgt := 111) dX11_lay_70 (by decide) (fun c_70_76 => ?_) (fun c_70_76 => ?_)
            · have hb70 : ¬ t = 2 := fun z => c_70_76 (show nI t = nI 2 by rw [z])
              refine j_aload_n dX11_lay_111 rfl rfl ?_
              refine j_getf dX11_lay_112 fX11_34 hm.m rfl ?_
              refine j_iload_n dX11_lay_115 rfl ?_
              obtain ⟨lv424, -, lg424⟩ := z_li.cell hm.tabs
              refine j_callV (q := (RJx4a65c, TJx4a65c, 3)) dX11_lay_116 kJx4a65c_get_915e3 lX11_82 inJx4a65c_get_915e3 seJx4a65c_get_915e3 lg424 rfl (cl_get hl w2 47 1007 _ _ (t) _ hm.tabs (z_thr3 (t := t) (by omega))) (Nat.le_of_ble_eq_true rfl) ⟨(Nat.le_of_ble_eq_true rfl), (Nat.le_of_ble_eq_true rfl)⟩ rfl (Nat.le_of_ble_eq_true rfl) rfl rfl (fun _ _ h => h.elim) ?_
              rintro _ _ ⟨rfl, hw425⟩
              refine j_w w2 hw425 ?_
              refine j_castS dX11_lay_119 (z_w 1341 ((lwg_6 96).trans (by decide +kernel)) (by decide +kernel)) (z_li.is (hm.tb (t := t) (by omega))) ?_
              refine j_iload dX11_lay_122 rfl ?_
              refine j_iconst (v := 2) dX11_lay_124 (by decide) ?_
              obtain ⟨x1, hx1a, hx1b, hx1c⟩ := z_fresh (14 + t) (by omega) hm.fn
              refine j_newa (kd := 0) (N := 2) (w' := _) (n := x1) dX11_lay_125 rfl rfl arc_int ⟨rfl, fun _ _ h => h⟩ (by decide) rfl (by decide) rfl (z_alW hx1c hx1a) (Nat.le_of_ble_eq_true rfl) (Nat.le_of_ble_eq_true rfl) ?_
              refine j_seal hx1a ?_
              intro w3 u3
              have hx3 : ∀ (k : Nat) (e : z_E), z_g w2 k = some e → z_g w3 k = some e := fun k e hk => (u3.2.1 k (z_neF hx1c hk)).trans ((fun _ _ z => z) k e hk)
              have fw3 := u3.fw hx1a hx1b
              have h3 := hm.mono hx3 (u3.2.2.2 hm.fn)
              refine j_dup dX11_lay_127 rfl ?_
              refine j_iconst (v := 0) dX11_lay_128 (by decide) ?_
              refine j_iload_n dX11_lay_129 rfl ?_
              refine j_sto (w' := _) dX11_lay_130 u3.1 (vp_in_nI (n := 0) (by decide) (by decide)) rfl ?_
              refine j_seal hx1a ?_
              intro w4 u4
              have hx4 : ∀ (k : Nat) (e : z_E), z_g w2 k = some e → z_g w4 k = some e := fun k e hk => (u4.2.1 k (z_neF hx1c hk)).trans (hx3 k e hk)
              have fw4 := u4.fw hx1a hx1b
              have h4 := hm.mono hx4 (u4.2.2.2 h3.fn)
              refine j_dup dX11_lay_131 rfl ?_
              refine j_iconst (v := 1) dX11_lay_132 (by decide) ?_
              refine j_iload_n dX11_lay_133 rfl ?_
              refine j_sto (w' := _) dX11_lay_134 u4.1 (vp_in_nI (n := 1) (by decide) (by decide)) rfl ?_
              refine j_seal hx1a ?_
              intro w5 u5
              have hx5 : ∀ (k : Nat) (e : z_E), z_g w2 k = some e → z_g w5 k = some e := fun k e hk => (u5.2.1 k (z_neF hx1c hk)).trans (hx4 k e hk)
              have fw5 := u5.fw hx1a hx1b
              have h5 := hm.mono hx5 (u5.2.2.2 h4.fn)
              have hgx := u5.1
              have hkx : z_g w5 x1 = some (.inl (0, 2, fun j => .int (z_ui (z_ui (fun _ => 0) 0 (nI k0)) 1 z j))) := hgx
              have hKn := z_mst.newk (x := x1) (F := z_ui (z_ui (fun _ => 0) 0 (nI k0)) 1 z) hm hx1c h5
              obtain ⟨lv429, -, lg429⟩ := z_li.cell (h5.tb (t := t) (by omega))
              refine j_callV (q := (RJx4a65c, TJx4a65c, 3)) dX11_lay_135 kJx4a65c_add_7a177 lX11_133 inJx4a65c_add_7a177 seJx4a65c_add_7a177 lg429 rfl (cl_addI hl w5 (51 + t) _ _ _ 20 (a) (.ref x1) (hKn.tb (t := t) ht) (by omega) hKn.fn (by rw [z_rs_len]; exact hzl) (by decide) (z_rs_el (hKn.pr (t := t) ht) (by omega)) ⟨Or.inr ⟨x1, rfl, Or.inr (show x1 % 64 ≠ 51 + t by omega)⟩, "[I", z_isA hkx, (z_wn 1999 ((lwg_9 34).trans (by decide +kernel)) (by decide +kernel))⟩ (by rw [z_rs_len]; exact hj)) (Nat.le_of_ble_eq_true rfl) ⟨(Nat.le_of_ble_eq_true rfl), (Nat.le_of_ble_eq_true rfl)⟩ rfl (Nat.le_of_ble_eq_true rfl) rfl rfl (fun _ _ h => h.elim) ?_
              rintro _ w6 ⟨rfl, fw6, mo6, hr6⟩
              rw [z_rs_ins] at hr6
              have fm6 := fw6.fm (q := 56) (by omega)
              have hf6 : z_fu (z_qk sl) x1 (z_ui (z_ui (fun _ => 0) 0 (nI k0)) 1 z) x1 = z_ui (z_ui (fun _ => 0) 0 (nI k0)) 1 z := z_fu_self
              have hi6 : z_pr w6 (14 + t) ((z_qp sl t).2.take (a) ++ x1 :: (z_qp sl t).2.drop (a)) (z_fu (z_qk sl) x1 (z_ui (z_ui (fun _ => 0) 0 (nI k0)) 1 z)) := z_pr.m (fun n _ h2 => fw6.2.2 n (Or.inr (by omega))) ((hKn.pr (t := t) ht).ins ⟨hx1a, hx1b, k0, hk, by show z_fu (z_qk sl) x1 (z_ui (z_ui (fun _ => 0) 0 (nI k0)) 1 z) x1 0 = nI k0; rw [hf6]; rfl⟩ (by show z_g _ x1 = some (.inl (0, 2, fun j => .int (z_fu (z_qk sl) x1 (z_ui (z_ui (fun _ => 0) 0 (nI k0)) 1 z) x1 j))); rw [hf6]; exact hkx) (fun p hp => by
                have hpx : p ≠ x1 := fun z => by have h9 := ((hm.pr (t := t) ht).1 p hp).2; rw [z, hx1c] at h9; cases h9
                show ¬ z_fu (z_qk sl) x1 (z_ui (z_ui (fun _ => 0) 0 (nI k0)) 1 z) p 0 = z_fu (z_qk sl) x1 (z_ui (z_ui (fun _ => 0) 0 (nI k0)) 1 z) x1 0
                rw [hf6, z_fu_ne hpx]; exact hno p hp))
              have h6 := hKn.li51 (t0 := t) ht fw6 hr6 hi6
              have ke6 := z_ke h6 hkl rfl
              refine j_vret dX11_lay_138 rfl ?_ (Nat.le_of_ble_eq_true rfl) (Nat.le_of_ble_eq_true rfl)
              exact ⟨_, rfl, (((((hW ▸ hfl).tr (fw3.fm (q := 59) (by omega))).tr (fw4.fm (q := 59) (by omega))).tr (fw5.fm (q := 59) (by omega))).tr (fm6.le (q' := 59) (by decide))), h6, ke6⟩
            · have hb70 : t = 2 := nI_inj (a := t) (b := 2) c_70_76 (by omega) (by omega)
              refine j_iload dX11_lay_73 rfl ?_
              refine j_if_le (tgt := 111) dX11_lay_75 (by decide) (fun c_75_132 => ?_) (fun c_75_132 => ?_)
              · have hb75 : a ≤ 0 := (nI_leI (a := a) (b := 0) (by omega) (by omega)).mp c_75_132
                refine j_aload_n dX11_lay_111 rfl rfl ?_
                refine j_getf dX11_lay_112 fX11_34 hm.m rfl ?_
                refine j_iload_n dX11_lay_115 rfl ?_
                obtain ⟨lv431, -, lg431⟩ := z_li.cell hm.tabs
                refine j_callV (q := (RJx4a65c, TJx4a65c, 3)) dX11_lay_116 kJx4a65c_get_915e3 lX11_82 inJx4a65c_get_915e3 seJx4a65c_get_915e3 lg431 rfl (cl_get hl w2 47 1007 _ _ (t) _ hm.tabs (z_thr3 (t := t) (by omega))) (Nat.le_of_ble_eq_true rfl) ⟨(Nat.le_of_ble_eq_true rfl), (Nat.le_of_ble_eq_true rfl)⟩ rfl (Nat.le_of_ble_eq_true rfl) rfl rfl (fun _ _ h => h.elim) ?_
                rintro _ _ ⟨rfl, hw432⟩
                refine j_w w2 hw432 ?_
                refine j_castS dX11_lay_119 (z_w 1341 ((lwg_6 96).trans (by decide +kernel)) (by decide +kernel)) (z_li.is (hm.tb (t := t) (by omega))) ?_
                refine j_iload dX11_lay_122 rfl ?_
                refine j_iconst (v := 2) dX11_lay_124 (by decide) ?_
                obtain ⟨x2, hx2a, hx2b, hx2c⟩ := z_fresh (14 + t) (by omega) hm.fn
                refine j_newa (kd := 0) (N := 2) (w' := _) (n := x2) dX11_lay_125 rfl rfl arc_int ⟨rfl, fun _ _ h => h⟩ (by decide) rfl (by decide) rfl (z_alW hx2c hx2a) (Nat.le_of_ble_eq_true rfl) (Nat.le_of_ble_eq_true rfl) ?_
                refine j_seal hx2a ?_
                intro w7 u7
                have hx7 : ∀ (k : Nat) (e : z_E), z_g w2 k = some e → z_g w7 k = some e := fun k e hk => (u7.2.1 k (z_neF hx2c hk)).trans ((fun _ _ z => z) k e hk)
                have fw7 := u7.fw hx2a hx2b
                have h7 := hm.mono hx7 (u7.2.2.2 hm.fn)
                refine j_dup dX11_lay_127 rfl ?_
                refine j_iconst (v := 0) dX11_lay_128 (by decide) ?_
                refine j_iload_n dX11_lay_129 rfl ?_
                refine j_sto (w' := _) dX11_lay_130 u7.1 (vp_in_nI (n := 0) (by decide) (by decide)) rfl ?_
                refine j_seal hx2a ?_
                intro w8 u8
                have hx8 : ∀ (k : Nat) (e : z_E), z_g w2 k = some e → z_g w8 k = some e := fun k e hk => (u8.2.1 k (z_neF hx2c hk)).trans (hx7 k e hk)
                have fw8 := u8.fw hx2a hx2b
                have h8 := hm.mono hx8 (u8.2.2.2 h7.fn)
                refine j_dup dX11_lay_131 rfl ?_
                refine j_iconst (v := 1) dX11_lay_132 (by decide) ?_
                refine j_iload_n dX11_lay_133 rfl ?_
                refine j_sto (w' := _) dX11_lay_134 u8.1 (vp_in_nI (n := 1) (by decide) (by decide)) rfl ?_
                refine j_seal hx2a ?_
                intro w9 u9
                have hx9 : ∀ (k : Nat) (e : z_E), z_g w2 k = some e → z_g w9 k = some e := fun k e hk => (u9.2.1 k (z_neF hx2c hk)).trans (hx8 k e hk)
                have fw9 := u9.fw hx2a hx2b
                have h9 := hm.mono hx9 (u9.2.2.2 h8.fn)
                have hgx := u9.1
                have hkx : z_g w9 x2 = some (.inl (0, 2, fun j => .int (z_ui (z_ui (fun _ => 0) 0 (nI k0)) 1 z j))) := hgx
                have hKn := z_mst.newk (x := x2) (F := z_ui (z_ui (fun _ => 0) 0 (nI k0)) 1 z) hm hx2c h9
                obtain ⟨lv436, -, lg436⟩ := z_li.cell (h9.tb (t := t) (by omega))
                refine j_callV (q := (RJx4a65c, TJx4a65c, 3)) dX11_lay_135 kJx4a65c_add_7a177 lX11_133 inJx4a65c_add_7a177 seJx4a65c_add_7a177 lg436 rfl (cl_addI hl w9 (51 + t) _ _ _ 20 (a) (.ref x2) (hKn.tb (t := t) ht) (by omega) hKn.fn (by rw [z_rs_len]; exact hzl) (by decide) (z_rs_el (hKn.pr (t := t) ht) (by omega)) ⟨Or.inr ⟨x2, rfl, Or.inr (show x2 % 64 ≠ 51 + t by omega)⟩, "[I", z_isA hkx, (z_wn 1999 ((lwg_9 34).trans (by decide +kernel)) (by decide +kernel))⟩ (by rw [z_rs_len]; exact hj)) (Nat.le_of_ble_eq_true rfl) ⟨(Nat.le_of_ble_eq_true rfl), (Nat.le_of_ble_eq_true rfl)⟩ rfl (Nat.le_of_ble_eq_true rfl) rfl rfl (fun _ _ h => h.elim) ?_
                rintro _ w10 ⟨rfl, fw10, mo10, hr10⟩
                rw [z_rs_ins] at hr10
                have fm10 := fw10.fm (q := 56) (by omega)
                have hf10 : z_fu (z_qk sl) x2 (z_ui (z_ui (fun _ => 0) 0 (nI k0)) 1 z) x2 = z_ui (z_ui (fun _ => 0) 0 (nI k0)) 1 z := z_fu_self
                have hi10 : z_pr w10 (14 + t) ((z_qp sl t).2.take (a) ++ x2 :: (z_qp sl t).2.drop (a)) (z_fu (z_qk sl) x2 (z_ui (z_ui (fun _ => 0) 0 (nI k0)) 1 z)) := z_pr.m (fun n _ h2 => fw10.2.2 n (Or.inr (by omega))) ((hKn.pr (t := t) ht).ins ⟨hx2a, hx2b, k0, hk, by show z_fu (z_qk sl) x2 (z_ui (z_ui (fun _ => 0) 0 (nI k0)) 1 z) x2 0 = nI k0; rw [hf10]; rfl⟩ (by show z_g _ x2 = some (.inl (0, 2, fun j => .int (z_fu (z_qk sl) x2 (z_ui (z_ui (fun _ => 0) 0 (nI k0)) 1 z) x2 j))); rw [hf10]; exact hkx) (fun p hp => by
                  have hpx : p ≠ x2 := fun z => by have h9 := ((hm.pr (t := t) ht).1 p hp).2; rw [z, hx2c] at h9; cases h9
                  show ¬ z_fu (z_qk sl) x2 (z_ui (z_ui (fun _ => 0) 0 (nI k0)) 1 z) p 0 = z_fu (z_qk sl) x2 (z_ui (z_ui (fun _ => 0) 0 (nI k0)) 1 z) x2 0
                  rw [hf10, z_fu_ne hpx]; exact hno p hp))
                have h10 := hKn.li51 (t0 := t) ht fw10 hr10 hi10
                have ke10 := z_ke h10 hkl rfl
                refine j_vret dX11_lay_138 rfl ?_ (Nat.le_of_ble_eq_true rfl) (Nat.le_of_ble_eq_true rfl)
                exact ⟨_, rfl, (((((hW ▸ hfl).tr (fw7.fm (q := 59) (by omega))).tr (fw8.fm (q := 59) (by omega))).tr (fw9.fm (q := 59) (by omega))).tr (fm10.le (q' := 59) (by decide))), h10, ke10⟩
              · have hb75 : 0 < a := Nat.not_le.mp (fun z => c_75_132 ((nI_leI (a := a) (b := 0) (by omega) (by omega)).mpr z))
                refine j_aload_n dX11_lay_78 rfl rfl ?_
                refine j_getf dX11_lay_79 fX11_34 hm.m rfl ?_
                refine j_iload_n dX11_lay_82 rfl ?_
                obtain ⟨lv438, -, lg438⟩ := z_li.cell hm.tabs
                refine j_callV (q := (RJx4a65c, TJx4a65c, 3)) dX11_lay_83 kJx4a65c_get_915e3 lX11_82 inJx4a65c_get_915e3 seJx4a65c_get_915e3 lg438 rfl (cl_get hl w2 47 1007 _ _ (t) _ hm.tabs (z_thr3 (t := t) (by omega))) (Nat.le_of_ble_eq_true rfl) ⟨(Nat.le_of_ble_eq_true rfl), (Nat.le_of_ble_eq_true rfl)⟩ rfl (Nat.le_of_ble_eq_true rfl) rfl rfl (fun _ _ h => h.elim) ?_
                rintro _ _ ⟨rfl, hw439⟩
                refine j_w w2 hw439 ?_
                refine j_castS dX11_lay_86 (z_w 1341 ((lwg_6 96).trans (by decide +kernel)) (by decide +kernel)) (z_li.is (hm.tb (t := t) (by omega))) ?_
                refine j_iload dX11_lay_89 rfl ?_
                refine j_iconst (v := 1) dX11_lay_91 (by decide) ?_
                refine j_isub dX11_lay_92 ?_
                refine j_top (congrArg Value.int (pk_sub (a := a) (b := 1) (by omega))) ?_
                obtain ⟨p441, hp441, hq441, hk441⟩ := z_rs_ex (P := (z_qp sl (t)).2) (k := (a - 1)) (by omega)
                obtain ⟨lv442, -, lg442⟩ := z_li.cell (hm.tb (t := t) (by omega))
                refine j_callV (q := (RJx4a65c, TJx4a65c, 3)) dX11_lay_93 kJx4a65c_get_915e3 lX11_82 inJx4a65c_get_915e3 seJx4a65c_get_915e3 lg442 rfl (cl_get hl w2 _ _ _ _ ((a - 1)) _ (hm.tb (t := t) (by omega)) hq441) (Nat.le_of_ble_eq_true rfl) ⟨(Nat.le_of_ble_eq_true rfl), (Nat.le_of_ble_eq_true rfl)⟩ rfl (Nat.le_of_ble_eq_true rfl) rfl rfl (fun _ _ h => h.elim) ?_
                rintro _ _ ⟨rfl, hw443⟩
                refine j_w w2 hw443 ?_
                refine j_castS dX11_lay_96 (z_w 1663 ((lwg_7 178).trans (by decide +kernel)) (by decide +kernel)) (z_isA ((hm.pr (t := t) (by omega)).1 p441 hp441).2) ?_
                refine j_iconst (v := 0) dX11_lay_99 (by decide) ?_
                refine j_ld dX11_lay_100 ((hm.pr (t := t) (by omega)).1 p441 hp441).2 (vp_in_nI (n := 0) (by decide) (by decide)) ?_
                refine j_iload_n dX11_lay_101 rfl ?_
                refine j_icmp_le (tgt := 111) dX11_lay_102 (by decide) (fun c_102_208 => ?_) (fun c_102_208 => ?_)
                · refine j_aload_n dX11_lay_111 rfl rfl ?_
                  refine j_getf dX11_lay_112 fX11_34 hm.m rfl ?_
                  refine j_iload_n dX11_lay_115 rfl ?_
                  obtain ⟨lv447, -, lg447⟩ := z_li.cell hm.tabs
                  refine j_callV (q := (RJx4a65c, TJx4a65c, 3)) dX11_lay_116 kJx4a65c_get_915e3 lX11_82 inJx4a65c_get_915e3 seJx4a65c_get_915e3 lg447 rfl (cl_get hl w2 47 1007 _ _ (t) _ hm.tabs (z_thr3 (t := t) (by omega))) (Nat.le_of_ble_eq_true rfl) ⟨(Nat.le_of_ble_eq_true rfl), (Nat.le_of_ble_eq_true rfl)⟩ rfl (Nat.le_of_ble_eq_true rfl) rfl rfl (fun _ _ h => h.elim) ?_
                  rintro _ _ ⟨rfl, hw448⟩
                  refine j_w w2 hw448 ?_
                  refine j_castS dX11_lay_119 (z_w 1341 ((lwg_6 96).trans (by decide +kernel)) (by decide +kernel)) (z_li.is (hm.tb (t := t) (by omega))) ?_
                  refine j_iload dX11_lay_122 rfl ?_
                  refine j_iconst (v := 2) dX11_lay_124 (by decide) ?_
                  obtain ⟨x3, hx3a, hx3b, hx3c⟩ := z_fresh (14 + t) (by omega) hm.fn
                  refine j_newa (kd := 0) (N := 2) (w' := _) (n := x3) dX11_lay_125 rfl rfl arc_int ⟨rfl, fun _ _ h => h⟩ (by decide) rfl (by decide) rfl (z_alW hx3c hx3a) (Nat.le_of_ble_eq_true rfl) (Nat.le_of_ble_eq_true rfl) ?_
                  refine j_seal hx3a ?_
                  intro w11 u11
                  have hx11 : ∀ (k : Nat) (e : z_E), z_g w2 k = some e → z_g w11 k = some e := fun k e hk => (u11.2.1 k (z_neF hx3c hk)).trans ((fun _ _ z => z) k e hk)
                  have fw11 := u11.fw hx3a hx3b
                  have h11 := hm.mono hx11 (u11.2.2.2 hm.fn)
                  refine j_dup dX11_lay_127 rfl ?_
                  refine j_iconst (v := 0) dX11_lay_128 (by decide) ?_
                  refine j_iload_n dX11_lay_129 rfl ?_
                  refine j_sto (w' := _) dX11_lay_130 u11.1 (vp_in_nI (n := 0) (by decide) (by decide)) rfl ?_
                  refine j_seal hx3a ?_
                  intro w12 u12
                  have hx12 : ∀ (k : Nat) (e : z_E), z_g w2 k = some e → z_g w12 k = some e := fun k e hk => (u12.2.1 k (z_neF hx3c hk)).trans (hx11 k e hk)
                  have fw12 := u12.fw hx3a hx3b
                  have h12 := hm.mono hx12 (u12.2.2.2 h11.fn)
                  refine j_dup dX11_lay_131 rfl ?_
                  refine j_iconst (v := 1) dX11_lay_132 (by decide) ?_
                  refine j_iload_n dX11_lay_133 rfl ?_
                  refine j_sto (w' := _) dX11_lay_134 u12.1 (vp_in_nI (n := 1) (by decide) (by decide)) rfl ?_
                  refine j_seal hx3a ?_
                  intro w13 u13
                  have hx13 : ∀ (k : Nat) (e : z_E), z_g w2 k = some e → z_g w13 k = some e := fun k e hk => (u13.2.1 k (z_neF hx3c hk)).trans (hx12 k e hk)
                  have fw13 := u13.fw hx3a hx3b
                  have h13 := hm.mono hx13 (u13.2.2.2 h12.fn)
                  have hgx := u13.1
                  have hkx : z_g w13 x3 = some (.inl (0, 2, fun j => .int (z_ui (z_ui (fun _ => 0) 0 (nI k0)) 1 z j))) := hgx
                  have hKn := z_mst.newk (x := x3) (F := z_ui (z_ui (fun _ => 0) 0 (nI k0)) 1 z) hm hx3c h13
                  obtain ⟨lv452, -, lg452⟩ := z_li.cell (h13.tb (t := t) (by omega))
                  refine j_callV (q := (RJx4a65c, TJx4a65c, 3)) dX11_lay_135 kJx4a65c_add_7a177 lX11_133 inJx4a65c_add_7a177 seJx4a65c_add_7a177 lg452 rfl (cl_addI hl w13 (51 + t) _ _ _ 20 (a) (.ref x3) (hKn.tb (t := t) ht) (by omega) hKn.fn (by rw [z_rs_len]; exact hzl) (by decide) (z_rs_el (hKn.pr (t := t) ht) (by omega)) ⟨Or.inr ⟨x3, rfl, Or.inr (show x3 % 64 ≠ 51 + t by omega)⟩, "[I", z_isA hkx, (z_wn 1999 ((lwg_9 34).trans (by decide +kernel)) (by decide +kernel))⟩ (by rw [z_rs_len]; exact hj)) (Nat.le_of_ble_eq_true rfl) ⟨(Nat.le_of_ble_eq_true rfl), (Nat.le_of_ble_eq_true rfl)⟩ rfl (Nat.le_of_ble_eq_true rfl) rfl rfl (fun _ _ h => h.elim) ?_
                  rintro _ w14 ⟨rfl, fw14, mo14, hr14⟩
                  rw [z_rs_ins] at hr14
                  have fm14 := fw14.fm (q := 56) (by omega)
                  have hf14 : z_fu (z_qk sl) x3 (z_ui (z_ui (fun _ => 0) 0 (nI k0)) 1 z) x3 = z_ui (z_ui (fun _ => 0) 0 (nI k0)) 1 z := z_fu_self
                  have hi14 : z_pr w14 (14 + t) ((z_qp sl t).2.take (a) ++ x3 :: (z_qp sl t).2.drop (a)) (z_fu (z_qk sl) x3 (z_ui (z_ui (fun _ => 0) 0 (nI k0)) 1 z)) := z_pr.m (fun n _ h2 => fw14.2.2 n (Or.inr (by omega))) ((hKn.pr (t := t) ht).ins ⟨hx3a, hx3b, k0, hk, by show z_fu (z_qk sl) x3 (z_ui (z_ui (fun _ => 0) 0 (nI k0)) 1 z) x3 0 = nI k0; rw [hf14]; rfl⟩ (by show z_g _ x3 = some (.inl (0, 2, fun j => .int (z_fu (z_qk sl) x3 (z_ui (z_ui (fun _ => 0) 0 (nI k0)) 1 z) x3 j))); rw [hf14]; exact hkx) (fun p hp => by
                    have hpx : p ≠ x3 := fun z => by have h9 := ((hm.pr (t := t) ht).1 p hp).2; rw [z, hx3c] at h9; cases h9
                    show ¬ z_fu (z_qk sl) x3 (z_ui (z_ui (fun _ => 0) 0 (nI k0)) 1 z) p 0 = z_fu (z_qk sl) x3 (z_ui (z_ui (fun _ => 0) 0 (nI k0)) 1 z) x3 0
                    rw [hf14, z_fu_ne hpx]; exact hno p hp))
                  have h14 := hKn.li51 (t0 := t) ht fw14 hr14 hi14
                  have ke14 := z_ke h14 hkl rfl
                  refine j_vret dX11_lay_138 rfl ?_ (Nat.le_of_ble_eq_true rfl) (Nat.le_of_ble_eq_true rfl)
                  exact ⟨_, rfl, (((((hW ▸ hfl).tr (fw11.fm (q := 59) (by omega))).tr (fw12.fm (q := 59) (by omega))).tr (fw13.fm (q := 59) (by omega))).tr (fm14.le (q' := 59) (by decide))), h14, ke14⟩
                · refine j_iinc (lo' := [(5, _), (0, _), (1, _), (2, _), (3, _), (4, _)]) dX11_lay_105 rfl (z_decr1 (by omega)) (by decide) rfl ?_
                  refine j_goto (tgt := 68) dX11_lay_108 (by decide) ?_
                  exact j_lo2 (ih w2 (a - 1) (by omega) (by omega) hm hW) (z_q1 rfl (z_q1 rfl (z_q1 rfl (z_q1 rfl (z_q1 rfl (z_q1 rfl z_q0))))))
        exact j_lo2 (loop68 (n421 + 1) wl n421 (by omega) (by omega) hml rfl) (z_q1 rfl (z_q1 rfl (z_q1 rfl (z_q1 rfl (z_q1 rfl (z_q1 rfl z_q0))))))
      · exact absurd c_26_46 (by decide)
  · have hb1 : t = 0 := nI_inj (a := t) (b := 0) c_1_3 (by omega) (by omega)
    refine j_aload_n dX11_lay_4 rfl rfl ?_
    refine j_getf dX11_lay_5 fX11_31 h.m rfl ?_
    refine j_iconst (v := 2) dX11_lay_8 (by decide) ?_
    obtain ⟨fz453, gz453, hz453⟩ := h.co
    refine j_aald (v := .ref (1004 + 2)) dX11_lay_9 gz453 rfl rfl (vp_in_nI (n := 2) (by decide) (by decide)) (by rw [show (2 : Int32).toNatClampNeg = 2 by decide]; exact hz453 _ (by decide)) ?_
    refine j_iconst (v := 5) dX11_lay_10 (by decide) ?_
    refine j_dup2 dX11_lay_11 rfl rfl ?_
    refine j_ld dX11_lay_12 (h.cn (i := 2) (by decide)) (vp_in_nI (n := 5) (by decide) (by decide)) ?_
    refine j_iconst (v := 1) dX11_lay_13 (by decide) ?_
    refine j_iadd dX11_lay_14 ?_
    refine j_sto (w' := _) dX11_lay_15 (h.cn (i := 2) (by decide)) (vp_in_nI (n := 5) (by decide) (by decide)) rfl ?_
    refine j_seal (by omega) ?_
    intro w15 u15
    have fw15 := u15.fw (ρ := 44 + 2) (by omega) (by omega)
    have h15 := h.up44 (i0 := 2) (by decide) fw15 u15.1
    have ke15 := z_ke h15 ke0 rfl
    refine j_aload_n dX11_lay_16 rfl rfl ?_
    refine j_iload_n dX11_lay_17 rfl ?_
    refine j_iload_n dX11_lay_18 rfl ?_
    refine j_callV (q := (RX11, TX11, 8)) dX11_lay_19 kX11_place lX11_130 inX11_place seX11_place h15.m rfl (cm_place hl w15 _ (t) _ h15 (by omega)) (Nat.le_of_ble_eq_true rfl) ⟨(Nat.le_of_ble_eq_true rfl), (Nat.le_of_ble_eq_true rfl)⟩ rfl (Nat.le_of_ble_eq_true rfl) rfl rfl (fun _ _ h => h.elim) ?_
    rintro _ _ ⟨⟨j456, p456, rfl, hj456, hk456⟩ | ⟨rfl, hno456⟩, hw456⟩
    · refine j_w w15 hw456 ?_
      have hl456 : j456 < (z_qp s (t)).2.length := (List.getElem?_eq_some_iff.mp hj456).1
      have hz456 : (z_qp s (t)).2.length ≤ 20 := (h15.pr (t := t) (by omega)).len
      refine j_istore (lo' := [(4, _), (0, _), (1, _), (2, _), (3, _)]) dX11_lay_22 (by decide) rfl ?_
      refine j_iload dX11_lay_24 rfl ?_
      refine j_if_lt (tgt := 52) dX11_lay_26 (by decide) (fun c_26_293 => ?_) (fun c_26_293 => ?_)
      · exact absurd c_26_293 (nI_pos (n := j456) (by omega))
      · refine j_aload_n dX11_lay_29 rfl rfl ?_
        refine j_getf dX11_lay_30 fX11_34 h15.m rfl ?_
        refine j_iload_n dX11_lay_33 rfl ?_
        obtain ⟨lv458, -, lg458⟩ := z_li.cell h15.tabs
        refine j_callV (q := (RJx4a65c, TJx4a65c, 3)) dX11_lay_34 kJx4a65c_get_915e3 lX11_82 inJx4a65c_get_915e3 seJx4a65c_get_915e3 lg458 rfl (cl_get hl w15 47 1007 _ _ (t) _ h15.tabs (z_thr3 (t := t) (by omega))) (Nat.le_of_ble_eq_true rfl) ⟨(Nat.le_of_ble_eq_true rfl), (Nat.le_of_ble_eq_true rfl)⟩ rfl (Nat.le_of_ble_eq_true rfl) rfl rfl (fun _ _ h => h.elim) ?_
        rintro _ _ ⟨rfl, hw459⟩
        refine j_w w15 hw459 ?_
        refine j_castS dX11_lay_37 (z_w 1341 ((lwg_6 96).trans (by decide +kernel)) (by decide +kernel)) (z_li.is (h15.tb (t := t) (by omega))) ?_
        refine j_iload dX11_lay_40 rfl ?_
        obtain ⟨p461, hp461, hq461, hk461⟩ := z_rs_ex (P := (z_qp s (t)).2) (k := j456) (by omega)
        obtain ⟨lv462, -, lg462⟩ := z_li.cell (h15.tb (t := t) (by omega))
        refine j_callV (q := (RJx4a65c, TJx4a65c, 3)) dX11_lay_42 kJx4a65c_get_915e3 lX11_82 inJx4a65c_get_915e3 seJx4a65c_get_915e3 lg462 rfl (cl_get hl w15 _ _ _ _ (j456) _ (h15.tb (t := t) (by omega)) hq461) (Nat.le_of_ble_eq_true rfl) ⟨(Nat.le_of_ble_eq_true rfl), (Nat.le_of_ble_eq_true rfl)⟩ rfl (Nat.le_of_ble_eq_true rfl) rfl rfl (fun _ _ h => h.elim) ?_
        rintro _ _ ⟨rfl, hw463⟩
        refine j_w w15 hw463 ?_
        refine j_castS dX11_lay_45 (z_w 1663 ((lwg_7 178).trans (by decide +kernel)) (by decide +kernel)) (z_isA ((h15.pr (t := t) (by omega)).1 p461 hp461).2) ?_
        refine j_iconst (v := 1) dX11_lay_48 (by decide) ?_
        refine j_iload_n dX11_lay_49 rfl ?_
        refine j_sto (w' := _) dX11_lay_50 ((h15.pr (t := t) (by omega)).1 p461 hp461).2 (vp_in_nI (n := 1) (by decide) (by decide)) rfl ?_
        refine j_seal (((h15.pr (t := t) (by omega)).1 p461 hp461).1.1) ?_
        intro w16 u16
        have hpp16 := ((h15.pr (t := t) (by omega)).1 p461 hp461).1
        have fw16 := u16.fw (ρ := 14 + t) hpp16.1 hpp16.2.1
        have h16 := h15.up14 (t0 := t) (by omega) hp461 u16 (z_ui_ne (by decide))
        have ke16 := z_ke h16 ke15 rfl
        refine j_vret dX11_lay_51 rfl ?_ (Nat.le_of_ble_eq_true rfl) (Nat.le_of_ble_eq_true rfl)
        exact ⟨_, rfl, ((fw15.fm (q := 59) (by omega)).tr (fw16.fm (q := 59) (by omega))), h16, ke16⟩
    · refine j_w w15 hw456 ?_
      refine j_istore (lo' := [(4, _), (0, _), (1, _), (2, _), (3, _)]) dX11_lay_22 (by decide) rfl ?_
      refine j_iload dX11_lay_24 rfl ?_
      refine j_if_lt (tgt := 52) dX11_lay_26 (by decide) (fun c_26_324 => ?_) (fun c_26_324 => ?_)
      · refine j_aload_n dX11_lay_52 rfl rfl ?_
        refine j_getf dX11_lay_53 fX11_34 h15.m rfl ?_
        refine j_iload_n dX11_lay_56 rfl ?_
        obtain ⟨lv467, -, lg467⟩ := z_li.cell h15.tabs
        refine j_callV (q := (RJx4a65c, TJx4a65c, 3)) dX11_lay_57 kJx4a65c_get_915e3 lX11_82 inJx4a65c_get_915e3 seJx4a65c_get_915e3 lg467 rfl (cl_get hl w15 47 1007 _ _ (t) _ h15.tabs (z_thr3 (t := t) (by omega))) (Nat.le_of_ble_eq_true rfl) ⟨(Nat.le_of_ble_eq_true rfl), (Nat.le_of_ble_eq_true rfl)⟩ rfl (Nat.le_of_ble_eq_true rfl) rfl rfl (fun _ _ h => h.elim) ?_
        rintro _ _ ⟨rfl, hw468⟩
        refine j_w w15 hw468 ?_
        refine j_castS dX11_lay_60 (z_w 1341 ((lwg_6 96).trans (by decide +kernel)) (by decide +kernel)) (z_li.is (h15.tb (t := t) (by omega))) ?_
        obtain ⟨lv470, -, lg470⟩ := z_li.cell (h15.tb (t := t) (by omega))
        refine j_callV (q := (RJx4a65c, TJx4a65c, 3)) dX11_lay_63 kJx4a65c_size_8abf5 lX11_86 inJx4a65c_size_8abf5 seJx4a65c_size_8abf5 lg470 rfl (cl_sizeR hl w15 _ _ _ _ (h15.tb (t := t) (by omega))) (Nat.le_of_ble_eq_true rfl) ⟨(Nat.le_of_ble_eq_true rfl), (Nat.le_of_ble_eq_true rfl)⟩ rfl (Nat.le_of_ble_eq_true rfl) rfl rfl (fun _ _ h => h.elim) ?_
        rintro _ _ ⟨⟨n471, rfl, hn471⟩, hw471⟩
        refine j_w w15 hw471 ?_
        have hn471 : n471 = (z_qp s (t)).2.length := hn471
        have hz471 : (z_qp s (t)).2.length ≤ 20 := (h15.pr (t := t) (by omega)).len
        refine j_istore (lo' := [(5, _), (4, _), (0, _), (1, _), (2, _), (3, _)]) dX11_lay_66 (by decide) rfl ?_
        obtain ⟨wl, sl, hml, hkl, hfl, hpl⟩ : ∃ (wl : z_W) (sl : z_Z), z_mst wl sl ∧ z_key sl = z_key s ∧ z_fm 59 w wl ∧ wl = w15 ∧ z_qp sl = z_qp s ∧ z_qk sl = z_qk s := ⟨w15, _, h15, ke15, (fw15.fm (q := 59) (by omega)), rfl, rfl, rfl⟩
        obtain ⟨hwl, hqp, hqk⟩ := hpl
        refine j_w wl hwl.symm ?_
        have hno : ∀ p ∈ (z_qp sl t).2, ¬ z_qk sl p 0 = nI k0 := by rw [hqp, hqk]; exact hno456
        have hzl : (z_qp sl t).2.length ≤ 20 := (hml.pr (t := t) ht).len
        have hnl : n471 = (z_qp sl t).2.length := by rw [hqp]; exact hn471
        have loop68 : ∀ (n9 : Nat) (w17 : z_W) (a : Nat), (a ≤ (z_qp sl t).2.length) → (a < n9) → (z_mst w17 sl) → (w17 = wl) → z_J G l mX11_lay (20, 2, 52, w, (fun v w9 => ∃ (s9 : z_Z), v = none ∧ z_fm 59 w w9 ∧ z_mst w9 s9 ∧ z_key s9 = z_key s), (fun _ _ => False)) 68 [(0, .ref 1000), (1, .int (nI t)), (2, .int (nI k0)), (3, .int z), (4, .int (-1)), (5, .int (nI a))] [] w17 0 0 := by
          intro n9
          induction n9 with
          | zero => intro w17 a hj hf9 hm hW; exact absurd hf9 (Nat.not_lt_zero _)
          | succ n9 ih =>
            intro w17 a hj hf9 hm hW
            refine j_iload_n dX11_lay_68 rfl ?_
            refine j_iconst (v := 2) dX11_lay_69 (by decide) ?_
            refine j_icmp_ne (tgt := 111) dX11_lay_70 (by decide) (fun c_70_354 => ?_) (fun c_70_354 => ?_)
            · have hb70 : ¬ t = 2 := fun z => c_70_354 (show nI t = nI 2 by rw [z])
              refine j_aload_n dX11_lay_111 rfl rfl ?_
              refine j_getf dX11_lay_112 fX11_34 hm.m rfl ?_
              refine j_iload_n dX11_lay_115 rfl ?_
              obtain ⟨lv474, -, lg474⟩ := z_li.cell hm.tabs
              refine j_callV (q := (RJx4a65c, TJx4a65c, 3)) dX11_lay_116 kJx4a65c_get_915e3 lX11_82 inJx4a65c_get_915e3 seJx4a65c_get_915e3 lg474 rfl (cl_get hl w17 47 1007 _ _ (t) _ hm.tabs (z_thr3 (t := t) (by omega))) (Nat.le_of_ble_eq_true rfl) ⟨(Nat.le_of_ble_eq_true rfl), (Nat.le_of_ble_eq_true rfl)⟩ rfl (Nat.le_of_ble_eq_true rfl) rfl rfl (fun _ _ h => h.elim) ?_
              rintro _ _ ⟨rfl, hw475⟩
              refine j_w w17 hw475 ?_
              refine j_castS dX11_lay_119 (z_w 1341 ((lwg_6 96).trans (by decide +kernel)) (by decide +kernel)) (z_li.is (hm.tb (t := t) (by omega))) ?_
              refine j_iload dX11_lay_122 rfl ?_
              refine j_iconst (v := 2) dX11_lay_124 (by decide) ?_
              obtain ⟨x4, hx4a, hx4b, hx4c⟩ := z_fresh (14 + t) (by omega) hm.fn
              refine j_newa (kd := 0) (N := 2) (w' := _) (n := x4) dX11_lay_125 rfl rfl arc_int ⟨rfl, fun _ _ h => h⟩ (by decide) rfl (by decide) rfl (z_alW hx4c hx4a) (Nat.le_of_ble_eq_true rfl) (Nat.le_of_ble_eq_true rfl) ?_
              refine j_seal hx4a ?_
              intro w18 u18
              have hx18 : ∀ (k : Nat) (e : z_E), z_g w17 k = some e → z_g w18 k = some e := fun k e hk => (u18.2.1 k (z_neF hx4c hk)).trans ((fun _ _ z => z) k e hk)
              have fw18 := u18.fw hx4a hx4b
              have h18 := hm.mono hx18 (u18.2.2.2 hm.fn)
              refine j_dup dX11_lay_127 rfl ?_
              refine j_iconst (v := 0) dX11_lay_128 (by decide) ?_
              refine j_iload_n dX11_lay_129 rfl ?_
              refine j_sto (w' := _) dX11_lay_130 u18.1 (vp_in_nI (n := 0) (by decide) (by decide)) rfl ?_
              refine j_seal hx4a ?_
              intro w19 u19
              have hx19 : ∀ (k : Nat) (e : z_E), z_g w17 k = some e → z_g w19 k = some e := fun k e hk => (u19.2.1 k (z_neF hx4c hk)).trans (hx18 k e hk)
              have fw19 := u19.fw hx4a hx4b
              have h19 := hm.mono hx19 (u19.2.2.2 h18.fn)
              refine j_dup dX11_lay_131 rfl ?_
              refine j_iconst (v := 1) dX11_lay_132 (by decide) ?_
              refine j_iload_n dX11_lay_133 rfl ?_
              refine j_sto (w' := _) dX11_lay_134 u19.1 (vp_in_nI (n := 1) (by decide) (by decide)) rfl ?_
              refine j_seal hx4a ?_
              intro w20 u20
              have hx20 : ∀ (k : Nat) (e : z_E), z_g w17 k = some e → z_g w20 k = some e := fun k e hk => (u20.2.1 k (z_neF hx4c hk)).trans (hx19 k e hk)
              have fw20 := u20.fw hx4a hx4b
              have h20 := hm.mono hx20 (u20.2.2.2 h19.fn)
              have hgx := u20.1
              have hkx : z_g w20 x4 = some (.inl (0, 2, fun j => .int (z_ui (z_ui (fun _ => 0) 0 (nI k0)) 1 z j))) := hgx
              have hKn := z_mst.newk (x := x4) (F := z_ui (z_ui (fun _ => 0) 0 (nI k0)) 1 z) hm hx4c h20
              obtain ⟨lv479, -, lg479⟩ := z_li.cell (h20.tb (t := t) (by omega))
              refine j_callV (q := (RJx4a65c, TJx4a65c, 3)) dX11_lay_135 kJx4a65c_add_7a177 lX11_133 inJx4a65c_add_7a177 seJx4a65c_add_7a177 lg479 rfl (cl_addI hl w20 (51 + t) _ _ _ 20 (a) (.ref x4) (hKn.tb (t := t) ht) (by omega) hKn.fn (by rw [z_rs_len]; exact hzl) (by decide) (z_rs_el (hKn.pr (t := t) ht) (by omega)) ⟨Or.inr ⟨x4, rfl, Or.inr (show x4 % 64 ≠ 51 + t by omega)⟩, "[I", z_isA hkx, (z_wn 1999 ((lwg_9 34).trans (by decide +kernel)) (by decide +kernel))⟩ (by rw [z_rs_len]; exact hj)) (Nat.le_of_ble_eq_true rfl) ⟨(Nat.le_of_ble_eq_true rfl), (Nat.le_of_ble_eq_true rfl)⟩ rfl (Nat.le_of_ble_eq_true rfl) rfl rfl (fun _ _ h => h.elim) ?_
              rintro _ w21 ⟨rfl, fw21, mo21, hr21⟩
              rw [z_rs_ins] at hr21
              have fm21 := fw21.fm (q := 56) (by omega)
              have hf21 : z_fu (z_qk sl) x4 (z_ui (z_ui (fun _ => 0) 0 (nI k0)) 1 z) x4 = z_ui (z_ui (fun _ => 0) 0 (nI k0)) 1 z := z_fu_self
              have hi21 : z_pr w21 (14 + t) ((z_qp sl t).2.take (a) ++ x4 :: (z_qp sl t).2.drop (a)) (z_fu (z_qk sl) x4 (z_ui (z_ui (fun _ => 0) 0 (nI k0)) 1 z)) := z_pr.m (fun n _ h2 => fw21.2.2 n (Or.inr (by omega))) ((hKn.pr (t := t) ht).ins ⟨hx4a, hx4b, k0, hk, by show z_fu (z_qk sl) x4 (z_ui (z_ui (fun _ => 0) 0 (nI k0)) 1 z) x4 0 = nI k0; rw [hf21]; rfl⟩ (by show z_g _ x4 = some (.inl (0, 2, fun j => .int (z_fu (z_qk sl) x4 (z_ui (z_ui (fun _ => 0) 0 (nI k0)) 1 z) x4 j))); rw [hf21]; exact hkx) (fun p hp => by
                have hpx : p ≠ x4 := fun z => by have h9 := ((hm.pr (t := t) ht).1 p hp).2; rw [z, hx4c] at h9; cases h9
                show ¬ z_fu (z_qk sl) x4 (z_ui (z_ui (fun _ => 0) 0 (nI k0)) 1 z) p 0 = z_fu (z_qk sl) x4 (z_ui (z_ui (fun _ => 0) 0 (nI k0)) 1 z) x4 0
                rw [hf21, z_fu_ne hpx]; exact hno p hp))
              have h21 := hKn.li51 (t0 := t) ht fw21 hr21 hi21
              have ke21 := z_ke h21 hkl rfl
              refine j_vret dX11_lay_138 rfl ?_ (Nat.le_of_ble_eq_true rfl) (Nat.le_of_ble_eq_true rfl)
              exact ⟨_, rfl, (((((hW ▸ hfl).tr (fw18.fm (q := 59) (by omega))).tr (fw19.fm (q := 59) (by omega))).tr (fw20.fm (q := 59) (by omega))).tr (fm21.le (q' := 59) (by decide))), h21, ke21⟩
            · have hb70 : t = 2 := nI_inj (a := t) (b := 2) c_70_354 (by omega) (by omega)
              refine j_iload dX11_lay_73 rfl ?_
              refine j_if_le (tgt := 111) dX11_lay_75 (by decide) (fun c_75_410 => ?_) (fun c_75_410 => ?_)
              · have hb75 : a ≤ 0 := (nI_leI (a := a) (b := 0) (by omega) (by omega)).mp c_75_410
                refine j_aload_n dX11_lay_111 rfl rfl ?_
                refine j_getf dX11_lay_112 fX11_34 hm.m rfl ?_
                refine j_iload_n dX11_lay_115 rfl ?_
                obtain ⟨lv481, -, lg481⟩ := z_li.cell hm.tabs
                refine j_callV (q := (RJx4a65c, TJx4a65c, 3)) dX11_lay_116 kJx4a65c_get_915e3 lX11_82 inJx4a65c_get_915e3 seJx4a65c_get_915e3 lg481 rfl (cl_get hl w17 47 1007 _ _ (t) _ hm.tabs (z_thr3 (t := t) (by omega))) (Nat.le_of_ble_eq_true rfl) ⟨(Nat.le_of_ble_eq_true rfl), (Nat.le_of_ble_eq_true rfl)⟩ rfl (Nat.le_of_ble_eq_true rfl) rfl rfl (fun _ _ h => h.elim) ?_
                rintro _ _ ⟨rfl, hw482⟩
                refine j_w w17 hw482 ?_
                refine j_castS dX11_lay_119 (z_w 1341 ((lwg_6 96).trans (by decide +kernel)) (by decide +kernel)) (z_li.is (hm.tb (t := t) (by omega))) ?_
                refine j_iload dX11_lay_122 rfl ?_
                refine j_iconst (v := 2) dX11_lay_124 (by decide) ?_
                obtain ⟨x5, hx5a, hx5b, hx5c⟩ := z_fresh (14 + t) (by omega) hm.fn
                refine j_newa (kd := 0) (N := 2) (w' := _) (n := x5) dX11_lay_125 rfl rfl arc_int ⟨rfl, fun _ _ h => h⟩ (by decide) rfl (by decide) rfl (z_alW hx5c hx5a) (Nat.le_of_ble_eq_true rfl) (Nat.le_of_ble_eq_true rfl) ?_
                refine j_seal hx5a ?_
                intro w22 u22
                have hx22 : ∀ (k : Nat) (e : z_E), z_g w17 k = some e → z_g w22 k = some e := fun k e hk => (u22.2.1 k (z_neF hx5c hk)).trans ((fun _ _ z => z) k e hk)
                have fw22 := u22.fw hx5a hx5b
                have h22 := hm.mono hx22 (u22.2.2.2 hm.fn)
                refine j_dup dX11_lay_127 rfl ?_
                refine j_iconst (v := 0) dX11_lay_128 (by decide) ?_
                refine j_iload_n dX11_lay_129 rfl ?_
                refine j_sto (w' := _) dX11_lay_130 u22.1 (vp_in_nI (n := 0) (by decide) (by decide)) rfl ?_
                refine j_seal hx5a ?_
                intro w23 u23
                have hx23 : ∀ (k : Nat) (e : z_E), z_g w17 k = some e → z_g w23 k = some e := fun k e hk => (u23.2.1 k (z_neF hx5c hk)).trans (hx22 k e hk)
                have fw23 := u23.fw hx5a hx5b
                have h23 := hm.mono hx23 (u23.2.2.2 h22.fn)
                refine j_dup dX11_lay_131 rfl ?_
                refine j_iconst (v := 1) dX11_lay_132 (by decide) ?_
                refine j_iload_n dX11_lay_133 rfl ?_
                refine j_sto (w' := _) dX11_lay_134 u23.1 (vp_in_nI (n := 1) (by decide) (by decide)) rfl ?_
                refine j_seal hx5a ?_
                intro w24 u24
                have hx24 : ∀ (k : Nat) (e : z_E), z_g w17 k = some e → z_g w24 k = some e := fun k e hk => (u24.2.1 k (z_neF hx5c hk)).trans (hx23 k e hk)
                have fw24 := u24.fw hx5a hx5b
                have h24 := hm.mono hx24 (u24.2.2.2 h23.fn)
                have hgx := u24.1
                have hkx : z_g w24 x5 = some (.inl (0, 2, fun j => .int (z_ui (z_ui (fun _ => 0) 0 (nI k0)) 1 z j))) := hgx
                have hKn := z_mst.newk (x := x5) (F := z_ui (z_ui (fun _ => 0) 0 (nI k0)) 1 z) hm hx5c h24
                obtain ⟨lv486, -, lg486⟩ := z_li.cell (h24.tb (t := t) (by omega))
                refine j_callV (q := (RJx4a65c, TJx4a65c, 3)) dX11_lay_135 kJx4a65c_add_7a177 lX11_133 inJx4a65c_add_7a177 seJx4a65c_add_7a177 lg486 rfl (cl_addI hl w24 (51 + t) _ _ _ 20 (a) (.ref x5) (hKn.tb (t := t) ht) (by omega) hKn.fn (by rw [z_rs_len]; exact hzl) (by decide) (z_rs_el (hKn.pr (t := t) ht) (by omega)) ⟨Or.inr ⟨x5, rfl, Or.inr (show x5 % 64 ≠ 51 + t by omega)⟩, "[I", z_isA hkx, (z_wn 1999 ((lwg_9 34).trans (by decide +kernel)) (by decide +kernel))⟩ (by rw [z_rs_len]; exact hj)) (Nat.le_of_ble_eq_true rfl) ⟨(Nat.le_of_ble_eq_true rfl), (Nat.le_of_ble_eq_true rfl)⟩ rfl (Nat.le_of_ble_eq_true rfl) rfl rfl (fun _ _ h => h.elim) ?_
                rintro _ w25 ⟨rfl, fw25, mo25, hr25⟩
                rw [z_rs_ins] at hr25
                have fm25 := fw25.fm (q := 56) (by omega)
                have hf25 : z_fu (z_qk sl) x5 (z_ui (z_ui (fun _ => 0) 0 (nI k0)) 1 z) x5 = z_ui (z_ui (fun _ => 0) 0 (nI k0)) 1 z := z_fu_self
                have hi25 : z_pr w25 (14 + t) ((z_qp sl t).2.take (a) ++ x5 :: (z_qp sl t).2.drop (a)) (z_fu (z_qk sl) x5 (z_ui (z_ui (fun _ => 0) 0 (nI k0)) 1 z)) := z_pr.m (fun n _ h2 => fw25.2.2 n (Or.inr (by omega))) ((hKn.pr (t := t) ht).ins ⟨hx5a, hx5b, k0, hk, by show z_fu (z_qk sl) x5 (z_ui (z_ui (fun _ => 0) 0 (nI k0)) 1 z) x5 0 = nI k0; rw [hf25]; rfl⟩ (by show z_g _ x5 = some (.inl (0, 2, fun j => .int (z_fu (z_qk sl) x5 (z_ui (z_ui (fun _ => 0) 0 (nI k0)) 1 z) x5 j))); rw [hf25]; exact hkx) (fun p hp => by
                  have hpx : p ≠ x5 := fun z => by have h9 := ((hm.pr (t := t) ht).1 p hp).2; rw [z, hx5c] at h9; cases h9
                  show ¬ z_fu (z_qk sl) x5 (z_ui (z_ui (fun _ => 0) 0 (nI k0)) 1 z) p 0 = z_fu (z_qk sl) x5 (z_ui (z_ui (fun _ => 0) 0 (nI k0)) 1 z) x5 0
                  rw [hf25, z_fu_ne hpx]; exact hno p hp))
                have h25 := hKn.li51 (t0 := t) ht fw25 hr25 hi25
                have ke25 := z_ke h25 hkl rfl
                refine j_vret dX11_lay_138 rfl ?_ (Nat.le_of_ble_eq_true rfl) (Nat.le_of_ble_eq_true rfl)
                exact ⟨_, rfl, (((((hW ▸ hfl).tr (fw22.fm (q := 59) (by omega))).tr (fw23.fm (q := 59) (by omega))).tr (fw24.fm (q := 59) (by omega))).tr (fm25.le (q' := 59) (by decide))), h25, ke25⟩
              · have hb75 : 0 < a := Nat.not_le.mp (fun z => c_75_410 ((nI_leI (a := a) (b := 0) (by omega) (by omega)).mpr z))
                refine j_aload_n dX11_lay_78 rfl rfl ?_
                refine j_getf dX11_lay_79 fX11_34 hm.m rfl ?_
                refine j_iload_n dX11_lay_82 rfl ?_
                obtain ⟨lv488, -, lg488⟩ := z_li.cell hm.tabs
                refine j_callV (q := (RJx4a65c, TJx4a65c, 3)) dX11_lay_83 kJx4a65c_get_915e3 lX11_82 inJx4a65c_get_915e3 seJx4a65c_get_915e3 lg488 rfl (cl_get hl w17 47 1007 _ _ (t) _ hm.tabs (z_thr3 (t := t) (by omega))) (Nat.le_of_ble_eq_true rfl) ⟨(Nat.le_of_ble_eq_true rfl), (Nat.le_of_ble_eq_true rfl)⟩ rfl (Nat.le_of_ble_eq_true rfl) rfl rfl (fun _ _ h => h.elim) ?_
                rintro _ _ ⟨rfl, hw489⟩
                refine j_w w17 hw489 ?_
                refine j_castS dX11_lay_86 (z_w 1341 ((lwg_6 96).trans (by decide +kernel)) (by decide +kernel)) (z_li.is (hm.tb (t := t) (by omega))) ?_
                refine j_iload dX11_lay_89 rfl ?_
                refine j_iconst (v := 1) dX11_lay_91 (by decide) ?_
                refine j_isub dX11_lay_92 ?_
                refine j_top (congrArg Value.int (pk_sub (a := a) (b := 1) (by omega))) ?_
                obtain ⟨p491, hp491, hq491, hk491⟩ := z_rs_ex (P := (z_qp sl (t)).2) (k := (a - 1)) (by omega)
                obtain ⟨lv492, -, lg492⟩ := z_li.cell (hm.tb (t := t) (by omega))
                refine j_callV (q := (RJx4a65c, TJx4a65c, 3)) dX11_lay_93 kJx4a65c_get_915e3 lX11_82 inJx4a65c_get_915e3 seJx4a65c_get_915e3 lg492 rfl (cl_get hl w17 _ _ _ _ ((a - 1)) _ (hm.tb (t := t) (by omega)) hq491) (Nat.le_of_ble_eq_true rfl) ⟨(Nat.le_of_ble_eq_true rfl), (Nat.le_of_ble_eq_true rfl)⟩ rfl (Nat.le_of_ble_eq_true rfl) rfl rfl (fun _ _ h => h.elim) ?_
                rintro _ _ ⟨rfl, hw493⟩
                refine j_w w17 hw493 ?_
                refine j_castS dX11_lay_96 (z_w 1663 ((lwg_7 178).trans (by decide +kernel)) (by decide +kernel)) (z_isA ((hm.pr (t := t) (by omega)).1 p491 hp491).2) ?_
                refine j_iconst (v := 0) dX11_lay_99 (by decide) ?_
                refine j_ld dX11_lay_100 ((hm.pr (t := t) (by omega)).1 p491 hp491).2 (vp_in_nI (n := 0) (by decide) (by decide)) ?_
                refine j_iload_n dX11_lay_101 rfl ?_
                refine j_icmp_le (tgt := 111) dX11_lay_102 (by decide) (fun c_102_486 => ?_) (fun c_102_486 => ?_)
                · refine j_aload_n dX11_lay_111 rfl rfl ?_
                  refine j_getf dX11_lay_112 fX11_34 hm.m rfl ?_
                  refine j_iload_n dX11_lay_115 rfl ?_
                  obtain ⟨lv497, -, lg497⟩ := z_li.cell hm.tabs
                  refine j_callV (q := (RJx4a65c, TJx4a65c, 3)) dX11_lay_116 kJx4a65c_get_915e3 lX11_82 inJx4a65c_get_915e3 seJx4a65c_get_915e3 lg497 rfl (cl_get hl w17 47 1007 _ _ (t) _ hm.tabs (z_thr3 (t := t) (by omega))) (Nat.le_of_ble_eq_true rfl) ⟨(Nat.le_of_ble_eq_true rfl), (Nat.le_of_ble_eq_true rfl)⟩ rfl (Nat.le_of_ble_eq_true rfl) rfl rfl (fun _ _ h => h.elim) ?_
                  rintro _ _ ⟨rfl, hw498⟩
                  refine j_w w17 hw498 ?_
                  refine j_castS dX11_lay_119 (z_w 1341 ((lwg_6 96).trans (by decide +kernel)) (by decide +kernel)) (z_li.is (hm.tb (t := t) (by omega))) ?_
                  refine j_iload dX11_lay_122 rfl ?_
                  refine j_iconst (v := 2) dX11_lay_124 (by decide) ?_
                  obtain ⟨x6, hx6a, hx6b, hx6c⟩ := z_fresh (14 + t) (by omega) hm.fn
                  refine j_newa (kd := 0) (N := 2) (w' := _) (n := x6) dX11_lay_125 rfl rfl arc_int ⟨rfl, fun _ _ h => h⟩ (by decide) rfl (by decide) rfl (z_alW hx6c hx6a) (Nat.le_of_ble_eq_true rfl) (Nat.le_of_ble_eq_true rfl) ?_
                  refine j_seal hx6a ?_
                  intro w26 u26
                  have hx26 : ∀ (k : Nat) (e : z_E), z_g w17 k = some e → z_g w26 k = some e := fun k e hk => (u26.2.1 k (z_neF hx6c hk)).trans ((fun _ _ z => z) k e hk)
                  have fw26 := u26.fw hx6a hx6b
                  have h26 := hm.mono hx26 (u26.2.2.2 hm.fn)
                  refine j_dup dX11_lay_127 rfl ?_
                  refine j_iconst (v := 0) dX11_lay_128 (by decide) ?_
                  refine j_iload_n dX11_lay_129 rfl ?_
                  refine j_sto (w' := _) dX11_lay_130 u26.1 (vp_in_nI (n := 0) (by decide) (by decide)) rfl ?_
                  refine j_seal hx6a ?_
                  intro w27 u27
                  have hx27 : ∀ (k : Nat) (e : z_E), z_g w17 k = some e → z_g w27 k = some e := fun k e hk => (u27.2.1 k (z_neF hx6c hk)).trans (hx26 k e hk)
                  have fw27 := u27.fw hx6a hx6b
                  have h27 := hm.mono hx27 (u27.2.2.2 h26.fn)
                  refine j_dup dX11_lay_131 rfl ?_
                  refine j_iconst (v := 1) dX11_lay_132 (by decide) ?_
                  refine j_iload_n dX11_lay_133 rfl ?_
                  refine j_sto (w' := _) dX11_lay_134 u27.1 (vp_in_nI (n := 1) (by decide) (by decide)) rfl ?_
                  refine j_seal hx6a ?_
                  intro w28 u28
                  have hx28 : ∀ (k : Nat) (e : z_E), z_g w17 k = some e → z_g w28 k = some e := fun k e hk => (u28.2.1 k (z_neF hx6c hk)).trans (hx27 k e hk)
                  have fw28 := u28.fw hx6a hx6b
                  have h28 := hm.mono hx28 (u28.2.2.2 h27.fn)
                  have hgx := u28.1
                  have hkx : z_g w28 x6 = some (.inl (0, 2, fun j => .int (z_ui (z_ui (fun _ => 0) 0 (nI k0)) 1 z j))) := hgx
                  have hKn := z_mst.newk (x := x6) (F := z_ui (z_ui (fun _ => 0) 0 (nI k0)) 1 z) hm hx6c h28
                  obtain ⟨lv502, -, lg502⟩ := z_li.cell (h28.tb (t := t) (by omega))
                  refine j_callV (q := (RJx4a65c, TJx4a65c, 3)) dX11_lay_135 kJx4a65c_add_7a177 lX11_133 inJx4a65c_add_7a177 seJx4a65c_add_7a177 lg502 rfl (cl_addI hl w28 (51 + t) _ _ _ 20 (a) (.ref x6) (hKn.tb (t := t) ht) (by omega) hKn.fn (by rw [z_rs_len]; exact hzl) (by decide) (z_rs_el (hKn.pr (t := t) ht) (by omega)) ⟨Or.inr ⟨x6, rfl, Or.inr (show x6 % 64 ≠ 51 + t by omega)⟩, "[I", z_isA hkx, (z_wn 1999 ((lwg_9 34).trans (by decide +kernel)) (by decide +kernel))⟩ (by rw [z_rs_len]; exact hj)) (Nat.le_of_ble_eq_true rfl) ⟨(Nat.le_of_ble_eq_true rfl), (Nat.le_of_ble_eq_true rfl)⟩ rfl (Nat.le_of_ble_eq_true rfl) rfl rfl (fun _ _ h => h.elim) ?_
                  rintro _ w29 ⟨rfl, fw29, mo29, hr29⟩
                  rw [z_rs_ins] at hr29
                  have fm29 := fw29.fm (q := 56) (by omega)
                  have hf29 : z_fu (z_qk sl) x6 (z_ui (z_ui (fun _ => 0) 0 (nI k0)) 1 z) x6 = z_ui (z_ui (fun _ => 0) 0 (nI k0)) 1 z := z_fu_self
                  have hi29 : z_pr w29 (14 + t) ((z_qp sl t).2.take (a) ++ x6 :: (z_qp sl t).2.drop (a)) (z_fu (z_qk sl) x6 (z_ui (z_ui (fun _ => 0) 0 (nI k0)) 1 z)) := z_pr.m (fun n _ h2 => fw29.2.2 n (Or.inr (by omega))) ((hKn.pr (t := t) ht).ins ⟨hx6a, hx6b, k0, hk, by show z_fu (z_qk sl) x6 (z_ui (z_ui (fun _ => 0) 0 (nI k0)) 1 z) x6 0 = nI k0; rw [hf29]; rfl⟩ (by show z_g _ x6 = some (.inl (0, 2, fun j => .int (z_fu (z_qk sl) x6 (z_ui (z_ui (fun _ => 0) 0 (nI k0)) 1 z) x6 j))); rw [hf29]; exact hkx) (fun p hp => by
                    have hpx : p ≠ x6 := fun z => by have h9 := ((hm.pr (t := t) ht).1 p hp).2; rw [z, hx6c] at h9; cases h9
                    show ¬ z_fu (z_qk sl) x6 (z_ui (z_ui (fun _ => 0) 0 (nI k0)) 1 z) p 0 = z_fu (z_qk sl) x6 (z_ui (z_ui (fun _ => 0) 0 (nI k0)) 1 z) x6 0
                    rw [hf29, z_fu_ne hpx]; exact hno p hp))
                  have h29 := hKn.li51 (t0 := t) ht fw29 hr29 hi29
                  have ke29 := z_ke h29 hkl rfl
                  refine j_vret dX11_lay_138 rfl ?_ (Nat.le_of_ble_eq_true rfl) (Nat.le_of_ble_eq_true rfl)
                  exact ⟨_, rfl, (((((hW ▸ hfl).tr (fw26.fm (q := 59) (by omega))).tr (fw27.fm (q := 59) (by omega))).tr (fw28.fm (q := 59) (by omega))).tr (fm29.le (q' := 59) (by decide))), h29, ke29⟩
                · refine j_iinc (lo' := [(5, _), (0, _), (1, _), (2, _), (3, _), (4, _)]) dX11_lay_105 rfl (z_decr1 (by omega)) (by decide) rfl ?_
                  refine j_goto (tgt := 68) dX11_lay_108 (by decide) ?_
                  exact j_lo2 (ih w17 (a - 1) (by omega) (by omega) hm hW) (z_q1 rfl (z_q1 rfl (z_q1 rfl (z_q1 rfl (z_q1 rfl (z_q1 rfl z_q0))))))
        exact j_lo2 (loop68 (n471 + 1) wl n471 (by omega) (by omega) hml rfl) (z_q1 rfl (z_q1 rfl (z_q1 rfl (z_q1 rfl (z_q1 rfl (z_q1 rfl z_q0))))))
      · exact absurd c_26_324 (by decide)
end ZMs6
