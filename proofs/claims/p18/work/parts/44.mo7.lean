section ZMs7
variable {G : z_G} {l : Launch}
set_option maxRecDepth 100000 in
set_option maxHeartbeats 8000000 in
theorem cm_isTrue (hl : l.stackTraces = false) (w : z_W) (s : z_Z)  (h : z_mst w s)  : z_Con G l mX11_isTrue 16 0 0 w [.ref 1000] (fun v w9 => (∃ r : Int32, v = some (.int r) ∧ narrow .boolean (.int r) = .int r) ∧ w9 = w) (fun _ _ => False) := by
  refine z_body hl (by decide) rfl (Nat.le_of_ble_eq_true rfl) ?_
  show z_J G l mX11_isTrue _ 0 [(0, _)] [] _ 0 0
  refine j_iconst (v := 1) dX11_isTrue_0 (by decide) ?_
  refine j_istore_n (lo' := [(1, _), (0, _)]) dX11_isTrue_1 (by decide) rfl ?_
  have loop2 : ∀ (n9 : Nat) (w1 : z_W) (j : Nat), (1 ≤ j) → (j ≤ 21) → (21 < j + n9) → (z_mst w1 s) → (w1 = w) → z_J G l mX11_isTrue (16, 0, 0, w, (fun v w9 => (∃ r : Int32, v = some (.int r) ∧ narrow .boolean (.int r) = .int r) ∧ w9 = w), (fun _ _ => False)) 2 [(0, .ref 1000), (1, .int (nI j))] [] w1 0 0 := by
    intro n9
    induction n9 with
    | zero => intro w1 j hj1 hj hf9 hm hW; exact absurd hf9 (by omega)
    | succ n9 ih =>
      intro w1 j hj1 hj hf9 hm hW
      refine j_iload_n dX11_isTrue_2 rfl ?_
      refine j_aload_n dX11_isTrue_3 rfl rfl ?_
      refine j_getf dX11_isTrue_4 fX11_34 hm.m rfl ?_
      refine j_iconst (v := 2) dX11_isTrue_7 (by decide) ?_
      obtain ⟨lv548, -, lg548⟩ := z_li.cell hm.tabs
      refine j_callV (q := (RJx4a65c, TJx4a65c, 3)) dX11_isTrue_8 kJx4a65c_get_915e3 lX11_82 inJx4a65c_get_915e3 seJx4a65c_get_915e3 lg548 rfl (cl_get hl w1 47 1007 _ _ (2) _ hm.tabs (z_thr3 (t := 2) (by decide))) (Nat.le_of_ble_eq_true rfl) ⟨(Nat.le_of_ble_eq_true rfl), (Nat.le_of_ble_eq_true rfl)⟩ rfl (Nat.le_of_ble_eq_true rfl) rfl rfl (fun _ _ h => h.elim) ?_
      rintro _ _ ⟨rfl, hw549⟩
      refine j_w w1 hw549 ?_
      refine j_castS dX11_isTrue_11 (z_w 1341 ((lwt_6_3 6).trans rfl) (by decide +kernel)) (z_li.is (hm.tb (t := 2) (by decide))) ?_
      obtain ⟨lv551, -, lg551⟩ := z_li.cell (hm.tb (t := 2) (by decide))
      refine j_callV (q := (RJx4a65c, TJx4a65c, 3)) dX11_isTrue_14 kJx4a65c_size_8abf5 lX11_86 inJx4a65c_size_8abf5 seJx4a65c_size_8abf5 lg551 rfl (cl_sizeR hl w1 _ _ _ _ (hm.tb (t := 2) (by decide))) (Nat.le_of_ble_eq_true rfl) ⟨(Nat.le_of_ble_eq_true rfl), (Nat.le_of_ble_eq_true rfl)⟩ rfl (Nat.le_of_ble_eq_true rfl) rfl rfl (fun _ _ h => h.elim) ?_
      rintro _ _ ⟨⟨n552, rfl, hn552⟩, hw552⟩
      refine j_w w1 hw552 ?_
      have hn552 : n552 = (z_qp s (2)).2.length := hn552
      have hz552 : (z_qp s (2)).2.length ≤ 20 := (hm.pr (t := 2) (by decide)).len
      refine j_icmp_ge (tgt := 73) dX11_isTrue_17 (by decide) (fun c_17_25 => ?_) (fun c_17_25 => ?_)
      · have hb17 : n552 ≤ j := (nI_leI (a := n552) (b := j) (by omega) (by omega)).mp c_17_25
        refine j_iconst (v := 1) dX11_isTrue_73 (by decide) ?_
        refine j_iret dX11_isTrue_74 rfl rfl ?_ (Nat.le_of_ble_eq_true rfl) (Nat.le_of_ble_eq_true rfl)
        exact ⟨⟨_, rfl, rfl⟩, hW⟩
      · have hb17 : j < n552 := Nat.not_le.mp (fun z => c_17_25 ((nI_leI (a := n552) (b := j) (by omega) (by omega)).mpr z))
        refine j_aload_n dX11_isTrue_20 rfl rfl ?_
        refine j_getf dX11_isTrue_21 fX11_34 hm.m rfl ?_
        refine j_iconst (v := 2) dX11_isTrue_24 (by decide) ?_
        obtain ⟨lv554, -, lg554⟩ := z_li.cell hm.tabs
        refine j_callV (q := (RJx4a65c, TJx4a65c, 3)) dX11_isTrue_25 kJx4a65c_get_915e3 lX11_82 inJx4a65c_get_915e3 seJx4a65c_get_915e3 lg554 rfl (cl_get hl w1 47 1007 _ _ (2) _ hm.tabs (z_thr3 (t := 2) (by decide))) (Nat.le_of_ble_eq_true rfl) ⟨(Nat.le_of_ble_eq_true rfl), (Nat.le_of_ble_eq_true rfl)⟩ rfl (Nat.le_of_ble_eq_true rfl) rfl rfl (fun _ _ h => h.elim) ?_
        rintro _ _ ⟨rfl, hw555⟩
        refine j_w w1 hw555 ?_
        refine j_castS dX11_isTrue_28 (z_w 1341 ((lwt_6_3 6).trans rfl) (by decide +kernel)) (z_li.is (hm.tb (t := 2) (by decide))) ?_
        refine j_iload_n dX11_isTrue_31 rfl ?_
        obtain ⟨p557, hp557, hq557, hk557⟩ := z_rs_ex (P := (z_qp s (2)).2) (k := j) (by omega)
        obtain ⟨lv558, -, lg558⟩ := z_li.cell (hm.tb (t := 2) (by decide))
        refine j_callV (q := (RJx4a65c, TJx4a65c, 3)) dX11_isTrue_32 kJx4a65c_get_915e3 lX11_82 inJx4a65c_get_915e3 seJx4a65c_get_915e3 lg558 rfl (cl_get hl w1 _ _ _ _ (j) _ (hm.tb (t := 2) (by decide)) hq557) (Nat.le_of_ble_eq_true rfl) ⟨(Nat.le_of_ble_eq_true rfl), (Nat.le_of_ble_eq_true rfl)⟩ rfl (Nat.le_of_ble_eq_true rfl) rfl rfl (fun _ _ h => h.elim) ?_
        rintro _ _ ⟨rfl, hw559⟩
        refine j_w w1 hw559 ?_
        refine j_castS dX11_isTrue_35 (z_w 1663 ((lwt_7_5 28).trans rfl) (by decide +kernel)) (z_isA ((hm.pr (t := 2) (by decide)).1 p557 hp557).2) ?_
        refine j_iconst (v := 0) dX11_isTrue_38 (by decide) ?_
        refine j_ld dX11_isTrue_39 ((hm.pr (t := 2) (by decide)).1 p557 hp557).2 (vp_in_nI (n := 0) (by decide) (by decide)) ?_
        refine j_aload_n dX11_isTrue_40 rfl rfl ?_
        refine j_getf dX11_isTrue_41 fX11_34 hm.m rfl ?_
        refine j_iconst (v := 2) dX11_isTrue_44 (by decide) ?_
        obtain ⟨lv563, -, lg563⟩ := z_li.cell hm.tabs
        refine j_callV (q := (RJx4a65c, TJx4a65c, 3)) dX11_isTrue_45 kJx4a65c_get_915e3 lX11_82 inJx4a65c_get_915e3 seJx4a65c_get_915e3 lg563 rfl (cl_get hl w1 47 1007 _ _ (2) _ hm.tabs (z_thr3 (t := 2) (by decide))) (Nat.le_of_ble_eq_true rfl) ⟨(Nat.le_of_ble_eq_true rfl), (Nat.le_of_ble_eq_true rfl)⟩ rfl (Nat.le_of_ble_eq_true rfl) rfl rfl (fun _ _ h => h.elim) ?_
        rintro _ _ ⟨rfl, hw564⟩
        refine j_w w1 hw564 ?_
        refine j_castS dX11_isTrue_48 (z_w 1341 ((lwt_6_3 6).trans rfl) (by decide +kernel)) (z_li.is (hm.tb (t := 2) (by decide))) ?_
        refine j_iload_n dX11_isTrue_51 rfl ?_
        refine j_iconst (v := 1) dX11_isTrue_52 (by decide) ?_
        refine j_isub dX11_isTrue_53 ?_
        refine j_top (congrArg Value.int (pk_sub (a := j) (b := 1) (by omega))) ?_
        obtain ⟨p566, hp566, hq566, hk566⟩ := z_rs_ex (P := (z_qp s (2)).2) (k := (j - 1)) (by omega)
        obtain ⟨lv567, -, lg567⟩ := z_li.cell (hm.tb (t := 2) (by decide))
        refine j_callV (q := (RJx4a65c, TJx4a65c, 3)) dX11_isTrue_54 kJx4a65c_get_915e3 lX11_82 inJx4a65c_get_915e3 seJx4a65c_get_915e3 lg567 rfl (cl_get hl w1 _ _ _ _ ((j - 1)) _ (hm.tb (t := 2) (by decide)) hq566) (Nat.le_of_ble_eq_true rfl) ⟨(Nat.le_of_ble_eq_true rfl), (Nat.le_of_ble_eq_true rfl)⟩ rfl (Nat.le_of_ble_eq_true rfl) rfl rfl (fun _ _ h => h.elim) ?_
        rintro _ _ ⟨rfl, hw568⟩
        refine j_w w1 hw568 ?_
        refine j_castS dX11_isTrue_57 (z_w 1663 ((lwt_7_5 28).trans rfl) (by decide +kernel)) (z_isA ((hm.pr (t := 2) (by decide)).1 p566 hp566).2) ?_
        refine j_iconst (v := 0) dX11_isTrue_60 (by decide) ?_
        refine j_ld dX11_isTrue_61 ((hm.pr (t := 2) (by decide)).1 p566 hp566).2 (vp_in_nI (n := 0) (by decide) (by decide)) ?_
        refine j_icmp_gt (tgt := 67) dX11_isTrue_62 (by decide) (fun c_62_68 => ?_) (fun c_62_68 => ?_)
        · refine j_iinc (lo' := [(1, _), (0, _)]) dX11_isTrue_67 rfl (z_inc _) (by decide) rfl ?_
          refine j_goto (tgt := 2) dX11_isTrue_70 (by decide) ?_
          exact j_lo2 (ih w1 (j + 1) (by omega) (by omega) (by omega) hm hW) (z_q1 rfl (z_q1 rfl z_q0))
        · refine j_iconst (v := 0) dX11_isTrue_65 (by decide) ?_
          refine j_iret dX11_isTrue_66 rfl rfl ?_ (Nat.le_of_ble_eq_true rfl) (Nat.le_of_ble_eq_true rfl)
          exact ⟨⟨_, rfl, rfl⟩, hW⟩
  exact j_lo2 (loop2 21 w 1 (by omega) (by omega) (by omega) h rfl) (z_q1 rfl (z_q1 rfl z_q0))
end ZMs7
