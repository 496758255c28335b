section ZMs5
variable {G : z_G} {l : Launch}
set_option maxRecDepth 100000 in
set_option maxHeartbeats 8000000 in
theorem cm_place (hl : l.stackTraces = false) (w : z_W) (s : z_Z) (t : Nat) (y : Int32) (h : z_mst w s) (ht : t < 3) : z_Con G l mX11_place 14 0 0 w [.ref 1000, .int (nI t), .int y] (fun v w9 => ((∃ j p, v = some (.int (nI j)) ∧ (z_qp s t).2[j]? = some p ∧ z_qk s p 0 = y) ∨ (v = some (.int (-1)) ∧ ∀ p ∈ (z_qp s t).2, ¬ z_qk s p 0 = y)) ∧ w9 = w) (fun _ _ => False) := by
  refine z_body hl (by decide) rfl (Nat.le_of_ble_eq_true rfl) ?_
  show z_J G l mX11_place _ 0 [(0, _), (1, _), (2, _)] [] _ 0 0
  refine j_iconst (v := 0) dX11_place_0 (by decide) ?_
  refine j_istore_n (lo' := [(3, _), (0, _), (1, _), (2, _)]) dX11_place_1 (by decide) rfl ?_
  have loop2 : ∀ (n9 : Nat) (w1 : z_W) (j : Nat), (j ≤ 20) → (20 < j + n9) → (∀ q, q < j → ∀ p, (z_qp s t).2[q]? = some p → ¬ z_qk s p 0 = y) → (z_mst w1 s) → (w1 = w) → z_J G l mX11_place (14, 0, 0, w, (fun v w9 => ((∃ j p, v = some (.int (nI j)) ∧ (z_qp s t).2[j]? = some p ∧ z_qk s p 0 = y) ∨ (v = some (.int (-1)) ∧ ∀ p ∈ (z_qp s t).2, ¬ z_qk s p 0 = y)) ∧ w9 = w), (fun _ _ => False)) 2 [(0, .ref 1000), (1, .int (nI t)), (2, .int y), (3, .int (nI j))] [] w1 0 0 := by
    intro n9
    induction n9 with
    | zero => intro w1 j hj hf9 hno hm hW; exact absurd hf9 (by omega)
    | succ n9 ih =>
      intro w1 j hj hf9 hno hm hW
      refine j_iload_n dX11_place_2 rfl ?_
      refine j_aload_n dX11_place_3 rfl rfl ?_
      refine j_getf dX11_place_4 fX11_34 hm.m rfl ?_
      refine j_iload_n dX11_place_7 rfl ?_
      obtain ⟨lv361, -, lg361⟩ := z_li.cell hm.tabs
      refine j_callV (q := (RJx4a65c, TJx4a65c, 3)) dX11_place_8 kJx4a65c_get_915e3 lX11_82 inJx4a65c_get_915e3 seJx4a65c_get_915e3 lg361 rfl (cl_get hl w1 47 1007 _ _ (t) _ hm.tabs (z_thr3 (t := t) (by omega))) (Nat.le_of_ble_eq_true rfl) ⟨(Nat.le_of_ble_eq_true rfl), (Nat.le_of_ble_eq_true rfl)⟩ rfl (Nat.le_of_ble_eq_true rfl) rfl rfl (fun _ _ h => h.elim) ?_
      rintro _ _ ⟨rfl, hw362⟩
      refine j_w w1 hw362 ?_
      refine j_castS dX11_place_11 (z_w 1341 ((lwg_6 96).trans (by decide +kernel)) (by decide +kernel)) (z_li.is (hm.tb (t := t) (by omega))) ?_
      obtain ⟨lv364, -, lg364⟩ := z_li.cell (hm.tb (t := t) (by omega))
      refine j_callV (q := (RJx4a65c, TJx4a65c, 3)) dX11_place_14 kJx4a65c_size_8abf5 lX11_86 inJx4a65c_size_8abf5 seJx4a65c_size_8abf5 lg364 rfl (cl_sizeR hl w1 _ _ _ _ (hm.tb (t := t) (by omega))) (Nat.le_of_ble_eq_true rfl) ⟨(Nat.le_of_ble_eq_true rfl), (Nat.le_of_ble_eq_true rfl)⟩ rfl (Nat.le_of_ble_eq_true rfl) rfl rfl (fun _ _ h => h.elim) ?_
      rintro _ _ ⟨⟨n365, rfl, hn365⟩, hw365⟩
      refine j_w w1 hw365 ?_
      have hn365 : n365 = (z_qp s (t)).2.length := hn365
      have hz365 : (z_qp s (t)).2.length ≤ 20 := (hm.pr (t := t) (by omega)).len
      refine j_icmp_ge (tgt := 52) dX11_place_17 (by decide) (fun c_17_25 => ?_) (fun c_17_25 => ?_)
      · have hb17 : n365 ≤ j := (nI_leI (a := n365) (b := j) (by omega) (by omega)).mp c_17_25
        refine j_iconst (v := (-1)) dX11_place_52 (by decide) ?_
        refine j_iret dX11_place_53 rfl rfl ?_ (Nat.le_of_ble_eq_true rfl) (Nat.le_of_ble_eq_true rfl)
        exact ⟨Or.inr ⟨rfl, fun p hp => by obtain ⟨q, hq⟩ := List.getElem?_of_mem hp; exact hno q (by have := (List.getElem?_eq_some_iff.mp hq).1; omega) p hq⟩, hW⟩
      · have hb17 : j < n365 := Nat.not_le.mp (fun z => c_17_25 ((nI_leI (a := n365) (b := j) (by omega) (by omega)).mpr z))
        refine j_aload_n dX11_place_20 rfl rfl ?_
        refine j_getf dX11_place_21 fX11_34 hm.m rfl ?_
        refine j_iload_n dX11_place_24 rfl ?_
        obtain ⟨lv367, -, lg367⟩ := z_li.cell hm.tabs
        refine j_callV (q := (RJx4a65c, TJx4a65c, 3)) dX11_place_25 kJx4a65c_get_915e3 lX11_82 inJx4a65c_get_915e3 seJx4a65c_get_915e3 lg367 rfl (cl_get hl w1 47 1007 _ _ (t) _ hm.tabs (z_thr3 (t := t) (by omega))) (Nat.le_of_ble_eq_true rfl) ⟨(Nat.le_of_ble_eq_true rfl), (Nat.le_of_ble_eq_true rfl)⟩ rfl (Nat.le_of_ble_eq_true rfl) rfl rfl (fun _ _ h => h.elim) ?_
        rintro _ _ ⟨rfl, hw368⟩
        refine j_w w1 hw368 ?_
        refine j_castS dX11_place_28 (z_w 1341 ((lwg_6 96).trans (by decide +kernel)) (by decide +kernel)) (z_li.is (hm.tb (t := t) (by omega))) ?_
        refine j_iload_n dX11_place_31 rfl ?_
        obtain ⟨p370, hp370, hq370, hk370⟩ := z_rs_ex (P := (z_qp s (t)).2) (k := j) (by omega)
        obtain ⟨lv371, -, lg371⟩ := z_li.cell (hm.tb (t := t) (by omega))
        refine j_callV (q := (RJx4a65c, TJx4a65c, 3)) dX11_place_32 kJx4a65c_get_915e3 lX11_82 inJx4a65c_get_915e3 seJx4a65c_get_915e3 lg371 rfl (cl_get hl w1 _ _ _ _ (j) _ (hm.tb (t := t) (by omega)) hq370) (Nat.le_of_ble_eq_true rfl) ⟨(Nat.le_of_ble_eq_true rfl), (Nat.le_of_ble_eq_true rfl)⟩ rfl (Nat.le_of_ble_eq_true rfl) rfl rfl (fun _ _ h => h.elim) ?_
        rintro _ _ ⟨rfl, hw372⟩
        refine j_w w1 hw372 ?_
        refine j_castS dX11_place_35 (z_w 1663 ((lwg_7 178).trans (by decide +kernel)) (by decide +kernel)) (z_isA ((hm.pr (t := t) (by omega)).1 p370 hp370).2) ?_
        refine j_iconst (v := 0) dX11_place_38 (by decide) ?_
        refine j_ld dX11_place_39 ((hm.pr (t := t) (by omega)).1 p370 hp370).2 (vp_in_nI (n := 0) (by decide) (by decide)) ?_
        refine j_iload_n dX11_place_40 rfl ?_
        refine j_icmp_ne (tgt := 46) dX11_place_41 (by decide) (fun c_41_49 => ?_) (fun c_41_49 => ?_)
        · refine j_iinc (lo' := [(3, _), (0, _), (1, _), (2, _)]) dX11_place_46 rfl (z_inc _) (by decide) rfl ?_
          refine j_goto (tgt := 2) dX11_place_49 (by decide) ?_
          exact j_lo2 (ih w1 (j + 1) (by omega) (by omega) (fun q hq p hqp => by rcases Nat.lt_succ_iff_lt_or_eq.mp hq with z | z; exact hno q z p hqp; subst z; rw [hk370] at hqp; cases hqp; exact c_41_49) hm hW) (z_q1 rfl (z_q1 rfl (z_q1 rfl (z_q1 rfl z_q0))))
        · refine j_iload_n dX11_place_44 rfl ?_
          refine j_iret dX11_place_45 rfl rfl ?_ (Nat.le_of_ble_eq_true rfl) (Nat.le_of_ble_eq_true rfl)
          exact ⟨Or.inl ⟨j, _, rfl, hk370, c_41_49⟩, hW⟩
  exact j_lo2 (loop2 21 w 0 (by omega) (by omega) (fun q hq => absurd hq (Nat.not_lt_zero _)) h rfl) (z_q1 rfl (z_q1 rfl (z_q1 rfl (z_q1 rfl z_q0))))
set_option maxRecDepth 100000 in
set_option maxHeartbeats 8000000 in
theorem cm_valueOf (hl : l.stackTraces = false) (w : z_W) (s : z_Z) (t : Nat) (y : Int32) (h : z_mst w s) (ht : t < 3) : z_Con G l mX11_valueOf 16 0 0 w [.ref 1000, .int (nI t), .int y] (fun v w9 => (∃ r : Int32, v = some (.int r)) ∧ w9 = w) (fun _ _ => False) := by
  refine z_body hl (by decide) rfl (Nat.le_of_ble_eq_true rfl) ?_
  show z_J G l mX11_valueOf _ 0 [(0, _), (1, _), (2, _)] [] _ 0 0
  refine j_aload_n dX11_valueOf_0 rfl rfl ?_
  refine j_iload_n dX11_valueOf_1 rfl ?_
  refine j_iload_n dX11_valueOf_2 rfl ?_
  refine j_callV (q := (RX11, TX11, 8)) dX11_valueOf_3 kX11_place lX11_130 inX11_place seX11_place h.m rfl (cm_place hl w _ (t) _ h (by omega)) (Nat.le_of_ble_eq_true rfl) ⟨(Nat.le_of_ble_eq_true rfl), (Nat.le_of_ble_eq_true rfl)⟩ rfl (Nat.le_of_ble_eq_true rfl) rfl rfl (fun _ _ h => h.elim) ?_
  rintro _ _ ⟨⟨j375, p375, rfl, hj375, hk375⟩ | ⟨rfl, hno375⟩, hw375⟩
  · refine j_w w hw375 ?_
    have hl375 : j375 < (z_qp s (t)).2.length := (List.getElem?_eq_some_iff.mp hj375).1
    have hz375 : (z_qp s (t)).2.length ≤ 20 := (h.pr (t := t) (by omega)).len
    refine j_istore_n (lo' := [(3, _), (0, _), (1, _), (2, _)]) dX11_valueOf_6 (by decide) rfl ?_
    refine j_iload_n dX11_valueOf_7 rfl ?_
    refine j_if_ge (tgt := 17) dX11_valueOf_8 (by decide) (fun c_8_12 => ?_) (fun c_8_12 => ?_)
    · refine j_aload_n dX11_valueOf_17 rfl rfl ?_
      refine j_getf dX11_valueOf_18 fX11_34 h.m rfl ?_
      refine j_iload_n dX11_valueOf_21 rfl ?_
      obtain ⟨lv377, -, lg377⟩ := z_li.cell h.tabs
      refine j_callV (q := (RJx4a65c, TJx4a65c, 3)) dX11_valueOf_22 kJx4a65c_get_915e3 lX11_82 inJx4a65c_get_915e3 seJx4a65c_get_915e3 lg377 rfl (cl_get hl w 47 1007 _ _ (t) _ h.tabs (z_thr3 (t := t) (by omega))) (Nat.le_of_ble_eq_true rfl) ⟨(Nat.le_of_ble_eq_true rfl), (Nat.le_of_ble_eq_true rfl)⟩ rfl (Nat.le_of_ble_eq_true rfl) rfl rfl (fun _ _ h => h.elim) ?_
      rintro _ _ ⟨rfl, hw378⟩
      refine j_w w hw378 ?_
      refine j_castS dX11_valueOf_25 (z_w 1341 ((lwg_6 96).trans (by decide +kernel)) (by decide +kernel)) (z_li.is (h.tb (t := t) (by omega))) ?_
      refine j_iload_n dX11_valueOf_28 rfl ?_
      obtain ⟨p380, hp380, hq380, hk380⟩ := z_rs_ex (P := (z_qp s (t)).2) (k := j375) (by omega)
      obtain ⟨lv381, -, lg381⟩ := z_li.cell (h.tb (t := t) (by omega))
      refine j_callV (q := (RJx4a65c, TJx4a65c, 3)) dX11_valueOf_29 kJx4a65c_get_915e3 lX11_82 inJx4a65c_get_915e3 seJx4a65c_get_915e3 lg381 rfl (cl_get hl w _ _ _ _ (j375) _ (h.tb (t := t) (by omega)) hq380) (Nat.le_of_ble_eq_true rfl) ⟨(Nat.le_of_ble_eq_true rfl), (Nat.le_of_ble_eq_true rfl)⟩ rfl (Nat.le_of_ble_eq_true rfl) rfl rfl (fun _ _ h => h.elim) ?_
      rintro _ _ ⟨rfl, hw382⟩
      refine j_w w hw382 ?_
      refine j_castS dX11_valueOf_32 (z_w 1663 ((lwg_7 178).trans (by decide +kernel)) (by decide +kernel)) (z_isA ((h.pr (t := t) (by omega)).1 p380 hp380).2) ?_
      refine j_iconst (v := 1) dX11_valueOf_35 (by decide) ?_
      refine j_ld dX11_valueOf_36 ((h.pr (t := t) (by omega)).1 p380 hp380).2 (vp_in_nI (n := 1) (by decide) (by decide)) ?_
      refine j_iret dX11_valueOf_37 rfl rfl ?_ (Nat.le_of_ble_eq_true rfl) (Nat.le_of_ble_eq_true rfl)
      exact ⟨⟨_, rfl⟩, rfl⟩
    · exact absurd (nI_pos' (n := j375) (by omega)) c_8_12
  · refine j_w w hw375 ?_
    refine j_istore_n (lo' := [(3, _), (0, _), (1, _), (2, _)]) dX11_valueOf_6 (by decide) rfl ?_
    refine j_iload_n dX11_valueOf_7 rfl ?_
    refine j_if_ge (tgt := 17) dX11_valueOf_8 (by decide) (fun c_8_36 => ?_) (fun c_8_36 => ?_)
    · exact absurd c_8_36 (by decide)
    · refine j_sipush (v := (-1000)) dX11_valueOf_11 (by decide) ?_
      refine j_goto (tgt := 37) dX11_valueOf_14 (by decide) ?_
      refine j_iret dX11_valueOf_37 rfl rfl ?_ (Nat.le_of_ble_eq_true rfl) (Nat.le_of_ble_eq_true rfl)
      exact ⟨⟨_, rfl⟩, rfl⟩
set_option maxRecDepth 100000 in
set_option maxHeartbeats 8000000 in
theorem cm_isNoPair (hl : l.stackTraces = false) (w : z_W) (s : z_Z) (x y z : Int32) (h : z_mst w s)  : z_Con G l mX11_isNoPair 16 0 0 w [.ref 1000, .int x, .int y, .int z] (fun v w9 => (∃ i k, v = some (.int 0) ∧ i < 3 ∧ k < 20 ∧ x = nI i ∧ y = nI k ∧ z_fm 56 w w9 ∧ z_mst w9 (z_tm s (0, s.1.2.1, s.1.2.2))) ∨ (∃ th : Int32, v = some (.int 1) ∧ z_fm 56 w w9 ∧ z_mst w9 (z_tm s (th, s.1.2.1, s.1.2.2)))) (fun _ _ => False) := by
  refine z_body hl (by decide) rfl (Nat.le_of_ble_eq_true rfl) ?_
  show z_J G l mX11_isNoPair _ 0 [(0, _), (1, _), (2, _), (3, _)] [] _ 0 0
  refine j_aload_n dX11_isNoPair_0 rfl rfl ?_
  refine j_iload_n dX11_isNoPair_1 rfl ?_
  refine j_callS dX11_isNoPair_2 kX11_isNoTable lX11_136 stX11_isNoTable (cm_isNoTable hl w _) (Nat.le_of_ble_eq_true rfl) ⟨(Nat.le_of_ble_eq_true rfl), (Nat.le_of_ble_eq_true rfl)⟩ rfl (Nat.le_of_ble_eq_true rfl) rfl rfl (fun _ _ h => h.elim) ?_
  rintro _ _ ⟨⟨rfl, hno385⟩ | ⟨rfl, i385, hi385, rfl⟩, hw385⟩
  · refine j_w w hw385 ?_
    refine j_iconst (v := 1) dX11_isNoPair_5 (by decide) ?_
    refine j_callV (q := (RX11, TX11, 8)) dX11_isNoPair_6 kX11_start lX11_76 inX11_start seX11_start h.m rfl (cm_start1 hl w _ _ h (by decide)) (Nat.le_of_ble_eq_true rfl) ⟨(Nat.le_of_ble_eq_true rfl), (Nat.le_of_ble_eq_true rfl)⟩ rfl (Nat.le_of_ble_eq_true rfl) rfl rfl (fun _ _ h => h.elim) ?_
    rintro _ w1 ⟨rfl, fm1, h1⟩
    refine j_if_ne (tgt := 39) dX11_isNoPair_9 (by decide) (fun c_9_10 => ?_) (fun c_9_10 => ?_)
    · refine j_iconst (v := 1) dX11_isNoPair_39 (by decide) ?_
      refine j_goto (tgt := 44) dX11_isNoPair_40 (by decide) ?_
      refine j_iret dX11_isNoPair_44 rfl rfl ?_ (Nat.le_of_ble_eq_true rfl) (Nat.le_of_ble_eq_true rfl)
      exact Or.inr ⟨_, rfl, (fm1.le (q' := 56) (by decide)), h1⟩
    · exact absurd c_9_10 (by decide)
  · refine j_w w hw385 ?_
    refine j_iconst (v := 1) dX11_isNoPair_5 (by decide) ?_
    refine j_callV (q := (RX11, TX11, 8)) dX11_isNoPair_6 kX11_start lX11_76 inX11_start seX11_start h.m rfl (cm_start0 hl w _ _ h) (Nat.le_of_ble_eq_true rfl) ⟨(Nat.le_of_ble_eq_true rfl), (Nat.le_of_ble_eq_true rfl)⟩ rfl (Nat.le_of_ble_eq_true rfl) rfl rfl (fun _ _ h => h.elim) ?_
    rintro _ w2 ⟨rfl, fm2, h2⟩
    refine j_if_ne (tgt := 39) dX11_isNoPair_9 (by decide) (fun c_9_20 => ?_) (fun c_9_20 => ?_)
    · exact absurd c_9_20 (by decide)
    · refine j_aload_n dX11_isNoPair_12 rfl rfl ?_
      refine j_iload_n dX11_isNoPair_13 rfl ?_
      refine j_callS dX11_isNoPair_14 kX11_isNoKey lX11_139 stX11_isNoKey (cm_isNoKey hl w2 _) (Nat.le_of_ble_eq_true rfl) ⟨(Nat.le_of_ble_eq_true rfl), (Nat.le_of_ble_eq_true rfl)⟩ rfl (Nat.le_of_ble_eq_true rfl) rfl rfl (fun _ _ h => h.elim) ?_
      rintro _ _ ⟨⟨rfl, hno386⟩ | ⟨rfl, i386, hi386, rfl⟩, hw386⟩
      · refine j_w w2 hw386 ?_
        refine j_if_ne (tgt := 27) dX11_isNoPair_17 (by decide) (fun c_17_27 => ?_) (fun c_17_27 => ?_)
        · refine j_iconst (v := 1) dX11_isNoPair_27 (by decide) ?_
          refine j_goto (tgt := 32) dX11_isNoPair_28 (by decide) ?_
          refine j_iconst (v := 2) dX11_isNoPair_32 (by decide) ?_
          refine j_callV (q := (RX11, TX11, 8)) dX11_isNoPair_33 kX11_refuse lX11_52 inX11_refuse seX11_refuse h2.m rfl (cm_refuse1 hl w2 _ _ h2 rfl (by decide)) (Nat.le_of_ble_eq_true rfl) ⟨(Nat.le_of_ble_eq_true rfl), (Nat.le_of_ble_eq_true rfl)⟩ rfl (Nat.le_of_ble_eq_true rfl) rfl rfl (fun _ _ h => h.elim) ?_
          rintro _ w3 ⟨rfl, fm3, h3⟩
          refine j_if_eq (tgt := 43) dX11_isNoPair_36 (by decide) (fun c_36_33 => ?_) (fun c_36_33 => ?_)
          · exact absurd c_36_33 (by decide)
          · refine j_iconst (v := 1) dX11_isNoPair_39 (by decide) ?_
            refine j_goto (tgt := 44) dX11_isNoPair_40 (by decide) ?_
            refine j_iret dX11_isNoPair_44 rfl rfl ?_ (Nat.le_of_ble_eq_true rfl) (Nat.le_of_ble_eq_true rfl)
            exact Or.inr ⟨_, rfl, ((fm2.le (q' := 56) (by decide)).tr (fm3.le (q' := 56) (by decide))), h3⟩
        · exact absurd c_17_27 (by decide)
      · refine j_w w2 hw386 ?_
        refine j_if_ne (tgt := 27) dX11_isNoPair_17 (by decide) (fun c_17_41 => ?_) (fun c_17_41 => ?_)
        · exact absurd c_17_41 (by decide)
        · refine j_iload_n dX11_isNoPair_20 rfl ?_
          refine j_callS dX11_isNoPair_21 kX11_isNoValue lX11_79 stX11_isNoValue (cm_isNoValue hl w2 _) (Nat.le_of_ble_eq_true rfl) ⟨(Nat.le_of_ble_eq_true rfl), (Nat.le_of_ble_eq_true rfl)⟩ rfl (Nat.le_of_ble_eq_true rfl) rfl rfl (fun _ _ h => h.elim) ?_
          rintro _ _ ⟨⟨rfl, hno387⟩ | ⟨rfl, hye387⟩, hw387⟩
          · refine j_w w2 hw387 ?_
            refine j_if_eq (tgt := 31) dX11_isNoPair_24 (by decide) (fun c_24_47 => ?_) (fun c_24_47 => ?_)
            · exact absurd c_24_47 (by decide)
            · refine j_iconst (v := 1) dX11_isNoPair_27 (by decide) ?_
              refine j_goto (tgt := 32) dX11_isNoPair_28 (by decide) ?_
              refine j_iconst (v := 2) dX11_isNoPair_32 (by decide) ?_
              refine j_callV (q := (RX11, TX11, 8)) dX11_isNoPair_33 kX11_refuse lX11_52 inX11_refuse seX11_refuse h2.m rfl (cm_refuse1 hl w2 _ _ h2 rfl (by decide)) (Nat.le_of_ble_eq_true rfl) ⟨(Nat.le_of_ble_eq_true rfl), (Nat.le_of_ble_eq_true rfl)⟩ rfl (Nat.le_of_ble_eq_true rfl) rfl rfl (fun _ _ h => h.elim) ?_
              rintro _ w4 ⟨rfl, fm4, h4⟩
              refine j_if_eq (tgt := 43) dX11_isNoPair_36 (by decide) (fun c_36_54 => ?_) (fun c_36_54 => ?_)
              · exact absurd c_36_54 (by decide)
              · refine j_iconst (v := 1) dX11_isNoPair_39 (by decide) ?_
                refine j_goto (tgt := 44) dX11_isNoPair_40 (by decide) ?_
                refine j_iret dX11_isNoPair_44 rfl rfl ?_ (Nat.le_of_ble_eq_true rfl) (Nat.le_of_ble_eq_true rfl)
                exact Or.inr ⟨_, rfl, ((fm2.le (q' := 56) (by decide)).tr (fm4.le (q' := 56) (by decide))), h4⟩
          · refine j_w w2 hw387 ?_
            refine j_if_eq (tgt := 31) dX11_isNoPair_24 (by decide) (fun c_24_61 => ?_) (fun c_24_61 => ?_)
            · refine j_iconst (v := 0) dX11_isNoPair_31 (by decide) ?_
              refine j_iconst (v := 2) dX11_isNoPair_32 (by decide) ?_
              refine j_callV (q := (RX11, TX11, 8)) dX11_isNoPair_33 kX11_refuse lX11_52 inX11_refuse seX11_refuse h2.m rfl (cm_refuse0 hl w2 _ _ h2 rfl) (Nat.le_of_ble_eq_true rfl) ⟨(Nat.le_of_ble_eq_true rfl), (Nat.le_of_ble_eq_true rfl)⟩ rfl (Nat.le_of_ble_eq_true rfl) rfl rfl (fun _ _ h => h.elim) ?_
              rintro _ _ ⟨rfl, hw388⟩
              refine j_w w2 hw388 ?_
              refine j_if_eq (tgt := 43) dX11_isNoPair_36 (by decide) (fun c_36_67 => ?_) (fun c_36_67 => ?_)
              · refine j_iconst (v := 0) dX11_isNoPair_43 (by decide) ?_
                refine j_iret dX11_isNoPair_44 rfl rfl ?_ (Nat.le_of_ble_eq_true rfl) (Nat.le_of_ble_eq_true rfl)
                exact Or.inl ⟨_, _, rfl, (show i385 < 3 by omega), (show i386 < 20 by omega), rfl, rfl, (fm2.le (q' := 56) (by decide)), h2⟩
              · exact absurd c_36_67 (by decide)
            · exact absurd c_24_61 (by decide)
set_option maxRecDepth 100000 in
set_option maxHeartbeats 8000000 in
theorem cm_isNoRule (hl : l.stackTraces = false) (w : z_W) (s : z_Z) (x y z u : Int32) (h : z_mst w s)  : z_Con G l mX11_isNoRule 18 0 0 w [.ref 1000, .int x, .int y, .int z, .int u] (fun v w9 => (∃ i k, v = some (.int 0) ∧ i < 3 ∧ k < 20 ∧ x = nI i ∧ y = nI k ∧ z_fm 56 w w9 ∧ z_mst w9 (z_tm s (0, s.1.2.1, s.1.2.2))) ∨ (∃ th : Int32, v = some (.int 1) ∧ z_fm 56 w w9 ∧ z_mst w9 (z_tm s (th, s.1.2.1, s.1.2.2)))) (fun _ _ => False) := by
  refine z_body hl (by decide) rfl (Nat.le_of_ble_eq_true rfl) ?_
  show z_J G l mX11_isNoRule _ 0 [(0, _), (1, _), (2, _), (3, _), (4, _)] [] _ 0 0
  refine j_aload_n dX11_isNoRule_0 rfl rfl ?_
  refine j_iload_n dX11_isNoRule_1 rfl ?_
  refine j_iload_n dX11_isNoRule_2 rfl ?_
  refine j_iload dX11_isNoRule_3 rfl ?_
  refine j_callV (q := (RX11, TX11, 8)) dX11_isNoRule_5 kX11_isNoPair lX11_142 inX11_isNoPair seX11_isNoPair h.m rfl (cm_isNoPair hl w _ _ _ _ h) (Nat.le_of_ble_eq_true rfl) ⟨(Nat.le_of_ble_eq_true rfl), (Nat.le_of_ble_eq_true rfl)⟩ rfl (Nat.le_of_ble_eq_true rfl) rfl rfl (fun _ _ h => h.elim) ?_
  rintro _ w1 (⟨i1, k1, rfl, hi1, hk1, rfl, rfl, fm1, h1⟩ | ⟨th1, rfl, fm1, h1⟩)
  · refine j_if_ne (tgt := 33) dX11_isNoRule_8 (by decide) (fun c_8_8 => ?_) (fun c_8_8 => ?_)
    · exact absurd c_8_8 (by decide)
    · refine j_aload_n dX11_isNoRule_11 rfl rfl ?_
      refine j_iload_n dX11_isNoRule_12 rfl ?_
      refine j_iconst (v := 0) dX11_isNoRule_13 (by decide) ?_
      refine j_iconst (v := 5) dX11_isNoRule_14 (by decide) ?_
      refine j_callS dX11_isNoRule_15 kX11_isIn lX11_59 stX11_isIn (cm_isIn hl w1 _ _ _) (Nat.le_of_ble_eq_true rfl) ⟨(Nat.le_of_ble_eq_true rfl), (Nat.le_of_ble_eq_true rfl)⟩ rfl (Nat.le_of_ble_eq_true rfl) rfl rfl (fun _ _ h => h.elim) ?_
      rintro _ _ ⟨⟨rfl, hye389⟩ | ⟨rfl, hno389⟩, hw389⟩
      · refine j_w w1 hw389 ?_
        refine j_if_ne (tgt := 25) dX11_isNoRule_18 (by decide) (fun c_18_17 => ?_) (fun c_18_17 => ?_)
        · refine j_iconst (v := 0) dX11_isNoRule_25 (by decide) ?_
          refine j_iconst (v := 2) dX11_isNoRule_26 (by decide) ?_
          refine j_callV (q := (RX11, TX11, 8)) dX11_isNoRule_27 kX11_refuse lX11_52 inX11_refuse seX11_refuse h1.m rfl (cm_refuse0 hl w1 _ _ h1 rfl) (Nat.le_of_ble_eq_true rfl) ⟨(Nat.le_of_ble_eq_true rfl), (Nat.le_of_ble_eq_true rfl)⟩ rfl (Nat.le_of_ble_eq_true rfl) rfl rfl (fun _ _ h => h.elim) ?_
          rintro _ _ ⟨rfl, hw390⟩
          refine j_w w1 hw390 ?_
          refine j_if_eq (tgt := 37) dX11_isNoRule_30 (by decide) (fun c_30_23 => ?_) (fun c_30_23 => ?_)
          · refine j_iconst (v := 0) dX11_isNoRule_37 (by decide) ?_
            refine j_iret dX11_isNoRule_38 rfl rfl ?_ (Nat.le_of_ble_eq_true rfl) (Nat.le_of_ble_eq_true rfl)
            exact Or.inl ⟨_, _, rfl, (show i1 < 3 by omega), (show k1 < 20 by omega), rfl, rfl, (fm1.le (q' := 56) (by decide)), h1⟩
          · exact absurd c_30_23 (by decide)
        · exact absurd c_18_17 (by decide)
      · refine j_w w1 hw389 ?_
        refine j_if_ne (tgt := 25) dX11_isNoRule_18 (by decide) (fun c_18_30 => ?_) (fun c_18_30 => ?_)
        · exact absurd c_18_30 (by decide)
        · refine j_iconst (v := 1) dX11_isNoRule_21 (by decide) ?_
          refine j_goto (tgt := 26) dX11_isNoRule_22 (by decide) ?_
          refine j_iconst (v := 2) dX11_isNoRule_26 (by decide) ?_
          refine j_callV (q := (RX11, TX11, 8)) dX11_isNoRule_27 kX11_refuse lX11_52 inX11_refuse seX11_refuse h1.m rfl (cm_refuse1 hl w1 _ _ h1 rfl (by decide)) (Nat.le_of_ble_eq_true rfl) ⟨(Nat.le_of_ble_eq_true rfl), (Nat.le_of_ble_eq_true rfl)⟩ rfl (Nat.le_of_ble_eq_true rfl) rfl rfl (fun _ _ h => h.elim) ?_
          rintro _ w2 ⟨rfl, fm2, h2⟩
          refine j_if_eq (tgt := 37) dX11_isNoRule_30 (by decide) (fun c_30_37 => ?_) (fun c_30_37 => ?_)
          · exact absurd c_30_37 (by decide)
          · refine j_iconst (v := 1) dX11_isNoRule_33 (by decide) ?_
            refine j_goto (tgt := 38) dX11_isNoRule_34 (by decide) ?_
            refine j_iret dX11_isNoRule_38 rfl rfl ?_ (Nat.le_of_ble_eq_true rfl) (Nat.le_of_ble_eq_true rfl)
            exact Or.inr ⟨_, rfl, ((fm1.le (q' := 56) (by decide)).tr (fm2.le (q' := 56) (by decide))), h2⟩
  · refine j_if_ne (tgt := 33) dX11_isNoRule_8 (by decide) (fun c_8_43 => ?_) (fun c_8_43 => ?_)
    · refine j_iconst (v := 1) dX11_isNoRule_33 (by decide) ?_
      refine j_goto (tgt := 38) dX11_isNoRule_34 (by decide) ?_
      refine j_iret dX11_isNoRule_38 rfl rfl ?_ (Nat.le_of_ble_eq_true rfl) (Nat.le_of_ble_eq_true rfl)
      exact Or.inr ⟨_, rfl, (fm1.le (q' := 56) (by decide)), h1⟩
    · exact absurd c_8_43 (by decide)
end ZMs5
