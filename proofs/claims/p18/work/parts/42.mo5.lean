section ZMs5
variable {G : z_G} {l : Launch}
set_option maxRecDepth 100000 in
set_option maxHeartbeats 8000000 in
theorem cm_place (hl : l.stackTraces = false) (w : z_W) (s : z_Z) (t : Nat) (y : Int32) (h : z_mst w s) (ht : t < 3) : z_Con G l mX11_place 14 0 0 w [.ref 1000, .int (nI t), .int y] (fun v w9 => ((∃ j p, v = some (.int (nI j)) ∧ (z_qp s t).2[j]? = some p ∧ z_qk s p 0 = y) ∨ (v = some (.int (-1)) ∧ ∀ p ∈ (z_qp s t).2, ¬ z_qk s p 0 = y)) ∧ w9 = w) (fun _ _ => False) := by
  refine z_body hl (by decide) rfl (Nat.le_of_ble_eq_true rfl) ?_
  show z_J G l mX11_place _ 0 [(0, _), (1, _), (2, _)] [] _ 0 0
  refine j_iconst (v := 0) dX11_place_0 (by decide) ?_
  refine j_istore_n (lo' := [(3, _), (0, _), (1, _), (2, _)]) dX11_place_1 (by decide) rfl ?_
  have loop2 : ∀ (n9 : Nat) (w1 : z_W) (j : Nat), (j ≤ 20) → (20 < j + n9) → (∀ q, q < j → ∀ p, (z_qp s t).2[q]? = some p → ¬ z_qk s p 0 = y) → (z_mst w1 s) → (w1 = w) → z_J G l mX11_place (14, 0, 0, w, (fun v w9 => ((∃ j p, v = some (.int (nI j)) ∧ (z_qp s t).2[j]? = some p ∧ z_qk s p 0 = y) ∨ (v = some (.int (-1)) ∧ ∀ p ∈ (z_qp s t).2, ¬ z_qk s p 0 = y)) ∧ w9 = w), (fun _ _ => False)) 2 [(0, .ref 1000), (1, .int (nI t)), (2, .int y), (3, .int (nI j))] [] w1 0 0 := by
    intro n9
    induction n9 with
    | zero => intro w1 j hj hf9 hno hm hW; exact absurd hf9 (by omega)
    | succ n9 ih =>
      intro w1 j hj hf9 hno hm hW
      refine j_iload_n dX11_place_2 rfl ?_
      refine j_aload_n dX11_place_3 rfl rfl ?_
      refine j_getf dX11_place_4 fX11_34 hm.m rfl ?_
      refine j_iload_n dX11_place_7 rfl ?_
      obtain ⟨lv361, -, lg361⟩ := z_li.cell hm.tabs
      refine j_callV (q := (RJx4a65c, TJx4a65c, 3)) dX11_place_8 kJx4a65c_get_915e3 lX11_82 inJx4a65c_get_915e3 seJx4a65c_get_915e3 lg361 rfl (cl_get hl w1 47 1007 _ _ (t) _ hm.tabs (z_thr3 (t := t) (by omega))) (Nat.le_of_ble_eq_true rfl) ⟨(Nat.le_of_ble_eq_true rfl), (Nat.le_of_ble_eq_true rfl)⟩ rfl (Nat.le_of_ble_eq_true rfl) rfl rfl (fun _ _ h => h.elim) ?_
      rintro _ _ ⟨rfl, hw362⟩
      refine j_w w1 hw362 ?_
      refine j_castS dX11_place_11 (z_w 1341 ((lwt_6_3 6).trans rfl) (by decide +kernel)) (z_li.is (hm.tb (t := t) (by omega))) ?_
      obtain ⟨lv364, -, lg364⟩ := z_li.cell (hm.tb (t := t) (by omega))
      refine j_callV (q := (RJx4a65c, TJx4a65c, 3)) dX11_place_14 kJx4a65c_size_8abf5 lX11_86 inJx4a65c_size_8abf5 seJx4a65c_size_8abf5 lg364 rfl (cl_sizeR hl w1 _ _ _ _ (hm.tb (t := t) (by omega))) (Nat.le_of_ble_eq_true rfl) ⟨(Nat.le_of_ble_eq_true rfl), (Nat.le_of_ble_eq_true rfl)⟩ rfl (Nat.le_of_ble_eq_true rfl) rfl rfl (fun _ _ h => h.elim) ?_
      rintro _ _ ⟨⟨n365, rfl, hn365⟩, hw365⟩
      refine j_w w1 hw365 ?_
      have hn365 : n365 = (z_qp s (t)).2.length := hn365
      have hz365 : (z_qp s (t)).2.length ≤ 20 := (hm.pr (t := t) (by omega)).len
      refine j_icmp_ge (tgt := 52) dX11_place_17 (by decide) (fun c_17_25 => ?_) (fun c_17_25 => ?_)
      · have hb17 : n365 ≤ j := (nI_leI (a := n365) (b := j) (by omega) (by omega)).mp c_17_25
        refine j_iconst (v := (-1)) dX11_place_52 (by decide) ?_
        refine j_iret dX11_place_53 rfl rfl ?_ (Nat.le_of_ble_eq_true rfl) (Nat.le_of_ble_eq_true rfl)
        exact ⟨Or.inr ⟨rfl, fun p hp => by obtain ⟨q, hq⟩ := List.getElem?_of_mem hp; exact hno q (by have := (List.getElem?_eq_some_iff.mp hq).1; omega) p hq⟩, hW⟩
      · have hb17 : j < n365 := Nat.not_le.mp (fun z => c_17_25 ((nI_leI (a := n365) (b := j) (by omega) (by omega)).mpr z))
        refine j_aload_n dX11_place_20 rfl rfl ?_
        refine j_getf dX11_place_21 fX11_34 hm.m rfl ?_
        refine j_iload_n dX11_place_24 rfl ?_
        obtain ⟨lv367, -, lg367⟩ := z_li.cell hm.tabs
        refine j_callV (q := (RJx4a65c, TJx4a65c, 3)) dX11_place_25 kJx4a65c_get_915e3 lX11_82 inJx4a65c_get_915e3 seJx4a65c_get_915e3 lg367 rfl (cl_get hl w1 47 1007 _ _ (t) _ hm.tabs (z_thr3 (t := t) (by omega))) (Nat.le_of_ble_eq_true rfl) ⟨(Nat.le_of_ble_eq_true rfl), (Nat.le_of_ble_eq_true rfl)⟩ rfl (Nat.le_of_ble_eq_true rfl) rfl rfl (fun _ _ h => h.elim) ?_
        rintro _ _ ⟨rfl, hw368⟩
        refine j_w w1 hw368 ?_
        refine j_castS dX11_place_28 (z_w 1341 ((lwt_6_3 6).trans rfl) (by decide +kernel)) (z_li.is (hm.tb (t := t) (by omega))) ?_
        refine j_iload_n dX11_place_31 rfl ?_
        obtain ⟨p370, hp370, hq370, hk370⟩ := z_rs_ex (P := (z_qp s (t)).2) (k := j) (by omega)
        obtain ⟨lv371, -, lg371⟩ := z_li.cell (hm.tb (t := t) (by omega))
        refine j_callV (q := (RJx4a65c, TJx4a65c, 3)) dX11_place_32 kJx4a65c_get_915e3 lX11_82 inJx4a65c_get_915e3 seJx4a65c_get_915e3 lg371 rfl (cl_get hl w1 _ _ _ _ (j) _ (hm.tb (t := t) (by omega)) hq370) (Nat.le_of_ble_eq_true rfl) ⟨(Nat.le_of_ble_eq_true rfl), (Nat.le_of_ble_eq_true rfl)⟩ rfl (Nat.le_of_ble_eq_true rfl) rfl rfl (fun _ _ h => h.elim) ?_
        rintro _ _ ⟨rfl, hw372⟩
        refine j_w w1 hw372 ?_
        refine j_castS dX11_place_35 (z_w 1663 ((lwt_7_5 28).trans rfl) (by decide +kernel)) (z_isA ((hm.pr (t := t) (by omega)).1 p370 hp370).2) ?_
        refine j_iconst (v := 0) dX11_place_38 (by decide) ?_
        refine j_ld dX11_place_39 ((hm.pr (t := t) (by omega)).1 p370 hp370).2 (vp_in_nI (n := 0) (by decide) (by decide)) ?_
        refine j_iload_n dX11_place_40 rfl ?_
        refine j_icmp_ne (tgt := 46) dX11_place_41 (by decide) (fun c_41_49 => ?_) (fun c_41_49 => ?_)
        · refine j_iinc (lo' := [(3, _), (0, _), (1, _), (2, _)]) dX11_place_46 rfl (z_inc _) (by decide) rfl ?_
          refine j_goto (tgt := 2) dX11_place_49 (by decide) ?_
          exact j_lo2 (ih w1 (j + 1) (by omega) (by omega) (fun q hq p hqp => by rcases Nat.lt_succ_iff_lt_or_eq.mp hq with z | z; exact hno q z p hqp; subst z; rw [hk370] at hqp; cases hqp; exact c_41_49) hm hW) (z_q1 rfl (z_q1 rfl (z_q1 rfl (z_q1 rfl z_q0))))
        · refine j_iload_n dX11_place_44 rfl ?_
          refine j_iret dX11_place_45 rfl rfl ?_ (Nat.le_of_ble_eq_true rfl) (Nat.le_of_ble_eq_true rfl)
          exact ⟨Or.inl ⟨j, _, rfl, hk370, c_41_49⟩, hW⟩
  exact j_lo2 (loop2 21 w 0 (by omega) (by omega) (fun q hq => absurd hq (Nat.not_lt_zero _)) h rfl) (z_q1 rfl (z_q1 rfl (z_q1 rfl (z_q1 rfl z_q0))))
end ZMs5
