section ZMe2
variable {G : z_G} {l : Launch}
set_option maxRecDepth 100000 in
set_option maxHeartbeats 8000000 in
theorem cx_type (hl : l.stackTraces = false) (w : z_W) (S : sp_S) (s : z_Z) (r : Int32) (y : Int32) (h : z_mst w s) (R : sp_MR S s)  : z_Con G l mX11_type 22 2 33 w [.ref 1000, .int r, .int y] (fun v w9 => ∃ (r9 : Int32) (s9 : z_Z), v = some (.int r9) ∧ z_fm 59 w w9 ∧ z_mst w9 s9 ∧ s9.1.1 = sp_k23 r (sp_bv y) ((sp_R S (sp_i r)).length = 12) ∧ sp_MR (if sp_k23 r (sp_bv y) ((sp_R S (sp_i r)).length = 12) = 0 then sp_uR S (sp_i r) ((sp_R S (sp_i r)) ++ [y]) else S) s9 ∧ (sp_k23 r (sp_bv y) ((sp_R S (sp_i r)).length = 12) = 0 → r9 = nI ((sp_R S (sp_i r)) ++ [y]).length)) (fun _ _ => False) := by
  generalize hQ9 : (fun (v : Option Value) (w9 : z_W) => ∃ (r9 : Int32) (s9 : z_Z), v = some (.int r9) ∧ z_fm 59 w w9 ∧ z_mst w9 s9 ∧ s9.1.1 = sp_k23 r (sp_bv y) ((sp_R S (sp_i r)).length = 12) ∧ sp_MR (if sp_k23 r (sp_bv y) ((sp_R S (sp_i r)).length = 12) = 0 then sp_uR S (sp_i r) ((sp_R S (sp_i r)) ++ [y]) else S) s9 ∧ (sp_k23 r (sp_bv y) ((sp_R S (sp_i r)).length = 12) = 0 → r9 = nI ((sp_R S (sp_i r)) ++ [y]).length)) = Q9
  refine z_body hl (by decide) rfl (Nat.le_of_ble_eq_true rfl) ?_
  show z_J G l mX11_type _ 0 [(0, _), (1, _), (2, _)] [] _ 0 0
  refine j_aload_n dX11_type_0 rfl rfl ?_
  refine j_iload_n dX11_type_1 rfl ?_
  refine j_callS dX11_type_2 kX11_isNoTwo lX11_72 stX11_isNoTwo (cm_isNoTwo_r hl w _) (Nat.le_of_ble_eq_true rfl) ⟨(Nat.le_of_ble_eq_true rfl), (Nat.le_of_ble_eq_true rfl)⟩ rfl (Nat.le_of_ble_eq_true rfl) rfl rfl (fun _ _ h => h.elim) ?_
  rintro _ _ ⟨⟨rfl, hno1⟩ | ⟨rfl, i1, hi1, ht1, rfl⟩, hw1⟩
  · refine j_w w hw1 ?_
    refine j_iconst (v := 1) dX11_type_5 (by decide) ?_
    refine j_callV (q := (RX11, TX11, 8)) dX11_type_6 kX11_start lX11_76 inX11_start seX11_start h.m rfl (cm_start1 hl w _ _ h (by decide)) (Nat.le_of_ble_eq_true rfl) ⟨(Nat.le_of_ble_eq_true rfl), (Nat.le_of_ble_eq_true rfl)⟩ rfl (Nat.le_of_ble_eq_true rfl) rfl rfl (fun _ _ h => h.elim) ?_
    rintro _ w1 ⟨rfl, fm1, h1⟩
    have R1 := R.th (k := 1)
    refine j_if_ne (tgt := 56) dX11_type_9 (by decide) (fun c_9_11 => ?_) (fun c_9_11 => ?_)
    · refine j_iconst (v := 0) dX11_type_56 (by decide) ?_
      refine j_iret dX11_type_57 rfl rfl ?_ (Nat.le_of_ble_eq_true rfl) (Nat.le_of_ble_eq_true rfl)
      refine cast (congrFun (congrFun hQ9 _) _) ?_
      refine ⟨_, _, rfl, (fm1.le (q' := 59) (by decide)), h1, sp_X1 (k := 1) ?_ (by decide) rfl R1⟩
      (first | (refine sp_k23_1 ?_ <;> (first | assumption | (refine Or.inl ?_; assumption) | (refine Or.inr ?_; assumption) | (refine Or.inr (Or.inl ?_); assumption) | (refine Or.inr (Or.inr ?_); assumption) | (refine Or.inr (Or.inr (Or.inl ?_)); assumption) | (refine Or.inr (Or.inr (Or.inr ?_)); assumption) | (refine fun z => Or.elim z ?_ ?_ <;> assumption) | (refine fun z => Or.elim z ?_ (fun z => Or.elim z ?_ ?_) <;> assumption) | (refine fun z => Or.elim z ?_ (fun z => Or.elim z ?_ (fun z => Or.elim z ?_ ?_)) <;> assumption) | (refine fun z => Or.elim z (fun z9 => z9 ?_) ?_ <;> (first | assumption | (refine Or.inl ?_; assumption) | (refine Or.inr (Or.inl ?_); assumption) | (refine Or.inr (Or.inr ?_); assumption) | (refine Or.inr (Or.inr (Or.inl ?_)); assumption) | (refine Or.inr (Or.inr (Or.inr ?_)); assumption))) | (refine Or.inl (fun z => Or.elim z ?_ (fun z => Or.elim z ?_ ?_)) <;> assumption) | (refine Or.inl (fun z => Or.elim z ?_ (fun z => Or.elim z ?_ (fun z => Or.elim z ?_ ?_))) <;> assumption))))
    · exact absurd c_9_11 (by decide)
  · refine j_w w hw1 ?_
    have ei1 : sp_i (nI i1) = i1 := sp_in' (by omega)
    refine j_iconst (v := 1) dX11_type_5 (by decide) ?_
    refine j_callV (q := (RX11, TX11, 8)) dX11_type_6 kX11_start lX11_76 inX11_start seX11_start h.m rfl (cm_start0 hl w _ _ h) (Nat.le_of_ble_eq_true rfl) ⟨(Nat.le_of_ble_eq_true rfl), (Nat.le_of_ble_eq_true rfl)⟩ rfl (Nat.le_of_ble_eq_true rfl) rfl rfl (fun _ _ h => h.elim) ?_
    rintro _ w2 ⟨rfl, fm2, h2⟩
    have R2 := R.th (k := 0)
    refine j_if_ne (tgt := 56) dX11_type_9 (by decide) (fun c_9_24 => ?_) (fun c_9_24 => ?_)
    · exact absurd c_9_24 (by decide)
    · refine j_aload_n dX11_type_12 rfl rfl ?_
      refine j_iload_n dX11_type_13 rfl ?_
      refine j_callS dX11_type_14 kX11_isNoValue lX11_79 stX11_isNoValue (cm_isNoValue_r hl w2 _) (Nat.le_of_ble_eq_true rfl) ⟨(Nat.le_of_ble_eq_true rfl), (Nat.le_of_ble_eq_true rfl)⟩ rfl (Nat.le_of_ble_eq_true rfl) rfl rfl (fun _ _ h => h.elim) ?_
      rintro _ _ ⟨⟨rfl, hno2⟩ | ⟨rfl, hye2⟩, hw2⟩
      · refine j_w w2 hw2 ?_
        refine j_iconst (v := 2) dX11_type_17 (by decide) ?_
        refine j_callV (q := (RX11, TX11, 8)) dX11_type_18 kX11_refuse lX11_52 inX11_refuse seX11_refuse h2.m rfl (cm_refuse1 hl w2 _ _ h2 rfl (by decide)) (Nat.le_of_ble_eq_true rfl) ⟨(Nat.le_of_ble_eq_true rfl), (Nat.le_of_ble_eq_true rfl)⟩ rfl (Nat.le_of_ble_eq_true rfl) rfl rfl (fun _ _ h => h.elim) ?_
        rintro _ w3 ⟨rfl, fm3, h3⟩
        have R3 := R2.th (k := 2)
        refine j_if_ne (tgt := 56) dX11_type_21 (by decide) (fun c_21_35 => ?_) (fun c_21_35 => ?_)
        · refine j_iconst (v := 0) dX11_type_56 (by decide) ?_
          refine j_iret dX11_type_57 rfl rfl ?_ (Nat.le_of_ble_eq_true rfl) (Nat.le_of_ble_eq_true rfl)
          refine cast (congrFun (congrFun hQ9 _) _) ?_
          try rw [ei1]
          refine ⟨_, _, rfl, ((fm2.le (q' := 59) (by decide)).tr (fm3.le (q' := 59) (by decide))), h3, sp_X1 (k := 2) ?_ (by decide) rfl R3⟩
          (first | (refine sp_k23_2 ?_ ?_ <;> (first | assumption | (refine Or.inl ?_; assumption) | (refine Or.inr ?_; assumption) | (refine Or.inr (Or.inl ?_); assumption) | (refine Or.inr (Or.inr ?_); assumption) | (refine Or.inr (Or.inr (Or.inl ?_)); assumption) | (refine Or.inr (Or.inr (Or.inr ?_)); assumption) | (refine fun z => Or.elim z ?_ ?_ <;> assumption) | (refine fun z => Or.elim z ?_ (fun z => Or.elim z ?_ ?_) <;> assumption) | (refine fun z => Or.elim z ?_ (fun z => Or.elim z ?_ (fun z => Or.elim z ?_ ?_)) <;> assumption) | (refine fun z => Or.elim z (fun z9 => z9 ?_) ?_ <;> (first | assumption | (refine Or.inl ?_; assumption) | (refine Or.inr (Or.inl ?_); assumption) | (refine Or.inr (Or.inr ?_); assumption) | (refine Or.inr (Or.inr (Or.inl ?_)); assumption) | (refine Or.inr (Or.inr (Or.inr ?_)); assumption))) | (refine Or.inl (fun z => Or.elim z ?_ (fun z => Or.elim z ?_ ?_)) <;> assumption) | (refine Or.inl (fun z => Or.elim z ?_ (fun z => Or.elim z ?_ (fun z => Or.elim z ?_ ?_))) <;> assumption))))
        · exact absurd c_21_35 (by decide)
      · refine j_w w2 hw2 ?_
        refine j_iconst (v := 2) dX11_type_17 (by decide) ?_
        refine j_callV (q := (RX11, TX11, 8)) dX11_type_18 kX11_refuse lX11_52 inX11_refuse seX11_refuse h2.m rfl (cm_refuse0 hl w2 _ _ h2 rfl) (Nat.le_of_ble_eq_true rfl) ⟨(Nat.le_of_ble_eq_true rfl), (Nat.le_of_ble_eq_true rfl)⟩ rfl (Nat.le_of_ble_eq_true rfl) rfl rfl (fun _ _ h => h.elim) ?_
        rintro _ _ ⟨rfl, hw3⟩
        refine j_w w2 hw3 ?_
        refine j_if_ne (tgt := 56) dX11_type_21 (by decide) (fun c_21_48 => ?_) (fun c_21_48 => ?_)
        · exact absurd c_21_48 (by decide)
        · refine j_aload_n dX11_type_24 rfl rfl ?_
          refine j_aload_n dX11_type_25 rfl rfl ?_
          refine j_getf dX11_type_26 fX11_21 h2.m rfl ?_
          refine j_iload_n dX11_type_29 rfl ?_
          obtain ⟨lv5, -, lg5⟩ := z_li.cell h2.rows
          refine j_callV (q := (RJx4a65c, TJx4a65c, 3)) dX11_type_30 kJx4a65c_get_915e3 lX11_82 inJx4a65c_get_915e3 seJx4a65c_get_915e3 lg5 rfl (cl_get hl w2 41 1001 _ _ (i1) _ h2.rows (z_two2 (i := i1) (by omega))) (Nat.le_of_ble_eq_true rfl) ⟨(Nat.le_of_ble_eq_true rfl), (Nat.le_of_ble_eq_true rfl)⟩ rfl (Nat.le_of_ble_eq_true rfl) rfl rfl (fun _ _ h => h.elim) ?_
          rintro _ _ ⟨rfl, hw6⟩
          refine j_w w2 hw6 ?_
          refine j_castS dX11_type_33 (z_w 1341 ((lwg_6 96).trans (by decide +kernel)) (by decide +kernel)) (z_li.is (h2.rw (i := i1) (by omega)).1) ?_
          obtain ⟨lv8, -, lg8⟩ := z_li.cell (h2.rw (i := i1) (by omega)).1
          refine j_callV (q := (RJx4a65c, TJx4a65c, 3)) dX11_type_36 kJx4a65c_size_8abf5 lX11_86 inJx4a65c_size_8abf5 seJx4a65c_size_8abf5 lg8 rfl (cl_sizeW hl w2 (i1) (sp_R S (i1)) h2 R2 (by omega) rfl) (Nat.le_of_ble_eq_true rfl) ⟨(Nat.le_of_ble_eq_true rfl), (Nat.le_of_ble_eq_true rfl)⟩ rfl (Nat.le_of_ble_eq_true rfl) rfl rfl (fun _ _ h => h.elim) ?_
          rintro _ _ ⟨rfl, hw9⟩
          refine j_w w2 hw9 ?_
          have hz9 : (sp_R S (i1)).length ≤ 12 := R2.l12 h2 (i := i1) (by omega) rfl
          refine j_bipush (v := 12) dX11_type_39 (by decide) ?_
          refine j_icmp_ne (tgt := 48) dX11_type_41 (by decide) (fun c_41_65 => ?_) (fun c_41_65 => ?_)
          · have hb41 : ¬ (sp_R S (i1)).length = 12 := fun z => c_41_65 (show nI (sp_R S (i1)).length = nI 12 by rw [z])
            refine j_iconst (v := 0) dX11_type_48 (by decide) ?_
            refine j_iconst (v := 3) dX11_type_49 (by decide) ?_
            refine j_callV (q := (RX11, TX11, 8)) dX11_type_50 kX11_refuse lX11_52 inX11_refuse seX11_refuse h2.m rfl (cm_refuse0 hl w2 _ _ h2 rfl) (Nat.le_of_ble_eq_true rfl) ⟨(Nat.le_of_ble_eq_true rfl), (Nat.le_of_ble_eq_true rfl)⟩ rfl (Nat.le_of_ble_eq_true rfl) rfl rfl (fun _ _ h => h.elim) ?_
            rintro _ _ ⟨rfl, hw10⟩
            refine j_w w2 hw10 ?_
            refine j_if_eq (tgt := 58) dX11_type_53 (by decide) (fun c_53_72 => ?_) (fun c_53_72 => ?_)
            · refine j_aload_n dX11_type_58 rfl rfl ?_
              refine j_getf dX11_type_59 fX11_21 h2.m rfl ?_
              refine j_iload_n dX11_type_62 rfl ?_
              obtain ⟨lv12, -, lg12⟩ := z_li.cell h2.rows
              refine j_callV (q := (RJx4a65c, TJx4a65c, 3)) dX11_type_63 kJx4a65c_get_915e3 lX11_82 inJx4a65c_get_915e3 seJx4a65c_get_915e3 lg12 rfl (cl_get hl w2 41 1001 _ _ (i1) _ h2.rows (z_two2 (i := i1) (by omega))) (Nat.le_of_ble_eq_true rfl) ⟨(Nat.le_of_ble_eq_true rfl), (Nat.le_of_ble_eq_true rfl)⟩ rfl (Nat.le_of_ble_eq_true rfl) rfl rfl (fun _ _ h => h.elim) ?_
              rintro _ _ ⟨rfl, hw13⟩
              refine j_w w2 hw13 ?_
              refine j_castS dX11_type_66 (z_w 1341 ((lwg_6 96).trans (by decide +kernel)) (by decide +kernel)) (z_li.is (h2.rw (i := i1) (by omega)).1) ?_
              refine j_iload_n dX11_type_69 rfl ?_
              refine j_callS dX11_type_70 kJ6_valueOf_2dffe lX11_90 stJ6_valueOf_2dffe (cl_val hl w2 _) (Nat.le_of_ble_eq_true rfl) ⟨(Nat.le_of_ble_eq_true rfl), (Nat.le_of_ble_eq_true rfl)⟩ rfl (Nat.le_of_ble_eq_true rfl) rfl rfl (fun _ _ h => h.elim) ?_
              rintro _ _ ⟨rfl, hw15⟩
              refine j_w w2 hw15 ?_
              obtain ⟨lv16, -, lg16⟩ := z_li.cell (h2.rw (i := i1) (by omega)).1
              refine j_callV (q := (RJx4a65c, TJx4a65c, 3)) dX11_type_73 kJx4a65c_add_9ea2d lX11_44 inJx4a65c_add_9ea2d seJx4a65c_add_9ea2d lg16 rfl (cl_add hl w2 (11 + i1) _ _ _ 11 _ (h2.rw (i := i1) (by omega)).1 (by omega) h2.fn (by rw [z_bx_len, R2.wlB (by omega) rfl]; omega) (by decide) z_bx_el z_elF) (Nat.le_of_ble_eq_true rfl) ⟨(Nat.le_of_ble_eq_true rfl), (Nat.le_of_ble_eq_true rfl)⟩ rfl (Nat.le_of_ble_eq_true rfl) rfl rfl (fun _ _ h => h.elim) ?_
              rintro _ w4 ⟨rfl, fw4, mo4, hr4⟩
              rw [z_bx_app] at hr4
              have fm4 := fw4.fm (q := 56) (by omega)
              have h4 := h2.li11 (i0 := i1) (by omega) fw4 hr4 (by rw [List.length_append, R2.wlB (by omega) rfl]; show _ + 1 ≤ 12; omega)
              have R4 := R2.uw (i := i1) (c := mo4) (R2.wadd (x := y) (by omega) rfl)
              refine j_pop dX11_type_76 rfl ?_
              refine j_aload_n dX11_type_77 rfl rfl ?_
              refine j_getf dX11_type_78 fX11_21 h4.m rfl ?_
              refine j_iload_n dX11_type_81 rfl ?_
              obtain ⟨lv18, -, lg18⟩ := z_li.cell h4.rows
              refine j_callV (q := (RJx4a65c, TJx4a65c, 3)) dX11_type_82 kJx4a65c_get_915e3 lX11_82 inJx4a65c_get_915e3 seJx4a65c_get_915e3 lg18 rfl (cl_get hl w4 41 1001 _ _ (i1) _ h4.rows (z_two2 (i := i1) (by omega))) (Nat.le_of_ble_eq_true rfl) ⟨(Nat.le_of_ble_eq_true rfl), (Nat.le_of_ble_eq_true rfl)⟩ rfl (Nat.le_of_ble_eq_true rfl) rfl rfl (fun _ _ h => h.elim) ?_
              rintro _ _ ⟨rfl, hw19⟩
              refine j_w w4 hw19 ?_
              refine j_castS dX11_type_85 (z_w 1341 ((lwg_6 96).trans (by decide +kernel)) (by decide +kernel)) (z_li.is (h4.rw (i := i1) (by omega)).1) ?_
              obtain ⟨lv21, -, lg21⟩ := z_li.cell (h4.rw (i := i1) (by omega)).1
              refine j_callV (q := (RJx4a65c, TJx4a65c, 3)) dX11_type_88 kJx4a65c_size_8abf5 lX11_86 inJx4a65c_size_8abf5 seJx4a65c_size_8abf5 lg21 rfl (cl_sizeW hl w4 (i1) ((sp_R S (i1) ++ [y])) h4 R4 (by omega) z_fu_self) (Nat.le_of_ble_eq_true rfl) ⟨(Nat.le_of_ble_eq_true rfl), (Nat.le_of_ble_eq_true rfl)⟩ rfl (Nat.le_of_ble_eq_true rfl) rfl rfl (fun _ _ h => h.elim) ?_
              rintro _ _ ⟨rfl, hw22⟩
              refine j_w w4 hw22 ?_
              have hz22 : ((sp_R S (i1) ++ [y])).length ≤ 12 := R4.l12 h4 (i := i1) (by omega) z_fu_self
              refine j_iret dX11_type_91 rfl rfl ?_ (Nat.le_of_ble_eq_true rfl) (Nat.le_of_ble_eq_true rfl)
              refine cast (congrFun (congrFun hQ9 _) _) ?_
              try rw [ei1]
              refine ⟨_, _, rfl, ((fm2.le (q' := 59) (by decide)).tr (fm4.le (q' := 59) (by decide))), h4, sp_X0 ?_ rfl R4 rfl⟩
              (first | (refine sp_k23_0 ?_ ?_ ?_ <;> (first | assumption | (refine Or.inl ?_; assumption) | (refine Or.inr ?_; assumption) | (refine Or.inr (Or.inl ?_); assumption) | (refine Or.inr (Or.inr ?_); assumption) | (refine Or.inr (Or.inr (Or.inl ?_)); assumption) | (refine Or.inr (Or.inr (Or.inr ?_)); assumption) | (refine fun z => Or.elim z ?_ ?_ <;> assumption) | (refine fun z => Or.elim z ?_ (fun z => Or.elim z ?_ ?_) <;> assumption) | (refine fun z => Or.elim z ?_ (fun z => Or.elim z ?_ (fun z => Or.elim z ?_ ?_)) <;> assumption) | (refine fun z => Or.elim z (fun z9 => z9 ?_) ?_ <;> (first | assumption | (refine Or.inl ?_; assumption) | (refine Or.inr (Or.inl ?_); assumption) | (refine Or.inr (Or.inr ?_); assumption) | (refine Or.inr (Or.inr (Or.inl ?_)); assumption) | (refine Or.inr (Or.inr (Or.inr ?_)); assumption))) | (refine Or.inl (fun z => Or.elim z ?_ (fun z => Or.elim z ?_ ?_)) <;> assumption) | (refine Or.inl (fun z => Or.elim z ?_ (fun z => Or.elim z ?_ (fun z => Or.elim z ?_ ?_))) <;> assumption))))
            · exact absurd c_53_72 (by decide)
          · have hb41 : (sp_R S (i1)).length = 12 := nI_inj (a := (sp_R S (i1)).length) (b := 12) c_41_65 (by omega) (by omega)
            refine j_iconst (v := 1) dX11_type_44 (by decide) ?_
            refine j_goto (tgt := 49) dX11_type_45 (by decide) ?_
            refine j_iconst (v := 3) dX11_type_49 (by decide) ?_
            refine j_callV (q := (RX11, TX11, 8)) dX11_type_50 kX11_refuse lX11_52 inX11_refuse seX11_refuse h2.m rfl (cm_refuse1 hl w2 _ _ h2 rfl (by decide)) (Nat.le_of_ble_eq_true rfl) ⟨(Nat.le_of_ble_eq_true rfl), (Nat.le_of_ble_eq_true rfl)⟩ rfl (Nat.le_of_ble_eq_true rfl) rfl rfl (fun _ _ h => h.elim) ?_
            rintro _ w5 ⟨rfl, fm5, h5⟩
            have R5 := R2.th (k := 3)
            refine j_if_eq (tgt := 58) dX11_type_53 (by decide) (fun c_53_119 => ?_) (fun c_53_119 => ?_)
            · exact absurd c_53_119 (by decide)
            · refine j_iconst (v := 0) dX11_type_56 (by decide) ?_
              refine j_iret dX11_type_57 rfl rfl ?_ (Nat.le_of_ble_eq_true rfl) (Nat.le_of_ble_eq_true rfl)
              refine cast (congrFun (congrFun hQ9 _) _) ?_
              try rw [ei1]
              refine ⟨_, _, rfl, ((fm2.le (q' := 59) (by decide)).tr (fm5.le (q' := 59) (by decide))), h5, sp_X1 (k := 3) ?_ (by decide) rfl R5⟩
              (first | (refine sp_k23_3 ?_ ?_ ?_ <;> (first | assumption | (refine Or.inl ?_; assumption) | (refine Or.inr ?_; assumption) | (refine Or.inr (Or.inl ?_); assumption) | (refine Or.inr (Or.inr ?_); assumption) | (refine Or.inr (Or.inr (Or.inl ?_)); assumption) | (refine Or.inr (Or.inr (Or.inr ?_)); assumption) | (refine fun z => Or.elim z ?_ ?_ <;> assumption) | (refine fun z => Or.elim z ?_ (fun z => Or.elim z ?_ ?_) <;> assumption) | (refine fun z => Or.elim z ?_ (fun z => Or.elim z ?_ (fun z => Or.elim z ?_ ?_)) <;> assumption) | (refine fun z => Or.elim z (fun z9 => z9 ?_) ?_ <;> (first | assumption | (refine Or.inl ?_; assumption) | (refine Or.inr (Or.inl ?_); assumption) | (refine Or.inr (Or.inr ?_); assumption) | (refine Or.inr (Or.inr (Or.inl ?_)); assumption) | (refine Or.inr (Or.inr (Or.inr ?_)); assumption))) | (refine Or.inl (fun z => Or.elim z ?_ (fun z => Or.elim z ?_ ?_)) <;> assumption) | (refine Or.inl (fun z => Or.elim z ?_ (fun z => Or.elim z ?_ (fun z => Or.elim z ?_ ?_))) <;> assumption))))
theorem sp_dropR {S : sp_S} {s : z_Z} {i j : Nat} (hj : j + 1 ≤ (sp_R S i).length) (R : sp_MR (sp_uR S i (((sp_R S i).take ((sp_R S i).length - j)).eraseIdx (((sp_R S i).take ((sp_R S i).length - j)).length - 1))) s) : sp_MR (sp_uR S i ((sp_R S i).take ((sp_R S i).length - (j + 1)))) s := by
  have e : (sp_R S i).length - j = ((sp_R S i).length - (j + 1)) + 1 := by omega
  have e2 : ((sp_R S i).take ((sp_R S i).length - j)).length - 1 = (sp_R S i).length - (j + 1) := by rw [List.length_take]; omega
  rw [e2, e, sp_take_er (by omega)] at R
  exact R
set_option maxRecDepth 100000 in
set_option maxHeartbeats 8000000 in
theorem cx_drop (hl : l.stackTraces = false) (w : z_W) (S : sp_S) (s : z_Z) (r : Int32) (m : Int32) (h : z_mst w s) (R : sp_MR S s)  : z_Con G l mX11_drop 22 0 0 w [.ref 1000, .int r, .int m] (fun v w9 => ∃ (r9 : Int32) (s9 : z_Z), v = some (.int r9) ∧ z_fm 59 w w9 ∧ z_mst w9 s9 ∧ s9.1.1 = q_k22 r (m < 1 ∨ nI (sp_R S (sp_i r)).length < m) ∧ sp_MR (if q_k22 r (m < 1 ∨ nI (sp_R S (sp_i r)).length < m) = 0 then sp_uR S (sp_i r) ((sp_R S (sp_i r)).take ((sp_R S (sp_i r)).length - sp_i m)) else S) s9 ∧ (q_k22 r (m < 1 ∨ nI (sp_R S (sp_i r)).length < m) = 0 → r9 = nI ((sp_R S (sp_i r)).take ((sp_R S (sp_i r)).length - sp_i m)).length)) (fun _ _ => False) := by
  generalize hQ9 : (fun (v : Option Value) (w9 : z_W) => ∃ (r9 : Int32) (s9 : z_Z), v = some (.int r9) ∧ z_fm 59 w w9 ∧ z_mst w9 s9 ∧ s9.1.1 = q_k22 r (m < 1 ∨ nI (sp_R S (sp_i r)).length < m) ∧ sp_MR (if q_k22 r (m < 1 ∨ nI (sp_R S (sp_i r)).length < m) = 0 then sp_uR S (sp_i r) ((sp_R S (sp_i r)).take ((sp_R S (sp_i r)).length - sp_i m)) else S) s9 ∧ (q_k22 r (m < 1 ∨ nI (sp_R S (sp_i r)).length < m) = 0 → r9 = nI ((sp_R S (sp_i r)).take ((sp_R S (sp_i r)).length - sp_i m)).length)) = Q9
  refine z_body hl (by decide) rfl (Nat.le_of_ble_eq_true rfl) ?_
  show z_J G l mX11_drop _ 0 [(0, _), (1, _), (2, _)] [] _ 0 0
  refine j_aload_n dX11_drop_0 rfl rfl ?_
  refine j_iload_n dX11_drop_1 rfl ?_
  refine j_callS dX11_drop_2 kX11_isNoTwo lX11_72 stX11_isNoTwo (cm_isNoTwo_r hl w _) (Nat.le_of_ble_eq_true rfl) ⟨(Nat.le_of_ble_eq_true rfl), (Nat.le_of_ble_eq_true rfl)⟩ rfl (Nat.le_of_ble_eq_true rfl) rfl rfl (fun _ _ h => h.elim) ?_
  rintro _ _ ⟨⟨rfl, hno23⟩ | ⟨rfl, i23, hi23, ht23, rfl⟩, hw23⟩
  · refine j_w w hw23 ?_
    refine j_iconst (v := 1) dX11_drop_5 (by decide) ?_
    refine j_callV (q := (RX11, TX11, 8)) dX11_drop_6 kX11_start lX11_76 inX11_start seX11_start h.m rfl (cm_start1 hl w _ _ h (by decide)) (Nat.le_of_ble_eq_true rfl) ⟨(Nat.le_of_ble_eq_true rfl), (Nat.le_of_ble_eq_true rfl)⟩ rfl (Nat.le_of_ble_eq_true rfl) rfl rfl (fun _ _ h => h.elim) ?_
    rintro _ w1 ⟨rfl, fm1, h1⟩
    have R1 := R.th (k := 1)
    refine j_if_ne (tgt := 47) dX11_drop_9 (by decide) (fun c_9_11 => ?_) (fun c_9_11 => ?_)
    · refine j_iconst (v := 0) dX11_drop_47 (by decide) ?_
      refine j_iret dX11_drop_48 rfl rfl ?_ (Nat.le_of_ble_eq_true rfl) (Nat.le_of_ble_eq_true rfl)
      refine cast (congrFun (congrFun hQ9 _) _) ?_
      refine ⟨_, _, rfl, (fm1.le (q' := 59) (by decide)), h1, sp_X1 (k := 1) ?_ (by decide) rfl R1⟩
      (first | (refine sp_k22_1 ?_ <;> (first | assumption | (refine Or.inl ?_; assumption) | (refine Or.inr ?_; assumption) | (refine Or.inr (Or.inl ?_); assumption) | (refine Or.inr (Or.inr ?_); assumption) | (refine Or.inr (Or.inr (Or.inl ?_)); assumption) | (refine Or.inr (Or.inr (Or.inr ?_)); assumption) | (refine fun z => Or.elim z ?_ ?_ <;> assumption) | (refine fun z => Or.elim z ?_ (fun z => Or.elim z ?_ ?_) <;> assumption) | (refine fun z => Or.elim z ?_ (fun z => Or.elim z ?_ (fun z => Or.elim z ?_ ?_)) <;> assumption) | (refine fun z => Or.elim z (fun z9 => z9 ?_) ?_ <;> (first | assumption | (refine Or.inl ?_; assumption) | (refine Or.inr (Or.inl ?_); assumption) | (refine Or.inr (Or.inr ?_); assumption) | (refine Or.inr (Or.inr (Or.inl ?_)); assumption) | (refine Or.inr (Or.inr (Or.inr ?_)); assumption))) | (refine Or.inl (fun z => Or.elim z ?_ (fun z => Or.elim z ?_ ?_)) <;> assumption) | (refine Or.inl (fun z => Or.elim z ?_ (fun z => Or.elim z ?_ (fun z => Or.elim z ?_ ?_))) <;> assumption))))
    · exact absurd c_9_11 (by decide)
  · refine j_w w hw23 ?_
    have ei23 : sp_i (nI i23) = i23 := sp_in' (by omega)
    refine j_iconst (v := 1) dX11_drop_5 (by decide) ?_
    refine j_callV (q := (RX11, TX11, 8)) dX11_drop_6 kX11_start lX11_76 inX11_start seX11_start h.m rfl (cm_start0 hl w _ _ h) (Nat.le_of_ble_eq_true rfl) ⟨(Nat.le_of_ble_eq_true rfl), (Nat.le_of_ble_eq_true rfl)⟩ rfl (Nat.le_of_ble_eq_true rfl) rfl rfl (fun _ _ h => h.elim) ?_
    rintro _ w2 ⟨rfl, fm2, h2⟩
    have R2 := R.th (k := 0)
    refine j_if_ne (tgt := 47) dX11_drop_9 (by decide) (fun c_9_24 => ?_) (fun c_9_24 => ?_)
    · exact absurd c_9_24 (by decide)
    · refine j_aload_n dX11_drop_12 rfl rfl ?_
      refine j_iload_n dX11_drop_13 rfl ?_
      refine j_iconst (v := 1) dX11_drop_14 (by decide) ?_
      refine j_aload_n dX11_drop_15 rfl rfl ?_
      refine j_getf dX11_drop_16 fX11_21 h2.m rfl ?_
      refine j_iload_n dX11_drop_19 rfl ?_
      obtain ⟨lv25, -, lg25⟩ := z_li.cell h2.rows
      refine j_callV (q := (RJx4a65c, TJx4a65c, 3)) dX11_drop_20 kJx4a65c_get_915e3 lX11_82 inJx4a65c_get_915e3 seJx4a65c_get_915e3 lg25 rfl (cl_get hl w2 41 1001 _ _ (i23) _ h2.rows (z_two2 (i := i23) (by omega))) (Nat.le_of_ble_eq_true rfl) ⟨(Nat.le_of_ble_eq_true rfl), (Nat.le_of_ble_eq_true rfl)⟩ rfl (Nat.le_of_ble_eq_true rfl) rfl rfl (fun _ _ h => h.elim) ?_
      rintro _ _ ⟨rfl, hw26⟩
      refine j_w w2 hw26 ?_
      refine j_castS dX11_drop_23 (z_w 1341 ((lwg_6 96).trans (by decide +kernel)) (by decide +kernel)) (z_li.is (h2.rw (i := i23) (by omega)).1) ?_
      obtain ⟨lv28, -, lg28⟩ := z_li.cell (h2.rw (i := i23) (by omega)).1
      refine j_callV (q := (RJx4a65c, TJx4a65c, 3)) dX11_drop_26 kJx4a65c_size_8abf5 lX11_86 inJx4a65c_size_8abf5 seJx4a65c_size_8abf5 lg28 rfl (cl_sizeW hl w2 (i23) (sp_R S (i23)) h2 R2 (by omega) rfl) (Nat.le_of_ble_eq_true rfl) ⟨(Nat.le_of_ble_eq_true rfl), (Nat.le_of_ble_eq_true rfl)⟩ rfl (Nat.le_of_ble_eq_true rfl) rfl rfl (fun _ _ h => h.elim) ?_
      rintro _ _ ⟨rfl, hw29⟩
      refine j_w w2 hw29 ?_
      have hz29 : (sp_R S (i23)).length ≤ 12 := R2.l12 h2 (i := i23) (by omega) rfl
      refine j_callS dX11_drop_29 kX11_isIn lX11_59 stX11_isIn (cm_isIn_r hl w2 _ (1) (nI ((sp_R S (i23)).length))) (Nat.le_of_ble_eq_true rfl) ⟨(Nat.le_of_ble_eq_true rfl), (Nat.le_of_ble_eq_true rfl)⟩ rfl (Nat.le_of_ble_eq_true rfl) rfl rfl (fun _ _ h => h.elim) ?_
      rintro _ _ ⟨⟨rfl, hi30⟩ | ⟨rfl, hno30⟩, hw30⟩
      · refine j_w w2 hw30 ?_
        obtain ⟨i30, hj30, hq30, rfl⟩ := sp_nt1 (m := (sp_R S (i23)).length) rfl (by omega) hi30
        have ei30 : sp_i (nI i30) = i30 := sp_in' (by omega)
        refine j_if_ne (tgt := 39) dX11_drop_32 (by decide) (fun c_32_47 => ?_) (fun c_32_47 => ?_)
        · refine j_iconst (v := 0) dX11_drop_39 (by decide) ?_
          refine j_iconst (v := 2) dX11_drop_40 (by decide) ?_
          refine j_callV (q := (RX11, TX11, 8)) dX11_drop_41 kX11_refuse lX11_52 inX11_refuse seX11_refuse h2.m rfl (cm_refuse0 hl w2 _ _ h2 rfl) (Nat.le_of_ble_eq_true rfl) ⟨(Nat.le_of_ble_eq_true rfl), (Nat.le_of_ble_eq_true rfl)⟩ rfl (Nat.le_of_ble_eq_true rfl) rfl rfl (fun _ _ h => h.elim) ?_
          rintro _ _ ⟨rfl, hw31⟩
          refine j_w w2 hw31 ?_
          refine j_if_eq (tgt := 49) dX11_drop_44 (by decide) (fun c_44_53 => ?_) (fun c_44_53 => ?_)
          · refine j_iconst (v := 0) dX11_drop_49 (by decide) ?_
            refine j_istore_n (lo' := [(3, _), (0, _), (1, _), (2, _)]) dX11_drop_50 (by decide) rfl ?_
            have loop51 : ∀ (n9 : Nat) (w3 : z_W) (s1 : z_Z) (j : Nat), (j ≤ i30) → (i30 < j + n9) → (((sp_R S i23).take ((sp_R S i23).length - j)).length = (sp_R S i23).length - j) → (sp_MR (sp_uR S i23 ((sp_R S i23).take ((sp_R S i23).length - j))) s1) → (s1.1.1 = 0) → (z_mst w3 s1) → (z_fm 59 w w3) → z_J G l mX11_drop (22, 0, 0, w, Q9, (fun _ _ => False)) 51 [(0, .ref 1000), (1, .int (nI i23)), (2, .int (nI i30)), (3, .int (nI j))] [] w3 0 0 := by
              intro n9
              induction n9 with
              | zero => intro w3 s1 j hj hf9 hlt hR hth hm hfm; exact absurd hf9 (by omega)
              | succ n9 ih =>
                intro w3 s1 j hj hf9 hlt hR hth hm hfm
                refine j_iload_n dX11_drop_51 rfl ?_
                refine j_iload_n dX11_drop_52 rfl ?_
                refine j_icmp_ge (tgt := 93) dX11_drop_53 (by decide) (fun c_53_64 => ?_) (fun c_53_64 => ?_)
                · have hb53 : i30 ≤ j := (nI_leI (a := i30) (b := j) (by omega) (by omega)).mp c_53_64
                  refine j_aload_n dX11_drop_93 rfl rfl ?_
                  refine j_getf dX11_drop_94 fX11_21 hm.m rfl ?_
                  refine j_iload_n dX11_drop_97 rfl ?_
                  obtain ⟨lv33, -, lg33⟩ := z_li.cell hm.rows
                  refine j_callV (q := (RJx4a65c, TJx4a65c, 3)) dX11_drop_98 kJx4a65c_get_915e3 lX11_82 inJx4a65c_get_915e3 seJx4a65c_get_915e3 lg33 rfl (cl_get hl w3 41 1001 _ _ (i23) _ hm.rows (z_two2 (i := i23) (by omega))) (Nat.le_of_ble_eq_true rfl) ⟨(Nat.le_of_ble_eq_true rfl), (Nat.le_of_ble_eq_true rfl)⟩ rfl (Nat.le_of_ble_eq_true rfl) rfl rfl (fun _ _ h => h.elim) ?_
                  rintro _ _ ⟨rfl, hw34⟩
                  refine j_w w3 hw34 ?_
                  refine j_castS dX11_drop_101 (z_w 1341 ((lwg_6 96).trans (by decide +kernel)) (by decide +kernel)) (z_li.is (hm.rw (i := i23) (by omega)).1) ?_
                  obtain ⟨lv36, -, lg36⟩ := z_li.cell (hm.rw (i := i23) (by omega)).1
                  refine j_callV (q := (RJx4a65c, TJx4a65c, 3)) dX11_drop_104 kJx4a65c_size_8abf5 lX11_86 inJx4a65c_size_8abf5 seJx4a65c_size_8abf5 lg36 rfl (cl_sizeW hl w3 (i23) (((sp_R S i23).take ((sp_R S i23).length - j))) hm hR (by omega) z_fu_self) (Nat.le_of_ble_eq_true rfl) ⟨(Nat.le_of_ble_eq_true rfl), (Nat.le_of_ble_eq_true rfl)⟩ rfl (Nat.le_of_ble_eq_true rfl) rfl rfl (fun _ _ h => h.elim) ?_
                  rintro _ _ ⟨rfl, hw37⟩
                  refine j_w w3 hw37 ?_
                  have hz37 : (((sp_R S i23).take ((sp_R S i23).length - j))).length ≤ 12 := hR.l12 hm (i := i23) (by omega) z_fu_self
                  refine j_iret dX11_drop_107 rfl rfl ?_ (Nat.le_of_ble_eq_true rfl) (Nat.le_of_ble_eq_true rfl)
                  refine cast (congrFun (congrFun hQ9 _) _) ?_
                  try rw [ei23]
                  try rw [ei30]
                  obtain rfl : j = i30 := by omega
                  refine ⟨_, _, rfl, hfm, hm, sp_X0 ?_ hth hR rfl⟩
                  (first | (refine sp_k22_0 ?_ ?_ <;> (first | assumption | (refine Or.inl ?_; assumption) | (refine Or.inr ?_; assumption) | (refine Or.inr (Or.inl ?_); assumption) | (refine Or.inr (Or.inr ?_); assumption) | (refine Or.inr (Or.inr (Or.inl ?_)); assumption) | (refine Or.inr (Or.inr (Or.inr ?_)); assumption) | (refine fun z => Or.elim z ?_ ?_ <;> assumption) | (refine fun z => Or.elim z ?_ (fun z => Or.elim z ?_ ?_) <;> assumption) | (refine fun z => Or.elim z ?_ (fun z => Or.elim z ?_ (fun z => Or.elim z ?_ ?_)) <;> assumption) | (refine fun z => Or.elim z (fun z9 => z9 ?_) ?_ <;> (first | assumption | (refine Or.inl ?_; assumption) | (refine Or.inr (Or.inl ?_); assumption) | (refine Or.inr (Or.inr ?_); assumption) | (refine Or.inr (Or.inr (Or.inl ?_)); assumption) | (refine Or.inr (Or.inr (Or.inr ?_)); assumption))) | (refine Or.inl (fun z => Or.elim z ?_ (fun z => Or.elim z ?_ ?_)) <;> assumption) | (refine Or.inl (fun z => Or.elim z ?_ (fun z => Or.elim z ?_ (fun z => Or.elim z ?_ ?_))) <;> assumption))))
                · have hb53 : j < i30 := Nat.not_le.mp (fun z => c_53_64 ((nI_leI (a := i30) (b := j) (by omega) (by omega)).mpr z))
                  refine j_aload_n dX11_drop_56 rfl rfl ?_
                  refine j_getf dX11_drop_57 fX11_21 hm.m rfl ?_
                  refine j_iload_n dX11_drop_60 rfl ?_
                  obtain ⟨lv39, -, lg39⟩ := z_li.cell hm.rows
                  refine j_callV (q := (RJx4a65c, TJx4a65c, 3)) dX11_drop_61 kJx4a65c_get_915e3 lX11_82 inJx4a65c_get_915e3 seJx4a65c_get_915e3 lg39 rfl (cl_get hl w3 41 1001 _ _ (i23) _ hm.rows (z_two2 (i := i23) (by omega))) (Nat.le_of_ble_eq_true rfl) ⟨(Nat.le_of_ble_eq_true rfl), (Nat.le_of_ble_eq_true rfl)⟩ rfl (Nat.le_of_ble_eq_true rfl) rfl rfl (fun _ _ h => h.elim) ?_
                  rintro _ _ ⟨rfl, hw40⟩
                  refine j_w w3 hw40 ?_
                  refine j_castS dX11_drop_64 (z_w 1341 ((lwg_6 96).trans (by decide +kernel)) (by decide +kernel)) (z_li.is (hm.rw (i := i23) (by omega)).1) ?_
                  refine j_aload_n dX11_drop_67 rfl rfl ?_
                  refine j_getf dX11_drop_68 fX11_21 hm.m rfl ?_
                  refine j_iload_n dX11_drop_71 rfl ?_
                  obtain ⟨lv43, -, lg43⟩ := z_li.cell hm.rows
                  refine j_callV (q := (RJx4a65c, TJx4a65c, 3)) dX11_drop_72 kJx4a65c_get_915e3 lX11_82 inJx4a65c_get_915e3 seJx4a65c_get_915e3 lg43 rfl (cl_get hl w3 41 1001 _ _ (i23) _ hm.rows (z_two2 (i := i23) (by omega))) (Nat.le_of_ble_eq_true rfl) ⟨(Nat.le_of_ble_eq_true rfl), (Nat.le_of_ble_eq_true rfl)⟩ rfl (Nat.le_of_ble_eq_true rfl) rfl rfl (fun _ _ h => h.elim) ?_
                  rintro _ _ ⟨rfl, hw44⟩
                  refine j_w w3 hw44 ?_
                  refine j_castS dX11_drop_75 (z_w 1341 ((lwg_6 96).trans (by decide +kernel)) (by decide +kernel)) (z_li.is (hm.rw (i := i23) (by omega)).1) ?_
                  obtain ⟨lv46, -, lg46⟩ := z_li.cell (hm.rw (i := i23) (by omega)).1
                  refine j_callV (q := (RJx4a65c, TJx4a65c, 3)) dX11_drop_78 kJx4a65c_size_8abf5 lX11_86 inJx4a65c_size_8abf5 seJx4a65c_size_8abf5 lg46 rfl (cl_sizeW hl w3 (i23) (((sp_R S i23).take ((sp_R S i23).length - j))) hm hR (by omega) z_fu_self) (Nat.le_of_ble_eq_true rfl) ⟨(Nat.le_of_ble_eq_true rfl), (Nat.le_of_ble_eq_true rfl)⟩ rfl (Nat.le_of_ble_eq_true rfl) rfl rfl (fun _ _ h => h.elim) ?_
                  rintro _ _ ⟨rfl, hw47⟩
                  refine j_w w3 hw47 ?_
                  have hz47 : (((sp_R S i23).take ((sp_R S i23).length - j))).length ≤ 12 := hR.l12 hm (i := i23) (by omega) z_fu_self
                  refine j_iconst (v := 1) dX11_drop_81 (by decide) ?_
                  refine j_isub dX11_drop_82 ?_
                  refine j_top (congrArg Value.int (pk_sub (a := (((sp_R S i23).take ((sp_R S i23).length - j))).length) (b := 1) (by omega))) ?_
                  obtain ⟨lv48, -, lg48⟩ := z_li.cell (hm.rw (i := i23) (by omega)).1
                  refine j_callV (q := (RJx4a65c, TJx4a65c, 3)) dX11_drop_83 kJx4a65c_remove_915e3 lX11_96 inJx4a65c_remove_915e3 seJx4a65c_remove_915e3 lg48 rfl (cl_rem hl w3 _ _ _ _ (((((sp_R S i23).take ((sp_R S i23).length - j))).length - 1)) _ (hm.rw (i := i23) (by omega)).1 (z_bx_get (by rw [hR.wlB (by omega) z_fu_self]; omega)) hm.fn z_bx_el) (Nat.le_of_ble_eq_true rfl) ⟨(Nat.le_of_ble_eq_true rfl), (Nat.le_of_ble_eq_true rfl)⟩ rfl (Nat.le_of_ble_eq_true rfl) rfl rfl (fun _ _ h => h.elim) ?_
                  rintro _ w4 ⟨rfl, fw4, mo4, hr4⟩
                  rw [z_bx_rem] at hr4
                  have fm4 := fw4.fm (q := 56) (by omega)
                  have h4 := hm.li11 (i0 := i23) (by omega) fw4 hr4 (Nat.le_trans (List.eraseIdx_sublist ..).length_le (hm.rw (i := i23) (by omega)).2)
                  have R4 := hR.uw (i := i23) (c := mo4) (hR.wrem (k := ((((sp_R S i23).take ((sp_R S i23).length - j))).length - 1)) (by omega) z_fu_self)
                  rw [sp_uRR] at R4
                  refine j_pop dX11_drop_86 rfl ?_
                  refine j_iinc (lo' := [(3, _), (0, _), (1, _), (2, _)]) dX11_drop_87 rfl (z_inc _) (by decide) rfl ?_
                  refine j_goto (tgt := 51) dX11_drop_90 (by decide) ?_
                  exact j_lo2 (ih w4 _ (j + 1) (by omega) (by omega) (by rw [List.length_take]; omega) (sp_dropR (by omega) R4) (by exact hth) h4 (hfm.tr (fm4.le (q' := 59) (by decide)))) (z_q1 rfl (z_q1 rfl (z_q1 rfl (z_q1 rfl z_q0))))
            exact j_lo2 (loop51 (i30 + 1) w2 _ 0 (by omega) (by omega) (by rw [Nat.sub_zero, List.take_length]) (by rw [Nat.sub_zero, List.take_length, sp_uR_id]; exact R2) (by exact rfl) h2 (fm2.le (q' := 59) (by decide))) (z_q1 rfl (z_q1 rfl (z_q1 rfl (z_q1 rfl z_q0))))
          · exact absurd c_44_53 (by decide)
        · exact absurd c_32_47 (by decide)
      · refine j_w w2 hw30 ?_
        refine j_if_ne (tgt := 39) dX11_drop_32 (by decide) (fun c_32_127 => ?_) (fun c_32_127 => ?_)
        · exact absurd c_32_127 (by decide)
        · refine j_iconst (v := 1) dX11_drop_35 (by decide) ?_
          refine j_goto (tgt := 40) dX11_drop_36 (by decide) ?_
          refine j_iconst (v := 2) dX11_drop_40 (by decide) ?_
          refine j_callV (q := (RX11, TX11, 8)) dX11_drop_41 kX11_refuse lX11_52 inX11_refuse seX11_refuse h2.m rfl (cm_refuse1 hl w2 _ _ h2 rfl (by decide)) (Nat.le_of_ble_eq_true rfl) ⟨(Nat.le_of_ble_eq_true rfl), (Nat.le_of_ble_eq_true rfl)⟩ rfl (Nat.le_of_ble_eq_true rfl) rfl rfl (fun _ _ h => h.elim) ?_
          rintro _ w5 ⟨rfl, fm5, h5⟩
          have R5 := R2.th (k := 2)
          refine j_if_eq (tgt := 49) dX11_drop_44 (by decide) (fun c_44_135 => ?_) (fun c_44_135 => ?_)
          · exact absurd c_44_135 (by decide)
          · refine j_iconst (v := 0) dX11_drop_47 (by decide) ?_
            refine j_iret dX11_drop_48 rfl rfl ?_ (Nat.le_of_ble_eq_true rfl) (Nat.le_of_ble_eq_true rfl)
            refine cast (congrFun (congrFun hQ9 _) _) ?_
            try rw [ei23]
            refine ⟨_, _, rfl, ((fm2.le (q' := 59) (by decide)).tr (fm5.le (q' := 59) (by decide))), h5, sp_X1 (k := 2) ?_ (by decide) rfl R5⟩
            (first | (refine sp_k22_2 ?_ ?_ <;> (first | assumption | (refine Or.inl ?_; assumption) | (refine Or.inr ?_; assumption) | (refine Or.inr (Or.inl ?_); assumption) | (refine Or.inr (Or.inr ?_); assumption) | (refine Or.inr (Or.inr (Or.inl ?_)); assumption) | (refine Or.inr (Or.inr (Or.inr ?_)); assumption) | (refine fun z => Or.elim z ?_ ?_ <;> assumption) | (refine fun z => Or.elim z ?_ (fun z => Or.elim z ?_ ?_) <;> assumption) | (refine fun z => Or.elim z ?_ (fun z => Or.elim z ?_ (fun z => Or.elim z ?_ ?_)) <;> assumption) | (refine fun z => Or.elim z (fun z9 => z9 ?_) ?_ <;> (first | assumption | (refine Or.inl ?_; assumption) | (refine Or.inr (Or.inl ?_); assumption) | (refine Or.inr (Or.inr ?_); assumption) | (refine Or.inr (Or.inr (Or.inl ?_)); assumption) | (refine Or.inr (Or.inr (Or.inr ?_)); assumption))) | (refine Or.inl (fun z => Or.elim z ?_ (fun z => Or.elim z ?_ ?_)) <;> assumption) | (refine Or.inl (fun z => Or.elim z ?_ (fun z => Or.elim z ?_ (fun z => Or.elim z ?_ ?_))) <;> assumption))))
set_option maxRecDepth 100000 in
set_option maxHeartbeats 8000000 in
theorem cx_fix (hl : l.stackTraces = false) (w : z_W) (S : sp_S) (s : z_Z) (r : Int32) (b : Bool) (h : z_mst w s) (R : sp_MR S s)  : z_Con G l mX11_fix 20 0 0 w [.ref 1000, .int r, .int (z_bi b)] (fun v w9 => ∃ (r9 : Int32) (s9 : z_Z), v = some (.int r9) ∧ z_fm 59 w w9 ∧ z_mst w9 s9 ∧ s9.1.1 = q_k2 r ∧ sp_MR (if q_k2 r = 0 then sp_uF S (sp_i r) b else S) s9 ∧ (q_k2 r = 0 → r9 = z_bi (sp_F S (sp_i r)))) (fun _ _ => False) := by
  generalize hQ9 : (fun (v : Option Value) (w9 : z_W) => ∃ (r9 : Int32) (s9 : z_Z), v = some (.int r9) ∧ z_fm 59 w w9 ∧ z_mst w9 s9 ∧ s9.1.1 = q_k2 r ∧ sp_MR (if q_k2 r = 0 then sp_uF S (sp_i r) b else S) s9 ∧ (q_k2 r = 0 → r9 = z_bi (sp_F S (sp_i r)))) = Q9
  refine z_body hl (by decide) rfl (Nat.le_of_ble_eq_true rfl) ?_
  show z_J G l mX11_fix _ 0 [(0, _), (1, _), (2, _)] [] _ 0 0
  refine j_aload_n dX11_fix_0 rfl rfl ?_
  refine j_iload_n dX11_fix_1 rfl ?_
  refine j_callS dX11_fix_2 kX11_isNoTwo lX11_72 stX11_isNoTwo (cm_isNoTwo_r hl w _) (Nat.le_of_ble_eq_true rfl) ⟨(Nat.le_of_ble_eq_true rfl), (Nat.le_of_ble_eq_true rfl)⟩ rfl (Nat.le_of_ble_eq_true rfl) rfl rfl (fun _ _ h => h.elim) ?_
  rintro _ _ ⟨⟨rfl, hno49⟩ | ⟨rfl, i49, hi49, ht49, rfl⟩, hw49⟩
  · refine j_w w hw49 ?_
    refine j_iconst (v := 1) dX11_fix_5 (by decide) ?_
    refine j_callV (q := (RX11, TX11, 8)) dX11_fix_6 kX11_start lX11_76 inX11_start seX11_start h.m rfl (cm_start1 hl w _ _ h (by decide)) (Nat.le_of_ble_eq_true rfl) ⟨(Nat.le_of_ble_eq_true rfl), (Nat.le_of_ble_eq_true rfl)⟩ rfl (Nat.le_of_ble_eq_true rfl) rfl rfl (fun _ _ h => h.elim) ?_
    rintro _ w1 ⟨rfl, fm1, h1⟩
    have R1 := R.th (k := 1)
    refine j_if_eq (tgt := 14) dX11_fix_9 (by decide) (fun c_9_11 => ?_) (fun c_9_11 => ?_)
    · exact absurd c_9_11 (by decide)
    · refine j_iconst (v := 0) dX11_fix_12 (by decide) ?_
      refine j_iret dX11_fix_13 rfl rfl ?_ (Nat.le_of_ble_eq_true rfl) (Nat.le_of_ble_eq_true rfl)
      refine cast (congrFun (congrFun hQ9 _) _) ?_
      refine ⟨_, _, rfl, (fm1.le (q' := 59) (by decide)), h1, sp_X1 (k := 1) ?_ (by decide) rfl R1⟩
      (first | (refine sp_k2_1 ?_ <;> (first | assumption | (refine Or.inl ?_; assumption) | (refine Or.inr ?_; assumption) | (refine Or.inr (Or.inl ?_); assumption) | (refine Or.inr (Or.inr ?_); assumption) | (refine Or.inr (Or.inr (Or.inl ?_)); assumption) | (refine Or.inr (Or.inr (Or.inr ?_)); assumption) | (refine fun z => Or.elim z ?_ ?_ <;> assumption) | (refine fun z => Or.elim z ?_ (fun z => Or.elim z ?_ ?_) <;> assumption) | (refine fun z => Or.elim z ?_ (fun z => Or.elim z ?_ (fun z => Or.elim z ?_ ?_)) <;> assumption) | (refine fun z => Or.elim z (fun z9 => z9 ?_) ?_ <;> (first | assumption | (refine Or.inl ?_; assumption) | (refine Or.inr (Or.inl ?_); assumption) | (refine Or.inr (Or.inr ?_); assumption) | (refine Or.inr (Or.inr (Or.inl ?_)); assumption) | (refine Or.inr (Or.inr (Or.inr ?_)); assumption))) | (refine Or.inl (fun z => Or.elim z ?_ (fun z => Or.elim z ?_ ?_)) <;> assumption) | (refine Or.inl (fun z => Or.elim z ?_ (fun z => Or.elim z ?_ (fun z => Or.elim z ?_ ?_))) <;> assumption))))
  · refine j_w w hw49 ?_
    have ei49 : sp_i (nI i49) = i49 := sp_in' (by omega)
    refine j_iconst (v := 1) dX11_fix_5 (by decide) ?_
    refine j_callV (q := (RX11, TX11, 8)) dX11_fix_6 kX11_start lX11_76 inX11_start seX11_start h.m rfl (cm_start0 hl w _ _ h) (Nat.le_of_ble_eq_true rfl) ⟨(Nat.le_of_ble_eq_true rfl), (Nat.le_of_ble_eq_true rfl)⟩ rfl (Nat.le_of_ble_eq_true rfl) rfl rfl (fun _ _ h => h.elim) ?_
    rintro _ w2 ⟨rfl, fm2, h2⟩
    have R2 := R.th (k := 0)
    refine j_if_eq (tgt := 14) dX11_fix_9 (by decide) (fun c_9_24 => ?_) (fun c_9_24 => ?_)
    · refine j_aload_n dX11_fix_14 rfl rfl ?_
      refine j_getf dX11_fix_15 fX11_25 h2.m rfl ?_
      refine j_iload_n dX11_fix_18 rfl ?_
      refine j_zald dX11_fix_19 h2.fx (vp_in_nI (by omega) (by omega)) rfl ?_
      refine j_top (congrArg Value.int (show _ = z_bi (sp_F S i49) from by rw [z_cla (by omega)]; exact R2.f (by omega))) ?_
      refine j_callS dX11_fix_20 kX11_one lX11_68 stX11_one (cm_one_r hl w2 (sp_F S i49)) (Nat.le_of_ble_eq_true rfl) ⟨(Nat.le_of_ble_eq_true rfl), (Nat.le_of_ble_eq_true rfl)⟩ rfl (Nat.le_of_ble_eq_true rfl) rfl rfl (fun _ _ h => h.elim) ?_
      rintro _ _ ⟨rfl, hw50⟩
      refine j_w w2 hw50 ?_
      refine j_istore_n (lo' := [(3, _), (0, _), (1, _), (2, _)]) dX11_fix_23 (by decide) rfl ?_
      refine j_aload_n dX11_fix_24 rfl rfl ?_
      refine j_getf dX11_fix_25 fX11_25 h2.m rfl ?_
      refine j_iload_n dX11_fix_28 rfl ?_
      refine j_iload_n dX11_fix_29 rfl ?_
      refine j_zsto (w' := _) dX11_fix_30 h2.fx (vp_in_nI (by omega) (by omega)) (by cases b <;> rfl) rfl ?_
      refine j_seal (by omega) ?_
      intro w3 u3
      have fw3 := u3.fw (ρ := 42) (by omega) (by omega)
      have h3 := h2.up42 fw3 u3.1
      rw [z_cla (by omega)] at h3
      have R3 := R2.uf (i := i49) (b := b) rfl
      refine j_iload_n dX11_fix_31 rfl ?_
      refine j_iret dX11_fix_32 rfl rfl ?_ (Nat.le_of_ble_eq_true rfl) (Nat.le_of_ble_eq_true rfl)
      refine cast (congrFun (congrFun hQ9 _) _) ?_
      try rw [ei49]
      refine ⟨_, _, rfl, ((fm2.le (q' := 59) (by decide)).tr (fw3.fm (q := 59) (by omega))), h3, sp_X0 ?_ rfl R3 rfl⟩
      (first | (refine sp_k2_0 ?_ <;> (first | assumption | (refine Or.inl ?_; assumption) | (refine Or.inr ?_; assumption) | (refine Or.inr (Or.inl ?_); assumption) | (refine Or.inr (Or.inr ?_); assumption) | (refine Or.inr (Or.inr (Or.inl ?_)); assumption) | (refine Or.inr (Or.inr (Or.inr ?_)); assumption) | (refine fun z => Or.elim z ?_ ?_ <;> assumption) | (refine fun z => Or.elim z ?_ (fun z => Or.elim z ?_ ?_) <;> assumption) | (refine fun z => Or.elim z ?_ (fun z => Or.elim z ?_ (fun z => Or.elim z ?_ ?_)) <;> assumption) | (refine fun z => Or.elim z (fun z9 => z9 ?_) ?_ <;> (first | assumption | (refine Or.inl ?_; assumption) | (refine Or.inr (Or.inl ?_); assumption) | (refine Or.inr (Or.inr ?_); assumption) | (refine Or.inr (Or.inr (Or.inl ?_)); assumption) | (refine Or.inr (Or.inr (Or.inr ?_)); assumption))) | (refine Or.inl (fun z => Or.elim z ?_ (fun z => Or.elim z ?_ ?_)) <;> assumption) | (refine Or.inl (fun z => Or.elim z ?_ (fun z => Or.elim z ?_ (fun z => Or.elim z ?_ ?_))) <;> assumption))))
    · exact absurd c_9_24 (by decide)
set_option maxRecDepth 100000 in
set_option maxHeartbeats 8000000 in
theorem cx_hearRow (hl : l.stackTraces = false) (w : z_W) (S : sp_S) (s : z_Z) (i a0 g : Nat) (h : z_mst w s) (R : sp_MR S s) (hi : i < 2) (hg : g < 2) (ha : a0 ≤ (sp_R S i).length) : z_Con G l mX11_hearRow 20 24 372 w [.ref 1000, .int (nI i), .int (nI a0), .int (nI g)] (fun v w9 => ∃ (s9 : z_Z), v = some (.int (sp_an (sp_hr S i g a0).1)) ∧ z_fm 59 w w9 ∧ z_mst w9 s9 ∧ sp_MR (sp_hrS S i g a0) s9 ∧ s9.1.1 = s.1.1) (fun _ _ => False) := by
  have ha12 := Nat.le_trans ha (R.len12 h hi)
  generalize hQ9 : (fun (v : Option Value) (w9 : z_W) => ∃ (s9 : z_Z), v = some (.int (sp_an (sp_hr S i g a0).1)) ∧ z_fm 59 w w9 ∧ z_mst w9 s9 ∧ sp_MR (sp_hrS S i g a0) s9 ∧ s9.1.1 = s.1.1) = Q9
  refine z_body hl (by decide) rfl (Nat.le_of_ble_eq_true rfl) ?_
  show z_J G l mX11_hearRow _ 0 [(0, _), (1, _), (2, _), (3, _)] [] _ 0 0
  refine j_aload_n dX11_hearRow_0 rfl rfl ?_
  refine j_getf dX11_hearRow_1 fX11_31 h.m rfl ?_
  refine j_iload_n dX11_hearRow_4 rfl ?_
  obtain ⟨fz51, gz51, hz51⟩ := h.co
  refine j_aald (v := .ref (1004 + i)) dX11_hearRow_5 gz51 rfl rfl (vp_in_nI (by omega) (by omega)) (by rw [z_cla (by omega)]; exact hz51 _ (by omega)) ?_
  refine j_iconst (v := 0) dX11_hearRow_6 (by decide) ?_
  refine j_dup2 dX11_hearRow_7 rfl rfl ?_
  refine j_ld dX11_hearRow_8 (h.cn (i := i) (by omega)) (vp_in_nI (n := 0) (by decide) (by decide)) ?_
  refine j_iconst (v := 1) dX11_hearRow_9 (by decide) ?_
  refine j_iadd dX11_hearRow_10 ?_
  refine j_sto (w' := _) dX11_hearRow_11 (h.cn (i := i) (by omega)) (vp_in_nI (n := 0) (by decide) (by decide)) rfl ?_
  refine j_seal (by omega) ?_
  intro w1 u1
  have fw1 := u1.fw (ρ := 44 + i) (by omega) (by omega)
  have h1 := h.up44 (i0 := i) (by omega) fw1 u1.1
  rw [show (0 : Int32).toNatClampNeg = 0 by decide] at h1
  have R1 := R.bp (i := i) (k := 0) (by omega) (by decide)
  refine j_aload_n dX11_hearRow_12 rfl rfl ?_
  refine j_getf dX11_hearRow_13 fX11_31 h1.m rfl ?_
  refine j_iload_n dX11_hearRow_16 rfl ?_
  obtain ⟨fz54, gz54, hz54⟩ := h1.co
  refine j_aald (v := .ref (1004 + i)) dX11_hearRow_17 gz54 rfl rfl (vp_in_nI (by omega) (by omega)) (by rw [z_cla (by omega)]; exact hz54 _ (by omega)) ?_
  refine j_iconst (v := 2) dX11_hearRow_18 (by decide) ?_
  refine j_dup2 dX11_hearRow_19 rfl rfl ?_
  refine j_ld dX11_hearRow_20 (h1.cn (i := i) (by omega)) (vp_in_nI (n := 2) (by decide) (by decide)) ?_
  refine j_iload_n dX11_hearRow_21 rfl ?_
  refine j_iadd dX11_hearRow_22 ?_
  refine j_sto (w' := _) dX11_hearRow_23 (h1.cn (i := i) (by omega)) (vp_in_nI (n := 2) (by decide) (by decide)) rfl ?_
  refine j_seal (by omega) ?_
  intro w2 u2
  have fw2 := u2.fw (ρ := 44 + i) (by omega) (by omega)
  have h2 := h1.up44 (i0 := i) (by omega) fw2 u2.1
  rw [show (2 : Int32).toNatClampNeg = 2 by decide] at h2
  have R2 := R1.bpa2 (i := i) (a := a0) (by omega)
  refine j_iconst (v := 0) dX11_hearRow_24 (by decide) ?_
  refine j_istore (lo' := [(4, _), (0, _), (1, _), (2, _), (3, _)]) dX11_hearRow_25 (by decide) rfl ?_
  refine j_iload_n dX11_hearRow_27 rfl ?_
  refine j_istore (lo' := [(5, _), (4, _), (0, _), (1, _), (2, _), (3, _)]) dX11_hearRow_28 (by decide) rfl ?_
  have loop30 : ∀ (n9 : Nat) (w3 : z_W) (s1 : z_Z) (j mm : Nat) (c : Nat → Int32) (hh : sp_H), (a0 + j ≤ 12) → (12 < a0 + j + n9) → (sp_ho c hh mm ((sp_R S i).drop (a0 + j)) = sp_hr S i g a0) → (sp_MR (sp_uE (sp_uC S i c) g hh) s1) → (s1.1.1 = s.1.1) → (z_mst w3 s1) → (z_fm 59 w w3) → z_J G l mX11_hearRow (20, 24, 372, w, Q9, (fun _ _ => False)) 30 [(0, .ref 1000), (1, .int (nI i)), (2, .int (nI a0)), (3, .int (nI g)), (4, .int (nI mm)), (5, .int (nI (a0 + j)))] [] w3 (2 * j) (31 * j) := by
    intro n9
    induction n9 with
    | zero => intro w3 s1 j mm c hh hj hf9 he hR hth hm hfm; exact absurd hf9 (by omega)
    | succ n9 ih =>
      intro w3 s1 j mm c hh hj hf9 he hR hth hm hfm
      refine j_iload dX11_hearRow_30 rfl ?_
      refine j_aload_n dX11_hearRow_32 rfl rfl ?_
      refine j_getf dX11_hearRow_33 fX11_21 hm.m rfl ?_
      refine j_iload_n dX11_hearRow_36 rfl ?_
      obtain ⟨lv58, -, lg58⟩ := z_li.cell hm.rows
      refine j_callV (q := (RJx4a65c, TJx4a65c, 3)) dX11_hearRow_37 kJx4a65c_get_915e3 lX11_82 inJx4a65c_get_915e3 seJx4a65c_get_915e3 lg58 rfl (cl_get hl w3 41 1001 _ _ (i) _ hm.rows (z_two2 (i := i) (by omega))) (Nat.le_of_ble_eq_true rfl) ⟨(by show _ ≤ 24; omega), (by show _ ≤ 372; omega)⟩ rfl (Nat.le_of_ble_eq_true rfl) rfl rfl (fun _ _ h => h.elim) ?_
      rintro _ _ ⟨rfl, hw59⟩
      refine j_w w3 hw59 ?_
      refine j_castS dX11_hearRow_40 (z_w 1341 ((lwg_6 96).trans (by decide +kernel)) (by decide +kernel)) (z_li.is (hm.rw (i := i) (by omega)).1) ?_
      obtain ⟨lv61, -, lg61⟩ := z_li.cell (hm.rw (i := i) (by omega)).1
      refine j_callV (q := (RJx4a65c, TJx4a65c, 3)) dX11_hearRow_43 kJx4a65c_size_8abf5 lX11_86 inJx4a65c_size_8abf5 seJx4a65c_size_8abf5 lg61 rfl (cl_sizeW hl w3 (i) (sp_R S (i)) hm hR (by omega) rfl) (Nat.le_of_ble_eq_true rfl) ⟨(by show _ ≤ 24; omega), (by show _ ≤ 372; omega)⟩ rfl (Nat.le_of_ble_eq_true rfl) rfl rfl (fun _ _ h => h.elim) ?_
      rintro _ _ ⟨rfl, hw62⟩
      refine j_w w3 hw62 ?_
      have hz62 : (sp_R S (i)).length ≤ 12 := hR.l12 hm (i := i) (by omega) rfl
      refine j_icmp_ge (tgt := 121) dX11_hearRow_46 (by decide) (fun c_46_60 => ?_) (fun c_46_60 => ?_)
      · have hb46 : (sp_R S (i)).length ≤ (a0 + j) := (nI_leI (a := (sp_R S (i)).length) (b := (a0 + j)) (by omega) (by omega)).mp c_46_60
        refine j_aload_n dX11_hearRow_121 rfl rfl ?_
        refine j_getf dX11_hearRow_122 fX11_31 hm.m rfl ?_
        refine j_iload_n dX11_hearRow_125 rfl ?_
        obtain ⟨fz63, gz63, hz63⟩ := hm.co
        refine j_aald (v := .ref (1004 + i)) dX11_hearRow_126 gz63 rfl rfl (vp_in_nI (by omega) (by omega)) (by rw [z_cla (by omega)]; exact hz63 _ (by omega)) ?_
        refine j_iconst (v := 1) dX11_hearRow_127 (by decide) ?_
        refine j_dup2 dX11_hearRow_128 rfl rfl ?_
        refine j_ld dX11_hearRow_129 (hm.cn (i := i) (by omega)) (vp_in_nI (n := 1) (by decide) (by decide)) ?_
        refine j_iconst (v := 1) dX11_hearRow_130 (by decide) ?_
        refine j_iadd dX11_hearRow_131 ?_
        refine j_sto (w' := _) dX11_hearRow_132 (hm.cn (i := i) (by omega)) (vp_in_nI (n := 1) (by decide) (by decide)) rfl ?_
        refine j_seal (by omega) ?_
        intro w4 u4
        have fw4 := u4.fw (ρ := 44 + i) (by omega) (by omega)
        have h4 := hm.up44 (i0 := i) (by omega) fw4 u4.1
        rw [show (1 : Int32).toNatClampNeg = 1 by decide] at h4
        have R4 := hR.bpH (i := i) (k := 1) (by omega) (by decide)
        refine j_iload dX11_hearRow_133 rfl ?_
        refine j_iret dX11_hearRow_135 rfl rfl ?_ (by show _ ≤ 24; omega) (by show _ ≤ 372; omega)
        refine cast (congrFun (congrFun hQ9 _) _) ?_
        rw [List.drop_eq_nil_of_le (by omega)] at he
        exact ⟨_, by rw [← he]; rfl, (hfm.tr (fw4.fm (q := 59) (by omega))), h4, by unfold sp_hrS; rw [← he]; exact R4, hth⟩
      · have hb46 : (a0 + j) < (sp_R S (i)).length := Nat.not_le.mp (fun z => c_46_60 ((nI_leI (a := (sp_R S (i)).length) (b := (a0 + j)) (by omega) (by omega)).mpr z))
        refine j_aload_n dX11_hearRow_49 rfl rfl ?_
        refine j_getf dX11_hearRow_50 fX11_31 hm.m rfl ?_
        refine j_iload_n dX11_hearRow_53 rfl ?_
        obtain ⟨fz66, gz66, hz66⟩ := hm.co
        refine j_aald (v := .ref (1004 + i)) dX11_hearRow_54 gz66 rfl rfl (vp_in_nI (by omega) (by omega)) (by rw [z_cla (by omega)]; exact hz66 _ (by omega)) ?_
        refine j_iconst (v := 1) dX11_hearRow_55 (by decide) ?_
        refine j_dup2 dX11_hearRow_56 rfl rfl ?_
        refine j_ld dX11_hearRow_57 (hm.cn (i := i) (by omega)) (vp_in_nI (n := 1) (by decide) (by decide)) ?_
        refine j_iconst (v := 1) dX11_hearRow_58 (by decide) ?_
        refine j_iadd dX11_hearRow_59 ?_
        refine j_sto (w' := _) dX11_hearRow_60 (hm.cn (i := i) (by omega)) (vp_in_nI (n := 1) (by decide) (by decide)) rfl ?_
        refine j_seal (by omega) ?_
        intro w5 u5
        have fw5 := u5.fw (ρ := 44 + i) (by omega) (by omega)
        have h5 := hm.up44 (i0 := i) (by omega) fw5 u5.1
        rw [show (1 : Int32).toNatClampNeg = 1 by decide] at h5
        have R5 := hR.bpH (i := i) (k := 1) (by omega) (by decide)
        refine j_aload_n dX11_hearRow_61 rfl rfl ?_
        refine j_getf dX11_hearRow_62 fX11_31 h5.m rfl ?_
        refine j_iload_n dX11_hearRow_65 rfl ?_
        obtain ⟨fz69, gz69, hz69⟩ := h5.co
        refine j_aald (v := .ref (1004 + i)) dX11_hearRow_66 gz69 rfl rfl (vp_in_nI (by omega) (by omega)) (by rw [z_cla (by omega)]; exact hz69 _ (by omega)) ?_
        refine j_iconst (v := 2) dX11_hearRow_67 (by decide) ?_
        refine j_dup2 dX11_hearRow_68 rfl rfl ?_
        refine j_ld dX11_hearRow_69 (h5.cn (i := i) (by omega)) (vp_in_nI (n := 2) (by decide) (by decide)) ?_
        refine j_iconst (v := 1) dX11_hearRow_70 (by decide) ?_
        refine j_iadd dX11_hearRow_71 ?_
        refine j_sto (w' := _) dX11_hearRow_72 (h5.cn (i := i) (by omega)) (vp_in_nI (n := 2) (by decide) (by decide)) rfl ?_
        refine j_seal (by omega) ?_
        intro w6 u6
        have fw6 := u6.fw (ρ := 44 + i) (by omega) (by omega)
        have h6 := h5.up44 (i0 := i) (by omega) fw6 u6.1
        rw [show (2 : Int32).toNatClampNeg = 2 by decide] at h6
        have R6 := R5.bpH (i := i) (k := 2) (by omega) (by decide)
        refine j_aload_n dX11_hearRow_73 rfl rfl ?_
        refine j_getf dX11_hearRow_74 fX11_40 h6.m rfl ?_
        refine j_iload_n dX11_hearRow_77 rfl ?_
        obtain ⟨fz72, gz72, hz72⟩ := h6.hs
        refine j_aald (v := .ref (1009 + g)) dX11_hearRow_78 gz72 rfl rfl (vp_in_nI (by omega) (by omega)) (by rw [z_cla (by omega)]; exact hz72 _ (by omega)) ?_
        refine j_aload_n dX11_hearRow_79 rfl rfl ?_
        refine j_getf dX11_hearRow_80 fX11_21 h6.m rfl ?_
        refine j_iload_n dX11_hearRow_83 rfl ?_
        obtain ⟨lv74, -, lg74⟩ := z_li.cell h6.rows
        refine j_callV (q := (RJx4a65c, TJx4a65c, 3)) dX11_hearRow_84 kJx4a65c_get_915e3 lX11_82 inJx4a65c_get_915e3 seJx4a65c_get_915e3 lg74 rfl (cl_get hl w6 41 1001 _ _ (i) _ h6.rows (z_two2 (i := i) (by omega))) (Nat.le_of_ble_eq_true rfl) ⟨(by show _ ≤ 24; omega), (by show _ ≤ 372; omega)⟩ rfl (Nat.le_of_ble_eq_true rfl) rfl rfl (fun _ _ h => h.elim) ?_
        rintro _ _ ⟨rfl, hw75⟩
        refine j_w w6 hw75 ?_
        refine j_castS dX11_hearRow_87 (z_w 1341 ((lwg_6 96).trans (by decide +kernel)) (by decide +kernel)) (z_li.is (h6.rw (i := i) (by omega)).1) ?_
        refine j_iload dX11_hearRow_90 rfl ?_
        obtain ⟨x77, hx77⟩ : ∃ x, (sp_R S (i))[(a0 + j)]? = some x := ⟨_, List.getElem?_eq_getElem (show (a0 + j) < (sp_R S (i)).length by omega)⟩
        obtain ⟨lv78, -, lg78⟩ := z_li.cell (h6.rw (i := i) (by omega)).1
        refine j_callV (q := (RJx4a65c, TJx4a65c, 3)) dX11_hearRow_92 kJx4a65c_get_915e3 lX11_82 inJx4a65c_get_915e3 seJx4a65c_get_915e3 lg78 rfl (cl_getW hl w6 (i) ((a0 + j)) (sp_R S (i)) x77 h6 R6 (by omega) rfl hx77) (Nat.le_of_ble_eq_true rfl) ⟨(by show _ ≤ 24; omega), (by show _ ≤ 372; omega)⟩ rfl (Nat.le_of_ble_eq_true rfl) rfl rfl (fun _ _ h => h.elim) ?_
        rintro _ _ ⟨rfl, hw79⟩
        refine j_w w6 hw79 ?_
        refine j_castS dX11_hearRow_95 (z_w 1567 ((lwg_7 82).trans (by decide +kernel)) (by decide +kernel)) rfl ?_
        refine j_callVB (v0 := .float _) (C := "java/lang/Integer") dX11_hearRow_98 kJ6_intValue_8abf5 lX11_99 inJ6_intValue_8abf5 seJ6_intValue_8abf5 rfl (c_intv hl w6 x77) (Nat.le_of_ble_eq_true rfl) ⟨(by show _ ≤ 24; omega), (by show _ ≤ 372; omega)⟩ rfl (Nat.le_of_ble_eq_true rfl) rfl rfl (fun _ _ h => h.elim) ?_
        rintro _ _ ⟨rfl, hw81⟩
        refine j_w w6 hw81 ?_
        refine j_callVN (q := (RX10, TX10, 5)) dX11_hearRow_101 kX10_refuses lX11_102 inX10_refuses seX10_refuses (h6.hd (i := g) (by omega)) rfl (cm_refuses_r hl w6 (sp_uC S i (z_bp (z_bp c 1) 2)) hh _ (g) _ h6 R6 (by omega)) (Nat.le_of_ble_eq_true rfl) ⟨(by show _ ≤ 24; omega), (by show _ ≤ 372; omega)⟩ rfl (Nat.le_of_ble_eq_true rfl) rfl rfl (fun _ _ h => h.elim) ?_
        rintro _ w7 (⟨rfl, hin7, hw7⟩ | ⟨rfl, h27, s7, hin7, fm7, h7, R7, ht7, hqp7⟩)
        · refine j_w w6 hw7 ?_
          refine j_if_eq (tgt := 112) dX11_hearRow_104 (by decide) (fun c_104_145 => ?_) (fun c_104_145 => ?_)
          · exact absurd c_104_145 (by decide)
          · refine j_aload_n dX11_hearRow_107 rfl rfl ?_
            refine j_callV (q := (RX11, TX11, 8)) dX11_hearRow_108 kX11_nine lX11_105 inX11_nine seX11_nine h6.m rfl (cm_nine hl w6 _ h6) (Nat.le_of_ble_eq_true rfl) ⟨(by show _ ≤ 24; omega), (by show _ ≤ 372; omega)⟩ rfl (Nat.le_of_ble_eq_true rfl) rfl rfl (fun _ _ h => h.elim) ?_
            rintro _ w8 ⟨rfl, fm8, h8⟩
            have R8 := R6.ni
            refine j_iret dX11_hearRow_111 rfl rfl ?_ (by show _ ≤ 24; omega) (by show _ ≤ 372; omega)
            refine cast (congrFun (congrFun hQ9 _) _) ?_
            rw [sp_drop hx77, sp_hoN hin7] at he
            exact ⟨_, by rw [← he]; rfl, (((hfm.tr (fw5.fm (q := 59) (by omega))).tr (fw6.fm (q := 59) (by omega))).tr (fm8.le (q' := 59) (by decide))), h8, by unfold sp_hrS; rw [← he]; exact R8, hth⟩
        · have th7 := (congrArg Prod.fst ht7).trans hth
          refine j_if_eq (tgt := 112) dX11_hearRow_104 (by decide) (fun c_104_156 => ?_) (fun c_104_156 => ?_)
          · refine j_iinc (lo' := [(4, _), (0, _), (1, _), (2, _), (3, _), (5, _)]) dX11_hearRow_112 rfl (z_inc _) (by decide) rfl ?_
            refine j_iinc (lo' := [(5, _), (4, _), (0, _), (1, _), (2, _), (3, _)]) dX11_hearRow_115 rfl (z_inc _) (by decide) rfl ?_
            refine j_goto (tgt := 30) dX11_hearRow_118 (by decide) ?_
            refine j_widen (kc' := (2 * (j + 1))) (ks' := (31 * (j + 1))) (by omega) (by omega) ?_
            exact j_lo2 (ih w7 _ (j + 1) (mm + 1) _ _ (by omega) (by omega) (by rw [sp_drop hx77, sp_hoS hin7] at he; exact he) R7 (by exact th7) h7 (((hfm.tr (fw5.fm (q := 59) (by omega))).tr (fw6.fm (q := 59) (by omega))).tr (fm7.le (q' := 59) (by decide)))) (z_q1 rfl (z_q1 rfl (z_q1 rfl (z_q1 rfl (z_q1 rfl (z_q1 rfl z_q0))))))
          · exact absurd c_104_156 (by decide)
  refine j_widen (kc' := (2 * 0)) (ks' := (31 * 0)) (by omega) (by omega) ?_
  exact j_lo2 (loop30 13 w2 _ 0 0 _ _ (by omega) (by omega) (by exact rfl) (by rw [show sp_uE (sp_uC S i (sp_bps (z_bp (sp_C S i) 0) 2 a0)) g (sp_E S g) = sp_uC S i (sp_bps (z_bp (sp_C S i) 0) 2 a0) from sp_uE_id]; exact R2) (by exact rfl) h2 ((fw1.fm (q := 59) (by omega)).tr (fw2.fm (q := 59) (by omega)))) (z_q1 rfl (z_q1 rfl (z_q1 rfl (z_q1 rfl (z_q1 rfl (z_q1 rfl z_q0))))))
set_option maxRecDepth 100000 in
set_option maxHeartbeats 8000000 in
theorem cx_hear (hl : l.stackTraces = false) (w : z_W) (S : sp_S) (s : z_Z) (r : Int32) (g : Int32) (h : z_mst w s) (R : sp_MR S s)  : z_Con G l mX11_hear 22 24 372 w [.ref 1000, .int r, .int g] (fun v w9 => ∃ (r9 : Int32) (s9 : z_Z), v = some (.int r9) ∧ z_fm 59 w w9 ∧ z_mst w9 s9 ∧ s9.1.1 = sp_k2b r g ∧ sp_MR (if sp_k2b r g = 0 then sp_hrS S (sp_i r) (sp_i g) 0 else S) s9 ∧ (sp_k2b r g = 0 → r9 = sp_an (sp_hr S (sp_i r) (sp_i g) 0).1)) (fun _ _ => False) := by
  generalize hQ9 : (fun (v : Option Value) (w9 : z_W) => ∃ (r9 : Int32) (s9 : z_Z), v = some (.int r9) ∧ z_fm 59 w w9 ∧ z_mst w9 s9 ∧ s9.1.1 = sp_k2b r g ∧ sp_MR (if sp_k2b r g = 0 then sp_hrS S (sp_i r) (sp_i g) 0 else S) s9 ∧ (sp_k2b r g = 0 → r9 = sp_an (sp_hr S (sp_i r) (sp_i g) 0).1)) = Q9
  refine z_body hl (by decide) rfl (Nat.le_of_ble_eq_true rfl) ?_
  show z_J G l mX11_hear _ 0 [(0, _), (1, _), (2, _)] [] _ 0 0
  refine j_aload_n dX11_hear_0 rfl rfl ?_
  refine j_iload_n dX11_hear_1 rfl ?_
  refine j_callS dX11_hear_2 kX11_isNoTwo lX11_72 stX11_isNoTwo (cm_isNoTwo_r hl w _) (Nat.le_of_ble_eq_true rfl) ⟨(Nat.le_of_ble_eq_true rfl), (Nat.le_of_ble_eq_true rfl)⟩ rfl (Nat.le_of_ble_eq_true rfl) rfl rfl (fun _ _ h => h.elim) ?_
  rintro _ _ ⟨⟨rfl, hno82⟩ | ⟨rfl, i82, hi82, ht82, rfl⟩, hw82⟩
  · refine j_w w hw82 ?_
    refine j_if_ne (tgt := 15) dX11_hear_5 (by decide) (fun c_5_7 => ?_) (fun c_5_7 => ?_)
    · refine j_iconst (v := 1) dX11_hear_15 (by decide) ?_
      refine j_goto (tgt := 20) dX11_hear_16 (by decide) ?_
      refine j_iconst (v := 1) dX11_hear_20 (by decide) ?_
      refine j_callV (q := (RX11, TX11, 8)) dX11_hear_21 kX11_start lX11_76 inX11_start seX11_start h.m rfl (cm_start1 hl w _ _ h (by decide)) (Nat.le_of_ble_eq_true rfl) ⟨(Nat.le_of_ble_eq_true rfl), (Nat.le_of_ble_eq_true rfl)⟩ rfl (Nat.le_of_ble_eq_true rfl) rfl rfl (fun _ _ h => h.elim) ?_
      rintro _ w1 ⟨rfl, fm1, h1⟩
      have R1 := R.th (k := 1)
      refine j_if_eq (tgt := 31) dX11_hear_24 (by decide) (fun c_24_14 => ?_) (fun c_24_14 => ?_)
      · exact absurd c_24_14 (by decide)
      · refine j_iconst (v := 0) dX11_hear_27 (by decide) ?_
        refine j_goto (tgt := 38) dX11_hear_28 (by decide) ?_
        refine j_iret dX11_hear_38 rfl rfl ?_ (Nat.le_of_ble_eq_true rfl) (Nat.le_of_ble_eq_true rfl)
        refine cast (congrFun (congrFun hQ9 _) _) ?_
        refine ⟨_, _, rfl, (fm1.le (q' := 59) (by decide)), h1, sp_X1 (k := 1) ?_ (by decide) rfl R1⟩
        (first | (refine sp_k2b_1 ?_ <;> (first | assumption | (refine Or.inl ?_; assumption) | (refine Or.inr ?_; assumption) | (refine Or.inr (Or.inl ?_); assumption) | (refine Or.inr (Or.inr ?_); assumption) | (refine Or.inr (Or.inr (Or.inl ?_)); assumption) | (refine Or.inr (Or.inr (Or.inr ?_)); assumption) | (refine fun z => Or.elim z ?_ ?_ <;> assumption) | (refine fun z => Or.elim z ?_ (fun z => Or.elim z ?_ ?_) <;> assumption) | (refine fun z => Or.elim z ?_ (fun z => Or.elim z ?_ (fun z => Or.elim z ?_ ?_)) <;> assumption) | (refine fun z => Or.elim z (fun z9 => z9 ?_) ?_ <;> (first | assumption | (refine Or.inl ?_; assumption) | (refine Or.inr (Or.inl ?_); assumption) | (refine Or.inr (Or.inr ?_); assumption) | (refine Or.inr (Or.inr (Or.inl ?_)); assumption) | (refine Or.inr (Or.inr (Or.inr ?_)); assumption))) | (refine Or.inl (fun z => Or.elim z ?_ (fun z => Or.elim z ?_ ?_)) <;> assumption) | (refine Or.inl (fun z => Or.elim z ?_ (fun z => Or.elim z ?_ (fun z => Or.elim z ?_ ?_))) <;> assumption))) | (refine sp_k2b_1' ?_ <;> (first | assumption | (refine Or.inl ?_; assumption) | (refine Or.inr ?_; assumption) | (refine Or.inr (Or.inl ?_); assumption) | (refine Or.inr (Or.inr ?_); assumption) | (refine Or.inr (Or.inr (Or.inl ?_)); assumption) | (refine Or.inr (Or.inr (Or.inr ?_)); assumption) | (refine fun z => Or.elim z ?_ ?_ <;> assumption) | (refine fun z => Or.elim z ?_ (fun z => Or.elim z ?_ ?_) <;> assumption) | (refine fun z => Or.elim z ?_ (fun z => Or.elim z ?_ (fun z => Or.elim z ?_ ?_)) <;> assumption) | (refine fun z => Or.elim z (fun z9 => z9 ?_) ?_ <;> (first | assumption | (refine Or.inl ?_; assumption) | (refine Or.inr (Or.inl ?_); assumption) | (refine Or.inr (Or.inr ?_); assumption) | (refine Or.inr (Or.inr (Or.inl ?_)); assumption) | (refine Or.inr (Or.inr (Or.inr ?_)); assumption))) | (refine Or.inl (fun z => Or.elim z ?_ (fun z => Or.elim z ?_ ?_)) <;> assumption) | (refine Or.inl (fun z => Or.elim z ?_ (fun z => Or.elim z ?_ (fun z => Or.elim z ?_ ?_))) <;> assumption))))
    · exact absurd c_5_7 (by decide)
  · refine j_w w hw82 ?_
    have ei82 : sp_i (nI i82) = i82 := sp_in' (by omega)
    refine j_if_ne (tgt := 15) dX11_hear_5 (by decide) (fun c_5_25 => ?_) (fun c_5_25 => ?_)
    · exact absurd c_5_25 (by decide)
    · refine j_iload_n dX11_hear_8 rfl ?_
      refine j_callS dX11_hear_9 kX11_isNoTwo lX11_72 stX11_isNoTwo (cm_isNoTwo_r hl w _) (Nat.le_of_ble_eq_true rfl) ⟨(Nat.le_of_ble_eq_true rfl), (Nat.le_of_ble_eq_true rfl)⟩ rfl (Nat.le_of_ble_eq_true rfl) rfl rfl (fun _ _ h => h.elim) ?_
      rintro _ _ ⟨⟨rfl, hno83⟩ | ⟨rfl, i83, hi83, ht83, rfl⟩, hw83⟩
      · refine j_w w hw83 ?_
        refine j_if_eq (tgt := 19) dX11_hear_12 (by decide) (fun c_12_31 => ?_) (fun c_12_31 => ?_)
        · exact absurd c_12_31 (by decide)
        · refine j_iconst (v := 1) dX11_hear_15 (by decide) ?_
          refine j_goto (tgt := 20) dX11_hear_16 (by decide) ?_
          refine j_iconst (v := 1) dX11_hear_20 (by decide) ?_
          refine j_callV (q := (RX11, TX11, 8)) dX11_hear_21 kX11_start lX11_76 inX11_start seX11_start h.m rfl (cm_start1 hl w _ _ h (by decide)) (Nat.le_of_ble_eq_true rfl) ⟨(Nat.le_of_ble_eq_true rfl), (Nat.le_of_ble_eq_true rfl)⟩ rfl (Nat.le_of_ble_eq_true rfl) rfl rfl (fun _ _ h => h.elim) ?_
          rintro _ w2 ⟨rfl, fm2, h2⟩
          have R2 := R.th (k := 1)
          refine j_if_eq (tgt := 31) dX11_hear_24 (by decide) (fun c_24_39 => ?_) (fun c_24_39 => ?_)
          · exact absurd c_24_39 (by decide)
          · refine j_iconst (v := 0) dX11_hear_27 (by decide) ?_
            refine j_goto (tgt := 38) dX11_hear_28 (by decide) ?_
            refine j_iret dX11_hear_38 rfl rfl ?_ (Nat.le_of_ble_eq_true rfl) (Nat.le_of_ble_eq_true rfl)
            refine cast (congrFun (congrFun hQ9 _) _) ?_
            try rw [ei82]
            refine ⟨_, _, rfl, (fm2.le (q' := 59) (by decide)), h2, sp_X1 (k := 1) ?_ (by decide) rfl R2⟩
            (first | (refine sp_k2b_1 ?_ <;> (first | assumption | (refine Or.inl ?_; assumption) | (refine Or.inr ?_; assumption) | (refine Or.inr (Or.inl ?_); assumption) | (refine Or.inr (Or.inr ?_); assumption) | (refine Or.inr (Or.inr (Or.inl ?_)); assumption) | (refine Or.inr (Or.inr (Or.inr ?_)); assumption) | (refine fun z => Or.elim z ?_ ?_ <;> assumption) | (refine fun z => Or.elim z ?_ (fun z => Or.elim z ?_ ?_) <;> assumption) | (refine fun z => Or.elim z ?_ (fun z => Or.elim z ?_ (fun z => Or.elim z ?_ ?_)) <;> assumption) | (refine fun z => Or.elim z (fun z9 => z9 ?_) ?_ <;> (first | assumption | (refine Or.inl ?_; assumption) | (refine Or.inr (Or.inl ?_); assumption) | (refine Or.inr (Or.inr ?_); assumption) | (refine Or.inr (Or.inr (Or.inl ?_)); assumption) | (refine Or.inr (Or.inr (Or.inr ?_)); assumption))) | (refine Or.inl (fun z => Or.elim z ?_ (fun z => Or.elim z ?_ ?_)) <;> assumption) | (refine Or.inl (fun z => Or.elim z ?_ (fun z => Or.elim z ?_ (fun z => Or.elim z ?_ ?_))) <;> assumption))) | (refine sp_k2b_1' ?_ <;> (first | assumption | (refine Or.inl ?_; assumption) | (refine Or.inr ?_; assumption) | (refine Or.inr (Or.inl ?_); assumption) | (refine Or.inr (Or.inr ?_); assumption) | (refine Or.inr (Or.inr (Or.inl ?_)); assumption) | (refine Or.inr (Or.inr (Or.inr ?_)); assumption) | (refine fun z => Or.elim z ?_ ?_ <;> assumption) | (refine fun z => Or.elim z ?_ (fun z => Or.elim z ?_ ?_) <;> assumption) | (refine fun z => Or.elim z ?_ (fun z => Or.elim z ?_ (fun z => Or.elim z ?_ ?_)) <;> assumption) | (refine fun z => Or.elim z (fun z9 => z9 ?_) ?_ <;> (first | assumption | (refine Or.inl ?_; assumption) | (refine Or.inr (Or.inl ?_); assumption) | (refine Or.inr (Or.inr ?_); assumption) | (refine Or.inr (Or.inr (Or.inl ?_)); assumption) | (refine Or.inr (Or.inr (Or.inr ?_)); assumption))) | (refine Or.inl (fun z => Or.elim z ?_ (fun z => Or.elim z ?_ ?_)) <;> assumption) | (refine Or.inl (fun z => Or.elim z ?_ (fun z => Or.elim z ?_ (fun z => Or.elim z ?_ ?_))) <;> assumption))))
      · refine j_w w hw83 ?_
        have ei83 : sp_i (nI i83) = i83 := sp_in' (by omega)
        refine j_if_eq (tgt := 19) dX11_hear_12 (by decide) (fun c_12_50 => ?_) (fun c_12_50 => ?_)
        · refine j_iconst (v := 0) dX11_hear_19 (by decide) ?_
          refine j_iconst (v := 1) dX11_hear_20 (by decide) ?_
          refine j_callV (q := (RX11, TX11, 8)) dX11_hear_21 kX11_start lX11_76 inX11_start seX11_start h.m rfl (cm_start0 hl w _ _ h) (Nat.le_of_ble_eq_true rfl) ⟨(Nat.le_of_ble_eq_true rfl), (Nat.le_of_ble_eq_true rfl)⟩ rfl (Nat.le_of_ble_eq_true rfl) rfl rfl (fun _ _ h => h.elim) ?_
          rintro _ w3 ⟨rfl, fm3, h3⟩
          have R3 := R.th (k := 0)
          refine j_if_eq (tgt := 31) dX11_hear_24 (by decide) (fun c_24_56 => ?_) (fun c_24_56 => ?_)
          · refine j_aload_n dX11_hear_31 rfl rfl ?_
            refine j_iload_n dX11_hear_32 rfl ?_
            refine j_iconst (v := 0) dX11_hear_33 (by decide) ?_
            refine j_iload_n dX11_hear_34 rfl ?_
            refine j_callV (q := (RX11, TX11, 8)) dX11_hear_35 kX11_hearRow lX11_108 inX11_hearRow seX11_hearRow h3.m rfl (cx_hearRow hl w3 S _ (i82) (0) (i83) h3 R3 (by omega) (by omega) (Nat.zero_le _)) (Nat.le_of_ble_eq_true rfl) ⟨(Nat.le_of_ble_eq_true rfl), (Nat.le_of_ble_eq_true rfl)⟩ rfl (Nat.le_of_ble_eq_true rfl) rfl rfl (fun _ _ h => h.elim) ?_
            rintro _ w4 ⟨s4, rfl, fm4, h4, R4, th4⟩
            have tx4 := th4.trans rfl
            refine j_iret dX11_hear_38 rfl rfl ?_ (Nat.le_of_ble_eq_true rfl) (Nat.le_of_ble_eq_true rfl)
            refine cast (congrFun (congrFun hQ9 _) _) ?_
            try rw [ei82]
            try rw [ei83]
            refine ⟨_, _, rfl, ((fm3.le (q' := 59) (by decide)).tr (fm4.le (q' := 59) (by decide))), h4, sp_X0 ?_ tx4 R4 rfl⟩
            (first | (refine sp_k2b_0 ?_ ?_ <;> (first | assumption | (refine Or.inl ?_; assumption) | (refine Or.inr ?_; assumption) | (refine Or.inr (Or.inl ?_); assumption) | (refine Or.inr (Or.inr ?_); assumption) | (refine Or.inr (Or.inr (Or.inl ?_)); assumption) | (refine Or.inr (Or.inr (Or.inr ?_)); assumption) | (refine fun z => Or.elim z ?_ ?_ <;> assumption) | (refine fun z => Or.elim z ?_ (fun z => Or.elim z ?_ ?_) <;> assumption) | (refine fun z => Or.elim z ?_ (fun z => Or.elim z ?_ (fun z => Or.elim z ?_ ?_)) <;> assumption) | (refine fun z => Or.elim z (fun z9 => z9 ?_) ?_ <;> (first | assumption | (refine Or.inl ?_; assumption) | (refine Or.inr (Or.inl ?_); assumption) | (refine Or.inr (Or.inr ?_); assumption) | (refine Or.inr (Or.inr (Or.inl ?_)); assumption) | (refine Or.inr (Or.inr (Or.inr ?_)); assumption))) | (refine Or.inl (fun z => Or.elim z ?_ (fun z => Or.elim z ?_ ?_)) <;> assumption) | (refine Or.inl (fun z => Or.elim z ?_ (fun z => Or.elim z ?_ (fun z => Or.elim z ?_ ?_))) <;> assumption))))
          · exact absurd c_24_56 (by decide)
        · exact absurd c_12_50 (by decide)
set_option maxRecDepth 100000 in
set_option maxHeartbeats 8000000 in
theorem cx_rest (hl : l.stackTraces = false) (w : z_W) (S : sp_S) (s : z_Z) (r : Int32) (a : Int32) (g : Int32) (h : z_mst w s) (R : sp_MR S s)  : z_Con G l mX11_rest 22 24 372 w [.ref 1000, .int r, .int a, .int g] (fun v w9 => ∃ (r9 : Int32) (s9 : z_Z), v = some (.int r9) ∧ z_fm 59 w w9 ∧ z_mst w9 s9 ∧ s9.1.1 = sp_k2c r g (a < 0 ∨ nI (sp_R S (sp_i r)).length < a) ∧ sp_MR (if sp_k2c r g (a < 0 ∨ nI (sp_R S (sp_i r)).length < a) = 0 then sp_hrS S (sp_i r) (sp_i g) (sp_i a) else S) s9 ∧ (sp_k2c r g (a < 0 ∨ nI (sp_R S (sp_i r)).length < a) = 0 → r9 = sp_an (sp_hr S (sp_i r) (sp_i g) (sp_i a)).1)) (fun _ _ => False) := by
  generalize hQ9 : (fun (v : Option Value) (w9 : z_W) => ∃ (r9 : Int32) (s9 : z_Z), v = some (.int r9) ∧ z_fm 59 w w9 ∧ z_mst w9 s9 ∧ s9.1.1 = sp_k2c r g (a < 0 ∨ nI (sp_R S (sp_i r)).length < a) ∧ sp_MR (if sp_k2c r g (a < 0 ∨ nI (sp_R S (sp_i r)).length < a) = 0 then sp_hrS S (sp_i r) (sp_i g) (sp_i a) else S) s9 ∧ (sp_k2c r g (a < 0 ∨ nI (sp_R S (sp_i r)).length < a) = 0 → r9 = sp_an (sp_hr S (sp_i r) (sp_i g) (sp_i a)).1)) = Q9
  refine z_body hl (by decide) rfl (Nat.le_of_ble_eq_true rfl) ?_
  show z_J G l mX11_rest _ 0 [(0, _), (1, _), (2, _), (3, _)] [] _ 0 0
  refine j_aload_n dX11_rest_0 rfl rfl ?_
  refine j_iload_n dX11_rest_1 rfl ?_
  refine j_callS dX11_rest_2 kX11_isNoTwo lX11_72 stX11_isNoTwo (cm_isNoTwo_r hl w _) (Nat.le_of_ble_eq_true rfl) ⟨(Nat.le_of_ble_eq_true rfl), (Nat.le_of_ble_eq_true rfl)⟩ rfl (Nat.le_of_ble_eq_true rfl) rfl rfl (fun _ _ h => h.elim) ?_
  rintro _ _ ⟨⟨rfl, hno84⟩ | ⟨rfl, i84, hi84, ht84, rfl⟩, hw84⟩
  · refine j_w w hw84 ?_
    refine j_if_ne (tgt := 15) dX11_rest_5 (by decide) (fun c_5_7 => ?_) (fun c_5_7 => ?_)
    · refine j_iconst (v := 1) dX11_rest_15 (by decide) ?_
      refine j_goto (tgt := 20) dX11_rest_16 (by decide) ?_
      refine j_iconst (v := 1) dX11_rest_20 (by decide) ?_
      refine j_callV (q := (RX11, TX11, 8)) dX11_rest_21 kX11_start lX11_76 inX11_start seX11_start h.m rfl (cm_start1 hl w _ _ h (by decide)) (Nat.le_of_ble_eq_true rfl) ⟨(Nat.le_of_ble_eq_true rfl), (Nat.le_of_ble_eq_true rfl)⟩ rfl (Nat.le_of_ble_eq_true rfl) rfl rfl (fun _ _ h => h.elim) ?_
      rintro _ w1 ⟨rfl, fm1, h1⟩
      have R1 := R.th (k := 1)
      refine j_if_ne (tgt := 62) dX11_rest_24 (by decide) (fun c_24_14 => ?_) (fun c_24_14 => ?_)
      · refine j_iconst (v := 0) dX11_rest_62 (by decide) ?_
        refine j_goto (tgt := 73) dX11_rest_63 (by decide) ?_
        refine j_iret dX11_rest_73 rfl rfl ?_ (Nat.le_of_ble_eq_true rfl) (Nat.le_of_ble_eq_true rfl)
        refine cast (congrFun (congrFun hQ9 _) _) ?_
        refine ⟨_, _, rfl, (fm1.le (q' := 59) (by decide)), h1, sp_X1 (k := 1) ?_ (by decide) rfl R1⟩
        (first | (refine sp_k2c_1 ?_ <;> (first | assumption | (refine Or.inl ?_; assumption) | (refine Or.inr ?_; assumption) | (refine Or.inr (Or.inl ?_); assumption) | (refine Or.inr (Or.inr ?_); assumption) | (refine Or.inr (Or.inr (Or.inl ?_)); assumption) | (refine Or.inr (Or.inr (Or.inr ?_)); assumption) | (refine fun z => Or.elim z ?_ ?_ <;> assumption) | (refine fun z => Or.elim z ?_ (fun z => Or.elim z ?_ ?_) <;> assumption) | (refine fun z => Or.elim z ?_ (fun z => Or.elim z ?_ (fun z => Or.elim z ?_ ?_)) <;> assumption) | (refine fun z => Or.elim z (fun z9 => z9 ?_) ?_ <;> (first | assumption | (refine Or.inl ?_; assumption) | (refine Or.inr (Or.inl ?_); assumption) | (refine Or.inr (Or.inr ?_); assumption) | (refine Or.inr (Or.inr (Or.inl ?_)); assumption) | (refine Or.inr (Or.inr (Or.inr ?_)); assumption))) | (refine Or.inl (fun z => Or.elim z ?_ (fun z => Or.elim z ?_ ?_)) <;> assumption) | (refine Or.inl (fun z => Or.elim z ?_ (fun z => Or.elim z ?_ (fun z => Or.elim z ?_ ?_))) <;> assumption))) | (refine sp_k2c_1' ?_ <;> (first | assumption | (refine Or.inl ?_; assumption) | (refine Or.inr ?_; assumption) | (refine Or.inr (Or.inl ?_); assumption) | (refine Or.inr (Or.inr ?_); assumption) | (refine Or.inr (Or.inr (Or.inl ?_)); assumption) | (refine Or.inr (Or.inr (Or.inr ?_)); assumption) | (refine fun z => Or.elim z ?_ ?_ <;> assumption) | (refine fun z => Or.elim z ?_ (fun z => Or.elim z ?_ ?_) <;> assumption) | (refine fun z => Or.elim z ?_ (fun z => Or.elim z ?_ (fun z => Or.elim z ?_ ?_)) <;> assumption) | (refine fun z => Or.elim z (fun z9 => z9 ?_) ?_ <;> (first | assumption | (refine Or.inl ?_; assumption) | (refine Or.inr (Or.inl ?_); assumption) | (refine Or.inr (Or.inr ?_); assumption) | (refine Or.inr (Or.inr (Or.inl ?_)); assumption) | (refine Or.inr (Or.inr (Or.inr ?_)); assumption))) | (refine Or.inl (fun z => Or.elim z ?_ (fun z => Or.elim z ?_ ?_)) <;> assumption) | (refine Or.inl (fun z => Or.elim z ?_ (fun z => Or.elim z ?_ (fun z => Or.elim z ?_ ?_))) <;> assumption))))
      · exact absurd c_24_14 (by decide)
    · exact absurd c_5_7 (by decide)
  · refine j_w w hw84 ?_
    have ei84 : sp_i (nI i84) = i84 := sp_in' (by omega)
    refine j_if_ne (tgt := 15) dX11_rest_5 (by decide) (fun c_5_25 => ?_) (fun c_5_25 => ?_)
    · exact absurd c_5_25 (by decide)
    · refine j_iload_n dX11_rest_8 rfl ?_
      refine j_callS dX11_rest_9 kX11_isNoTwo lX11_72 stX11_isNoTwo (cm_isNoTwo_r hl w _) (Nat.le_of_ble_eq_true rfl) ⟨(Nat.le_of_ble_eq_true rfl), (Nat.le_of_ble_eq_true rfl)⟩ rfl (Nat.le_of_ble_eq_true rfl) rfl rfl (fun _ _ h => h.elim) ?_
      rintro _ _ ⟨⟨rfl, hno85⟩ | ⟨rfl, i85, hi85, ht85, rfl⟩, hw85⟩
      · refine j_w w hw85 ?_
        refine j_if_eq (tgt := 19) dX11_rest_12 (by decide) (fun c_12_31 => ?_) (fun c_12_31 => ?_)
        · exact absurd c_12_31 (by decide)
        · refine j_iconst (v := 1) dX11_rest_15 (by decide) ?_
          refine j_goto (tgt := 20) dX11_rest_16 (by decide) ?_
          refine j_iconst (v := 1) dX11_rest_20 (by decide) ?_
          refine j_callV (q := (RX11, TX11, 8)) dX11_rest_21 kX11_start lX11_76 inX11_start seX11_start h.m rfl (cm_start1 hl w _ _ h (by decide)) (Nat.le_of_ble_eq_true rfl) ⟨(Nat.le_of_ble_eq_true rfl), (Nat.le_of_ble_eq_true rfl)⟩ rfl (Nat.le_of_ble_eq_true rfl) rfl rfl (fun _ _ h => h.elim) ?_
          rintro _ w2 ⟨rfl, fm2, h2⟩
          have R2 := R.th (k := 1)
          refine j_if_ne (tgt := 62) dX11_rest_24 (by decide) (fun c_24_39 => ?_) (fun c_24_39 => ?_)
          · refine j_iconst (v := 0) dX11_rest_62 (by decide) ?_
            refine j_goto (tgt := 73) dX11_rest_63 (by decide) ?_
            refine j_iret dX11_rest_73 rfl rfl ?_ (Nat.le_of_ble_eq_true rfl) (Nat.le_of_ble_eq_true rfl)
            refine cast (congrFun (congrFun hQ9 _) _) ?_
            try rw [ei84]
            refine ⟨_, _, rfl, (fm2.le (q' := 59) (by decide)), h2, sp_X1 (k := 1) ?_ (by decide) rfl R2⟩
            (first | (refine sp_k2c_1 ?_ <;> (first | assumption | (refine Or.inl ?_; assumption) | (refine Or.inr ?_; assumption) | (refine Or.inr (Or.inl ?_); assumption) | (refine Or.inr (Or.inr ?_); assumption) | (refine Or.inr (Or.inr (Or.inl ?_)); assumption) | (refine Or.inr (Or.inr (Or.inr ?_)); assumption) | (refine fun z => Or.elim z ?_ ?_ <;> assumption) | (refine fun z => Or.elim z ?_ (fun z => Or.elim z ?_ ?_) <;> assumption) | (refine fun z => Or.elim z ?_ (fun z => Or.elim z ?_ (fun z => Or.elim z ?_ ?_)) <;> assumption) | (refine fun z => Or.elim z (fun z9 => z9 ?_) ?_ <;> (first | assumption | (refine Or.inl ?_; assumption) | (refine Or.inr (Or.inl ?_); assumption) | (refine Or.inr (Or.inr ?_); assumption) | (refine Or.inr (Or.inr (Or.inl ?_)); assumption) | (refine Or.inr (Or.inr (Or.inr ?_)); assumption))) | (refine Or.inl (fun z => Or.elim z ?_ (fun z => Or.elim z ?_ ?_)) <;> assumption) | (refine Or.inl (fun z => Or.elim z ?_ (fun z => Or.elim z ?_ (fun z => Or.elim z ?_ ?_))) <;> assumption))) | (refine sp_k2c_1' ?_ <;> (first | assumption | (refine Or.inl ?_; assumption) | (refine Or.inr ?_; assumption) | (refine Or.inr (Or.inl ?_); assumption) | (refine Or.inr (Or.inr ?_); assumption) | (refine Or.inr (Or.inr (Or.inl ?_)); assumption) | (refine Or.inr (Or.inr (Or.inr ?_)); assumption) | (refine fun z => Or.elim z ?_ ?_ <;> assumption) | (refine fun z => Or.elim z ?_ (fun z => Or.elim z ?_ ?_) <;> assumption) | (refine fun z => Or.elim z ?_ (fun z => Or.elim z ?_ (fun z => Or.elim z ?_ ?_)) <;> assumption) | (refine fun z => Or.elim z (fun z9 => z9 ?_) ?_ <;> (first | assumption | (refine Or.inl ?_; assumption) | (refine Or.inr (Or.inl ?_); assumption) | (refine Or.inr (Or.inr ?_); assumption) | (refine Or.inr (Or.inr (Or.inl ?_)); assumption) | (refine Or.inr (Or.inr (Or.inr ?_)); assumption))) | (refine Or.inl (fun z => Or.elim z ?_ (fun z => Or.elim z ?_ ?_)) <;> assumption) | (refine Or.inl (fun z => Or.elim z ?_ (fun z => Or.elim z ?_ (fun z => Or.elim z ?_ ?_))) <;> assumption))))
          · exact absurd c_24_39 (by decide)
      · refine j_w w hw85 ?_
        have ei85 : sp_i (nI i85) = i85 := sp_in' (by omega)
        refine j_if_eq (tgt := 19) dX11_rest_12 (by decide) (fun c_12_50 => ?_) (fun c_12_50 => ?_)
        · refine j_iconst (v := 0) dX11_rest_19 (by decide) ?_
          refine j_iconst (v := 1) dX11_rest_20 (by decide) ?_
          refine j_callV (q := (RX11, TX11, 8)) dX11_rest_21 kX11_start lX11_76 inX11_start seX11_start h.m rfl (cm_start0 hl w _ _ h) (Nat.le_of_ble_eq_true rfl) ⟨(Nat.le_of_ble_eq_true rfl), (Nat.le_of_ble_eq_true rfl)⟩ rfl (Nat.le_of_ble_eq_true rfl) rfl rfl (fun _ _ h => h.elim) ?_
          rintro _ w3 ⟨rfl, fm3, h3⟩
          have R3 := R.th (k := 0)
          refine j_if_ne (tgt := 62) dX11_rest_24 (by decide) (fun c_24_56 => ?_) (fun c_24_56 => ?_)
          · exact absurd c_24_56 (by decide)
          · refine j_aload_n dX11_rest_27 rfl rfl ?_
            refine j_iload_n dX11_rest_28 rfl ?_
            refine j_iconst (v := 0) dX11_rest_29 (by decide) ?_
            refine j_aload_n dX11_rest_30 rfl rfl ?_
            refine j_getf dX11_rest_31 fX11_21 h3.m rfl ?_
            refine j_iload_n dX11_rest_34 rfl ?_
            obtain ⟨lv87, -, lg87⟩ := z_li.cell h3.rows
            refine j_callV (q := (RJx4a65c, TJx4a65c, 3)) dX11_rest_35 kJx4a65c_get_915e3 lX11_82 inJx4a65c_get_915e3 seJx4a65c_get_915e3 lg87 rfl (cl_get hl w3 41 1001 _ _ (i84) _ h3.rows (z_two2 (i := i84) (by omega))) (Nat.le_of_ble_eq_true rfl) ⟨(Nat.le_of_ble_eq_true rfl), (Nat.le_of_ble_eq_true rfl)⟩ rfl (Nat.le_of_ble_eq_true rfl) rfl rfl (fun _ _ h => h.elim) ?_
            rintro _ _ ⟨rfl, hw88⟩
            refine j_w w3 hw88 ?_
            refine j_castS dX11_rest_38 (z_w 1341 ((lwg_6 96).trans (by decide +kernel)) (by decide +kernel)) (z_li.is (h3.rw (i := i84) (by omega)).1) ?_
            obtain ⟨lv90, -, lg90⟩ := z_li.cell (h3.rw (i := i84) (by omega)).1
            refine j_callV (q := (RJx4a65c, TJx4a65c, 3)) dX11_rest_41 kJx4a65c_size_8abf5 lX11_86 inJx4a65c_size_8abf5 seJx4a65c_size_8abf5 lg90 rfl (cl_sizeW hl w3 (i84) (sp_R S (i84)) h3 R3 (by omega) rfl) (Nat.le_of_ble_eq_true rfl) ⟨(Nat.le_of_ble_eq_true rfl), (Nat.le_of_ble_eq_true rfl)⟩ rfl (Nat.le_of_ble_eq_true rfl) rfl rfl (fun _ _ h => h.elim) ?_
            rintro _ _ ⟨rfl, hw91⟩
            refine j_w w3 hw91 ?_
            have hz91 : (sp_R S (i84)).length ≤ 12 := R3.l12 h3 (i := i84) (by omega) rfl
            refine j_callS dX11_rest_44 kX11_isIn lX11_59 stX11_isIn (cm_isIn_r hl w3 _ (0) (nI ((sp_R S (i84)).length))) (Nat.le_of_ble_eq_true rfl) ⟨(Nat.le_of_ble_eq_true rfl), (Nat.le_of_ble_eq_true rfl)⟩ rfl (Nat.le_of_ble_eq_true rfl) rfl rfl (fun _ _ h => h.elim) ?_
            rintro _ _ ⟨⟨rfl, hi92⟩ | ⟨rfl, hno92⟩, hw92⟩
            · refine j_w w3 hw92 ?_
              obtain ⟨i92, hq92, rfl⟩ := sp_nt (m := (sp_R S (i84)).length) rfl (by omega) hi92
              have ei92 : sp_i (nI i92) = i92 := sp_in' (by omega)
              refine j_if_ne (tgt := 54) dX11_rest_47 (by decide) (fun c_47_79 => ?_) (fun c_47_79 => ?_)
              · refine j_iconst (v := 0) dX11_rest_54 (by decide) ?_
                refine j_iconst (v := 2) dX11_rest_55 (by decide) ?_
                refine j_callV (q := (RX11, TX11, 8)) dX11_rest_56 kX11_refuse lX11_52 inX11_refuse seX11_refuse h3.m rfl (cm_refuse0 hl w3 _ _ h3 rfl) (Nat.le_of_ble_eq_true rfl) ⟨(Nat.le_of_ble_eq_true rfl), (Nat.le_of_ble_eq_true rfl)⟩ rfl (Nat.le_of_ble_eq_true rfl) rfl rfl (fun _ _ h => h.elim) ?_
                rintro _ _ ⟨rfl, hw93⟩
                refine j_w w3 hw93 ?_
                refine j_if_eq (tgt := 66) dX11_rest_59 (by decide) (fun c_59_85 => ?_) (fun c_59_85 => ?_)
                · refine j_aload_n dX11_rest_66 rfl rfl ?_
                  refine j_iload_n dX11_rest_67 rfl ?_
                  refine j_iload_n dX11_rest_68 rfl ?_
                  refine j_iload_n dX11_rest_69 rfl ?_
                  refine j_callV (q := (RX11, TX11, 8)) dX11_rest_70 kX11_hearRow lX11_108 inX11_hearRow seX11_hearRow h3.m rfl (cx_hearRow hl w3 S _ (i84) (i92) (i85) h3 R3 (by omega) (by omega) (by omega)) (Nat.le_of_ble_eq_true rfl) ⟨(Nat.le_of_ble_eq_true rfl), (Nat.le_of_ble_eq_true rfl)⟩ rfl (Nat.le_of_ble_eq_true rfl) rfl rfl (fun _ _ h => h.elim) ?_
                  rintro _ w4 ⟨s4, rfl, fm4, h4, R4, th4⟩
                  have tx4 := th4.trans rfl
                  refine j_iret dX11_rest_73 rfl rfl ?_ (Nat.le_of_ble_eq_true rfl) (Nat.le_of_ble_eq_true rfl)
                  refine cast (congrFun (congrFun hQ9 _) _) ?_
                  try rw [ei84]
                  try rw [ei85]
                  try rw [ei92]
                  refine ⟨_, _, rfl, ((fm3.le (q' := 59) (by decide)).tr (fm4.le (q' := 59) (by decide))), h4, sp_X0 ?_ tx4 R4 rfl⟩
                  (first | (refine sp_k2c_0 ?_ ?_ ?_ <;> (first | assumption | (refine Or.inl ?_; assumption) | (refine Or.inr ?_; assumption) | (refine Or.inr (Or.inl ?_); assumption) | (refine Or.inr (Or.inr ?_); assumption) | (refine Or.inr (Or.inr (Or.inl ?_)); assumption) | (refine Or.inr (Or.inr (Or.inr ?_)); assumption) | (refine fun z => Or.elim z ?_ ?_ <;> assumption) | (refine fun z => Or.elim z ?_ (fun z => Or.elim z ?_ ?_) <;> assumption) | (refine fun z => Or.elim z ?_ (fun z => Or.elim z ?_ (fun z => Or.elim z ?_ ?_)) <;> assumption) | (refine fun z => Or.elim z (fun z9 => z9 ?_) ?_ <;> (first | assumption | (refine Or.inl ?_; assumption) | (refine Or.inr (Or.inl ?_); assumption) | (refine Or.inr (Or.inr ?_); assumption) | (refine Or.inr (Or.inr (Or.inl ?_)); assumption) | (refine Or.inr (Or.inr (Or.inr ?_)); assumption))) | (refine Or.inl (fun z => Or.elim z ?_ (fun z => Or.elim z ?_ ?_)) <;> assumption) | (refine Or.inl (fun z => Or.elim z ?_ (fun z => Or.elim z ?_ (fun z => Or.elim z ?_ ?_))) <;> assumption))))
                · exact absurd c_59_85 (by decide)
              · exact absurd c_47_79 (by decide)
            · refine j_w w3 hw92 ?_
              refine j_if_ne (tgt := 54) dX11_rest_47 (by decide) (fun c_47_103 => ?_) (fun c_47_103 => ?_)
              · exact absurd c_47_103 (by decide)
              · refine j_iconst (v := 1) dX11_rest_50 (by decide) ?_
                refine j_goto (tgt := 55) dX11_rest_51 (by decide) ?_
                refine j_iconst (v := 2) dX11_rest_55 (by decide) ?_
                refine j_callV (q := (RX11, TX11, 8)) dX11_rest_56 kX11_refuse lX11_52 inX11_refuse seX11_refuse h3.m rfl (cm_refuse1 hl w3 _ _ h3 rfl (by decide)) (Nat.le_of_ble_eq_true rfl) ⟨(Nat.le_of_ble_eq_true rfl), (Nat.le_of_ble_eq_true rfl)⟩ rfl (Nat.le_of_ble_eq_true rfl) rfl rfl (fun _ _ h => h.elim) ?_
                rintro _ w5 ⟨rfl, fm5, h5⟩
                have R5 := R3.th (k := 2)
                refine j_if_eq (tgt := 66) dX11_rest_59 (by decide) (fun c_59_111 => ?_) (fun c_59_111 => ?_)
                · exact absurd c_59_111 (by decide)
                · refine j_iconst (v := 0) dX11_rest_62 (by decide) ?_
                  refine j_goto (tgt := 73) dX11_rest_63 (by decide) ?_
                  refine j_iret dX11_rest_73 rfl rfl ?_ (Nat.le_of_ble_eq_true rfl) (Nat.le_of_ble_eq_true rfl)
                  refine cast (congrFun (congrFun hQ9 _) _) ?_
                  try rw [ei84]
                  try rw [ei85]
                  refine ⟨_, _, rfl, ((fm3.le (q' := 59) (by decide)).tr (fm5.le (q' := 59) (by decide))), h5, sp_X1 (k := 2) ?_ (by decide) rfl R5⟩
                  (first | (refine sp_k2c_2 ?_ ?_ ?_ <;> (first | assumption | (refine Or.inl ?_; assumption) | (refine Or.inr ?_; assumption) | (refine Or.inr (Or.inl ?_); assumption) | (refine Or.inr (Or.inr ?_); assumption) | (refine Or.inr (Or.inr (Or.inl ?_)); assumption) | (refine Or.inr (Or.inr (Or.inr ?_)); assumption) | (refine fun z => Or.elim z ?_ ?_ <;> assumption) | (refine fun z => Or.elim z ?_ (fun z => Or.elim z ?_ ?_) <;> assumption) | (refine fun z => Or.elim z ?_ (fun z => Or.elim z ?_ (fun z => Or.elim z ?_ ?_)) <;> assumption) | (refine fun z => Or.elim z (fun z9 => z9 ?_) ?_ <;> (first | assumption | (refine Or.inl ?_; assumption) | (refine Or.inr (Or.inl ?_); assumption) | (refine Or.inr (Or.inr ?_); assumption) | (refine Or.inr (Or.inr (Or.inl ?_)); assumption) | (refine Or.inr (Or.inr (Or.inr ?_)); assumption))) | (refine Or.inl (fun z => Or.elim z ?_ (fun z => Or.elim z ?_ ?_)) <;> assumption) | (refine Or.inl (fun z => Or.elim z ?_ (fun z => Or.elim z ?_ (fun z => Or.elim z ?_ ?_))) <;> assumption))))
        · exact absurd c_12_50 (by decide)
end ZMe2
