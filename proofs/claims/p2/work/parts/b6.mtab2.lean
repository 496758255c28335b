section ZMe6
variable {G : z_G} {l : Launch}
set_option maxRecDepth 100000 in
set_option maxHeartbeats 8000000 in
theorem cx_become_n (hl : l.stackTraces = false) (w : z_W) (S : sp_S) (s : z_Z) (t k : Nat) (h : z_mst w s) (R : sp_MR S s) (ht : t < 3) (hk : k < 20) (okT : sp_okT (sp_T S t)) : z_Con G l mX11_become 22 2 52 w [.ref 1000, .int (nI t), .int (nI k), .int 100000] (fun v w9 => ∃ (s9 : z_Z), v = some (.int ((none : Option Int32).getD (-9))) ∧ z_fm 59 w w9 ∧ z_mst w9 s9 ∧ sp_MR (sp_tb S t (sp_bec (sp_srt t) (sp_T S t) (sp_C S 2) k none)) s9 ∧ s9.1.1 = s.1.1) (fun _ _ => False) := by
  generalize hQ9 : (fun (v : Option Value) (w9 : z_W) => ∃ (s9 : z_Z), v = some (.int ((none : Option Int32).getD (-9))) ∧ z_fm 59 w w9 ∧ z_mst w9 s9 ∧ sp_MR (sp_tb S t (sp_bec (sp_srt t) (sp_T S t) (sp_C S 2) k none)) s9 ∧ s9.1.1 = s.1.1) = Q9
  refine z_body hl (by decide) rfl (Nat.le_of_ble_eq_true rfl) ?_
  show z_J G l mX11_become _ 0 [(0, _), (1, _), (2, _), (3, _)] [] _ 0 0
  refine j_iload_n dX11_become_0 rfl ?_
  refine j_ldc dX11_become_1 kcX11_67 ?_
  refine j_icmp_ne (tgt := 11) dX11_become_3 (by decide) (fun c_3_4 => ?_) (fun c_3_4 => ?_)
  · exact absurd c_3_4 (by decide)
  · refine j_aload_n dX11_become_6 rfl rfl ?_
    refine j_callV (q := (RX11, TX11, 8)) dX11_become_7 kX11_nine lX11_105 inX11_nine seX11_nine h.m rfl (cm_nine hl w _ h) (Nat.le_of_ble_eq_true rfl) ⟨(Nat.le_of_ble_eq_true rfl), (Nat.le_of_ble_eq_true rfl)⟩ rfl (Nat.le_of_ble_eq_true rfl) rfl rfl (fun _ _ h => h.elim) ?_
    rintro _ w1 ⟨rfl, fm1, h1⟩
    have R1 := R.ni
    refine j_iret dX11_become_10 rfl rfl ?_ (Nat.le_of_ble_eq_true rfl) (Nat.le_of_ble_eq_true rfl)
    refine cast (congrFun (congrFun hQ9 _) _) ?_
    exact ⟨_, rfl, (fm1.le (q' := 59) (by decide)), h1, (by rw [show sp_tb S t (sp_bec (sp_srt t) (sp_T S t) (sp_C S 2) k none) = sp_nine S from sp_tb_n]; exact R1), rfl⟩
set_option maxRecDepth 100000 in
set_option maxHeartbeats 8000000 in
theorem cx_become_s (hl : l.stackTraces = false) (w : z_W) (S : sp_S) (s : z_Z) (t k : Nat) (z : Int32) (h : z_mst w s) (R : sp_MR S s) (ht : t < 3) (hk : k < 20) (okT : sp_okT (sp_T S t)) (hne : ¬ z = 100000) : z_Con G l mX11_become 22 2 52 w [.ref 1000, .int (nI t), .int (nI k), .int z] (fun v w9 => ∃ (s9 : z_Z), v = some (.int (((some z) : Option Int32).getD (-9))) ∧ z_fm 59 w w9 ∧ z_mst w9 s9 ∧ sp_MR (sp_tb S t (sp_bec (sp_srt t) (sp_T S t) (sp_C S 2) k (some z))) s9 ∧ s9.1.1 = s.1.1) (fun _ _ => False) := by
  generalize hQ9 : (fun (v : Option Value) (w9 : z_W) => ∃ (s9 : z_Z), v = some (.int (((some z) : Option Int32).getD (-9))) ∧ z_fm 59 w w9 ∧ z_mst w9 s9 ∧ sp_MR (sp_tb S t (sp_bec (sp_srt t) (sp_T S t) (sp_C S 2) k (some z))) s9 ∧ s9.1.1 = s.1.1) = Q9
  refine z_body hl (by decide) rfl (Nat.le_of_ble_eq_true rfl) ?_
  show z_J G l mX11_become _ 0 [(0, _), (1, _), (2, _), (3, _)] [] _ 0 0
  refine j_iload_n dX11_become_0 rfl ?_
  refine j_ldc dX11_become_1 kcX11_67 ?_
  refine j_icmp_ne (tgt := 11) dX11_become_3 (by decide) (fun c_3_4 => ?_) (fun c_3_4 => ?_)
  · refine j_iload_n dX11_become_11 rfl ?_
    refine j_sipush (v := (-1000)) dX11_become_12 (by decide) ?_
    refine j_icmp_eq (tgt := 28) dX11_become_15 (by decide) (fun c_15_7 => ?_) (fun c_15_7 => ?_)
    · refine j_aload_n dX11_become_28 rfl rfl ?_
      refine j_iload_n dX11_become_29 rfl ?_
      refine j_iload_n dX11_become_30 rfl ?_
      refine j_callV (q := (RX11, TX11, 8)) dX11_become_31 kX11_place lX11_130 inX11_place seX11_place h.m rfl (cm_place_r hl w _ _ (t) (k) (sp_T S (t)) h R (by omega) (by omega) rfl) (Nat.le_of_ble_eq_true rfl) ⟨(Nat.le_of_ble_eq_true rfl), (Nat.le_of_ble_eq_true rfl)⟩ rfl (Nat.le_of_ble_eq_true rfl) rfl rfl (fun _ _ h => h.elim) ?_
      rintro _ _ ⟨⟨j480, e480, rfl, hj480, he480, hlk480, hmem480, hjl480, hl20480⟩ | ⟨rfl, hnk480, hlk480⟩, hw480⟩
      · refine j_w w hw480 ?_
        refine j_if_lt (tgt := 43) dX11_become_34 (by decide) (fun c_34_14 => ?_) (fun c_34_14 => ?_)
        · exact absurd c_34_14 (nI_pos (n := j480) (by omega))
        · refine j_aload_n dX11_become_37 rfl rfl ?_
          refine j_iload_n dX11_become_38 rfl ?_
          refine j_iload_n dX11_become_39 rfl ?_
          refine j_callV (q := (RX11, TX11, 8)) dX11_become_40 kX11_go lX11_151 inX11_go seX11_go h.m rfl (cx_go hl w S _ (t) (k) h R (by omega) (by omega) okT) (Nat.le_of_ble_eq_true rfl) ⟨(Nat.le_of_ble_eq_true rfl), (Nat.le_of_ble_eq_true rfl)⟩ rfl (Nat.le_of_ble_eq_true rfl) rfl rfl (fun _ _ h => h.elim) ?_
          rintro _ w1 ⟨rfl, s1, fm1, h1, R1, th1⟩
          have tx1 := th1.trans rfl
          refine j_iload_n dX11_become_43 rfl ?_
          refine j_iret dX11_become_44 rfl rfl ?_ (Nat.le_of_ble_eq_true rfl) (Nat.le_of_ble_eq_true rfl)
          refine cast (congrFun (congrFun hQ9 _) _) ?_
          exact ⟨_, rfl, (fm1.le (q' := 59) (by decide)), h1, (by show sp_MR (sp_tb S t (if z = -1000 then (if _ then _ else _) else _)) _; rw [if_pos c_15_7, if_neg (sp_vln (sp_lk_vl okT.2 hmem480))]; exact R1), tx1⟩
      · refine j_w w hw480 ?_
        refine j_if_lt (tgt := 43) dX11_become_34 (by decide) (fun c_34_27 => ?_) (fun c_34_27 => ?_)
        · refine j_iload_n dX11_become_43 rfl ?_
          refine j_iret dX11_become_44 rfl rfl ?_ (Nat.le_of_ble_eq_true rfl) (Nat.le_of_ble_eq_true rfl)
          refine cast (congrFun (congrFun hQ9 _) _) ?_
          exact ⟨_, rfl, z_fm.rf, h, (by show sp_MR (sp_tb S t (if z = -1000 then (if _ then _ else _) else _)) _; rw [if_pos c_15_7, if_pos hlk480, sp_tb_id]; exact R), rfl⟩
        · exact absurd c_34_27 (by decide)
    · refine j_aload_n dX11_become_18 rfl rfl ?_
      refine j_iload_n dX11_become_19 rfl ?_
      refine j_iload_n dX11_become_20 rfl ?_
      refine j_iload_n dX11_become_21 rfl ?_
      refine j_callV (q := (RX11, TX11, 8)) dX11_become_22 kX11_lay lX11_147 inX11_lay seX11_lay h.m rfl (cx_lay hl w S _ (t) (k) _ h R (by omega) (by omega) okT) (Nat.le_of_ble_eq_true rfl) ⟨(Nat.le_of_ble_eq_true rfl), (Nat.le_of_ble_eq_true rfl)⟩ rfl (Nat.le_of_ble_eq_true rfl) rfl rfl (fun _ _ h => h.elim) ?_
      rintro _ w2 ⟨rfl, s2, fm2, h2, R2, th2⟩
      have tx2 := th2.trans rfl
      refine j_goto (tgt := 43) dX11_become_25 (by decide) ?_
      refine j_iload_n dX11_become_43 rfl ?_
      refine j_iret dX11_become_44 rfl rfl ?_ (Nat.le_of_ble_eq_true rfl) (Nat.le_of_ble_eq_true rfl)
      refine cast (congrFun (congrFun hQ9 _) _) ?_
      exact ⟨_, rfl, (fm2.le (q' := 59) (by decide)), h2, (by show sp_MR (sp_tb S t (if z = -1000 then _ else _)) _; rw [if_neg c_15_7]; exact R2), tx2⟩
  · exact absurd c_3_4 hne
set_option maxRecDepth 100000 in
set_option maxHeartbeats 8000000 in
theorem cx_isNoPair (hl : l.stackTraces = false) (w : z_W) (S : sp_S) (s : z_Z) (x y z : Int32) (h : z_mst w s) (R : sp_MR S s)  : z_Con G l mX11_isNoPair 16 0 0 w [.ref 1000, .int x, .int y, .int z] (fun v w9 => (∃ i k s9, v = some (.int 0) ∧ i < 3 ∧ k < 20 ∧ sp_thr (nI i) ∧ (¬ sp_bk (nI k)) ∧ (¬ sp_bv z) ∧ x = nI i ∧ y = nI k ∧ z_fm 59 w w9 ∧ z_mst w9 s9 ∧ sp_MR S s9 ∧ s9.1.1 = 0) ∨ (∃ s9, v = some (.int 1) ∧ z_fm 59 w w9 ∧ z_mst w9 s9 ∧ sp_MR S s9 ∧ s9.1.1 = 1 ∧ ¬ sp_thr x) ∨ (∃ s9, v = some (.int 1) ∧ z_fm 59 w w9 ∧ z_mst w9 s9 ∧ sp_MR S s9 ∧ s9.1.1 = 2 ∧ sp_thr x ∧ (sp_bk y ∨ sp_bv z))) (fun _ _ => False) := by
  generalize hQ9 : (fun (v : Option Value) (w9 : z_W) => (∃ i k s9, v = some (.int 0) ∧ i < 3 ∧ k < 20 ∧ sp_thr (nI i) ∧ (¬ sp_bk (nI k)) ∧ (¬ sp_bv z) ∧ x = nI i ∧ y = nI k ∧ z_fm 59 w w9 ∧ z_mst w9 s9 ∧ sp_MR S s9 ∧ s9.1.1 = 0) ∨ (∃ s9, v = some (.int 1) ∧ z_fm 59 w w9 ∧ z_mst w9 s9 ∧ sp_MR S s9 ∧ s9.1.1 = 1 ∧ ¬ sp_thr x) ∨ (∃ s9, v = some (.int 1) ∧ z_fm 59 w w9 ∧ z_mst w9 s9 ∧ sp_MR S s9 ∧ s9.1.1 = 2 ∧ sp_thr x ∧ (sp_bk y ∨ sp_bv z))) = Q9
  refine z_body hl (by decide) rfl (Nat.le_of_ble_eq_true rfl) ?_
  show z_J G l mX11_isNoPair _ 0 [(0, _), (1, _), (2, _), (3, _)] [] _ 0 0
  refine j_aload_n dX11_isNoPair_0 rfl rfl ?_
  refine j_iload_n dX11_isNoPair_1 rfl ?_
  refine j_callS dX11_isNoPair_2 kX11_isNoTable lX11_136 stX11_isNoTable (cm_isNoTable_r hl w _) (Nat.le_of_ble_eq_true rfl) ⟨(Nat.le_of_ble_eq_true rfl), (Nat.le_of_ble_eq_true rfl)⟩ rfl (Nat.le_of_ble_eq_true rfl) rfl rfl (fun _ _ h => h.elim) ?_
  rintro _ _ ⟨⟨rfl, hno481⟩ | ⟨rfl, i481, hi481, ht481, rfl⟩, hw481⟩
  · refine j_w w hw481 ?_
    refine j_iconst (v := 1) dX11_isNoPair_5 (by decide) ?_
    refine j_callV (q := (RX11, TX11, 8)) dX11_isNoPair_6 kX11_start lX11_76 inX11_start seX11_start h.m rfl (cm_start1 hl w _ _ h (by decide)) (Nat.le_of_ble_eq_true rfl) ⟨(Nat.le_of_ble_eq_true rfl), (Nat.le_of_ble_eq_true rfl)⟩ rfl (Nat.le_of_ble_eq_true rfl) rfl rfl (fun _ _ h => h.elim) ?_
    rintro _ w1 ⟨rfl, fm1, h1⟩
    have R1 := R.th (k := 1)
    refine j_if_ne (tgt := 39) dX11_isNoPair_9 (by decide) (fun c_9_11 => ?_) (fun c_9_11 => ?_)
    · refine j_iconst (v := 1) dX11_isNoPair_39 (by decide) ?_
      refine j_goto (tgt := 44) dX11_isNoPair_40 (by decide) ?_
      refine j_iret dX11_isNoPair_44 rfl rfl ?_ (Nat.le_of_ble_eq_true rfl) (Nat.le_of_ble_eq_true rfl)
      refine cast (congrFun (congrFun hQ9 _) _) ?_
      exact Or.inr (Or.inl ⟨_, rfl, (fm1.le (q' := 59) (by decide)), h1, R1, rfl, (by assumption)⟩)
    · exact absurd c_9_11 (by decide)
  · refine j_w w hw481 ?_
    have ei481 : sp_i (nI i481) = i481 := sp_in' (by omega)
    refine j_iconst (v := 1) dX11_isNoPair_5 (by decide) ?_
    refine j_callV (q := (RX11, TX11, 8)) dX11_isNoPair_6 kX11_start lX11_76 inX11_start seX11_start h.m rfl (cm_start0 hl w _ _ h) (Nat.le_of_ble_eq_true rfl) ⟨(Nat.le_of_ble_eq_true rfl), (Nat.le_of_ble_eq_true rfl)⟩ rfl (Nat.le_of_ble_eq_true rfl) rfl rfl (fun _ _ h => h.elim) ?_
    rintro _ w2 ⟨rfl, fm2, h2⟩
    have R2 := R.th (k := 0)
    refine j_if_ne (tgt := 39) dX11_isNoPair_9 (by decide) (fun c_9_24 => ?_) (fun c_9_24 => ?_)
    · exact absurd c_9_24 (by decide)
    · refine j_aload_n dX11_isNoPair_12 rfl rfl ?_
      refine j_iload_n dX11_isNoPair_13 rfl ?_
      refine j_callS dX11_isNoPair_14 kX11_isNoKey lX11_139 stX11_isNoKey (cm_isNoKey_r hl w2 _) (Nat.le_of_ble_eq_true rfl) ⟨(Nat.le_of_ble_eq_true rfl), (Nat.le_of_ble_eq_true rfl)⟩ rfl (Nat.le_of_ble_eq_true rfl) rfl rfl (fun _ _ h => h.elim) ?_
      rintro _ _ ⟨⟨rfl, hno482⟩ | ⟨rfl, i482, hi482, ht482, rfl⟩, hw482⟩
      · refine j_w w2 hw482 ?_
        refine j_if_ne (tgt := 27) dX11_isNoPair_17 (by decide) (fun c_17_31 => ?_) (fun c_17_31 => ?_)
        · refine j_iconst (v := 1) dX11_isNoPair_27 (by decide) ?_
          refine j_goto (tgt := 32) dX11_isNoPair_28 (by decide) ?_
          refine j_iconst (v := 2) dX11_isNoPair_32 (by decide) ?_
          refine j_callV (q := (RX11, TX11, 8)) dX11_isNoPair_33 kX11_refuse lX11_52 inX11_refuse seX11_refuse h2.m rfl (cm_refuse1 hl w2 _ _ h2 rfl (by decide)) (Nat.le_of_ble_eq_true rfl) ⟨(Nat.le_of_ble_eq_true rfl), (Nat.le_of_ble_eq_true rfl)⟩ rfl (Nat.le_of_ble_eq_true rfl) rfl rfl (fun _ _ h => h.elim) ?_
          rintro _ w3 ⟨rfl, fm3, h3⟩
          have R3 := R2.th (k := 2)
          refine j_if_eq (tgt := 43) dX11_isNoPair_36 (by decide) (fun c_36_38 => ?_) (fun c_36_38 => ?_)
          · exact absurd c_36_38 (by decide)
          · refine j_iconst (v := 1) dX11_isNoPair_39 (by decide) ?_
            refine j_goto (tgt := 44) dX11_isNoPair_40 (by decide) ?_
            refine j_iret dX11_isNoPair_44 rfl rfl ?_ (Nat.le_of_ble_eq_true rfl) (Nat.le_of_ble_eq_true rfl)
            refine cast (congrFun (congrFun hQ9 _) _) ?_
            refine Or.inr (Or.inr ⟨_, rfl, ((fm2.le (q' := 59) (by decide)).tr (fm3.le (q' := 59) (by decide))), h3, R3, rfl, (by assumption), ?_⟩)
            (first | assumption | (refine Or.inl ?_; assumption) | (refine Or.inr ?_; assumption) | (refine Or.inr (Or.inl ?_); assumption) | (refine Or.inr (Or.inr ?_); assumption))
        · exact absurd c_17_31 (by decide)
      · refine j_w w2 hw482 ?_
        have ei482 : sp_i (nI i482) = i482 := sp_in' (by omega)
        refine j_if_ne (tgt := 27) dX11_isNoPair_17 (by decide) (fun c_17_49 => ?_) (fun c_17_49 => ?_)
        · exact absurd c_17_49 (by decide)
        · refine j_iload_n dX11_isNoPair_20 rfl ?_
          refine j_callS dX11_isNoPair_21 kX11_isNoValue lX11_79 stX11_isNoValue (cm_isNoValue_r hl w2 _) (Nat.le_of_ble_eq_true rfl) ⟨(Nat.le_of_ble_eq_true rfl), (Nat.le_of_ble_eq_true rfl)⟩ rfl (Nat.le_of_ble_eq_true rfl) rfl rfl (fun _ _ h => h.elim) ?_
          rintro _ _ ⟨⟨rfl, hno483⟩ | ⟨rfl, hye483⟩, hw483⟩
          · refine j_w w2 hw483 ?_
            refine j_if_eq (tgt := 31) dX11_isNoPair_24 (by decide) (fun c_24_55 => ?_) (fun c_24_55 => ?_)
            · exact absurd c_24_55 (by decide)
            · refine j_iconst (v := 1) dX11_isNoPair_27 (by decide) ?_
              refine j_goto (tgt := 32) dX11_isNoPair_28 (by decide) ?_
              refine j_iconst (v := 2) dX11_isNoPair_32 (by decide) ?_
              refine j_callV (q := (RX11, TX11, 8)) dX11_isNoPair_33 kX11_refuse lX11_52 inX11_refuse seX11_refuse h2.m rfl (cm_refuse1 hl w2 _ _ h2 rfl (by decide)) (Nat.le_of_ble_eq_true rfl) ⟨(Nat.le_of_ble_eq_true rfl), (Nat.le_of_ble_eq_true rfl)⟩ rfl (Nat.le_of_ble_eq_true rfl) rfl rfl (fun _ _ h => h.elim) ?_
              rintro _ w4 ⟨rfl, fm4, h4⟩
              have R4 := R2.th (k := 2)
              refine j_if_eq (tgt := 43) dX11_isNoPair_36 (by decide) (fun c_36_63 => ?_) (fun c_36_63 => ?_)
              · exact absurd c_36_63 (by decide)
              · refine j_iconst (v := 1) dX11_isNoPair_39 (by decide) ?_
                refine j_goto (tgt := 44) dX11_isNoPair_40 (by decide) ?_
                refine j_iret dX11_isNoPair_44 rfl rfl ?_ (Nat.le_of_ble_eq_true rfl) (Nat.le_of_ble_eq_true rfl)
                refine cast (congrFun (congrFun hQ9 _) _) ?_
                refine Or.inr (Or.inr ⟨_, rfl, ((fm2.le (q' := 59) (by decide)).tr (fm4.le (q' := 59) (by decide))), h4, R4, rfl, (by assumption), ?_⟩)
                (first | assumption | (refine Or.inl ?_; assumption) | (refine Or.inr ?_; assumption) | (refine Or.inr (Or.inl ?_); assumption) | (refine Or.inr (Or.inr ?_); assumption))
          · refine j_w w2 hw483 ?_
            refine j_if_eq (tgt := 31) dX11_isNoPair_24 (by decide) (fun c_24_72 => ?_) (fun c_24_72 => ?_)
            · refine j_iconst (v := 0) dX11_isNoPair_31 (by decide) ?_
              refine j_iconst (v := 2) dX11_isNoPair_32 (by decide) ?_
              refine j_callV (q := (RX11, TX11, 8)) dX11_isNoPair_33 kX11_refuse lX11_52 inX11_refuse seX11_refuse h2.m rfl (cm_refuse0 hl w2 _ _ h2 rfl) (Nat.le_of_ble_eq_true rfl) ⟨(Nat.le_of_ble_eq_true rfl), (Nat.le_of_ble_eq_true rfl)⟩ rfl (Nat.le_of_ble_eq_true rfl) rfl rfl (fun _ _ h => h.elim) ?_
              rintro _ _ ⟨rfl, hw484⟩
              refine j_w w2 hw484 ?_
              refine j_if_eq (tgt := 43) dX11_isNoPair_36 (by decide) (fun c_36_78 => ?_) (fun c_36_78 => ?_)
              · refine j_iconst (v := 0) dX11_isNoPair_43 (by decide) ?_
                refine j_iret dX11_isNoPair_44 rfl rfl ?_ (Nat.le_of_ble_eq_true rfl) (Nat.le_of_ble_eq_true rfl)
                refine cast (congrFun (congrFun hQ9 _) _) ?_
                exact Or.inl ⟨_, _, _, rfl, (by assumption), (by assumption), (by assumption), (by assumption), (by assumption), rfl, rfl, (fm2.le (q' := 59) (by decide)), h2, R2, rfl⟩
              · exact absurd c_36_78 (by decide)
            · exact absurd c_24_72 (by decide)
set_option maxRecDepth 100000 in
set_option maxHeartbeats 8000000 in
theorem cx_isNoRule (hl : l.stackTraces = false) (w : z_W) (S : sp_S) (s : z_Z) (x y z u : Int32) (h : z_mst w s) (R : sp_MR S s)  : z_Con G l mX11_isNoRule 18 0 0 w [.ref 1000, .int x, .int y, .int z, .int u] (fun v w9 => (∃ i k s9, v = some (.int 0) ∧ i < 3 ∧ k < 20 ∧ sp_thr (nI i) ∧ (¬ sp_bk (nI k)) ∧ (¬ (z < 0 ∨ 5 < z)) ∧ (¬ sp_bv u) ∧ x = nI i ∧ y = nI k ∧ z_fm 59 w w9 ∧ z_mst w9 s9 ∧ sp_MR S s9 ∧ s9.1.1 = 0) ∨ (∃ s9, v = some (.int 1) ∧ z_fm 59 w w9 ∧ z_mst w9 s9 ∧ sp_MR S s9 ∧ s9.1.1 = 1 ∧ ¬ sp_thr x) ∨ (∃ s9, v = some (.int 1) ∧ z_fm 59 w w9 ∧ z_mst w9 s9 ∧ sp_MR S s9 ∧ s9.1.1 = 2 ∧ sp_thr x ∧ (sp_bk y ∨ (z < 0 ∨ 5 < z) ∨ sp_bv u))) (fun _ _ => False) := by
  generalize hQ9 : (fun (v : Option Value) (w9 : z_W) => (∃ i k s9, v = some (.int 0) ∧ i < 3 ∧ k < 20 ∧ sp_thr (nI i) ∧ (¬ sp_bk (nI k)) ∧ (¬ (z < 0 ∨ 5 < z)) ∧ (¬ sp_bv u) ∧ x = nI i ∧ y = nI k ∧ z_fm 59 w w9 ∧ z_mst w9 s9 ∧ sp_MR S s9 ∧ s9.1.1 = 0) ∨ (∃ s9, v = some (.int 1) ∧ z_fm 59 w w9 ∧ z_mst w9 s9 ∧ sp_MR S s9 ∧ s9.1.1 = 1 ∧ ¬ sp_thr x) ∨ (∃ s9, v = some (.int 1) ∧ z_fm 59 w w9 ∧ z_mst w9 s9 ∧ sp_MR S s9 ∧ s9.1.1 = 2 ∧ sp_thr x ∧ (sp_bk y ∨ (z < 0 ∨ 5 < z) ∨ sp_bv u))) = Q9
  refine z_body hl (by decide) rfl (Nat.le_of_ble_eq_true rfl) ?_
  show z_J G l mX11_isNoRule _ 0 [(0, _), (1, _), (2, _), (3, _), (4, _)] [] _ 0 0
  refine j_aload_n dX11_isNoRule_0 rfl rfl ?_
  refine j_iload_n dX11_isNoRule_1 rfl ?_
  refine j_iload_n dX11_isNoRule_2 rfl ?_
  refine j_iload dX11_isNoRule_3 rfl ?_
  refine j_callV (q := (RX11, TX11, 8)) dX11_isNoRule_5 kX11_isNoPair lX11_142 inX11_isNoPair seX11_isNoPair h.m rfl (cx_isNoPair hl w S _ _ _ _ h R) (Nat.le_of_ble_eq_true rfl) ⟨(Nat.le_of_ble_eq_true rfl), (Nat.le_of_ble_eq_true rfl)⟩ rfl (Nat.le_of_ble_eq_true rfl) rfl rfl (fun _ _ h => h.elim) ?_
  rintro _ w1 (⟨i1, k1, s1, rfl, hi1, hk1, htt1, hbk1, hbv1, rfl, rfl, fm1, h1, R1, th1⟩ | ⟨s1, rfl, fm1, h1, R1, th1, hno1⟩ | ⟨s1, rfl, fm1, h1, R1, th1, htt1, hP1⟩)
  · have ei1 : sp_i (nI i1) = i1 := sp_in' (by omega)
    have ek1 : sp_i (nI k1) = k1 := sp_in' (by omega)
    refine j_if_ne (tgt := 33) dX11_isNoRule_8 (by decide) (fun c_8_10 => ?_) (fun c_8_10 => ?_)
    · exact absurd c_8_10 (by decide)
    · refine j_aload_n dX11_isNoRule_11 rfl rfl ?_
      refine j_iload_n dX11_isNoRule_12 rfl ?_
      refine j_iconst (v := 0) dX11_isNoRule_13 (by decide) ?_
      refine j_iconst (v := 5) dX11_isNoRule_14 (by decide) ?_
      refine j_callS dX11_isNoRule_15 kX11_isIn lX11_59 stX11_isIn (cm_isIn_r hl w1 _ (0) (5)) (Nat.le_of_ble_eq_true rfl) ⟨(Nat.le_of_ble_eq_true rfl), (Nat.le_of_ble_eq_true rfl)⟩ rfl (Nat.le_of_ble_eq_true rfl) rfl rfl (fun _ _ h => h.elim) ?_
      rintro _ _ ⟨⟨rfl, hye485⟩ | ⟨rfl, hno485⟩, hw485⟩
      · refine j_w w1 hw485 ?_
        refine j_if_ne (tgt := 25) dX11_isNoRule_18 (by decide) (fun c_18_19 => ?_) (fun c_18_19 => ?_)
        · refine j_iconst (v := 0) dX11_isNoRule_25 (by decide) ?_
          refine j_iconst (v := 2) dX11_isNoRule_26 (by decide) ?_
          refine j_callV (q := (RX11, TX11, 8)) dX11_isNoRule_27 kX11_refuse lX11_52 inX11_refuse seX11_refuse h1.m rfl (cm_refuse0 hl w1 _ _ h1 th1) (Nat.le_of_ble_eq_true rfl) ⟨(Nat.le_of_ble_eq_true rfl), (Nat.le_of_ble_eq_true rfl)⟩ rfl (Nat.le_of_ble_eq_true rfl) rfl rfl (fun _ _ h => h.elim) ?_
          rintro _ _ ⟨rfl, hw486⟩
          refine j_w w1 hw486 ?_
          refine j_if_eq (tgt := 37) dX11_isNoRule_30 (by decide) (fun c_30_25 => ?_) (fun c_30_25 => ?_)
          · refine j_iconst (v := 0) dX11_isNoRule_37 (by decide) ?_
            refine j_iret dX11_isNoRule_38 rfl rfl ?_ (Nat.le_of_ble_eq_true rfl) (Nat.le_of_ble_eq_true rfl)
            refine cast (congrFun (congrFun hQ9 _) _) ?_
            exact Or.inl ⟨_, _, _, rfl, (by assumption), (by assumption), (by assumption), (by assumption), (by assumption), (by assumption), rfl, rfl, (fm1.le (q' := 59) (by decide)), h1, R1, th1⟩
          · exact absurd c_30_25 (by decide)
        · exact absurd c_18_19 (by decide)
      · refine j_w w1 hw485 ?_
        refine j_if_ne (tgt := 25) dX11_isNoRule_18 (by decide) (fun c_18_33 => ?_) (fun c_18_33 => ?_)
        · exact absurd c_18_33 (by decide)
        · refine j_iconst (v := 1) dX11_isNoRule_21 (by decide) ?_
          refine j_goto (tgt := 26) dX11_isNoRule_22 (by decide) ?_
          refine j_iconst (v := 2) dX11_isNoRule_26 (by decide) ?_
          refine j_callV (q := (RX11, TX11, 8)) dX11_isNoRule_27 kX11_refuse lX11_52 inX11_refuse seX11_refuse h1.m rfl (cm_refuse1 hl w1 _ _ h1 th1 (by decide)) (Nat.le_of_ble_eq_true rfl) ⟨(Nat.le_of_ble_eq_true rfl), (Nat.le_of_ble_eq_true rfl)⟩ rfl (Nat.le_of_ble_eq_true rfl) rfl rfl (fun _ _ h => h.elim) ?_
          rintro _ w2 ⟨rfl, fm2, h2⟩
          have R2 := R1.th (k := 2)
          refine j_if_eq (tgt := 37) dX11_isNoRule_30 (by decide) (fun c_30_41 => ?_) (fun c_30_41 => ?_)
          · exact absurd c_30_41 (by decide)
          · refine j_iconst (v := 1) dX11_isNoRule_33 (by decide) ?_
            refine j_goto (tgt := 38) dX11_isNoRule_34 (by decide) ?_
            refine j_iret dX11_isNoRule_38 rfl rfl ?_ (Nat.le_of_ble_eq_true rfl) (Nat.le_of_ble_eq_true rfl)
            refine cast (congrFun (congrFun hQ9 _) _) ?_
            refine Or.inr (Or.inr ⟨_, rfl, ((fm1.le (q' := 59) (by decide)).tr (fm2.le (q' := 59) (by decide))), h2, R2, rfl, (by assumption), ?_⟩)
            (first | assumption | (refine Or.inl ?_; assumption) | (refine Or.inr ?_; assumption) | (refine Or.inr (Or.inl ?_); assumption) | (refine Or.inr (Or.inr ?_); assumption))
  · refine j_if_ne (tgt := 33) dX11_isNoRule_8 (by decide) (fun c_8_49 => ?_) (fun c_8_49 => ?_)
    · refine j_iconst (v := 1) dX11_isNoRule_33 (by decide) ?_
      refine j_goto (tgt := 38) dX11_isNoRule_34 (by decide) ?_
      refine j_iret dX11_isNoRule_38 rfl rfl ?_ (Nat.le_of_ble_eq_true rfl) (Nat.le_of_ble_eq_true rfl)
      refine cast (congrFun (congrFun hQ9 _) _) ?_
      exact Or.inr (Or.inl ⟨_, rfl, (fm1.le (q' := 59) (by decide)), h1, R1, th1, (by assumption)⟩)
    · exact absurd c_8_49 (by decide)
  · have hP9 := hP1.elim Or.inl (fun z9 => Or.inr (Or.inr z9 : (z < 0 ∨ 5 < z) ∨ sp_bv u))
    refine j_if_ne (tgt := 33) dX11_isNoRule_8 (by decide) (fun c_8_57 => ?_) (fun c_8_57 => ?_)
    · refine j_iconst (v := 1) dX11_isNoRule_33 (by decide) ?_
      refine j_goto (tgt := 38) dX11_isNoRule_34 (by decide) ?_
      refine j_iret dX11_isNoRule_38 rfl rfl ?_ (Nat.le_of_ble_eq_true rfl) (Nat.le_of_ble_eq_true rfl)
      refine cast (congrFun (congrFun hQ9 _) _) ?_
      refine Or.inr (Or.inr ⟨_, rfl, (fm1.le (q' := 59) (by decide)), h1, R1, th1, (by assumption), ?_⟩)
      (first | assumption | (refine Or.inl ?_; assumption) | (refine Or.inr ?_; assumption) | (refine Or.inr (Or.inl ?_); assumption) | (refine Or.inr (Or.inr ?_); assumption))
    · exact absurd c_8_57 (by decide)
set_option maxRecDepth 100000 in
set_option maxHeartbeats 8000000 in
theorem cx_put (hl : l.stackTraces = false) (w : z_W) (S : sp_S) (s : z_Z) (t : Int32) (k : Int32) (y : Int32) (h : z_mst w s) (R : sp_MR S s) (ok : sp_ok S) : z_Con G l mX11_put 24 2 52 w [.ref 1000, .int t, .int k, .int y] (fun v w9 => ∃ (r9 : Int32) (s9 : z_Z), v = some (.int r9) ∧ z_fm 59 w w9 ∧ z_mst w9 s9 ∧ s9.1.1 = sp_k32 t (sp_bk k ∨ sp_bv y) ∧ sp_MR (if sp_k32 t (sp_bk k ∨ sp_bv y) = 0 then sp_tb S (sp_i t) (sp_put (sp_srt (sp_i t)) (sp_T S (sp_i t)) (sp_C S 2) (sp_i k) y) else S) s9 ∧ (sp_k32 t (sp_bk k ∨ sp_bv y) = 0 → r9 = (sp_put (sp_srt (sp_i t)) (sp_T S (sp_i t)) (sp_C S 2) (sp_i k) y).1.getD (-9))) (fun _ _ => False) := by
  generalize hQ9 : (fun (v : Option Value) (w9 : z_W) => ∃ (r9 : Int32) (s9 : z_Z), v = some (.int r9) ∧ z_fm 59 w w9 ∧ z_mst w9 s9 ∧ s9.1.1 = sp_k32 t (sp_bk k ∨ sp_bv y) ∧ sp_MR (if sp_k32 t (sp_bk k ∨ sp_bv y) = 0 then sp_tb S (sp_i t) (sp_put (sp_srt (sp_i t)) (sp_T S (sp_i t)) (sp_C S 2) (sp_i k) y) else S) s9 ∧ (sp_k32 t (sp_bk k ∨ sp_bv y) = 0 → r9 = (sp_put (sp_srt (sp_i t)) (sp_T S (sp_i t)) (sp_C S 2) (sp_i k) y).1.getD (-9))) = Q9
  refine z_body hl (by decide) rfl (Nat.le_of_ble_eq_true rfl) ?_
  show z_J G l mX11_put _ 0 [(0, _), (1, _), (2, _), (3, _)] [] _ 0 0
  refine j_aload_n dX11_put_0 rfl rfl ?_
  refine j_iload_n dX11_put_1 rfl ?_
  refine j_iload_n dX11_put_2 rfl ?_
  refine j_iload_n dX11_put_3 rfl ?_
  refine j_callV (q := (RX11, TX11, 8)) dX11_put_4 kX11_isNoPair lX11_142 inX11_isNoPair seX11_isNoPair h.m rfl (cx_isNoPair hl w S _ _ _ _ h R) (Nat.le_of_ble_eq_true rfl) ⟨(Nat.le_of_ble_eq_true rfl), (Nat.le_of_ble_eq_true rfl)⟩ rfl (Nat.le_of_ble_eq_true rfl) rfl rfl (fun _ _ h => h.elim) ?_
  rintro _ w1 (⟨i1, k1, s1, rfl, hi1, hk1, htt1, hbk1, hbv1, rfl, rfl, fm1, h1, R1, th1⟩ | ⟨s1, rfl, fm1, h1, R1, th1, hno1⟩ | ⟨s1, rfl, fm1, h1, R1, th1, htt1, hP1⟩)
  · have ei1 : sp_i (nI i1) = i1 := sp_in' (by omega)
    have ek1 : sp_i (nI k1) = k1 := sp_in' (by omega)
    refine j_if_eq (tgt := 12) dX11_put_7 (by decide) (fun c_7_10 => ?_) (fun c_7_10 => ?_)
    · refine j_aload_n dX11_put_12 rfl rfl ?_
      refine j_iload_n dX11_put_13 rfl ?_
      refine j_iload_n dX11_put_14 rfl ?_
      refine j_callV (q := (RX11, TX11, 8)) dX11_put_15 kX11_valueOf lX11_145 inX11_valueOf seX11_valueOf h1.m rfl (cx_valueOf hl w1 S _ (i1) (k1) h1 R1 (by omega) (by omega)) (Nat.le_of_ble_eq_true rfl) ⟨(Nat.le_of_ble_eq_true rfl), (Nat.le_of_ble_eq_true rfl)⟩ rfl (Nat.le_of_ble_eq_true rfl) rfl rfl (fun _ _ h => h.elim) ?_
      rintro _ _ ⟨rfl, hw487⟩
      refine j_w w1 hw487 ?_
      refine j_istore (lo' := [(4, _), (0, _), (1, _), (2, _), (3, _)]) dX11_put_18 (by decide) rfl ?_
      refine j_aload_n dX11_put_20 rfl rfl ?_
      refine j_iload_n dX11_put_21 rfl ?_
      refine j_iload_n dX11_put_22 rfl ?_
      refine j_iload_n dX11_put_23 rfl ?_
      refine j_callV (q := (RX11, TX11, 8)) dX11_put_24 kX11_lay lX11_147 inX11_lay seX11_lay h1.m rfl (cx_lay hl w1 S _ (i1) (k1) _ h1 R1 (by omega) (by omega) (ok.2.1 (i1) (by omega))) (Nat.le_of_ble_eq_true rfl) ⟨(Nat.le_of_ble_eq_true rfl), (Nat.le_of_ble_eq_true rfl)⟩ rfl (Nat.le_of_ble_eq_true rfl) rfl rfl (fun _ _ h => h.elim) ?_
      rintro _ w2 ⟨rfl, s2, fm2, h2, R2, th2⟩
      have tx2 := th2.trans th1
      refine j_iload dX11_put_27 rfl ?_
      refine j_iret dX11_put_29 rfl rfl ?_ (Nat.le_of_ble_eq_true rfl) (Nat.le_of_ble_eq_true rfl)
      refine cast (congrFun (congrFun hQ9 _) _) ?_
      try rw [ei1]
      try rw [ek1]
      refine ⟨_, _, rfl, ((fm1.le (q' := 59) (by decide)).tr (fm2.le (q' := 59) (by decide))), h2, sp_X0 ?_ tx2 R2 rfl⟩
      (first | (refine sp_k32_0 ?_ ?_ <;> (first | assumption | (refine Or.inl ?_; assumption) | (refine Or.inr ?_; assumption) | (refine Or.inr (Or.inl ?_); assumption) | (refine Or.inr (Or.inr ?_); assumption) | (refine Or.inr (Or.inr (Or.inl ?_)); assumption) | (refine Or.inr (Or.inr (Or.inr ?_)); assumption) | (refine fun z => Or.elim z ?_ ?_ <;> assumption) | (refine fun z => Or.elim z ?_ (fun z => Or.elim z ?_ ?_) <;> assumption) | (refine fun z => Or.elim z ?_ (fun z => Or.elim z ?_ (fun z => Or.elim z ?_ ?_)) <;> assumption) | (refine fun z => Or.elim z (fun z9 => z9 ?_) ?_ <;> (first | assumption | (refine Or.inl ?_; assumption) | (refine Or.inr (Or.inl ?_); assumption) | (refine Or.inr (Or.inr ?_); assumption) | (refine Or.inr (Or.inr (Or.inl ?_)); assumption) | (refine Or.inr (Or.inr (Or.inr ?_)); assumption))) | (refine Or.inl (fun z => Or.elim z ?_ (fun z => Or.elim z ?_ ?_)) <;> assumption) | (refine Or.inl (fun z => Or.elim z ?_ (fun z => Or.elim z ?_ (fun z => Or.elim z ?_ ?_))) <;> assumption))))
    · exact absurd c_7_10 (by decide)
  · refine j_if_eq (tgt := 12) dX11_put_7 (by decide) (fun c_7_33 => ?_) (fun c_7_33 => ?_)
    · exact absurd c_7_33 (by decide)
    · refine j_iconst (v := 0) dX11_put_10 (by decide) ?_
      refine j_iret dX11_put_11 rfl rfl ?_ (Nat.le_of_ble_eq_true rfl) (Nat.le_of_ble_eq_true rfl)
      refine cast (congrFun (congrFun hQ9 _) _) ?_
      refine ⟨_, _, rfl, (fm1.le (q' := 59) (by decide)), h1, sp_X1 (k := 1) ?_ (by decide) th1 R1⟩
      (first | (refine sp_k32_1 ?_ <;> (first | assumption | (refine Or.inl ?_; assumption) | (refine Or.inr ?_; assumption) | (refine Or.inr (Or.inl ?_); assumption) | (refine Or.inr (Or.inr ?_); assumption) | (refine Or.inr (Or.inr (Or.inl ?_)); assumption) | (refine Or.inr (Or.inr (Or.inr ?_)); assumption) | (refine fun z => Or.elim z ?_ ?_ <;> assumption) | (refine fun z => Or.elim z ?_ (fun z => Or.elim z ?_ ?_) <;> assumption) | (refine fun z => Or.elim z ?_ (fun z => Or.elim z ?_ (fun z => Or.elim z ?_ ?_)) <;> assumption) | (refine fun z => Or.elim z (fun z9 => z9 ?_) ?_ <;> (first | assumption | (refine Or.inl ?_; assumption) | (refine Or.inr (Or.inl ?_); assumption) | (refine Or.inr (Or.inr ?_); assumption) | (refine Or.inr (Or.inr (Or.inl ?_)); assumption) | (refine Or.inr (Or.inr (Or.inr ?_)); assumption))) | (refine Or.inl (fun z => Or.elim z ?_ (fun z => Or.elim z ?_ ?_)) <;> assumption) | (refine Or.inl (fun z => Or.elim z ?_ (fun z => Or.elim z ?_ (fun z => Or.elim z ?_ ?_))) <;> assumption))))
  · refine j_if_eq (tgt := 12) dX11_put_7 (by decide) (fun c_7_40 => ?_) (fun c_7_40 => ?_)
    · exact absurd c_7_40 (by decide)
    · refine j_iconst (v := 0) dX11_put_10 (by decide) ?_
      refine j_iret dX11_put_11 rfl rfl ?_ (Nat.le_of_ble_eq_true rfl) (Nat.le_of_ble_eq_true rfl)
      refine cast (congrFun (congrFun hQ9 _) _) ?_
      refine ⟨_, _, rfl, (fm1.le (q' := 59) (by decide)), h1, sp_X1 (k := 2) ?_ (by decide) th1 R1⟩
      (first | (refine sp_k32_2 ?_ ?_ <;> (first | assumption | (refine Or.inl ?_; assumption) | (refine Or.inr ?_; assumption) | (refine Or.inr (Or.inl ?_); assumption) | (refine Or.inr (Or.inr ?_); assumption) | (refine Or.inr (Or.inr (Or.inl ?_)); assumption) | (refine Or.inr (Or.inr (Or.inr ?_)); assumption) | (refine fun z => Or.elim z ?_ ?_ <;> assumption) | (refine fun z => Or.elim z ?_ (fun z => Or.elim z ?_ ?_) <;> assumption) | (refine fun z => Or.elim z ?_ (fun z => Or.elim z ?_ (fun z => Or.elim z ?_ ?_)) <;> assumption) | (refine fun z => Or.elim z (fun z9 => z9 ?_) ?_ <;> (first | assumption | (refine Or.inl ?_; assumption) | (refine Or.inr (Or.inl ?_); assumption) | (refine Or.inr (Or.inr ?_); assumption) | (refine Or.inr (Or.inr (Or.inl ?_)); assumption) | (refine Or.inr (Or.inr (Or.inr ?_)); assumption))) | (refine Or.inl (fun z => Or.elim z ?_ (fun z => Or.elim z ?_ ?_)) <;> assumption) | (refine Or.inl (fun z => Or.elim z ?_ (fun z => Or.elim z ?_ (fun z => Or.elim z ?_ ?_))) <;> assumption))))
set_option maxRecDepth 100000 in
set_option maxHeartbeats 8000000 in
theorem cx_remove (hl : l.stackTraces = false) (w : z_W) (S : sp_S) (s : z_Z) (t : Int32) (k : Int32) (h : z_mst w s) (R : sp_MR S s) (ok : sp_ok S) : z_Con G l mX11_remove 24 2 52 w [.ref 1000, .int t, .int k] (fun v w9 => ∃ (r9 : Int32) (s9 : z_Z), v = some (.int r9) ∧ z_fm 59 w w9 ∧ z_mst w9 s9 ∧ s9.1.1 = sp_k32 t (sp_bk k) ∧ sp_MR (if sp_k32 t (sp_bk k) = 0 then sp_tb S (sp_i t) (sp_del (sp_T S (sp_i t)) (sp_C S 2) (sp_i k)) else S) s9 ∧ (sp_k32 t (sp_bk k) = 0 → r9 = (sp_del (sp_T S (sp_i t)) (sp_C S 2) (sp_i k)).1.getD (-9))) (fun _ _ => False) := by
  generalize hQ9 : (fun (v : Option Value) (w9 : z_W) => ∃ (r9 : Int32) (s9 : z_Z), v = some (.int r9) ∧ z_fm 59 w w9 ∧ z_mst w9 s9 ∧ s9.1.1 = sp_k32 t (sp_bk k) ∧ sp_MR (if sp_k32 t (sp_bk k) = 0 then sp_tb S (sp_i t) (sp_del (sp_T S (sp_i t)) (sp_C S 2) (sp_i k)) else S) s9 ∧ (sp_k32 t (sp_bk k) = 0 → r9 = (sp_del (sp_T S (sp_i t)) (sp_C S 2) (sp_i k)).1.getD (-9))) = Q9
  refine z_body hl (by decide) rfl (Nat.le_of_ble_eq_true rfl) ?_
  show z_J G l mX11_remove _ 0 [(0, _), (1, _), (2, _)] [] _ 0 0
  refine j_aload_n dX11_remove_0 rfl rfl ?_
  refine j_iload_n dX11_remove_1 rfl ?_
  refine j_iload_n dX11_remove_2 rfl ?_
  refine j_iconst (v := 0) dX11_remove_3 (by decide) ?_
  refine j_callV (q := (RX11, TX11, 8)) dX11_remove_4 kX11_isNoPair lX11_142 inX11_isNoPair seX11_isNoPair h.m rfl (cx_isNoPair hl w S _ _ _ 0 h R) (Nat.le_of_ble_eq_true rfl) ⟨(Nat.le_of_ble_eq_true rfl), (Nat.le_of_ble_eq_true rfl)⟩ rfl (Nat.le_of_ble_eq_true rfl) rfl rfl (fun _ _ h => h.elim) ?_
  rintro _ w1 (⟨i1, k1, s1, rfl, hi1, hk1, htt1, hbk1, hbv1, rfl, rfl, fm1, h1, R1, th1⟩ | ⟨s1, rfl, fm1, h1, R1, th1, hno1⟩ | ⟨s1, rfl, fm1, h1, R1, th1, htt1, hP1⟩)
  · have ei1 : sp_i (nI i1) = i1 := sp_in' (by omega)
    have ek1 : sp_i (nI k1) = k1 := sp_in' (by omega)
    refine j_if_eq (tgt := 12) dX11_remove_7 (by decide) (fun c_7_10 => ?_) (fun c_7_10 => ?_)
    · refine j_aload_n dX11_remove_12 rfl rfl ?_
      refine j_iload_n dX11_remove_13 rfl ?_
      refine j_iload_n dX11_remove_14 rfl ?_
      refine j_callV (q := (RX11, TX11, 8)) dX11_remove_15 kX11_valueOf lX11_145 inX11_valueOf seX11_valueOf h1.m rfl (cx_valueOf hl w1 S _ (i1) (k1) h1 R1 (by omega) (by omega)) (Nat.le_of_ble_eq_true rfl) ⟨(Nat.le_of_ble_eq_true rfl), (Nat.le_of_ble_eq_true rfl)⟩ rfl (Nat.le_of_ble_eq_true rfl) rfl rfl (fun _ _ h => h.elim) ?_
      rintro _ _ ⟨rfl, hw488⟩
      refine j_w w1 hw488 ?_
      refine j_istore_n (lo' := [(3, _), (0, _), (1, _), (2, _)]) dX11_remove_18 (by decide) rfl ?_
      refine j_aload_n dX11_remove_19 rfl rfl ?_
      refine j_iload_n dX11_remove_20 rfl ?_
      refine j_iload_n dX11_remove_21 rfl ?_
      refine j_callV (q := (RX11, TX11, 8)) dX11_remove_22 kX11_go lX11_151 inX11_go seX11_go h1.m rfl (cx_go hl w1 S _ (i1) (k1) h1 R1 (by omega) (by omega) (ok.2.1 (i1) (by omega))) (Nat.le_of_ble_eq_true rfl) ⟨(Nat.le_of_ble_eq_true rfl), (Nat.le_of_ble_eq_true rfl)⟩ rfl (Nat.le_of_ble_eq_true rfl) rfl rfl (fun _ _ h => h.elim) ?_
      rintro _ w2 ⟨rfl, s2, fm2, h2, R2, th2⟩
      have tx2 := th2.trans th1
      refine j_iload_n dX11_remove_25 rfl ?_
      refine j_iret dX11_remove_26 rfl rfl ?_ (Nat.le_of_ble_eq_true rfl) (Nat.le_of_ble_eq_true rfl)
      refine cast (congrFun (congrFun hQ9 _) _) ?_
      try rw [ei1]
      try rw [ek1]
      refine ⟨_, _, rfl, ((fm1.le (q' := 59) (by decide)).tr (fm2.le (q' := 59) (by decide))), h2, sp_X0 ?_ tx2 R2 rfl⟩
      (first | (refine sp_k32_0 ?_ ?_ <;> (first | assumption | (refine Or.inl ?_; assumption) | (refine Or.inr ?_; assumption) | (refine Or.inr (Or.inl ?_); assumption) | (refine Or.inr (Or.inr ?_); assumption) | (refine Or.inr (Or.inr (Or.inl ?_)); assumption) | (refine Or.inr (Or.inr (Or.inr ?_)); assumption) | (refine fun z => Or.elim z ?_ ?_ <;> assumption) | (refine fun z => Or.elim z ?_ (fun z => Or.elim z ?_ ?_) <;> assumption) | (refine fun z => Or.elim z ?_ (fun z => Or.elim z ?_ (fun z => Or.elim z ?_ ?_)) <;> assumption) | (refine fun z => Or.elim z (fun z9 => z9 ?_) ?_ <;> (first | assumption | (refine Or.inl ?_; assumption) | (refine Or.inr (Or.inl ?_); assumption) | (refine Or.inr (Or.inr ?_); assumption) | (refine Or.inr (Or.inr (Or.inl ?_)); assumption) | (refine Or.inr (Or.inr (Or.inr ?_)); assumption))) | (refine Or.inl (fun z => Or.elim z ?_ (fun z => Or.elim z ?_ ?_)) <;> assumption) | (refine Or.inl (fun z => Or.elim z ?_ (fun z => Or.elim z ?_ (fun z => Or.elim z ?_ ?_))) <;> assumption))))
    · exact absurd c_7_10 (by decide)
  · refine j_if_eq (tgt := 12) dX11_remove_7 (by decide) (fun c_7_32 => ?_) (fun c_7_32 => ?_)
    · exact absurd c_7_32 (by decide)
    · refine j_iconst (v := 0) dX11_remove_10 (by decide) ?_
      refine j_iret dX11_remove_11 rfl rfl ?_ (Nat.le_of_ble_eq_true rfl) (Nat.le_of_ble_eq_true rfl)
      refine cast (congrFun (congrFun hQ9 _) _) ?_
      refine ⟨_, _, rfl, (fm1.le (q' := 59) (by decide)), h1, sp_X1 (k := 1) ?_ (by decide) th1 R1⟩
      (first | (refine sp_k32_1 ?_ <;> (first | assumption | (refine Or.inl ?_; assumption) | (refine Or.inr ?_; assumption) | (refine Or.inr (Or.inl ?_); assumption) | (refine Or.inr (Or.inr ?_); assumption) | (refine Or.inr (Or.inr (Or.inl ?_)); assumption) | (refine Or.inr (Or.inr (Or.inr ?_)); assumption) | (refine fun z => Or.elim z ?_ ?_ <;> assumption) | (refine fun z => Or.elim z ?_ (fun z => Or.elim z ?_ ?_) <;> assumption) | (refine fun z => Or.elim z ?_ (fun z => Or.elim z ?_ (fun z => Or.elim z ?_ ?_)) <;> assumption) | (refine fun z => Or.elim z (fun z9 => z9 ?_) ?_ <;> (first | assumption | (refine Or.inl ?_; assumption) | (refine Or.inr (Or.inl ?_); assumption) | (refine Or.inr (Or.inr ?_); assumption) | (refine Or.inr (Or.inr (Or.inl ?_)); assumption) | (refine Or.inr (Or.inr (Or.inr ?_)); assumption))) | (refine Or.inl (fun z => Or.elim z ?_ (fun z => Or.elim z ?_ ?_)) <;> assumption) | (refine Or.inl (fun z => Or.elim z ?_ (fun z => Or.elim z ?_ (fun z => Or.elim z ?_ ?_))) <;> assumption))))
  · have hP9 : sp_bk k := hP1.resolve_right (by decide)
    refine j_if_eq (tgt := 12) dX11_remove_7 (by decide) (fun c_7_40 => ?_) (fun c_7_40 => ?_)
    · exact absurd c_7_40 (by decide)
    · refine j_iconst (v := 0) dX11_remove_10 (by decide) ?_
      refine j_iret dX11_remove_11 rfl rfl ?_ (Nat.le_of_ble_eq_true rfl) (Nat.le_of_ble_eq_true rfl)
      refine cast (congrFun (congrFun hQ9 _) _) ?_
      refine ⟨_, _, rfl, (fm1.le (q' := 59) (by decide)), h1, sp_X1 (k := 2) ?_ (by decide) th1 R1⟩
      (first | (refine sp_k32_2 ?_ ?_ <;> (first | assumption | (refine Or.inl ?_; assumption) | (refine Or.inr ?_; assumption) | (refine Or.inr (Or.inl ?_); assumption) | (refine Or.inr (Or.inr ?_); assumption) | (refine Or.inr (Or.inr (Or.inl ?_)); assumption) | (refine Or.inr (Or.inr (Or.inr ?_)); assumption) | (refine fun z => Or.elim z ?_ ?_ <;> assumption) | (refine fun z => Or.elim z ?_ (fun z => Or.elim z ?_ ?_) <;> assumption) | (refine fun z => Or.elim z ?_ (fun z => Or.elim z ?_ (fun z => Or.elim z ?_ ?_)) <;> assumption) | (refine fun z => Or.elim z (fun z9 => z9 ?_) ?_ <;> (first | assumption | (refine Or.inl ?_; assumption) | (refine Or.inr (Or.inl ?_); assumption) | (refine Or.inr (Or.inr ?_); assumption) | (refine Or.inr (Or.inr (Or.inl ?_)); assumption) | (refine Or.inr (Or.inr (Or.inr ?_)); assumption))) | (refine Or.inl (fun z => Or.elim z ?_ (fun z => Or.elim z ?_ ?_)) <;> assumption) | (refine Or.inl (fun z => Or.elim z ?_ (fun z => Or.elim z ?_ (fun z => Or.elim z ?_ ?_))) <;> assumption))))
set_option maxRecDepth 100000 in
set_option maxHeartbeats 8000000 in
theorem cx_putIfAbsent (hl : l.stackTraces = false) (w : z_W) (S : sp_S) (s : z_Z) (t : Int32) (k : Int32) (y : Int32) (h : z_mst w s) (R : sp_MR S s) (ok : sp_ok S) : z_Con G l mX11_putIfAbsent 24 2 52 w [.ref 1000, .int t, .int k, .int y] (fun v w9 => ∃ (r9 : Int32) (s9 : z_Z), v = some (.int r9) ∧ z_fm 59 w w9 ∧ z_mst w9 s9 ∧ s9.1.1 = sp_k32 t (sp_bk k ∨ sp_bv y) ∧ sp_MR (if sp_k32 t (sp_bk k ∨ sp_bv y) = 0 then sp_tb S (sp_i t) (sp_pia (sp_srt (sp_i t)) (sp_T S (sp_i t)) (sp_C S 2) (sp_i k) y) else S) s9 ∧ (sp_k32 t (sp_bk k ∨ sp_bv y) = 0 → r9 = (sp_pia (sp_srt (sp_i t)) (sp_T S (sp_i t)) (sp_C S 2) (sp_i k) y).1.getD (-9))) (fun _ _ => False) := by
  generalize hQ9 : (fun (v : Option Value) (w9 : z_W) => ∃ (r9 : Int32) (s9 : z_Z), v = some (.int r9) ∧ z_fm 59 w w9 ∧ z_mst w9 s9 ∧ s9.1.1 = sp_k32 t (sp_bk k ∨ sp_bv y) ∧ sp_MR (if sp_k32 t (sp_bk k ∨ sp_bv y) = 0 then sp_tb S (sp_i t) (sp_pia (sp_srt (sp_i t)) (sp_T S (sp_i t)) (sp_C S 2) (sp_i k) y) else S) s9 ∧ (sp_k32 t (sp_bk k ∨ sp_bv y) = 0 → r9 = (sp_pia (sp_srt (sp_i t)) (sp_T S (sp_i t)) (sp_C S 2) (sp_i k) y).1.getD (-9))) = Q9
  refine z_body hl (by decide) rfl (Nat.le_of_ble_eq_true rfl) ?_
  show z_J G l mX11_putIfAbsent _ 0 [(0, _), (1, _), (2, _), (3, _)] [] _ 0 0
  refine j_aload_n dX11_putIfAbsent_0 rfl rfl ?_
  refine j_iload_n dX11_putIfAbsent_1 rfl ?_
  refine j_iload_n dX11_putIfAbsent_2 rfl ?_
  refine j_iload_n dX11_putIfAbsent_3 rfl ?_
  refine j_callV (q := (RX11, TX11, 8)) dX11_putIfAbsent_4 kX11_isNoPair lX11_142 inX11_isNoPair seX11_isNoPair h.m rfl (cx_isNoPair hl w S _ _ _ _ h R) (Nat.le_of_ble_eq_true rfl) ⟨(Nat.le_of_ble_eq_true rfl), (Nat.le_of_ble_eq_true rfl)⟩ rfl (Nat.le_of_ble_eq_true rfl) rfl rfl (fun _ _ h => h.elim) ?_
  rintro _ w1 (⟨i1, k1, s1, rfl, hi1, hk1, htt1, hbk1, hbv1, rfl, rfl, fm1, h1, R1, th1⟩ | ⟨s1, rfl, fm1, h1, R1, th1, hno1⟩ | ⟨s1, rfl, fm1, h1, R1, th1, htt1, hP1⟩)
  · have ei1 : sp_i (nI i1) = i1 := sp_in' (by omega)
    have ek1 : sp_i (nI k1) = k1 := sp_in' (by omega)
    refine j_if_eq (tgt := 12) dX11_putIfAbsent_7 (by decide) (fun c_7_10 => ?_) (fun c_7_10 => ?_)
    · refine j_aload_n dX11_putIfAbsent_12 rfl rfl ?_
      refine j_iload_n dX11_putIfAbsent_13 rfl ?_
      refine j_iload_n dX11_putIfAbsent_14 rfl ?_
      refine j_callV (q := (RX11, TX11, 8)) dX11_putIfAbsent_15 kX11_valueOf lX11_145 inX11_valueOf seX11_valueOf h1.m rfl (cx_valueOf hl w1 S _ (i1) (k1) h1 R1 (by omega) (by omega)) (Nat.le_of_ble_eq_true rfl) ⟨(Nat.le_of_ble_eq_true rfl), (Nat.le_of_ble_eq_true rfl)⟩ rfl (Nat.le_of_ble_eq_true rfl) rfl rfl (fun _ _ h => h.elim) ?_
      rintro _ _ ⟨rfl, hw489⟩
      refine j_w w1 hw489 ?_
      refine j_istore (lo' := [(4, _), (0, _), (1, _), (2, _), (3, _)]) dX11_putIfAbsent_18 (by decide) rfl ?_
      refine j_iload dX11_putIfAbsent_20 rfl ?_
      refine j_sipush (v := (-1000)) dX11_putIfAbsent_22 (by decide) ?_
      refine j_icmp_ne (tgt := 35) dX11_putIfAbsent_25 (by decide) (fun c_25_20 => ?_) (fun c_25_20 => ?_)
      · refine j_iload dX11_putIfAbsent_35 rfl ?_
        refine j_iret dX11_putIfAbsent_37 rfl rfl ?_ (Nat.le_of_ble_eq_true rfl) (Nat.le_of_ble_eq_true rfl)
        refine cast (congrFun (congrFun hQ9 _) _) ?_
        try rw [ei1]
        try rw [ek1]
        refine ⟨_, _, rfl, (fm1.le (q' := 59) (by decide)), h1, sp_X0 ?_ th1 (by rw [sp_pia, if_neg c_25_20, sp_tb_id]; exact R1) (by rw [sp_pia, if_neg c_25_20]; rfl)⟩
        (first | (refine sp_k32_0 ?_ ?_ <;> (first | assumption | (refine Or.inl ?_; assumption) | (refine Or.inr ?_; assumption) | (refine Or.inr (Or.inl ?_); assumption) | (refine Or.inr (Or.inr ?_); assumption) | (refine Or.inr (Or.inr (Or.inl ?_)); assumption) | (refine Or.inr (Or.inr (Or.inr ?_)); assumption) | (refine fun z => Or.elim z ?_ ?_ <;> assumption) | (refine fun z => Or.elim z ?_ (fun z => Or.elim z ?_ ?_) <;> assumption) | (refine fun z => Or.elim z ?_ (fun z => Or.elim z ?_ (fun z => Or.elim z ?_ ?_)) <;> assumption) | (refine fun z => Or.elim z (fun z9 => z9 ?_) ?_ <;> (first | assumption | (refine Or.inl ?_; assumption) | (refine Or.inr (Or.inl ?_); assumption) | (refine Or.inr (Or.inr ?_); assumption) | (refine Or.inr (Or.inr (Or.inl ?_)); assumption) | (refine Or.inr (Or.inr (Or.inr ?_)); assumption))) | (refine Or.inl (fun z => Or.elim z ?_ (fun z => Or.elim z ?_ ?_)) <;> assumption) | (refine Or.inl (fun z => Or.elim z ?_ (fun z => Or.elim z ?_ (fun z => Or.elim z ?_ ?_))) <;> assumption))))
      · refine j_aload_n dX11_putIfAbsent_28 rfl rfl ?_
        refine j_iload_n dX11_putIfAbsent_29 rfl ?_
        refine j_iload_n dX11_putIfAbsent_30 rfl ?_
        refine j_iload_n dX11_putIfAbsent_31 rfl ?_
        refine j_callV (q := (RX11, TX11, 8)) dX11_putIfAbsent_32 kX11_lay lX11_147 inX11_lay seX11_lay h1.m rfl (cx_lay hl w1 S _ (i1) (k1) _ h1 R1 (by omega) (by omega) (ok.2.1 (i1) (by omega))) (Nat.le_of_ble_eq_true rfl) ⟨(Nat.le_of_ble_eq_true rfl), (Nat.le_of_ble_eq_true rfl)⟩ rfl (Nat.le_of_ble_eq_true rfl) rfl rfl (fun _ _ h => h.elim) ?_
        rintro _ w2 ⟨rfl, s2, fm2, h2, R2, th2⟩
        have tx2 := th2.trans th1
        refine j_iload dX11_putIfAbsent_35 rfl ?_
        refine j_iret dX11_putIfAbsent_37 rfl rfl ?_ (Nat.le_of_ble_eq_true rfl) (Nat.le_of_ble_eq_true rfl)
        refine cast (congrFun (congrFun hQ9 _) _) ?_
        try rw [ei1]
        try rw [ek1]
        refine ⟨_, _, rfl, ((fm1.le (q' := 59) (by decide)).tr (fm2.le (q' := 59) (by decide))), h2, sp_X0 ?_ tx2 (by rw [sp_pia, if_pos c_25_20]; exact R2) (by rw [sp_pia, if_pos c_25_20]; exact c_25_20)⟩
        (first | (refine sp_k32_0 ?_ ?_ <;> (first | assumption | (refine Or.inl ?_; assumption) | (refine Or.inr ?_; assumption) | (refine Or.inr (Or.inl ?_); assumption) | (refine Or.inr (Or.inr ?_); assumption) | (refine Or.inr (Or.inr (Or.inl ?_)); assumption) | (refine Or.inr (Or.inr (Or.inr ?_)); assumption) | (refine fun z => Or.elim z ?_ ?_ <;> assumption) | (refine fun z => Or.elim z ?_ (fun z => Or.elim z ?_ ?_) <;> assumption) | (refine fun z => Or.elim z ?_ (fun z => Or.elim z ?_ (fun z => Or.elim z ?_ ?_)) <;> assumption) | (refine fun z => Or.elim z (fun z9 => z9 ?_) ?_ <;> (first | assumption | (refine Or.inl ?_; assumption) | (refine Or.inr (Or.inl ?_); assumption) | (refine Or.inr (Or.inr ?_); assumption) | (refine Or.inr (Or.inr (Or.inl ?_)); assumption) | (refine Or.inr (Or.inr (Or.inr ?_)); assumption))) | (refine Or.inl (fun z => Or.elim z ?_ (fun z => Or.elim z ?_ ?_)) <;> assumption) | (refine Or.inl (fun z => Or.elim z ?_ (fun z => Or.elim z ?_ (fun z => Or.elim z ?_ ?_))) <;> assumption))))
    · exact absurd c_7_10 (by decide)
  · refine j_if_eq (tgt := 12) dX11_putIfAbsent_7 (by decide) (fun c_7_43 => ?_) (fun c_7_43 => ?_)
    · exact absurd c_7_43 (by decide)
    · refine j_iconst (v := 0) dX11_putIfAbsent_10 (by decide) ?_
      refine j_iret dX11_putIfAbsent_11 rfl rfl ?_ (Nat.le_of_ble_eq_true rfl) (Nat.le_of_ble_eq_true rfl)
      refine cast (congrFun (congrFun hQ9 _) _) ?_
      refine ⟨_, _, rfl, (fm1.le (q' := 59) (by decide)), h1, sp_X1 (k := 1) ?_ (by decide) th1 R1⟩
      (first | (refine sp_k32_1 ?_ <;> (first | assumption | (refine Or.inl ?_; assumption) | (refine Or.inr ?_; assumption) | (refine Or.inr (Or.inl ?_); assumption) | (refine Or.inr (Or.inr ?_); assumption) | (refine Or.inr (Or.inr (Or.inl ?_)); assumption) | (refine Or.inr (Or.inr (Or.inr ?_)); assumption) | (refine fun z => Or.elim z ?_ ?_ <;> assumption) | (refine fun z => Or.elim z ?_ (fun z => Or.elim z ?_ ?_) <;> assumption) | (refine fun z => Or.elim z ?_ (fun z => Or.elim z ?_ (fun z => Or.elim z ?_ ?_)) <;> assumption) | (refine fun z => Or.elim z (fun z9 => z9 ?_) ?_ <;> (first | assumption | (refine Or.inl ?_; assumption) | (refine Or.inr (Or.inl ?_); assumption) | (refine Or.inr (Or.inr ?_); assumption) | (refine Or.inr (Or.inr (Or.inl ?_)); assumption) | (refine Or.inr (Or.inr (Or.inr ?_)); assumption))) | (refine Or.inl (fun z => Or.elim z ?_ (fun z => Or.elim z ?_ ?_)) <;> assumption) | (refine Or.inl (fun z => Or.elim z ?_ (fun z => Or.elim z ?_ (fun z => Or.elim z ?_ ?_))) <;> assumption))))
  · refine j_if_eq (tgt := 12) dX11_putIfAbsent_7 (by decide) (fun c_7_50 => ?_) (fun c_7_50 => ?_)
    · exact absurd c_7_50 (by decide)
    · refine j_iconst (v := 0) dX11_putIfAbsent_10 (by decide) ?_
      refine j_iret dX11_putIfAbsent_11 rfl rfl ?_ (Nat.le_of_ble_eq_true rfl) (Nat.le_of_ble_eq_true rfl)
      refine cast (congrFun (congrFun hQ9 _) _) ?_
      refine ⟨_, _, rfl, (fm1.le (q' := 59) (by decide)), h1, sp_X1 (k := 2) ?_ (by decide) th1 R1⟩
      (first | (refine sp_k32_2 ?_ ?_ <;> (first | assumption | (refine Or.inl ?_; assumption) | (refine Or.inr ?_; assumption) | (refine Or.inr (Or.inl ?_); assumption) | (refine Or.inr (Or.inr ?_); assumption) | (refine Or.inr (Or.inr (Or.inl ?_)); assumption) | (refine Or.inr (Or.inr (Or.inr ?_)); assumption) | (refine fun z => Or.elim z ?_ ?_ <;> assumption) | (refine fun z => Or.elim z ?_ (fun z => Or.elim z ?_ ?_) <;> assumption) | (refine fun z => Or.elim z ?_ (fun z => Or.elim z ?_ (fun z => Or.elim z ?_ ?_)) <;> assumption) | (refine fun z => Or.elim z (fun z9 => z9 ?_) ?_ <;> (first | assumption | (refine Or.inl ?_; assumption) | (refine Or.inr (Or.inl ?_); assumption) | (refine Or.inr (Or.inr ?_); assumption) | (refine Or.inr (Or.inr (Or.inl ?_)); assumption) | (refine Or.inr (Or.inr (Or.inr ?_)); assumption))) | (refine Or.inl (fun z => Or.elim z ?_ (fun z => Or.elim z ?_ ?_)) <;> assumption) | (refine Or.inl (fun z => Or.elim z ?_ (fun z => Or.elim z ?_ (fun z => Or.elim z ?_ ?_))) <;> assumption))))
set_option maxRecDepth 100000 in
set_option maxHeartbeats 8000000 in
theorem cx_replace (hl : l.stackTraces = false) (w : z_W) (S : sp_S) (s : z_Z) (t : Int32) (k : Int32) (y : Int32) (h : z_mst w s) (R : sp_MR S s) (ok : sp_ok S) : z_Con G l mX11_replace 24 2 52 w [.ref 1000, .int t, .int k, .int y] (fun v w9 => ∃ (r9 : Int32) (s9 : z_Z), v = some (.int r9) ∧ z_fm 59 w w9 ∧ z_mst w9 s9 ∧ s9.1.1 = sp_k32 t (sp_bk k ∨ sp_bv y) ∧ sp_MR (if sp_k32 t (sp_bk k ∨ sp_bv y) = 0 then sp_tb S (sp_i t) (sp_rep (sp_srt (sp_i t)) (sp_T S (sp_i t)) (sp_C S 2) (sp_i k) y) else S) s9 ∧ (sp_k32 t (sp_bk k ∨ sp_bv y) = 0 → r9 = (sp_rep (sp_srt (sp_i t)) (sp_T S (sp_i t)) (sp_C S 2) (sp_i k) y).1.getD (-9))) (fun _ _ => False) := by
  generalize hQ9 : (fun (v : Option Value) (w9 : z_W) => ∃ (r9 : Int32) (s9 : z_Z), v = some (.int r9) ∧ z_fm 59 w w9 ∧ z_mst w9 s9 ∧ s9.1.1 = sp_k32 t (sp_bk k ∨ sp_bv y) ∧ sp_MR (if sp_k32 t (sp_bk k ∨ sp_bv y) = 0 then sp_tb S (sp_i t) (sp_rep (sp_srt (sp_i t)) (sp_T S (sp_i t)) (sp_C S 2) (sp_i k) y) else S) s9 ∧ (sp_k32 t (sp_bk k ∨ sp_bv y) = 0 → r9 = (sp_rep (sp_srt (sp_i t)) (sp_T S (sp_i t)) (sp_C S 2) (sp_i k) y).1.getD (-9))) = Q9
  refine z_body hl (by decide) rfl (Nat.le_of_ble_eq_true rfl) ?_
  show z_J G l mX11_replace _ 0 [(0, _), (1, _), (2, _), (3, _)] [] _ 0 0
  refine j_aload_n dX11_replace_0 rfl rfl ?_
  refine j_iload_n dX11_replace_1 rfl ?_
  refine j_iload_n dX11_replace_2 rfl ?_
  refine j_iload_n dX11_replace_3 rfl ?_
  refine j_callV (q := (RX11, TX11, 8)) dX11_replace_4 kX11_isNoPair lX11_142 inX11_isNoPair seX11_isNoPair h.m rfl (cx_isNoPair hl w S _ _ _ _ h R) (Nat.le_of_ble_eq_true rfl) ⟨(Nat.le_of_ble_eq_true rfl), (Nat.le_of_ble_eq_true rfl)⟩ rfl (Nat.le_of_ble_eq_true rfl) rfl rfl (fun _ _ h => h.elim) ?_
  rintro _ w1 (⟨i1, k1, s1, rfl, hi1, hk1, htt1, hbk1, hbv1, rfl, rfl, fm1, h1, R1, th1⟩ | ⟨s1, rfl, fm1, h1, R1, th1, hno1⟩ | ⟨s1, rfl, fm1, h1, R1, th1, htt1, hP1⟩)
  · have ei1 : sp_i (nI i1) = i1 := sp_in' (by omega)
    have ek1 : sp_i (nI k1) = k1 := sp_in' (by omega)
    refine j_if_eq (tgt := 12) dX11_replace_7 (by decide) (fun c_7_10 => ?_) (fun c_7_10 => ?_)
    · refine j_aload_n dX11_replace_12 rfl rfl ?_
      refine j_iload_n dX11_replace_13 rfl ?_
      refine j_iload_n dX11_replace_14 rfl ?_
      refine j_callV (q := (RX11, TX11, 8)) dX11_replace_15 kX11_valueOf lX11_145 inX11_valueOf seX11_valueOf h1.m rfl (cx_valueOf hl w1 S _ (i1) (k1) h1 R1 (by omega) (by omega)) (Nat.le_of_ble_eq_true rfl) ⟨(Nat.le_of_ble_eq_true rfl), (Nat.le_of_ble_eq_true rfl)⟩ rfl (Nat.le_of_ble_eq_true rfl) rfl rfl (fun _ _ h => h.elim) ?_
      rintro _ _ ⟨rfl, hw490⟩
      refine j_w w1 hw490 ?_
      refine j_istore (lo' := [(4, _), (0, _), (1, _), (2, _), (3, _)]) dX11_replace_18 (by decide) rfl ?_
      refine j_iload dX11_replace_20 rfl ?_
      refine j_sipush (v := (-1000)) dX11_replace_22 (by decide) ?_
      refine j_icmp_eq (tgt := 35) dX11_replace_25 (by decide) (fun c_25_20 => ?_) (fun c_25_20 => ?_)
      · refine j_iload dX11_replace_35 rfl ?_
        refine j_iret dX11_replace_37 rfl rfl ?_ (Nat.le_of_ble_eq_true rfl) (Nat.le_of_ble_eq_true rfl)
        refine cast (congrFun (congrFun hQ9 _) _) ?_
        try rw [ei1]
        try rw [ek1]
        refine ⟨_, _, rfl, (fm1.le (q' := 59) (by decide)), h1, sp_X0 ?_ th1 (by rw [sp_rep, if_pos c_25_20, sp_tb_id]; exact R1) (by rw [sp_rep, if_pos c_25_20]; exact c_25_20)⟩
        (first | (refine sp_k32_0 ?_ ?_ <;> (first | assumption | (refine Or.inl ?_; assumption) | (refine Or.inr ?_; assumption) | (refine Or.inr (Or.inl ?_); assumption) | (refine Or.inr (Or.inr ?_); assumption) | (refine Or.inr (Or.inr (Or.inl ?_)); assumption) | (refine Or.inr (Or.inr (Or.inr ?_)); assumption) | (refine fun z => Or.elim z ?_ ?_ <;> assumption) | (refine fun z => Or.elim z ?_ (fun z => Or.elim z ?_ ?_) <;> assumption) | (refine fun z => Or.elim z ?_ (fun z => Or.elim z ?_ (fun z => Or.elim z ?_ ?_)) <;> assumption) | (refine fun z => Or.elim z (fun z9 => z9 ?_) ?_ <;> (first | assumption | (refine Or.inl ?_; assumption) | (refine Or.inr (Or.inl ?_); assumption) | (refine Or.inr (Or.inr ?_); assumption) | (refine Or.inr (Or.inr (Or.inl ?_)); assumption) | (refine Or.inr (Or.inr (Or.inr ?_)); assumption))) | (refine Or.inl (fun z => Or.elim z ?_ (fun z => Or.elim z ?_ ?_)) <;> assumption) | (refine Or.inl (fun z => Or.elim z ?_ (fun z => Or.elim z ?_ (fun z => Or.elim z ?_ ?_))) <;> assumption))))
      · refine j_aload_n dX11_replace_28 rfl rfl ?_
        refine j_iload_n dX11_replace_29 rfl ?_
        refine j_iload_n dX11_replace_30 rfl ?_
        refine j_iload_n dX11_replace_31 rfl ?_
        refine j_callV (q := (RX11, TX11, 8)) dX11_replace_32 kX11_lay lX11_147 inX11_lay seX11_lay h1.m rfl (cx_lay hl w1 S _ (i1) (k1) _ h1 R1 (by omega) (by omega) (ok.2.1 (i1) (by omega))) (Nat.le_of_ble_eq_true rfl) ⟨(Nat.le_of_ble_eq_true rfl), (Nat.le_of_ble_eq_true rfl)⟩ rfl (Nat.le_of_ble_eq_true rfl) rfl rfl (fun _ _ h => h.elim) ?_
        rintro _ w2 ⟨rfl, s2, fm2, h2, R2, th2⟩
        have tx2 := th2.trans th1
        refine j_iload dX11_replace_35 rfl ?_
        refine j_iret dX11_replace_37 rfl rfl ?_ (Nat.le_of_ble_eq_true rfl) (Nat.le_of_ble_eq_true rfl)
        refine cast (congrFun (congrFun hQ9 _) _) ?_
        try rw [ei1]
        try rw [ek1]
        refine ⟨_, _, rfl, ((fm1.le (q' := 59) (by decide)).tr (fm2.le (q' := 59) (by decide))), h2, sp_X0 ?_ tx2 (by rw [sp_rep, if_neg c_25_20]; exact R2) (by rw [sp_rep, if_neg c_25_20]; rfl)⟩
        (first | (refine sp_k32_0 ?_ ?_ <;> (first | assumption | (refine Or.inl ?_; assumption) | (refine Or.inr ?_; assumption) | (refine Or.inr (Or.inl ?_); assumption) | (refine Or.inr (Or.inr ?_); assumption) | (refine Or.inr (Or.inr (Or.inl ?_)); assumption) | (refine Or.inr (Or.inr (Or.inr ?_)); assumption) | (refine fun z => Or.elim z ?_ ?_ <;> assumption) | (refine fun z => Or.elim z ?_ (fun z => Or.elim z ?_ ?_) <;> assumption) | (refine fun z => Or.elim z ?_ (fun z => Or.elim z ?_ (fun z => Or.elim z ?_ ?_)) <;> assumption) | (refine fun z => Or.elim z (fun z9 => z9 ?_) ?_ <;> (first | assumption | (refine Or.inl ?_; assumption) | (refine Or.inr (Or.inl ?_); assumption) | (refine Or.inr (Or.inr ?_); assumption) | (refine Or.inr (Or.inr (Or.inl ?_)); assumption) | (refine Or.inr (Or.inr (Or.inr ?_)); assumption))) | (refine Or.inl (fun z => Or.elim z ?_ (fun z => Or.elim z ?_ ?_)) <;> assumption) | (refine Or.inl (fun z => Or.elim z ?_ (fun z => Or.elim z ?_ (fun z => Or.elim z ?_ ?_))) <;> assumption))))
    · exact absurd c_7_10 (by decide)
  · refine j_if_eq (tgt := 12) dX11_replace_7 (by decide) (fun c_7_43 => ?_) (fun c_7_43 => ?_)
    · exact absurd c_7_43 (by decide)
    · refine j_iconst (v := 0) dX11_replace_10 (by decide) ?_
      refine j_iret dX11_replace_11 rfl rfl ?_ (Nat.le_of_ble_eq_true rfl) (Nat.le_of_ble_eq_true rfl)
      refine cast (congrFun (congrFun hQ9 _) _) ?_
      refine ⟨_, _, rfl, (fm1.le (q' := 59) (by decide)), h1, sp_X1 (k := 1) ?_ (by decide) th1 R1⟩
      (first | (refine sp_k32_1 ?_ <;> (first | assumption | (refine Or.inl ?_; assumption) | (refine Or.inr ?_; assumption) | (refine Or.inr (Or.inl ?_); assumption) | (refine Or.inr (Or.inr ?_); assumption) | (refine Or.inr (Or.inr (Or.inl ?_)); assumption) | (refine Or.inr (Or.inr (Or.inr ?_)); assumption) | (refine fun z => Or.elim z ?_ ?_ <;> assumption) | (refine fun z => Or.elim z ?_ (fun z => Or.elim z ?_ ?_) <;> assumption) | (refine fun z => Or.elim z ?_ (fun z => Or.elim z ?_ (fun z => Or.elim z ?_ ?_)) <;> assumption) | (refine fun z => Or.elim z (fun z9 => z9 ?_) ?_ <;> (first | assumption | (refine Or.inl ?_; assumption) | (refine Or.inr (Or.inl ?_); assumption) | (refine Or.inr (Or.inr ?_); assumption) | (refine Or.inr (Or.inr (Or.inl ?_)); assumption) | (refine Or.inr (Or.inr (Or.inr ?_)); assumption))) | (refine Or.inl (fun z => Or.elim z ?_ (fun z => Or.elim z ?_ ?_)) <;> assumption) | (refine Or.inl (fun z => Or.elim z ?_ (fun z => Or.elim z ?_ (fun z => Or.elim z ?_ ?_))) <;> assumption))))
  · refine j_if_eq (tgt := 12) dX11_replace_7 (by decide) (fun c_7_50 => ?_) (fun c_7_50 => ?_)
    · exact absurd c_7_50 (by decide)
    · refine j_iconst (v := 0) dX11_replace_10 (by decide) ?_
      refine j_iret dX11_replace_11 rfl rfl ?_ (Nat.le_of_ble_eq_true rfl) (Nat.le_of_ble_eq_true rfl)
      refine cast (congrFun (congrFun hQ9 _) _) ?_
      refine ⟨_, _, rfl, (fm1.le (q' := 59) (by decide)), h1, sp_X1 (k := 2) ?_ (by decide) th1 R1⟩
      (first | (refine sp_k32_2 ?_ ?_ <;> (first | assumption | (refine Or.inl ?_; assumption) | (refine Or.inr ?_; assumption) | (refine Or.inr (Or.inl ?_); assumption) | (refine Or.inr (Or.inr ?_); assumption) | (refine Or.inr (Or.inr (Or.inl ?_)); assumption) | (refine Or.inr (Or.inr (Or.inr ?_)); assumption) | (refine fun z => Or.elim z ?_ ?_ <;> assumption) | (refine fun z => Or.elim z ?_ (fun z => Or.elim z ?_ ?_) <;> assumption) | (refine fun z => Or.elim z ?_ (fun z => Or.elim z ?_ (fun z => Or.elim z ?_ ?_)) <;> assumption) | (refine fun z => Or.elim z (fun z9 => z9 ?_) ?_ <;> (first | assumption | (refine Or.inl ?_; assumption) | (refine Or.inr (Or.inl ?_); assumption) | (refine Or.inr (Or.inr ?_); assumption) | (refine Or.inr (Or.inr (Or.inl ?_)); assumption) | (refine Or.inr (Or.inr (Or.inr ?_)); assumption))) | (refine Or.inl (fun z => Or.elim z ?_ (fun z => Or.elim z ?_ ?_)) <;> assumption) | (refine Or.inl (fun z => Or.elim z ?_ (fun z => Or.elim z ?_ (fun z => Or.elim z ?_ ?_))) <;> assumption))))
set_option maxRecDepth 100000 in
set_option maxHeartbeats 8000000 in
theorem cx_replaceIf (hl : l.stackTraces = false) (w : z_W) (S : sp_S) (s : z_Z) (t : Int32) (k : Int32) (o : Int32) (y : Int32) (h : z_mst w s) (R : sp_MR S s) (ok : sp_ok S) : z_Con G l mX11_replaceIf 24 2 52 w [.ref 1000, .int t, .int k, .int o, .int y] (fun v w9 => ∃ (r9 : Int32) (s9 : z_Z), v = some (.int r9) ∧ z_fm 59 w w9 ∧ z_mst w9 s9 ∧ s9.1.1 = sp_k32 t (sp_bk k ∨ sp_bv o ∨ sp_bv y) ∧ sp_MR (if sp_k32 t (sp_bk k ∨ sp_bv o ∨ sp_bv y) = 0 then sp_tb S (sp_i t) (sp_rif (sp_srt (sp_i t)) (sp_T S (sp_i t)) (sp_C S 2) (sp_i k) o y) else S) s9 ∧ (sp_k32 t (sp_bk k ∨ sp_bv o ∨ sp_bv y) = 0 → r9 = (sp_rif (sp_srt (sp_i t)) (sp_T S (sp_i t)) (sp_C S 2) (sp_i k) o y).1.getD (-9))) (fun _ _ => False) := by
  generalize hQ9 : (fun (v : Option Value) (w9 : z_W) => ∃ (r9 : Int32) (s9 : z_Z), v = some (.int r9) ∧ z_fm 59 w w9 ∧ z_mst w9 s9 ∧ s9.1.1 = sp_k32 t (sp_bk k ∨ sp_bv o ∨ sp_bv y) ∧ sp_MR (if sp_k32 t (sp_bk k ∨ sp_bv o ∨ sp_bv y) = 0 then sp_tb S (sp_i t) (sp_rif (sp_srt (sp_i t)) (sp_T S (sp_i t)) (sp_C S 2) (sp_i k) o y) else S) s9 ∧ (sp_k32 t (sp_bk k ∨ sp_bv o ∨ sp_bv y) = 0 → r9 = (sp_rif (sp_srt (sp_i t)) (sp_T S (sp_i t)) (sp_C S 2) (sp_i k) o y).1.getD (-9))) = Q9
  refine z_body hl (by decide) rfl (Nat.le_of_ble_eq_true rfl) ?_
  show z_J G l mX11_replaceIf _ 0 [(0, _), (1, _), (2, _), (3, _), (4, _)] [] _ 0 0
  refine j_aload_n dX11_replaceIf_0 rfl rfl ?_
  refine j_iload_n dX11_replaceIf_1 rfl ?_
  refine j_iload_n dX11_replaceIf_2 rfl ?_
  refine j_iload_n dX11_replaceIf_3 rfl ?_
  refine j_callV (q := (RX11, TX11, 8)) dX11_replaceIf_4 kX11_isNoPair lX11_142 inX11_isNoPair seX11_isNoPair h.m rfl (cx_isNoPair hl w S _ _ _ _ h R) (Nat.le_of_ble_eq_true rfl) ⟨(Nat.le_of_ble_eq_true rfl), (Nat.le_of_ble_eq_true rfl)⟩ rfl (Nat.le_of_ble_eq_true rfl) rfl rfl (fun _ _ h => h.elim) ?_
  rintro _ w1 (⟨i1, k1, s1, rfl, hi1, hk1, htt1, hbk1, hbv1, rfl, rfl, fm1, h1, R1, th1⟩ | ⟨s1, rfl, fm1, h1, R1, th1, hno1⟩ | ⟨s1, rfl, fm1, h1, R1, th1, htt1, hP1⟩)
  · have ei1 : sp_i (nI i1) = i1 := sp_in' (by omega)
    have ek1 : sp_i (nI k1) = k1 := sp_in' (by omega)
    refine j_if_ne (tgt := 23) dX11_replaceIf_7 (by decide) (fun c_7_10 => ?_) (fun c_7_10 => ?_)
    · exact absurd c_7_10 (by decide)
    · refine j_aload_n dX11_replaceIf_10 rfl rfl ?_
      refine j_iload dX11_replaceIf_11 rfl ?_
      refine j_callS dX11_replaceIf_13 kX11_isNoValue lX11_79 stX11_isNoValue (cm_isNoValue_r hl w1 _) (Nat.le_of_ble_eq_true rfl) ⟨(Nat.le_of_ble_eq_true rfl), (Nat.le_of_ble_eq_true rfl)⟩ rfl (Nat.le_of_ble_eq_true rfl) rfl rfl (fun _ _ h => h.elim) ?_
      rintro _ _ ⟨⟨rfl, hno491⟩ | ⟨rfl, hye491⟩, hw491⟩
      · refine j_w w1 hw491 ?_
        refine j_iconst (v := 2) dX11_replaceIf_16 (by decide) ?_
        refine j_callV (q := (RX11, TX11, 8)) dX11_replaceIf_17 kX11_refuse lX11_52 inX11_refuse seX11_refuse h1.m rfl (cm_refuse1 hl w1 _ _ h1 th1 (by decide)) (Nat.le_of_ble_eq_true rfl) ⟨(Nat.le_of_ble_eq_true rfl), (Nat.le_of_ble_eq_true rfl)⟩ rfl (Nat.le_of_ble_eq_true rfl) rfl rfl (fun _ _ h => h.elim) ?_
        rintro _ w2 ⟨rfl, fm2, h2⟩
        have R2 := R1.th (k := 2)
        refine j_if_eq (tgt := 25) dX11_replaceIf_20 (by decide) (fun c_20_21 => ?_) (fun c_20_21 => ?_)
        · exact absurd c_20_21 (by decide)
        · refine j_iconst (v := 0) dX11_replaceIf_23 (by decide) ?_
          refine j_iret dX11_replaceIf_24 rfl rfl ?_ (Nat.le_of_ble_eq_true rfl) (Nat.le_of_ble_eq_true rfl)
          refine cast (congrFun (congrFun hQ9 _) _) ?_
          try rw [ei1]
          try rw [ek1]
          refine ⟨_, _, rfl, ((fm1.le (q' := 59) (by decide)).tr (fm2.le (q' := 59) (by decide))), h2, sp_X1 (k := 2) ?_ (by decide) rfl R2⟩
          (first | (refine sp_k32_2 ?_ ?_ <;> (first | assumption | (refine Or.inl ?_; assumption) | (refine Or.inr ?_; assumption) | (refine Or.inr (Or.inl ?_); assumption) | (refine Or.inr (Or.inr ?_); assumption) | (refine Or.inr (Or.inr (Or.inl ?_)); assumption) | (refine Or.inr (Or.inr (Or.inr ?_)); assumption) | (refine fun z => Or.elim z ?_ ?_ <;> assumption) | (refine fun z => Or.elim z ?_ (fun z => Or.elim z ?_ ?_) <;> assumption) | (refine fun z => Or.elim z ?_ (fun z => Or.elim z ?_ (fun z => Or.elim z ?_ ?_)) <;> assumption) | (refine fun z => Or.elim z (fun z9 => z9 ?_) ?_ <;> (first | assumption | (refine Or.inl ?_; assumption) | (refine Or.inr (Or.inl ?_); assumption) | (refine Or.inr (Or.inr ?_); assumption) | (refine Or.inr (Or.inr (Or.inl ?_)); assumption) | (refine Or.inr (Or.inr (Or.inr ?_)); assumption))) | (refine Or.inl (fun z => Or.elim z ?_ (fun z => Or.elim z ?_ ?_)) <;> assumption) | (refine Or.inl (fun z => Or.elim z ?_ (fun z => Or.elim z ?_ (fun z => Or.elim z ?_ ?_))) <;> assumption))))
      · refine j_w w1 hw491 ?_
        refine j_iconst (v := 2) dX11_replaceIf_16 (by decide) ?_
        refine j_callV (q := (RX11, TX11, 8)) dX11_replaceIf_17 kX11_refuse lX11_52 inX11_refuse seX11_refuse h1.m rfl (cm_refuse0 hl w1 _ _ h1 th1) (Nat.le_of_ble_eq_true rfl) ⟨(Nat.le_of_ble_eq_true rfl), (Nat.le_of_ble_eq_true rfl)⟩ rfl (Nat.le_of_ble_eq_true rfl) rfl rfl (fun _ _ h => h.elim) ?_
        rintro _ _ ⟨rfl, hw492⟩
        refine j_w w1 hw492 ?_
        refine j_if_eq (tgt := 25) dX11_replaceIf_20 (by decide) (fun c_20_35 => ?_) (fun c_20_35 => ?_)
        · refine j_aload_n dX11_replaceIf_25 rfl rfl ?_
          refine j_iload_n dX11_replaceIf_26 rfl ?_
          refine j_iload_n dX11_replaceIf_27 rfl ?_
          refine j_callV (q := (RX11, TX11, 8)) dX11_replaceIf_28 kX11_valueOf lX11_145 inX11_valueOf seX11_valueOf h1.m rfl (cx_valueOf hl w1 S _ (i1) (k1) h1 R1 (by omega) (by omega)) (Nat.le_of_ble_eq_true rfl) ⟨(Nat.le_of_ble_eq_true rfl), (Nat.le_of_ble_eq_true rfl)⟩ rfl (Nat.le_of_ble_eq_true rfl) rfl rfl (fun _ _ h => h.elim) ?_
          rintro _ _ ⟨rfl, hw493⟩
          refine j_w w1 hw493 ?_
          refine j_iload_n dX11_replaceIf_31 rfl ?_
          refine j_icmp_ne (tgt := 39) dX11_replaceIf_32 (by decide) (fun c_32_43 => ?_) (fun c_32_43 => ?_)
          · refine j_iconst (v := 0) dX11_replaceIf_39 (by decide) ?_
            refine j_istore (lo' := [(5, _), (0, _), (1, _), (2, _), (3, _), (4, _)]) dX11_replaceIf_40 (by decide) rfl ?_
            refine j_iload dX11_replaceIf_42 rfl ?_
            refine j_if_eq (tgt := 55) dX11_replaceIf_44 (by decide) (fun c_44_47 => ?_) (fun c_44_47 => ?_)
            · refine j_iload dX11_replaceIf_55 rfl ?_
              refine j_iret dX11_replaceIf_57 rfl rfl ?_ (Nat.le_of_ble_eq_true rfl) (Nat.le_of_ble_eq_true rfl)
              refine cast (congrFun (congrFun hQ9 _) _) ?_
              try rw [ei1]
              try rw [ek1]
              refine ⟨_, _, rfl, (fm1.le (q' := 59) (by decide)), h1, sp_X0 ?_ th1 (by rw [sp_rif, if_neg c_32_43, sp_tb_id]; exact R1) (by rw [sp_rif, if_neg c_32_43]; rfl)⟩
              (first | (refine sp_k32_0 ?_ ?_ <;> (first | assumption | (refine Or.inl ?_; assumption) | (refine Or.inr ?_; assumption) | (refine Or.inr (Or.inl ?_); assumption) | (refine Or.inr (Or.inr ?_); assumption) | (refine Or.inr (Or.inr (Or.inl ?_)); assumption) | (refine Or.inr (Or.inr (Or.inr ?_)); assumption) | (refine fun z => Or.elim z ?_ ?_ <;> assumption) | (refine fun z => Or.elim z ?_ (fun z => Or.elim z ?_ ?_) <;> assumption) | (refine fun z => Or.elim z ?_ (fun z => Or.elim z ?_ (fun z => Or.elim z ?_ ?_)) <;> assumption) | (refine fun z => Or.elim z (fun z9 => z9 ?_) ?_ <;> (first | assumption | (refine Or.inl ?_; assumption) | (refine Or.inr (Or.inl ?_); assumption) | (refine Or.inr (Or.inr ?_); assumption) | (refine Or.inr (Or.inr (Or.inl ?_)); assumption) | (refine Or.inr (Or.inr (Or.inr ?_)); assumption))) | (refine Or.inl (fun z => Or.elim z ?_ (fun z => Or.elim z ?_ ?_)) <;> assumption) | (refine Or.inl (fun z => Or.elim z ?_ (fun z => Or.elim z ?_ (fun z => Or.elim z ?_ ?_))) <;> assumption))))
            · exact absurd c_44_47 (by decide)
          · refine j_iconst (v := 1) dX11_replaceIf_35 (by decide) ?_
            refine j_goto (tgt := 40) dX11_replaceIf_36 (by decide) ?_
            refine j_istore (lo' := [(5, _), (0, _), (1, _), (2, _), (3, _), (4, _)]) dX11_replaceIf_40 (by decide) rfl ?_
            refine j_iload dX11_replaceIf_42 rfl ?_
            refine j_if_eq (tgt := 55) dX11_replaceIf_44 (by decide) (fun c_44_60 => ?_) (fun c_44_60 => ?_)
            · exact absurd c_44_60 (by decide)
            · refine j_aload_n dX11_replaceIf_47 rfl rfl ?_
              refine j_iload_n dX11_replaceIf_48 rfl ?_
              refine j_iload_n dX11_replaceIf_49 rfl ?_
              refine j_iload dX11_replaceIf_50 rfl ?_
              refine j_callV (q := (RX11, TX11, 8)) dX11_replaceIf_52 kX11_lay lX11_147 inX11_lay seX11_lay h1.m rfl (cx_lay hl w1 S _ (i1) (k1) _ h1 R1 (by omega) (by omega) (ok.2.1 (i1) (by omega))) (Nat.le_of_ble_eq_true rfl) ⟨(Nat.le_of_ble_eq_true rfl), (Nat.le_of_ble_eq_true rfl)⟩ rfl (Nat.le_of_ble_eq_true rfl) rfl rfl (fun _ _ h => h.elim) ?_
              rintro _ w3 ⟨rfl, s3, fm3, h3, R3, th3⟩
              have tx3 := th3.trans th1
              refine j_iload dX11_replaceIf_55 rfl ?_
              refine j_iret dX11_replaceIf_57 rfl rfl ?_ (Nat.le_of_ble_eq_true rfl) (Nat.le_of_ble_eq_true rfl)
              refine cast (congrFun (congrFun hQ9 _) _) ?_
              try rw [ei1]
              try rw [ek1]
              refine ⟨_, _, rfl, ((fm1.le (q' := 59) (by decide)).tr (fm3.le (q' := 59) (by decide))), h3, sp_X0 ?_ tx3 (by rw [sp_rif, if_pos c_32_43]; exact R3) (by rw [sp_rif, if_pos c_32_43]; rfl)⟩
              (first | (refine sp_k32_0 ?_ ?_ <;> (first | assumption | (refine Or.inl ?_; assumption) | (refine Or.inr ?_; assumption) | (refine Or.inr (Or.inl ?_); assumption) | (refine Or.inr (Or.inr ?_); assumption) | (refine Or.inr (Or.inr (Or.inl ?_)); assumption) | (refine Or.inr (Or.inr (Or.inr ?_)); assumption) | (refine fun z => Or.elim z ?_ ?_ <;> assumption) | (refine fun z => Or.elim z ?_ (fun z => Or.elim z ?_ ?_) <;> assumption) | (refine fun z => Or.elim z ?_ (fun z => Or.elim z ?_ (fun z => Or.elim z ?_ ?_)) <;> assumption) | (refine fun z => Or.elim z (fun z9 => z9 ?_) ?_ <;> (first | assumption | (refine Or.inl ?_; assumption) | (refine Or.inr (Or.inl ?_); assumption) | (refine Or.inr (Or.inr ?_); assumption) | (refine Or.inr (Or.inr (Or.inl ?_)); assumption) | (refine Or.inr (Or.inr (Or.inr ?_)); assumption))) | (refine Or.inl (fun z => Or.elim z ?_ (fun z => Or.elim z ?_ ?_)) <;> assumption) | (refine Or.inl (fun z => Or.elim z ?_ (fun z => Or.elim z ?_ (fun z => Or.elim z ?_ ?_))) <;> assumption))))
        · exact absurd c_20_35 (by decide)
  · refine j_if_ne (tgt := 23) dX11_replaceIf_7 (by decide) (fun c_7_77 => ?_) (fun c_7_77 => ?_)
    · refine j_iconst (v := 0) dX11_replaceIf_23 (by decide) ?_
      refine j_iret dX11_replaceIf_24 rfl rfl ?_ (Nat.le_of_ble_eq_true rfl) (Nat.le_of_ble_eq_true rfl)
      refine cast (congrFun (congrFun hQ9 _) _) ?_
      refine ⟨_, _, rfl, (fm1.le (q' := 59) (by decide)), h1, sp_X1 (k := 1) ?_ (by decide) th1 R1⟩
      (first | (refine sp_k32_1 ?_ <;> (first | assumption | (refine Or.inl ?_; assumption) | (refine Or.inr ?_; assumption) | (refine Or.inr (Or.inl ?_); assumption) | (refine Or.inr (Or.inr ?_); assumption) | (refine Or.inr (Or.inr (Or.inl ?_)); assumption) | (refine Or.inr (Or.inr (Or.inr ?_)); assumption) | (refine fun z => Or.elim z ?_ ?_ <;> assumption) | (refine fun z => Or.elim z ?_ (fun z => Or.elim z ?_ ?_) <;> assumption) | (refine fun z => Or.elim z ?_ (fun z => Or.elim z ?_ (fun z => Or.elim z ?_ ?_)) <;> assumption) | (refine fun z => Or.elim z (fun z9 => z9 ?_) ?_ <;> (first | assumption | (refine Or.inl ?_; assumption) | (refine Or.inr (Or.inl ?_); assumption) | (refine Or.inr (Or.inr ?_); assumption) | (refine Or.inr (Or.inr (Or.inl ?_)); assumption) | (refine Or.inr (Or.inr (Or.inr ?_)); assumption))) | (refine Or.inl (fun z => Or.elim z ?_ (fun z => Or.elim z ?_ ?_)) <;> assumption) | (refine Or.inl (fun z => Or.elim z ?_ (fun z => Or.elim z ?_ (fun z => Or.elim z ?_ ?_))) <;> assumption))))
    · exact absurd c_7_77 (by decide)
  · have hP9 : sp_bk k ∨ sp_bv o ∨ sp_bv y := hP1.elim Or.inl (fun z9 => Or.inr (Or.inl z9))
    refine j_if_ne (tgt := 23) dX11_replaceIf_7 (by decide) (fun c_7_85 => ?_) (fun c_7_85 => ?_)
    · refine j_iconst (v := 0) dX11_replaceIf_23 (by decide) ?_
      refine j_iret dX11_replaceIf_24 rfl rfl ?_ (Nat.le_of_ble_eq_true rfl) (Nat.le_of_ble_eq_true rfl)
      refine cast (congrFun (congrFun hQ9 _) _) ?_
      refine ⟨_, _, rfl, (fm1.le (q' := 59) (by decide)), h1, sp_X1 (k := 2) ?_ (by decide) th1 R1⟩
      (first | (refine sp_k32_2 ?_ ?_ <;> (first | assumption | (refine Or.inl ?_; assumption) | (refine Or.inr ?_; assumption) | (refine Or.inr (Or.inl ?_); assumption) | (refine Or.inr (Or.inr ?_); assumption) | (refine Or.inr (Or.inr (Or.inl ?_)); assumption) | (refine Or.inr (Or.inr (Or.inr ?_)); assumption) | (refine fun z => Or.elim z ?_ ?_ <;> assumption) | (refine fun z => Or.elim z ?_ (fun z => Or.elim z ?_ ?_) <;> assumption) | (refine fun z => Or.elim z ?_ (fun z => Or.elim z ?_ (fun z => Or.elim z ?_ ?_)) <;> assumption) | (refine fun z => Or.elim z (fun z9 => z9 ?_) ?_ <;> (first | assumption | (refine Or.inl ?_; assumption) | (refine Or.inr (Or.inl ?_); assumption) | (refine Or.inr (Or.inr ?_); assumption) | (refine Or.inr (Or.inr (Or.inl ?_)); assumption) | (refine Or.inr (Or.inr (Or.inr ?_)); assumption))) | (refine Or.inl (fun z => Or.elim z ?_ (fun z => Or.elim z ?_ ?_)) <;> assumption) | (refine Or.inl (fun z => Or.elim z ?_ (fun z => Or.elim z ?_ (fun z => Or.elim z ?_ ?_))) <;> assumption))))
    · exact absurd c_7_85 (by decide)
set_option maxRecDepth 100000 in
set_option maxHeartbeats 8000000 in
theorem cx_removePair (hl : l.stackTraces = false) (w : z_W) (S : sp_S) (s : z_Z) (t : Int32) (k : Int32) (y : Int32) (h : z_mst w s) (R : sp_MR S s) (ok : sp_ok S) : z_Con G l mX11_removePair 24 2 52 w [.ref 1000, .int t, .int k, .int y] (fun v w9 => ∃ (r9 : Int32) (s9 : z_Z), v = some (.int r9) ∧ z_fm 59 w w9 ∧ z_mst w9 s9 ∧ s9.1.1 = sp_k32 t (sp_bk k ∨ sp_bv y) ∧ sp_MR (if sp_k32 t (sp_bk k ∨ sp_bv y) = 0 then sp_tb S (sp_i t) (sp_rmp (sp_T S (sp_i t)) (sp_C S 2) (sp_i k) y) else S) s9 ∧ (sp_k32 t (sp_bk k ∨ sp_bv y) = 0 → r9 = (sp_rmp (sp_T S (sp_i t)) (sp_C S 2) (sp_i k) y).1.getD (-9))) (fun _ _ => False) := by
  generalize hQ9 : (fun (v : Option Value) (w9 : z_W) => ∃ (r9 : Int32) (s9 : z_Z), v = some (.int r9) ∧ z_fm 59 w w9 ∧ z_mst w9 s9 ∧ s9.1.1 = sp_k32 t (sp_bk k ∨ sp_bv y) ∧ sp_MR (if sp_k32 t (sp_bk k ∨ sp_bv y) = 0 then sp_tb S (sp_i t) (sp_rmp (sp_T S (sp_i t)) (sp_C S 2) (sp_i k) y) else S) s9 ∧ (sp_k32 t (sp_bk k ∨ sp_bv y) = 0 → r9 = (sp_rmp (sp_T S (sp_i t)) (sp_C S 2) (sp_i k) y).1.getD (-9))) = Q9
  refine z_body hl (by decide) rfl (Nat.le_of_ble_eq_true rfl) ?_
  show z_J G l mX11_removePair _ 0 [(0, _), (1, _), (2, _), (3, _)] [] _ 0 0
  refine j_aload_n dX11_removePair_0 rfl rfl ?_
  refine j_iload_n dX11_removePair_1 rfl ?_
  refine j_iload_n dX11_removePair_2 rfl ?_
  refine j_iload_n dX11_removePair_3 rfl ?_
  refine j_callV (q := (RX11, TX11, 8)) dX11_removePair_4 kX11_isNoPair lX11_142 inX11_isNoPair seX11_isNoPair h.m rfl (cx_isNoPair hl w S _ _ _ _ h R) (Nat.le_of_ble_eq_true rfl) ⟨(Nat.le_of_ble_eq_true rfl), (Nat.le_of_ble_eq_true rfl)⟩ rfl (Nat.le_of_ble_eq_true rfl) rfl rfl (fun _ _ h => h.elim) ?_
  rintro _ w1 (⟨i1, k1, s1, rfl, hi1, hk1, htt1, hbk1, hbv1, rfl, rfl, fm1, h1, R1, th1⟩ | ⟨s1, rfl, fm1, h1, R1, th1, hno1⟩ | ⟨s1, rfl, fm1, h1, R1, th1, htt1, hP1⟩)
  · have ei1 : sp_i (nI i1) = i1 := sp_in' (by omega)
    have ek1 : sp_i (nI k1) = k1 := sp_in' (by omega)
    refine j_if_eq (tgt := 12) dX11_removePair_7 (by decide) (fun c_7_10 => ?_) (fun c_7_10 => ?_)
    · refine j_aload_n dX11_removePair_12 rfl rfl ?_
      refine j_iload_n dX11_removePair_13 rfl ?_
      refine j_iload_n dX11_removePair_14 rfl ?_
      refine j_callV (q := (RX11, TX11, 8)) dX11_removePair_15 kX11_valueOf lX11_145 inX11_valueOf seX11_valueOf h1.m rfl (cx_valueOf hl w1 S _ (i1) (k1) h1 R1 (by omega) (by omega)) (Nat.le_of_ble_eq_true rfl) ⟨(Nat.le_of_ble_eq_true rfl), (Nat.le_of_ble_eq_true rfl)⟩ rfl (Nat.le_of_ble_eq_true rfl) rfl rfl (fun _ _ h => h.elim) ?_
      rintro _ _ ⟨rfl, hw494⟩
      refine j_w w1 hw494 ?_
      refine j_iload_n dX11_removePair_18 rfl ?_
      refine j_icmp_ne (tgt := 26) dX11_removePair_19 (by decide) (fun c_19_18 => ?_) (fun c_19_18 => ?_)
      · refine j_iconst (v := 0) dX11_removePair_26 (by decide) ?_
        refine j_istore (lo' := [(4, _), (0, _), (1, _), (2, _), (3, _)]) dX11_removePair_27 (by decide) rfl ?_
        refine j_iload dX11_removePair_29 rfl ?_
        refine j_if_eq (tgt := 40) dX11_removePair_31 (by decide) (fun c_31_22 => ?_) (fun c_31_22 => ?_)
        · refine j_iload dX11_removePair_40 rfl ?_
          refine j_iret dX11_removePair_42 rfl rfl ?_ (Nat.le_of_ble_eq_true rfl) (Nat.le_of_ble_eq_true rfl)
          refine cast (congrFun (congrFun hQ9 _) _) ?_
          try rw [ei1]
          try rw [ek1]
          refine ⟨_, _, rfl, (fm1.le (q' := 59) (by decide)), h1, sp_X0 ?_ th1 (by rw [sp_rmp, if_neg c_19_18, sp_tb_id]; exact R1) (by rw [sp_rmp, if_neg c_19_18]; rfl)⟩
          (first | (refine sp_k32_0 ?_ ?_ <;> (first | assumption | (refine Or.inl ?_; assumption) | (refine Or.inr ?_; assumption) | (refine Or.inr (Or.inl ?_); assumption) | (refine Or.inr (Or.inr ?_); assumption) | (refine Or.inr (Or.inr (Or.inl ?_)); assumption) | (refine Or.inr (Or.inr (Or.inr ?_)); assumption) | (refine fun z => Or.elim z ?_ ?_ <;> assumption) | (refine fun z => Or.elim z ?_ (fun z => Or.elim z ?_ ?_) <;> assumption) | (refine fun z => Or.elim z ?_ (fun z => Or.elim z ?_ (fun z => Or.elim z ?_ ?_)) <;> assumption) | (refine fun z => Or.elim z (fun z9 => z9 ?_) ?_ <;> (first | assumption | (refine Or.inl ?_; assumption) | (refine Or.inr (Or.inl ?_); assumption) | (refine Or.inr (Or.inr ?_); assumption) | (refine Or.inr (Or.inr (Or.inl ?_)); assumption) | (refine Or.inr (Or.inr (Or.inr ?_)); assumption))) | (refine Or.inl (fun z => Or.elim z ?_ (fun z => Or.elim z ?_ ?_)) <;> assumption) | (refine Or.inl (fun z => Or.elim z ?_ (fun z => Or.elim z ?_ (fun z => Or.elim z ?_ ?_))) <;> assumption))))
        · exact absurd c_31_22 (by decide)
      · refine j_iconst (v := 1) dX11_removePair_22 (by decide) ?_
        refine j_goto (tgt := 27) dX11_removePair_23 (by decide) ?_
        refine j_istore (lo' := [(4, _), (0, _), (1, _), (2, _), (3, _)]) dX11_removePair_27 (by decide) rfl ?_
        refine j_iload dX11_removePair_29 rfl ?_
        refine j_if_eq (tgt := 40) dX11_removePair_31 (by decide) (fun c_31_35 => ?_) (fun c_31_35 => ?_)
        · exact absurd c_31_35 (by decide)
        · refine j_aload_n dX11_removePair_34 rfl rfl ?_
          refine j_iload_n dX11_removePair_35 rfl ?_
          refine j_iload_n dX11_removePair_36 rfl ?_
          refine j_callV (q := (RX11, TX11, 8)) dX11_removePair_37 kX11_go lX11_151 inX11_go seX11_go h1.m rfl (cx_go hl w1 S _ (i1) (k1) h1 R1 (by omega) (by omega) (ok.2.1 (i1) (by omega))) (Nat.le_of_ble_eq_true rfl) ⟨(Nat.le_of_ble_eq_true rfl), (Nat.le_of_ble_eq_true rfl)⟩ rfl (Nat.le_of_ble_eq_true rfl) rfl rfl (fun _ _ h => h.elim) ?_
          rintro _ w2 ⟨rfl, s2, fm2, h2, R2, th2⟩
          have tx2 := th2.trans th1
          refine j_iload dX11_removePair_40 rfl ?_
          refine j_iret dX11_removePair_42 rfl rfl ?_ (Nat.le_of_ble_eq_true rfl) (Nat.le_of_ble_eq_true rfl)
          refine cast (congrFun (congrFun hQ9 _) _) ?_
          try rw [ei1]
          try rw [ek1]
          refine ⟨_, _, rfl, ((fm1.le (q' := 59) (by decide)).tr (fm2.le (q' := 59) (by decide))), h2, sp_X0 ?_ tx2 (by rw [sp_rmp, if_pos c_19_18]; exact R2) (by rw [sp_rmp, if_pos c_19_18]; rfl)⟩
          (first | (refine sp_k32_0 ?_ ?_ <;> (first | assumption | (refine Or.inl ?_; assumption) | (refine Or.inr ?_; assumption) | (refine Or.inr (Or.inl ?_); assumption) | (refine Or.inr (Or.inr ?_); assumption) | (refine Or.inr (Or.inr (Or.inl ?_)); assumption) | (refine Or.inr (Or.inr (Or.inr ?_)); assumption) | (refine fun z => Or.elim z ?_ ?_ <;> assumption) | (refine fun z => Or.elim z ?_ (fun z => Or.elim z ?_ ?_) <;> assumption) | (refine fun z => Or.elim z ?_ (fun z => Or.elim z ?_ (fun z => Or.elim z ?_ ?_)) <;> assumption) | (refine fun z => Or.elim z (fun z9 => z9 ?_) ?_ <;> (first | assumption | (refine Or.inl ?_; assumption) | (refine Or.inr (Or.inl ?_); assumption) | (refine Or.inr (Or.inr ?_); assumption) | (refine Or.inr (Or.inr (Or.inl ?_)); assumption) | (refine Or.inr (Or.inr (Or.inr ?_)); assumption))) | (refine Or.inl (fun z => Or.elim z ?_ (fun z => Or.elim z ?_ ?_)) <;> assumption) | (refine Or.inl (fun z => Or.elim z ?_ (fun z => Or.elim z ?_ (fun z => Or.elim z ?_ ?_))) <;> assumption))))
    · exact absurd c_7_10 (by decide)
  · refine j_if_eq (tgt := 12) dX11_removePair_7 (by decide) (fun c_7_51 => ?_) (fun c_7_51 => ?_)
    · exact absurd c_7_51 (by decide)
    · refine j_iconst (v := 0) dX11_removePair_10 (by decide) ?_
      refine j_iret dX11_removePair_11 rfl rfl ?_ (Nat.le_of_ble_eq_true rfl) (Nat.le_of_ble_eq_true rfl)
      refine cast (congrFun (congrFun hQ9 _) _) ?_
      refine ⟨_, _, rfl, (fm1.le (q' := 59) (by decide)), h1, sp_X1 (k := 1) ?_ (by decide) th1 R1⟩
      (first | (refine sp_k32_1 ?_ <;> (first | assumption | (refine Or.inl ?_; assumption) | (refine Or.inr ?_; assumption) | (refine Or.inr (Or.inl ?_); assumption) | (refine Or.inr (Or.inr ?_); assumption) | (refine Or.inr (Or.inr (Or.inl ?_)); assumption) | (refine Or.inr (Or.inr (Or.inr ?_)); assumption) | (refine fun z => Or.elim z ?_ ?_ <;> assumption) | (refine fun z => Or.elim z ?_ (fun z => Or.elim z ?_ ?_) <;> assumption) | (refine fun z => Or.elim z ?_ (fun z => Or.elim z ?_ (fun z => Or.elim z ?_ ?_)) <;> assumption) | (refine fun z => Or.elim z (fun z9 => z9 ?_) ?_ <;> (first | assumption | (refine Or.inl ?_; assumption) | (refine Or.inr (Or.inl ?_); assumption) | (refine Or.inr (Or.inr ?_); assumption) | (refine Or.inr (Or.inr (Or.inl ?_)); assumption) | (refine Or.inr (Or.inr (Or.inr ?_)); assumption))) | (refine Or.inl (fun z => Or.elim z ?_ (fun z => Or.elim z ?_ ?_)) <;> assumption) | (refine Or.inl (fun z => Or.elim z ?_ (fun z => Or.elim z ?_ (fun z => Or.elim z ?_ ?_))) <;> assumption))))
  · refine j_if_eq (tgt := 12) dX11_removePair_7 (by decide) (fun c_7_58 => ?_) (fun c_7_58 => ?_)
    · exact absurd c_7_58 (by decide)
    · refine j_iconst (v := 0) dX11_removePair_10 (by decide) ?_
      refine j_iret dX11_removePair_11 rfl rfl ?_ (Nat.le_of_ble_eq_true rfl) (Nat.le_of_ble_eq_true rfl)
      refine cast (congrFun (congrFun hQ9 _) _) ?_
      refine ⟨_, _, rfl, (fm1.le (q' := 59) (by decide)), h1, sp_X1 (k := 2) ?_ (by decide) th1 R1⟩
      (first | (refine sp_k32_2 ?_ ?_ <;> (first | assumption | (refine Or.inl ?_; assumption) | (refine Or.inr ?_; assumption) | (refine Or.inr (Or.inl ?_); assumption) | (refine Or.inr (Or.inr ?_); assumption) | (refine Or.inr (Or.inr (Or.inl ?_)); assumption) | (refine Or.inr (Or.inr (Or.inr ?_)); assumption) | (refine fun z => Or.elim z ?_ ?_ <;> assumption) | (refine fun z => Or.elim z ?_ (fun z => Or.elim z ?_ ?_) <;> assumption) | (refine fun z => Or.elim z ?_ (fun z => Or.elim z ?_ (fun z => Or.elim z ?_ ?_)) <;> assumption) | (refine fun z => Or.elim z (fun z9 => z9 ?_) ?_ <;> (first | assumption | (refine Or.inl ?_; assumption) | (refine Or.inr (Or.inl ?_); assumption) | (refine Or.inr (Or.inr ?_); assumption) | (refine Or.inr (Or.inr (Or.inl ?_)); assumption) | (refine Or.inr (Or.inr (Or.inr ?_)); assumption))) | (refine Or.inl (fun z => Or.elim z ?_ (fun z => Or.elim z ?_ ?_)) <;> assumption) | (refine Or.inl (fun z => Or.elim z ?_ (fun z => Or.elim z ?_ (fun z => Or.elim z ?_ ?_))) <;> assumption))))
theorem sp_becf {b : Bool} {T : List (Nat × Int32)} {c : Nat → Int32} {k : Nat} {o : Option Int32} : (sp_bec b T c k o).1 = o := by
  cases o with
  | none => rfl
  | some y =>
    unfold sp_bec
    by_cases h : y = -1000
    · simp only [if_pos h]
      by_cases h2 : sp_lk T k = -1000
      · simp only [if_pos h2]
      · simp only [if_neg h2]
    · simp only [if_neg h]
theorem sp_bec_v {b : Bool} {T : List (Nat × Int32)} {c : Nat → Int32} {k : Nat} {y : Int32} (h : ¬ sp_bv y) : sp_bec b T c k (some y) = (some y, sp_pt b T k y, z_bp c 5) := if_neg (sp_vln (q_nor h))
set_option maxRecDepth 100000 in
set_option maxHeartbeats 8000000 in
theorem cx_computeIfAbsent (hl : l.stackTraces = false) (w : z_W) (S : sp_S) (s : z_Z) (t : Int32) (k : Int32) (r : Int32) (n : Int32) (h : z_mst w s) (R : sp_MR S s) (ok : sp_ok S) : z_Con G l mX11_computeIfAbsent 26 2 52 w [.ref 1000, .int t, .int k, .int r, .int n] (fun v w9 => ∃ (r9 : Int32) (s9 : z_Z), v = some (.int r9) ∧ z_fm 59 w w9 ∧ z_mst w9 s9 ∧ s9.1.1 = sp_k32 t (sp_bk k ∨ (r < 0 ∨ 5 < r) ∨ sp_bv n) ∧ sp_MR (if sp_k32 t (sp_bk k ∨ (r < 0 ∨ 5 < r) ∨ sp_bv n) = 0 then sp_tb S (sp_i t) (sp_cia (sp_srt (sp_i t)) (sp_T S (sp_i t)) (sp_C S 2) (sp_i k) r n) else S) s9 ∧ (sp_k32 t (sp_bk k ∨ (r < 0 ∨ 5 < r) ∨ sp_bv n) = 0 → r9 = (sp_cia (sp_srt (sp_i t)) (sp_T S (sp_i t)) (sp_C S 2) (sp_i k) r n).1.getD (-9))) (fun _ _ => False) := by
  generalize hQ9 : (fun (v : Option Value) (w9 : z_W) => ∃ (r9 : Int32) (s9 : z_Z), v = some (.int r9) ∧ z_fm 59 w w9 ∧ z_mst w9 s9 ∧ s9.1.1 = sp_k32 t (sp_bk k ∨ (r < 0 ∨ 5 < r) ∨ sp_bv n) ∧ sp_MR (if sp_k32 t (sp_bk k ∨ (r < 0 ∨ 5 < r) ∨ sp_bv n) = 0 then sp_tb S (sp_i t) (sp_cia (sp_srt (sp_i t)) (sp_T S (sp_i t)) (sp_C S 2) (sp_i k) r n) else S) s9 ∧ (sp_k32 t (sp_bk k ∨ (r < 0 ∨ 5 < r) ∨ sp_bv n) = 0 → r9 = (sp_cia (sp_srt (sp_i t)) (sp_T S (sp_i t)) (sp_C S 2) (sp_i k) r n).1.getD (-9))) = Q9
  refine z_body hl (by decide) rfl (Nat.le_of_ble_eq_true rfl) ?_
  show z_J G l mX11_computeIfAbsent _ 0 [(0, _), (1, _), (2, _), (3, _), (4, _)] [] _ 0 0
  refine j_aload_n dX11_computeIfAbsent_0 rfl rfl ?_
  refine j_iload_n dX11_computeIfAbsent_1 rfl ?_
  refine j_iload_n dX11_computeIfAbsent_2 rfl ?_
  refine j_iload_n dX11_computeIfAbsent_3 rfl ?_
  refine j_iload dX11_computeIfAbsent_4 rfl ?_
  refine j_callV (q := (RX11, TX11, 8)) dX11_computeIfAbsent_6 kX11_isNoRule lX11_155 inX11_isNoRule seX11_isNoRule h.m rfl (cx_isNoRule hl w S _ _ _ _ _ h R) (Nat.le_of_ble_eq_true rfl) ⟨(Nat.le_of_ble_eq_true rfl), (Nat.le_of_ble_eq_true rfl)⟩ rfl (Nat.le_of_ble_eq_true rfl) rfl rfl (fun _ _ h => h.elim) ?_
  rintro _ w1 (⟨i1, k1, s1, rfl, hi1, hk1, htt1, hbk1, hbr1, hbv1, rfl, rfl, fm1, h1, R1, th1⟩ | ⟨s1, rfl, fm1, h1, R1, th1, hno1⟩ | ⟨s1, rfl, fm1, h1, R1, th1, htt1, hP1⟩)
  · have ei1 : sp_i (nI i1) = i1 := sp_in' (by omega)
    have ek1 : sp_i (nI k1) = k1 := sp_in' (by omega)
    refine j_if_eq (tgt := 14) dX11_computeIfAbsent_9 (by decide) (fun c_9_11 => ?_) (fun c_9_11 => ?_)
    · refine j_aload_n dX11_computeIfAbsent_14 rfl rfl ?_
      refine j_iload_n dX11_computeIfAbsent_15 rfl ?_
      refine j_iload_n dX11_computeIfAbsent_16 rfl ?_
      refine j_callV (q := (RX11, TX11, 8)) dX11_computeIfAbsent_17 kX11_valueOf lX11_145 inX11_valueOf seX11_valueOf h1.m rfl (cx_valueOf hl w1 S _ (i1) (k1) h1 R1 (by omega) (by omega)) (Nat.le_of_ble_eq_true rfl) ⟨(Nat.le_of_ble_eq_true rfl), (Nat.le_of_ble_eq_true rfl)⟩ rfl (Nat.le_of_ble_eq_true rfl) rfl rfl (fun _ _ h => h.elim) ?_
      rintro _ _ ⟨rfl, hw495⟩
      refine j_w w1 hw495 ?_
      refine j_istore (lo' := [(5, _), (0, _), (1, _), (2, _), (3, _), (4, _)]) dX11_computeIfAbsent_20 (by decide) rfl ?_
      refine j_iload dX11_computeIfAbsent_22 rfl ?_
      refine j_sipush (v := (-1000)) dX11_computeIfAbsent_24 (by decide) ?_
      refine j_icmp_eq (tgt := 35) dX11_computeIfAbsent_27 (by decide) (fun c_27_21 => ?_) (fun c_27_21 => ?_)
      · refine j_aload_n dX11_computeIfAbsent_35 rfl rfl ?_
        refine j_iload_n dX11_computeIfAbsent_36 rfl ?_
        refine j_iload_n dX11_computeIfAbsent_37 rfl ?_
        refine j_iload_n dX11_computeIfAbsent_38 rfl ?_
        refine j_iload_n dX11_computeIfAbsent_39 rfl ?_
        refine j_iconst (v := 0) dX11_computeIfAbsent_40 (by decide) ?_
        refine j_iload dX11_computeIfAbsent_41 rfl ?_
        refine j_callS dX11_computeIfAbsent_43 kX11_rule lX11_115 stX11_rule (cm_rule_r hl w1 _ _ _ _ (by decide) (sp_vl (by assumption)).2) (Nat.le_of_ble_eq_true rfl) ⟨(Nat.le_of_ble_eq_true rfl), (Nat.le_of_ble_eq_true rfl)⟩ rfl (Nat.le_of_ble_eq_true rfl) rfl rfl (fun _ _ h => h.elim) ?_
        rintro _ _ ⟨⟨rfl, hq496⟩ | ⟨y496, rfl, hq496, hne496⟩, hw496⟩
        · refine j_w w1 hw496 ?_
          refine j_callV (q := (RX11, TX11, 8)) dX11_computeIfAbsent_46 kX11_become lX11_159 inX11_become seX11_become h1.m rfl (cx_become_n hl w1 S _ (i1) (k1) h1 R1 (by omega) (by omega) (ok.2.1 (i1) (by omega))) (Nat.le_of_ble_eq_true rfl) ⟨(Nat.le_of_ble_eq_true rfl), (Nat.le_of_ble_eq_true rfl)⟩ rfl (Nat.le_of_ble_eq_true rfl) rfl rfl (fun _ _ h => h.elim) ?_
          rintro _ w2 ⟨s2, rfl, fm2, h2, R2, th2⟩
          have tx2 := th2.trans th1
          refine j_iret dX11_computeIfAbsent_49 rfl rfl ?_ (Nat.le_of_ble_eq_true rfl) (Nat.le_of_ble_eq_true rfl)
          refine cast (congrFun (congrFun hQ9 _) _) ?_
          try rw [ei1]
          try rw [ek1]
          refine ⟨_, _, rfl, ((fm1.le (q' := 59) (by decide)).tr (fm2.le (q' := 59) (by decide))), h2, sp_X0 ?_ tx2 (by rw [sp_cia, if_pos c_27_21, hq496]; exact R2) (by rw [sp_cia, if_pos c_27_21, hq496, sp_becf])⟩
          (first | (refine sp_k32_0 ?_ ?_ <;> (first | assumption | (refine Or.inl ?_; assumption) | (refine Or.inr ?_; assumption) | (refine Or.inr (Or.inl ?_); assumption) | (refine Or.inr (Or.inr ?_); assumption) | (refine Or.inr (Or.inr (Or.inl ?_)); assumption) | (refine Or.inr (Or.inr (Or.inr ?_)); assumption) | (refine fun z => Or.elim z ?_ ?_ <;> assumption) | (refine fun z => Or.elim z ?_ (fun z => Or.elim z ?_ ?_) <;> assumption) | (refine fun z => Or.elim z ?_ (fun z => Or.elim z ?_ (fun z => Or.elim z ?_ ?_)) <;> assumption) | (refine fun z => Or.elim z (fun z9 => z9 ?_) ?_ <;> (first | assumption | (refine Or.inl ?_; assumption) | (refine Or.inr (Or.inl ?_); assumption) | (refine Or.inr (Or.inr ?_); assumption) | (refine Or.inr (Or.inr (Or.inl ?_)); assumption) | (refine Or.inr (Or.inr (Or.inr ?_)); assumption))) | (refine Or.inl (fun z => Or.elim z ?_ (fun z => Or.elim z ?_ ?_)) <;> assumption) | (refine Or.inl (fun z => Or.elim z ?_ (fun z => Or.elim z ?_ (fun z => Or.elim z ?_ ?_))) <;> assumption))))
        · refine j_w w1 hw496 ?_
          refine j_callV (q := (RX11, TX11, 8)) dX11_computeIfAbsent_46 kX11_become lX11_159 inX11_become seX11_become h1.m rfl (cx_become_s hl w1 S _ (i1) (k1) y496 h1 R1 (by omega) (by omega) (ok.2.1 (i1) (by omega)) hne496) (Nat.le_of_ble_eq_true rfl) ⟨(Nat.le_of_ble_eq_true rfl), (Nat.le_of_ble_eq_true rfl)⟩ rfl (Nat.le_of_ble_eq_true rfl) rfl rfl (fun _ _ h => h.elim) ?_
          rintro _ w3 ⟨s3, rfl, fm3, h3, R3, th3⟩
          have tx3 := th3.trans th1
          refine j_iret dX11_computeIfAbsent_49 rfl rfl ?_ (Nat.le_of_ble_eq_true rfl) (Nat.le_of_ble_eq_true rfl)
          refine cast (congrFun (congrFun hQ9 _) _) ?_
          try rw [ei1]
          try rw [ek1]
          refine ⟨_, _, rfl, ((fm1.le (q' := 59) (by decide)).tr (fm3.le (q' := 59) (by decide))), h3, sp_X0 ?_ tx3 (by rw [sp_cia, if_pos c_27_21, hq496]; exact R3) (by rw [sp_cia, if_pos c_27_21, hq496, sp_becf])⟩
          (first | (refine sp_k32_0 ?_ ?_ <;> (first | assumption | (refine Or.inl ?_; assumption) | (refine Or.inr ?_; assumption) | (refine Or.inr (Or.inl ?_); assumption) | (refine Or.inr (Or.inr ?_); assumption) | (refine Or.inr (Or.inr (Or.inl ?_)); assumption) | (refine Or.inr (Or.inr (Or.inr ?_)); assumption) | (refine fun z => Or.elim z ?_ ?_ <;> assumption) | (refine fun z => Or.elim z ?_ (fun z => Or.elim z ?_ ?_) <;> assumption) | (refine fun z => Or.elim z ?_ (fun z => Or.elim z ?_ (fun z => Or.elim z ?_ ?_)) <;> assumption) | (refine fun z => Or.elim z (fun z9 => z9 ?_) ?_ <;> (first | assumption | (refine Or.inl ?_; assumption) | (refine Or.inr (Or.inl ?_); assumption) | (refine Or.inr (Or.inr ?_); assumption) | (refine Or.inr (Or.inr (Or.inl ?_)); assumption) | (refine Or.inr (Or.inr (Or.inr ?_)); assumption))) | (refine Or.inl (fun z => Or.elim z ?_ (fun z => Or.elim z ?_ ?_)) <;> assumption) | (refine Or.inl (fun z => Or.elim z ?_ (fun z => Or.elim z ?_ (fun z => Or.elim z ?_ ?_))) <;> assumption))))
      · refine j_iload dX11_computeIfAbsent_30 rfl ?_
        refine j_goto (tgt := 49) dX11_computeIfAbsent_32 (by decide) ?_
        refine j_iret dX11_computeIfAbsent_49 rfl rfl ?_ (Nat.le_of_ble_eq_true rfl) (Nat.le_of_ble_eq_true rfl)
        refine cast (congrFun (congrFun hQ9 _) _) ?_
        try rw [ei1]
        try rw [ek1]
        refine ⟨_, _, rfl, (fm1.le (q' := 59) (by decide)), h1, sp_X0 ?_ th1 (by rw [sp_cia, if_neg c_27_21, sp_tb_id]; exact R1) (by rw [sp_cia, if_neg c_27_21]; rfl)⟩
        (first | (refine sp_k32_0 ?_ ?_ <;> (first | assumption | (refine Or.inl ?_; assumption) | (refine Or.inr ?_; assumption) | (refine Or.inr (Or.inl ?_); assumption) | (refine Or.inr (Or.inr ?_); assumption) | (refine Or.inr (Or.inr (Or.inl ?_)); assumption) | (refine Or.inr (Or.inr (Or.inr ?_)); assumption) | (refine fun z => Or.elim z ?_ ?_ <;> assumption) | (refine fun z => Or.elim z ?_ (fun z => Or.elim z ?_ ?_) <;> assumption) | (refine fun z => Or.elim z ?_ (fun z => Or.elim z ?_ (fun z => Or.elim z ?_ ?_)) <;> assumption) | (refine fun z => Or.elim z (fun z9 => z9 ?_) ?_ <;> (first | assumption | (refine Or.inl ?_; assumption) | (refine Or.inr (Or.inl ?_); assumption) | (refine Or.inr (Or.inr ?_); assumption) | (refine Or.inr (Or.inr (Or.inl ?_)); assumption) | (refine Or.inr (Or.inr (Or.inr ?_)); assumption))) | (refine Or.inl (fun z => Or.elim z ?_ (fun z => Or.elim z ?_ ?_)) <;> assumption) | (refine Or.inl (fun z => Or.elim z ?_ (fun z => Or.elim z ?_ (fun z => Or.elim z ?_ ?_))) <;> assumption))))
    · exact absurd c_9_11 (by decide)
  · refine j_if_eq (tgt := 14) dX11_computeIfAbsent_9 (by decide) (fun c_9_60 => ?_) (fun c_9_60 => ?_)
    · exact absurd c_9_60 (by decide)
    · refine j_iconst (v := 0) dX11_computeIfAbsent_12 (by decide) ?_
      refine j_iret dX11_computeIfAbsent_13 rfl rfl ?_ (Nat.le_of_ble_eq_true rfl) (Nat.le_of_ble_eq_true rfl)
      refine cast (congrFun (congrFun hQ9 _) _) ?_
      refine ⟨_, _, rfl, (fm1.le (q' := 59) (by decide)), h1, sp_X1 (k := 1) ?_ (by decide) th1 R1⟩
      (first | (refine sp_k32_1 ?_ <;> (first | assumption | (refine Or.inl ?_; assumption) | (refine Or.inr ?_; assumption) | (refine Or.inr (Or.inl ?_); assumption) | (refine Or.inr (Or.inr ?_); assumption) | (refine Or.inr (Or.inr (Or.inl ?_)); assumption) | (refine Or.inr (Or.inr (Or.inr ?_)); assumption) | (refine fun z => Or.elim z ?_ ?_ <;> assumption) | (refine fun z => Or.elim z ?_ (fun z => Or.elim z ?_ ?_) <;> assumption) | (refine fun z => Or.elim z ?_ (fun z => Or.elim z ?_ (fun z => Or.elim z ?_ ?_)) <;> assumption) | (refine fun z => Or.elim z (fun z9 => z9 ?_) ?_ <;> (first | assumption | (refine Or.inl ?_; assumption) | (refine Or.inr (Or.inl ?_); assumption) | (refine Or.inr (Or.inr ?_); assumption) | (refine Or.inr (Or.inr (Or.inl ?_)); assumption) | (refine Or.inr (Or.inr (Or.inr ?_)); assumption))) | (refine Or.inl (fun z => Or.elim z ?_ (fun z => Or.elim z ?_ ?_)) <;> assumption) | (refine Or.inl (fun z => Or.elim z ?_ (fun z => Or.elim z ?_ (fun z => Or.elim z ?_ ?_))) <;> assumption))))
  · refine j_if_eq (tgt := 14) dX11_computeIfAbsent_9 (by decide) (fun c_9_67 => ?_) (fun c_9_67 => ?_)
    · exact absurd c_9_67 (by decide)
    · refine j_iconst (v := 0) dX11_computeIfAbsent_12 (by decide) ?_
      refine j_iret dX11_computeIfAbsent_13 rfl rfl ?_ (Nat.le_of_ble_eq_true rfl) (Nat.le_of_ble_eq_true rfl)
      refine cast (congrFun (congrFun hQ9 _) _) ?_
      refine ⟨_, _, rfl, (fm1.le (q' := 59) (by decide)), h1, sp_X1 (k := 2) ?_ (by decide) th1 R1⟩
      (first | (refine sp_k32_2 ?_ ?_ <;> (first | assumption | (refine Or.inl ?_; assumption) | (refine Or.inr ?_; assumption) | (refine Or.inr (Or.inl ?_); assumption) | (refine Or.inr (Or.inr ?_); assumption) | (refine Or.inr (Or.inr (Or.inl ?_)); assumption) | (refine Or.inr (Or.inr (Or.inr ?_)); assumption) | (refine fun z => Or.elim z ?_ ?_ <;> assumption) | (refine fun z => Or.elim z ?_ (fun z => Or.elim z ?_ ?_) <;> assumption) | (refine fun z => Or.elim z ?_ (fun z => Or.elim z ?_ (fun z => Or.elim z ?_ ?_)) <;> assumption) | (refine fun z => Or.elim z (fun z9 => z9 ?_) ?_ <;> (first | assumption | (refine Or.inl ?_; assumption) | (refine Or.inr (Or.inl ?_); assumption) | (refine Or.inr (Or.inr ?_); assumption) | (refine Or.inr (Or.inr (Or.inl ?_)); assumption) | (refine Or.inr (Or.inr (Or.inr ?_)); assumption))) | (refine Or.inl (fun z => Or.elim z ?_ (fun z => Or.elim z ?_ ?_)) <;> assumption) | (refine Or.inl (fun z => Or.elim z ?_ (fun z => Or.elim z ?_ (fun z => Or.elim z ?_ ?_))) <;> assumption))))
set_option maxRecDepth 100000 in
set_option maxHeartbeats 8000000 in
theorem cx_computeIfPresent (hl : l.stackTraces = false) (w : z_W) (S : sp_S) (s : z_Z) (t : Int32) (k : Int32) (r : Int32) (n : Int32) (h : z_mst w s) (R : sp_MR S s) (ok : sp_ok S) : z_Con G l mX11_computeIfPresent 26 2 52 w [.ref 1000, .int t, .int k, .int r, .int n] (fun v w9 => ∃ (r9 : Int32) (s9 : z_Z), v = some (.int r9) ∧ z_fm 59 w w9 ∧ z_mst w9 s9 ∧ s9.1.1 = sp_k32 t (sp_bk k ∨ (r < 0 ∨ 5 < r) ∨ sp_bv n) ∧ sp_MR (if sp_k32 t (sp_bk k ∨ (r < 0 ∨ 5 < r) ∨ sp_bv n) = 0 then sp_tb S (sp_i t) (sp_cip (sp_srt (sp_i t)) (sp_T S (sp_i t)) (sp_C S 2) (sp_i k) r n) else S) s9 ∧ (sp_k32 t (sp_bk k ∨ (r < 0 ∨ 5 < r) ∨ sp_bv n) = 0 → r9 = (sp_cip (sp_srt (sp_i t)) (sp_T S (sp_i t)) (sp_C S 2) (sp_i k) r n).1.getD (-9))) (fun _ _ => False) := by
  generalize hQ9 : (fun (v : Option Value) (w9 : z_W) => ∃ (r9 : Int32) (s9 : z_Z), v = some (.int r9) ∧ z_fm 59 w w9 ∧ z_mst w9 s9 ∧ s9.1.1 = sp_k32 t (sp_bk k ∨ (r < 0 ∨ 5 < r) ∨ sp_bv n) ∧ sp_MR (if sp_k32 t (sp_bk k ∨ (r < 0 ∨ 5 < r) ∨ sp_bv n) = 0 then sp_tb S (sp_i t) (sp_cip (sp_srt (sp_i t)) (sp_T S (sp_i t)) (sp_C S 2) (sp_i k) r n) else S) s9 ∧ (sp_k32 t (sp_bk k ∨ (r < 0 ∨ 5 < r) ∨ sp_bv n) = 0 → r9 = (sp_cip (sp_srt (sp_i t)) (sp_T S (sp_i t)) (sp_C S 2) (sp_i k) r n).1.getD (-9))) = Q9
  refine z_body hl (by decide) rfl (Nat.le_of_ble_eq_true rfl) ?_
  show z_J G l mX11_computeIfPresent _ 0 [(0, _), (1, _), (2, _), (3, _), (4, _)] [] _ 0 0
  refine j_aload_n dX11_computeIfPresent_0 rfl rfl ?_
  refine j_iload_n dX11_computeIfPresent_1 rfl ?_
  refine j_iload_n dX11_computeIfPresent_2 rfl ?_
  refine j_iload_n dX11_computeIfPresent_3 rfl ?_
  refine j_iload dX11_computeIfPresent_4 rfl ?_
  refine j_callV (q := (RX11, TX11, 8)) dX11_computeIfPresent_6 kX11_isNoRule lX11_155 inX11_isNoRule seX11_isNoRule h.m rfl (cx_isNoRule hl w S _ _ _ _ _ h R) (Nat.le_of_ble_eq_true rfl) ⟨(Nat.le_of_ble_eq_true rfl), (Nat.le_of_ble_eq_true rfl)⟩ rfl (Nat.le_of_ble_eq_true rfl) rfl rfl (fun _ _ h => h.elim) ?_
  rintro _ w1 (⟨i1, k1, s1, rfl, hi1, hk1, htt1, hbk1, hbr1, hbv1, rfl, rfl, fm1, h1, R1, th1⟩ | ⟨s1, rfl, fm1, h1, R1, th1, hno1⟩ | ⟨s1, rfl, fm1, h1, R1, th1, htt1, hP1⟩)
  · have ei1 : sp_i (nI i1) = i1 := sp_in' (by omega)
    have ek1 : sp_i (nI k1) = k1 := sp_in' (by omega)
    refine j_if_eq (tgt := 14) dX11_computeIfPresent_9 (by decide) (fun c_9_11 => ?_) (fun c_9_11 => ?_)
    · refine j_aload_n dX11_computeIfPresent_14 rfl rfl ?_
      refine j_iload_n dX11_computeIfPresent_15 rfl ?_
      refine j_iload_n dX11_computeIfPresent_16 rfl ?_
      refine j_callV (q := (RX11, TX11, 8)) dX11_computeIfPresent_17 kX11_valueOf lX11_145 inX11_valueOf seX11_valueOf h1.m rfl (cx_valueOf hl w1 S _ (i1) (k1) h1 R1 (by omega) (by omega)) (Nat.le_of_ble_eq_true rfl) ⟨(Nat.le_of_ble_eq_true rfl), (Nat.le_of_ble_eq_true rfl)⟩ rfl (Nat.le_of_ble_eq_true rfl) rfl rfl (fun _ _ h => h.elim) ?_
      rintro _ _ ⟨rfl, hw497⟩
      refine j_w w1 hw497 ?_
      refine j_istore (lo' := [(5, _), (0, _), (1, _), (2, _), (3, _), (4, _)]) dX11_computeIfPresent_20 (by decide) rfl ?_
      refine j_iload dX11_computeIfPresent_22 rfl ?_
      refine j_sipush (v := (-1000)) dX11_computeIfPresent_24 (by decide) ?_
      refine j_icmp_ne (tgt := 36) dX11_computeIfPresent_27 (by decide) (fun c_27_21 => ?_) (fun c_27_21 => ?_)
      · refine j_aload_n dX11_computeIfPresent_36 rfl rfl ?_
        refine j_iload_n dX11_computeIfPresent_37 rfl ?_
        refine j_iload_n dX11_computeIfPresent_38 rfl ?_
        refine j_iload_n dX11_computeIfPresent_39 rfl ?_
        refine j_iload_n dX11_computeIfPresent_40 rfl ?_
        refine j_iload dX11_computeIfPresent_41 rfl ?_
        refine j_iload dX11_computeIfPresent_43 rfl ?_
        refine j_callS dX11_computeIfPresent_45 kX11_rule lX11_115 stX11_rule (cm_rule_r hl w1 _ _ _ _ (sp_lk99 (ok.2.1 i1 (by omega))) (sp_vl (by assumption)).2) (Nat.le_of_ble_eq_true rfl) ⟨(Nat.le_of_ble_eq_true rfl), (Nat.le_of_ble_eq_true rfl)⟩ rfl (Nat.le_of_ble_eq_true rfl) rfl rfl (fun _ _ h => h.elim) ?_
        rintro _ _ ⟨⟨rfl, hq498⟩ | ⟨y498, rfl, hq498, hne498⟩, hw498⟩
        · refine j_w w1 hw498 ?_
          refine j_callV (q := (RX11, TX11, 8)) dX11_computeIfPresent_48 kX11_become lX11_159 inX11_become seX11_become h1.m rfl (cx_become_n hl w1 S _ (i1) (k1) h1 R1 (by omega) (by omega) (ok.2.1 (i1) (by omega))) (Nat.le_of_ble_eq_true rfl) ⟨(Nat.le_of_ble_eq_true rfl), (Nat.le_of_ble_eq_true rfl)⟩ rfl (Nat.le_of_ble_eq_true rfl) rfl rfl (fun _ _ h => h.elim) ?_
          rintro _ w2 ⟨s2, rfl, fm2, h2, R2, th2⟩
          have tx2 := th2.trans th1
          refine j_iret dX11_computeIfPresent_51 rfl rfl ?_ (Nat.le_of_ble_eq_true rfl) (Nat.le_of_ble_eq_true rfl)
          refine cast (congrFun (congrFun hQ9 _) _) ?_
          try rw [ei1]
          try rw [ek1]
          refine ⟨_, _, rfl, ((fm1.le (q' := 59) (by decide)).tr (fm2.le (q' := 59) (by decide))), h2, sp_X0 ?_ tx2 (by rw [sp_cip, if_neg c_27_21, hq498]; exact R2) (by rw [sp_cip, if_neg c_27_21, hq498, sp_becf])⟩
          (first | (refine sp_k32_0 ?_ ?_ <;> (first | assumption | (refine Or.inl ?_; assumption) | (refine Or.inr ?_; assumption) | (refine Or.inr (Or.inl ?_); assumption) | (refine Or.inr (Or.inr ?_); assumption) | (refine Or.inr (Or.inr (Or.inl ?_)); assumption) | (refine Or.inr (Or.inr (Or.inr ?_)); assumption) | (refine fun z => Or.elim z ?_ ?_ <;> assumption) | (refine fun z => Or.elim z ?_ (fun z => Or.elim z ?_ ?_) <;> assumption) | (refine fun z => Or.elim z ?_ (fun z => Or.elim z ?_ (fun z => Or.elim z ?_ ?_)) <;> assumption) | (refine fun z => Or.elim z (fun z9 => z9 ?_) ?_ <;> (first | assumption | (refine Or.inl ?_; assumption) | (refine Or.inr (Or.inl ?_); assumption) | (refine Or.inr (Or.inr ?_); assumption) | (refine Or.inr (Or.inr (Or.inl ?_)); assumption) | (refine Or.inr (Or.inr (Or.inr ?_)); assumption))) | (refine Or.inl (fun z => Or.elim z ?_ (fun z => Or.elim z ?_ ?_)) <;> assumption) | (refine Or.inl (fun z => Or.elim z ?_ (fun z => Or.elim z ?_ (fun z => Or.elim z ?_ ?_))) <;> assumption))))
        · refine j_w w1 hw498 ?_
          refine j_callV (q := (RX11, TX11, 8)) dX11_computeIfPresent_48 kX11_become lX11_159 inX11_become seX11_become h1.m rfl (cx_become_s hl w1 S _ (i1) (k1) y498 h1 R1 (by omega) (by omega) (ok.2.1 (i1) (by omega)) hne498) (Nat.le_of_ble_eq_true rfl) ⟨(Nat.le_of_ble_eq_true rfl), (Nat.le_of_ble_eq_true rfl)⟩ rfl (Nat.le_of_ble_eq_true rfl) rfl rfl (fun _ _ h => h.elim) ?_
          rintro _ w3 ⟨s3, rfl, fm3, h3, R3, th3⟩
          have tx3 := th3.trans th1
          refine j_iret dX11_computeIfPresent_51 rfl rfl ?_ (Nat.le_of_ble_eq_true rfl) (Nat.le_of_ble_eq_true rfl)
          refine cast (congrFun (congrFun hQ9 _) _) ?_
          try rw [ei1]
          try rw [ek1]
          refine ⟨_, _, rfl, ((fm1.le (q' := 59) (by decide)).tr (fm3.le (q' := 59) (by decide))), h3, sp_X0 ?_ tx3 (by rw [sp_cip, if_neg c_27_21, hq498]; exact R3) (by rw [sp_cip, if_neg c_27_21, hq498, sp_becf])⟩
          (first | (refine sp_k32_0 ?_ ?_ <;> (first | assumption | (refine Or.inl ?_; assumption) | (refine Or.inr ?_; assumption) | (refine Or.inr (Or.inl ?_); assumption) | (refine Or.inr (Or.inr ?_); assumption) | (refine Or.inr (Or.inr (Or.inl ?_)); assumption) | (refine Or.inr (Or.inr (Or.inr ?_)); assumption) | (refine fun z => Or.elim z ?_ ?_ <;> assumption) | (refine fun z => Or.elim z ?_ (fun z => Or.elim z ?_ ?_) <;> assumption) | (refine fun z => Or.elim z ?_ (fun z => Or.elim z ?_ (fun z => Or.elim z ?_ ?_)) <;> assumption) | (refine fun z => Or.elim z (fun z9 => z9 ?_) ?_ <;> (first | assumption | (refine Or.inl ?_; assumption) | (refine Or.inr (Or.inl ?_); assumption) | (refine Or.inr (Or.inr ?_); assumption) | (refine Or.inr (Or.inr (Or.inl ?_)); assumption) | (refine Or.inr (Or.inr (Or.inr ?_)); assumption))) | (refine Or.inl (fun z => Or.elim z ?_ (fun z => Or.elim z ?_ ?_)) <;> assumption) | (refine Or.inl (fun z => Or.elim z ?_ (fun z => Or.elim z ?_ (fun z => Or.elim z ?_ ?_))) <;> assumption))))
      · refine j_sipush (v := (-1000)) dX11_computeIfPresent_30 (by decide) ?_
        refine j_goto (tgt := 51) dX11_computeIfPresent_33 (by decide) ?_
        refine j_iret dX11_computeIfPresent_51 rfl rfl ?_ (Nat.le_of_ble_eq_true rfl) (Nat.le_of_ble_eq_true rfl)
        refine cast (congrFun (congrFun hQ9 _) _) ?_
        try rw [ei1]
        try rw [ek1]
        refine ⟨_, _, rfl, (fm1.le (q' := 59) (by decide)), h1, sp_X0 ?_ th1 (by rw [sp_cip, if_pos c_27_21, sp_tb_id]; exact R1) (by rw [sp_cip, if_pos c_27_21]; rfl)⟩
        (first | (refine sp_k32_0 ?_ ?_ <;> (first | assumption | (refine Or.inl ?_; assumption) | (refine Or.inr ?_; assumption) | (refine Or.inr (Or.inl ?_); assumption) | (refine Or.inr (Or.inr ?_); assumption) | (refine Or.inr (Or.inr (Or.inl ?_)); assumption) | (refine Or.inr (Or.inr (Or.inr ?_)); assumption) | (refine fun z => Or.elim z ?_ ?_ <;> assumption) | (refine fun z => Or.elim z ?_ (fun z => Or.elim z ?_ ?_) <;> assumption) | (refine fun z => Or.elim z ?_ (fun z => Or.elim z ?_ (fun z => Or.elim z ?_ ?_)) <;> assumption) | (refine fun z => Or.elim z (fun z9 => z9 ?_) ?_ <;> (first | assumption | (refine Or.inl ?_; assumption) | (refine Or.inr (Or.inl ?_); assumption) | (refine Or.inr (Or.inr ?_); assumption) | (refine Or.inr (Or.inr (Or.inl ?_)); assumption) | (refine Or.inr (Or.inr (Or.inr ?_)); assumption))) | (refine Or.inl (fun z => Or.elim z ?_ (fun z => Or.elim z ?_ ?_)) <;> assumption) | (refine Or.inl (fun z => Or.elim z ?_ (fun z => Or.elim z ?_ (fun z => Or.elim z ?_ ?_))) <;> assumption))))
    · exact absurd c_9_11 (by decide)
  · refine j_if_eq (tgt := 14) dX11_computeIfPresent_9 (by decide) (fun c_9_60 => ?_) (fun c_9_60 => ?_)
    · exact absurd c_9_60 (by decide)
    · refine j_iconst (v := 0) dX11_computeIfPresent_12 (by decide) ?_
      refine j_iret dX11_computeIfPresent_13 rfl rfl ?_ (Nat.le_of_ble_eq_true rfl) (Nat.le_of_ble_eq_true rfl)
      refine cast (congrFun (congrFun hQ9 _) _) ?_
      refine ⟨_, _, rfl, (fm1.le (q' := 59) (by decide)), h1, sp_X1 (k := 1) ?_ (by decide) th1 R1⟩
      (first | (refine sp_k32_1 ?_ <;> (first | assumption | (refine Or.inl ?_; assumption) | (refine Or.inr ?_; assumption) | (refine Or.inr (Or.inl ?_); assumption) | (refine Or.inr (Or.inr ?_); assumption) | (refine Or.inr (Or.inr (Or.inl ?_)); assumption) | (refine Or.inr (Or.inr (Or.inr ?_)); assumption) | (refine fun z => Or.elim z ?_ ?_ <;> assumption) | (refine fun z => Or.elim z ?_ (fun z => Or.elim z ?_ ?_) <;> assumption) | (refine fun z => Or.elim z ?_ (fun z => Or.elim z ?_ (fun z => Or.elim z ?_ ?_)) <;> assumption) | (refine fun z => Or.elim z (fun z9 => z9 ?_) ?_ <;> (first | assumption | (refine Or.inl ?_; assumption) | (refine Or.inr (Or.inl ?_); assumption) | (refine Or.inr (Or.inr ?_); assumption) | (refine Or.inr (Or.inr (Or.inl ?_)); assumption) | (refine Or.inr (Or.inr (Or.inr ?_)); assumption))) | (refine Or.inl (fun z => Or.elim z ?_ (fun z => Or.elim z ?_ ?_)) <;> assumption) | (refine Or.inl (fun z => Or.elim z ?_ (fun z => Or.elim z ?_ (fun z => Or.elim z ?_ ?_))) <;> assumption))))
  · refine j_if_eq (tgt := 14) dX11_computeIfPresent_9 (by decide) (fun c_9_67 => ?_) (fun c_9_67 => ?_)
    · exact absurd c_9_67 (by decide)
    · refine j_iconst (v := 0) dX11_computeIfPresent_12 (by decide) ?_
      refine j_iret dX11_computeIfPresent_13 rfl rfl ?_ (Nat.le_of_ble_eq_true rfl) (Nat.le_of_ble_eq_true rfl)
      refine cast (congrFun (congrFun hQ9 _) _) ?_
      refine ⟨_, _, rfl, (fm1.le (q' := 59) (by decide)), h1, sp_X1 (k := 2) ?_ (by decide) th1 R1⟩
      (first | (refine sp_k32_2 ?_ ?_ <;> (first | assumption | (refine Or.inl ?_; assumption) | (refine Or.inr ?_; assumption) | (refine Or.inr (Or.inl ?_); assumption) | (refine Or.inr (Or.inr ?_); assumption) | (refine Or.inr (Or.inr (Or.inl ?_)); assumption) | (refine Or.inr (Or.inr (Or.inr ?_)); assumption) | (refine fun z => Or.elim z ?_ ?_ <;> assumption) | (refine fun z => Or.elim z ?_ (fun z => Or.elim z ?_ ?_) <;> assumption) | (refine fun z => Or.elim z ?_ (fun z => Or.elim z ?_ (fun z => Or.elim z ?_ ?_)) <;> assumption) | (refine fun z => Or.elim z (fun z9 => z9 ?_) ?_ <;> (first | assumption | (refine Or.inl ?_; assumption) | (refine Or.inr (Or.inl ?_); assumption) | (refine Or.inr (Or.inr ?_); assumption) | (refine Or.inr (Or.inr (Or.inl ?_)); assumption) | (refine Or.inr (Or.inr (Or.inr ?_)); assumption))) | (refine Or.inl (fun z => Or.elim z ?_ (fun z => Or.elim z ?_ ?_)) <;> assumption) | (refine Or.inl (fun z => Or.elim z ?_ (fun z => Or.elim z ?_ (fun z => Or.elim z ?_ ?_))) <;> assumption))))
set_option maxRecDepth 100000 in
set_option maxHeartbeats 8000000 in
theorem cx_compute (hl : l.stackTraces = false) (w : z_W) (S : sp_S) (s : z_Z) (t : Int32) (k : Int32) (r : Int32) (n : Int32) (h : z_mst w s) (R : sp_MR S s) (ok : sp_ok S) : z_Con G l mX11_compute 26 2 52 w [.ref 1000, .int t, .int k, .int r, .int n] (fun v w9 => ∃ (r9 : Int32) (s9 : z_Z), v = some (.int r9) ∧ z_fm 59 w w9 ∧ z_mst w9 s9 ∧ s9.1.1 = sp_k32 t (sp_bk k ∨ (r < 0 ∨ 5 < r) ∨ sp_bv n) ∧ sp_MR (if sp_k32 t (sp_bk k ∨ (r < 0 ∨ 5 < r) ∨ sp_bv n) = 0 then sp_tb S (sp_i t) (sp_cmp (sp_srt (sp_i t)) (sp_T S (sp_i t)) (sp_C S 2) (sp_i k) r n) else S) s9 ∧ (sp_k32 t (sp_bk k ∨ (r < 0 ∨ 5 < r) ∨ sp_bv n) = 0 → r9 = (sp_cmp (sp_srt (sp_i t)) (sp_T S (sp_i t)) (sp_C S 2) (sp_i k) r n).1.getD (-9))) (fun _ _ => False) := by
  generalize hQ9 : (fun (v : Option Value) (w9 : z_W) => ∃ (r9 : Int32) (s9 : z_Z), v = some (.int r9) ∧ z_fm 59 w w9 ∧ z_mst w9 s9 ∧ s9.1.1 = sp_k32 t (sp_bk k ∨ (r < 0 ∨ 5 < r) ∨ sp_bv n) ∧ sp_MR (if sp_k32 t (sp_bk k ∨ (r < 0 ∨ 5 < r) ∨ sp_bv n) = 0 then sp_tb S (sp_i t) (sp_cmp (sp_srt (sp_i t)) (sp_T S (sp_i t)) (sp_C S 2) (sp_i k) r n) else S) s9 ∧ (sp_k32 t (sp_bk k ∨ (r < 0 ∨ 5 < r) ∨ sp_bv n) = 0 → r9 = (sp_cmp (sp_srt (sp_i t)) (sp_T S (sp_i t)) (sp_C S 2) (sp_i k) r n).1.getD (-9))) = Q9
  refine z_body hl (by decide) rfl (Nat.le_of_ble_eq_true rfl) ?_
  show z_J G l mX11_compute _ 0 [(0, _), (1, _), (2, _), (3, _), (4, _)] [] _ 0 0
  refine j_aload_n dX11_compute_0 rfl rfl ?_
  refine j_iload_n dX11_compute_1 rfl ?_
  refine j_iload_n dX11_compute_2 rfl ?_
  refine j_iload_n dX11_compute_3 rfl ?_
  refine j_iload dX11_compute_4 rfl ?_
  refine j_callV (q := (RX11, TX11, 8)) dX11_compute_6 kX11_isNoRule lX11_155 inX11_isNoRule seX11_isNoRule h.m rfl (cx_isNoRule hl w S _ _ _ _ _ h R) (Nat.le_of_ble_eq_true rfl) ⟨(Nat.le_of_ble_eq_true rfl), (Nat.le_of_ble_eq_true rfl)⟩ rfl (Nat.le_of_ble_eq_true rfl) rfl rfl (fun _ _ h => h.elim) ?_
  rintro _ w1 (⟨i1, k1, s1, rfl, hi1, hk1, htt1, hbk1, hbr1, hbv1, rfl, rfl, fm1, h1, R1, th1⟩ | ⟨s1, rfl, fm1, h1, R1, th1, hno1⟩ | ⟨s1, rfl, fm1, h1, R1, th1, htt1, hP1⟩)
  · have ei1 : sp_i (nI i1) = i1 := sp_in' (by omega)
    have ek1 : sp_i (nI k1) = k1 := sp_in' (by omega)
    refine j_if_eq (tgt := 14) dX11_compute_9 (by decide) (fun c_9_11 => ?_) (fun c_9_11 => ?_)
    · refine j_aload_n dX11_compute_14 rfl rfl ?_
      refine j_iload_n dX11_compute_15 rfl ?_
      refine j_iload_n dX11_compute_16 rfl ?_
      refine j_callV (q := (RX11, TX11, 8)) dX11_compute_17 kX11_valueOf lX11_145 inX11_valueOf seX11_valueOf h1.m rfl (cx_valueOf hl w1 S _ (i1) (k1) h1 R1 (by omega) (by omega)) (Nat.le_of_ble_eq_true rfl) ⟨(Nat.le_of_ble_eq_true rfl), (Nat.le_of_ble_eq_true rfl)⟩ rfl (Nat.le_of_ble_eq_true rfl) rfl rfl (fun _ _ h => h.elim) ?_
      rintro _ _ ⟨rfl, hw499⟩
      refine j_w w1 hw499 ?_
      refine j_istore (lo' := [(5, _), (0, _), (1, _), (2, _), (3, _), (4, _)]) dX11_compute_20 (by decide) rfl ?_
      refine j_aload_n dX11_compute_22 rfl rfl ?_
      refine j_iload_n dX11_compute_23 rfl ?_
      refine j_iload_n dX11_compute_24 rfl ?_
      refine j_iload_n dX11_compute_25 rfl ?_
      refine j_iload_n dX11_compute_26 rfl ?_
      refine j_iload dX11_compute_27 rfl ?_
      refine j_sipush (v := (-1000)) dX11_compute_29 (by decide) ?_
      refine j_icmp_ne (tgt := 39) dX11_compute_32 (by decide) (fun c_32_26 => ?_) (fun c_32_26 => ?_)
      · refine j_iload dX11_compute_39 rfl ?_
        refine j_iload dX11_compute_41 rfl ?_
        refine j_callS dX11_compute_43 kX11_rule lX11_115 stX11_rule (cm_rule_r hl w1 _ _ _ _ (sp_lk99 (ok.2.1 i1 (by omega))) (sp_vl (by assumption)).2) (Nat.le_of_ble_eq_true rfl) ⟨(Nat.le_of_ble_eq_true rfl), (Nat.le_of_ble_eq_true rfl)⟩ rfl (Nat.le_of_ble_eq_true rfl) rfl rfl (fun _ _ h => h.elim) ?_
        rintro _ _ ⟨⟨rfl, hq500⟩ | ⟨y500, rfl, hq500, hne500⟩, hw500⟩
        · refine j_w w1 hw500 ?_
          refine j_callV (q := (RX11, TX11, 8)) dX11_compute_46 kX11_become lX11_159 inX11_become seX11_become h1.m rfl (cx_become_n hl w1 S _ (i1) (k1) h1 R1 (by omega) (by omega) (ok.2.1 (i1) (by omega))) (Nat.le_of_ble_eq_true rfl) ⟨(Nat.le_of_ble_eq_true rfl), (Nat.le_of_ble_eq_true rfl)⟩ rfl (Nat.le_of_ble_eq_true rfl) rfl rfl (fun _ _ h => h.elim) ?_
          rintro _ w2 ⟨s2, rfl, fm2, h2, R2, th2⟩
          have tx2 := th2.trans th1
          refine j_iret dX11_compute_49 rfl rfl ?_ (Nat.le_of_ble_eq_true rfl) (Nat.le_of_ble_eq_true rfl)
          refine cast (congrFun (congrFun hQ9 _) _) ?_
          try rw [ei1]
          try rw [ek1]
          refine ⟨_, _, rfl, ((fm1.le (q' := 59) (by decide)).tr (fm2.le (q' := 59) (by decide))), h2, sp_X0 ?_ tx2 (by rw [sp_cmp, show q_d (sp_lk (sp_T S i1) k1) = _ from if_neg c_32_26, hq500]; exact R2) (by rw [sp_cmp, show q_d (sp_lk (sp_T S i1) k1) = _ from if_neg c_32_26, hq500, sp_becf])⟩
          (first | (refine sp_k32_0 ?_ ?_ <;> (first | assumption | (refine Or.inl ?_; assumption) | (refine Or.inr ?_; assumption) | (refine Or.inr (Or.inl ?_); assumption) | (refine Or.inr (Or.inr ?_); assumption) | (refine Or.inr (Or.inr (Or.inl ?_)); assumption) | (refine Or.inr (Or.inr (Or.inr ?_)); assumption) | (refine fun z => Or.elim z ?_ ?_ <;> assumption) | (refine fun z => Or.elim z ?_ (fun z => Or.elim z ?_ ?_) <;> assumption) | (refine fun z => Or.elim z ?_ (fun z => Or.elim z ?_ (fun z => Or.elim z ?_ ?_)) <;> assumption) | (refine fun z => Or.elim z (fun z9 => z9 ?_) ?_ <;> (first | assumption | (refine Or.inl ?_; assumption) | (refine Or.inr (Or.inl ?_); assumption) | (refine Or.inr (Or.inr ?_); assumption) | (refine Or.inr (Or.inr (Or.inl ?_)); assumption) | (refine Or.inr (Or.inr (Or.inr ?_)); assumption))) | (refine Or.inl (fun z => Or.elim z ?_ (fun z => Or.elim z ?_ ?_)) <;> assumption) | (refine Or.inl (fun z => Or.elim z ?_ (fun z => Or.elim z ?_ (fun z => Or.elim z ?_ ?_))) <;> assumption))))
        · refine j_w w1 hw500 ?_
          refine j_callV (q := (RX11, TX11, 8)) dX11_compute_46 kX11_become lX11_159 inX11_become seX11_become h1.m rfl (cx_become_s hl w1 S _ (i1) (k1) y500 h1 R1 (by omega) (by omega) (ok.2.1 (i1) (by omega)) hne500) (Nat.le_of_ble_eq_true rfl) ⟨(Nat.le_of_ble_eq_true rfl), (Nat.le_of_ble_eq_true rfl)⟩ rfl (Nat.le_of_ble_eq_true rfl) rfl rfl (fun _ _ h => h.elim) ?_
          rintro _ w3 ⟨s3, rfl, fm3, h3, R3, th3⟩
          have tx3 := th3.trans th1
          refine j_iret dX11_compute_49 rfl rfl ?_ (Nat.le_of_ble_eq_true rfl) (Nat.le_of_ble_eq_true rfl)
          refine cast (congrFun (congrFun hQ9 _) _) ?_
          try rw [ei1]
          try rw [ek1]
          refine ⟨_, _, rfl, ((fm1.le (q' := 59) (by decide)).tr (fm3.le (q' := 59) (by decide))), h3, sp_X0 ?_ tx3 (by rw [sp_cmp, show q_d (sp_lk (sp_T S i1) k1) = _ from if_neg c_32_26, hq500]; exact R3) (by rw [sp_cmp, show q_d (sp_lk (sp_T S i1) k1) = _ from if_neg c_32_26, hq500, sp_becf])⟩
          (first | (refine sp_k32_0 ?_ ?_ <;> (first | assumption | (refine Or.inl ?_; assumption) | (refine Or.inr ?_; assumption) | (refine Or.inr (Or.inl ?_); assumption) | (refine Or.inr (Or.inr ?_); assumption) | (refine Or.inr (Or.inr (Or.inl ?_)); assumption) | (refine Or.inr (Or.inr (Or.inr ?_)); assumption) | (refine fun z => Or.elim z ?_ ?_ <;> assumption) | (refine fun z => Or.elim z ?_ (fun z => Or.elim z ?_ ?_) <;> assumption) | (refine fun z => Or.elim z ?_ (fun z => Or.elim z ?_ (fun z => Or.elim z ?_ ?_)) <;> assumption) | (refine fun z => Or.elim z (fun z9 => z9 ?_) ?_ <;> (first | assumption | (refine Or.inl ?_; assumption) | (refine Or.inr (Or.inl ?_); assumption) | (refine Or.inr (Or.inr ?_); assumption) | (refine Or.inr (Or.inr (Or.inl ?_)); assumption) | (refine Or.inr (Or.inr (Or.inr ?_)); assumption))) | (refine Or.inl (fun z => Or.elim z ?_ (fun z => Or.elim z ?_ ?_)) <;> assumption) | (refine Or.inl (fun z => Or.elim z ?_ (fun z => Or.elim z ?_ (fun z => Or.elim z ?_ ?_))) <;> assumption))))
      · refine j_iconst (v := 0) dX11_compute_35 (by decide) ?_
        refine j_goto (tgt := 41) dX11_compute_36 (by decide) ?_
        refine j_iload dX11_compute_41 rfl ?_
        refine j_callS dX11_compute_43 kX11_rule lX11_115 stX11_rule (cm_rule_r hl w1 _ _ _ _ (by decide) (sp_vl (by assumption)).2) (Nat.le_of_ble_eq_true rfl) ⟨(Nat.le_of_ble_eq_true rfl), (Nat.le_of_ble_eq_true rfl)⟩ rfl (Nat.le_of_ble_eq_true rfl) rfl rfl (fun _ _ h => h.elim) ?_
        rintro _ _ ⟨⟨rfl, hq501⟩ | ⟨y501, rfl, hq501, hne501⟩, hw501⟩
        · refine j_w w1 hw501 ?_
          refine j_callV (q := (RX11, TX11, 8)) dX11_compute_46 kX11_become lX11_159 inX11_become seX11_become h1.m rfl (cx_become_n hl w1 S _ (i1) (k1) h1 R1 (by omega) (by omega) (ok.2.1 (i1) (by omega))) (Nat.le_of_ble_eq_true rfl) ⟨(Nat.le_of_ble_eq_true rfl), (Nat.le_of_ble_eq_true rfl)⟩ rfl (Nat.le_of_ble_eq_true rfl) rfl rfl (fun _ _ h => h.elim) ?_
          rintro _ w4 ⟨s4, rfl, fm4, h4, R4, th4⟩
          have tx4 := th4.trans th1
          refine j_iret dX11_compute_49 rfl rfl ?_ (Nat.le_of_ble_eq_true rfl) (Nat.le_of_ble_eq_true rfl)
          refine cast (congrFun (congrFun hQ9 _) _) ?_
          try rw [ei1]
          try rw [ek1]
          refine ⟨_, _, rfl, ((fm1.le (q' := 59) (by decide)).tr (fm4.le (q' := 59) (by decide))), h4, sp_X0 ?_ tx4 (by rw [sp_cmp, show q_d (sp_lk (sp_T S i1) k1) = _ from if_pos c_32_26, hq501]; exact R4) (by rw [sp_cmp, show q_d (sp_lk (sp_T S i1) k1) = _ from if_pos c_32_26, hq501, sp_becf])⟩
          (first | (refine sp_k32_0 ?_ ?_ <;> (first | assumption | (refine Or.inl ?_; assumption) | (refine Or.inr ?_; assumption) | (refine Or.inr (Or.inl ?_); assumption) | (refine Or.inr (Or.inr ?_); assumption) | (refine Or.inr (Or.inr (Or.inl ?_)); assumption) | (refine Or.inr (Or.inr (Or.inr ?_)); assumption) | (refine fun z => Or.elim z ?_ ?_ <;> assumption) | (refine fun z => Or.elim z ?_ (fun z => Or.elim z ?_ ?_) <;> assumption) | (refine fun z => Or.elim z ?_ (fun z => Or.elim z ?_ (fun z => Or.elim z ?_ ?_)) <;> assumption) | (refine fun z => Or.elim z (fun z9 => z9 ?_) ?_ <;> (first | assumption | (refine Or.inl ?_; assumption) | (refine Or.inr (Or.inl ?_); assumption) | (refine Or.inr (Or.inr ?_); assumption) | (refine Or.inr (Or.inr (Or.inl ?_)); assumption) | (refine Or.inr (Or.inr (Or.inr ?_)); assumption))) | (refine Or.inl (fun z => Or.elim z ?_ (fun z => Or.elim z ?_ ?_)) <;> assumption) | (refine Or.inl (fun z => Or.elim z ?_ (fun z => Or.elim z ?_ (fun z => Or.elim z ?_ ?_))) <;> assumption))))
        · refine j_w w1 hw501 ?_
          refine j_callV (q := (RX11, TX11, 8)) dX11_compute_46 kX11_become lX11_159 inX11_become seX11_become h1.m rfl (cx_become_s hl w1 S _ (i1) (k1) y501 h1 R1 (by omega) (by omega) (ok.2.1 (i1) (by omega)) hne501) (Nat.le_of_ble_eq_true rfl) ⟨(Nat.le_of_ble_eq_true rfl), (Nat.le_of_ble_eq_true rfl)⟩ rfl (Nat.le_of_ble_eq_true rfl) rfl rfl (fun _ _ h => h.elim) ?_
          rintro _ w5 ⟨s5, rfl, fm5, h5, R5, th5⟩
          have tx5 := th5.trans th1
          refine j_iret dX11_compute_49 rfl rfl ?_ (Nat.le_of_ble_eq_true rfl) (Nat.le_of_ble_eq_true rfl)
          refine cast (congrFun (congrFun hQ9 _) _) ?_
          try rw [ei1]
          try rw [ek1]
          refine ⟨_, _, rfl, ((fm1.le (q' := 59) (by decide)).tr (fm5.le (q' := 59) (by decide))), h5, sp_X0 ?_ tx5 (by rw [sp_cmp, show q_d (sp_lk (sp_T S i1) k1) = _ from if_pos c_32_26, hq501]; exact R5) (by rw [sp_cmp, show q_d (sp_lk (sp_T S i1) k1) = _ from if_pos c_32_26, hq501, sp_becf])⟩
          (first | (refine sp_k32_0 ?_ ?_ <;> (first | assumption | (refine Or.inl ?_; assumption) | (refine Or.inr ?_; assumption) | (refine Or.inr (Or.inl ?_); assumption) | (refine Or.inr (Or.inr ?_); assumption) | (refine Or.inr (Or.inr (Or.inl ?_)); assumption) | (refine Or.inr (Or.inr (Or.inr ?_)); assumption) | (refine fun z => Or.elim z ?_ ?_ <;> assumption) | (refine fun z => Or.elim z ?_ (fun z => Or.elim z ?_ ?_) <;> assumption) | (refine fun z => Or.elim z ?_ (fun z => Or.elim z ?_ (fun z => Or.elim z ?_ ?_)) <;> assumption) | (refine fun z => Or.elim z (fun z9 => z9 ?_) ?_ <;> (first | assumption | (refine Or.inl ?_; assumption) | (refine Or.inr (Or.inl ?_); assumption) | (refine Or.inr (Or.inr ?_); assumption) | (refine Or.inr (Or.inr (Or.inl ?_)); assumption) | (refine Or.inr (Or.inr (Or.inr ?_)); assumption))) | (refine Or.inl (fun z => Or.elim z ?_ (fun z => Or.elim z ?_ ?_)) <;> assumption) | (refine Or.inl (fun z => Or.elim z ?_ (fun z => Or.elim z ?_ (fun z => Or.elim z ?_ ?_))) <;> assumption))))
    · exact absurd c_9_11 (by decide)
  · refine j_if_eq (tgt := 14) dX11_compute_9 (by decide) (fun c_9_77 => ?_) (fun c_9_77 => ?_)
    · exact absurd c_9_77 (by decide)
    · refine j_iconst (v := 0) dX11_compute_12 (by decide) ?_
      refine j_iret dX11_compute_13 rfl rfl ?_ (Nat.le_of_ble_eq_true rfl) (Nat.le_of_ble_eq_true rfl)
      refine cast (congrFun (congrFun hQ9 _) _) ?_
      refine ⟨_, _, rfl, (fm1.le (q' := 59) (by decide)), h1, sp_X1 (k := 1) ?_ (by decide) th1 R1⟩
      (first | (refine sp_k32_1 ?_ <;> (first | assumption | (refine Or.inl ?_; assumption) | (refine Or.inr ?_; assumption) | (refine Or.inr (Or.inl ?_); assumption) | (refine Or.inr (Or.inr ?_); assumption) | (refine Or.inr (Or.inr (Or.inl ?_)); assumption) | (refine Or.inr (Or.inr (Or.inr ?_)); assumption) | (refine fun z => Or.elim z ?_ ?_ <;> assumption) | (refine fun z => Or.elim z ?_ (fun z => Or.elim z ?_ ?_) <;> assumption) | (refine fun z => Or.elim z ?_ (fun z => Or.elim z ?_ (fun z => Or.elim z ?_ ?_)) <;> assumption) | (refine fun z => Or.elim z (fun z9 => z9 ?_) ?_ <;> (first | assumption | (refine Or.inl ?_; assumption) | (refine Or.inr (Or.inl ?_); assumption) | (refine Or.inr (Or.inr ?_); assumption) | (refine Or.inr (Or.inr (Or.inl ?_)); assumption) | (refine Or.inr (Or.inr (Or.inr ?_)); assumption))) | (refine Or.inl (fun z => Or.elim z ?_ (fun z => Or.elim z ?_ ?_)) <;> assumption) | (refine Or.inl (fun z => Or.elim z ?_ (fun z => Or.elim z ?_ (fun z => Or.elim z ?_ ?_))) <;> assumption))))
  · refine j_if_eq (tgt := 14) dX11_compute_9 (by decide) (fun c_9_84 => ?_) (fun c_9_84 => ?_)
    · exact absurd c_9_84 (by decide)
    · refine j_iconst (v := 0) dX11_compute_12 (by decide) ?_
      refine j_iret dX11_compute_13 rfl rfl ?_ (Nat.le_of_ble_eq_true rfl) (Nat.le_of_ble_eq_true rfl)
      refine cast (congrFun (congrFun hQ9 _) _) ?_
      refine ⟨_, _, rfl, (fm1.le (q' := 59) (by decide)), h1, sp_X1 (k := 2) ?_ (by decide) th1 R1⟩
      (first | (refine sp_k32_2 ?_ ?_ <;> (first | assumption | (refine Or.inl ?_; assumption) | (refine Or.inr ?_; assumption) | (refine Or.inr (Or.inl ?_); assumption) | (refine Or.inr (Or.inr ?_); assumption) | (refine Or.inr (Or.inr (Or.inl ?_)); assumption) | (refine Or.inr (Or.inr (Or.inr ?_)); assumption) | (refine fun z => Or.elim z ?_ ?_ <;> assumption) | (refine fun z => Or.elim z ?_ (fun z => Or.elim z ?_ ?_) <;> assumption) | (refine fun z => Or.elim z ?_ (fun z => Or.elim z ?_ (fun z => Or.elim z ?_ ?_)) <;> assumption) | (refine fun z => Or.elim z (fun z9 => z9 ?_) ?_ <;> (first | assumption | (refine Or.inl ?_; assumption) | (refine Or.inr (Or.inl ?_); assumption) | (refine Or.inr (Or.inr ?_); assumption) | (refine Or.inr (Or.inr (Or.inl ?_)); assumption) | (refine Or.inr (Or.inr (Or.inr ?_)); assumption))) | (refine Or.inl (fun z => Or.elim z ?_ (fun z => Or.elim z ?_ ?_)) <;> assumption) | (refine Or.inl (fun z => Or.elim z ?_ (fun z => Or.elim z ?_ (fun z => Or.elim z ?_ ?_))) <;> assumption))))
set_option maxRecDepth 100000 in
set_option maxHeartbeats 8000000 in
theorem cx_merge (hl : l.stackTraces = false) (w : z_W) (S : sp_S) (s : z_Z) (t : Int32) (k : Int32) (y : Int32) (r : Int32) (h : z_mst w s) (R : sp_MR S s) (ok : sp_ok S) : z_Con G l mX11_merge 26 2 52 w [.ref 1000, .int t, .int k, .int y, .int r] (fun v w9 => ∃ (r9 : Int32) (s9 : z_Z), v = some (.int r9) ∧ z_fm 59 w w9 ∧ z_mst w9 s9 ∧ s9.1.1 = sp_k32 t (sp_bk k ∨ (r < 0 ∨ 5 < r) ∨ sp_bv y) ∧ sp_MR (if sp_k32 t (sp_bk k ∨ (r < 0 ∨ 5 < r) ∨ sp_bv y) = 0 then sp_tb S (sp_i t) (sp_mrg (sp_srt (sp_i t)) (sp_T S (sp_i t)) (sp_C S 2) (sp_i k) y r) else S) s9 ∧ (sp_k32 t (sp_bk k ∨ (r < 0 ∨ 5 < r) ∨ sp_bv y) = 0 → r9 = (sp_mrg (sp_srt (sp_i t)) (sp_T S (sp_i t)) (sp_C S 2) (sp_i k) y r).1.getD (-9))) (fun _ _ => False) := by
  generalize hQ9 : (fun (v : Option Value) (w9 : z_W) => ∃ (r9 : Int32) (s9 : z_Z), v = some (.int r9) ∧ z_fm 59 w w9 ∧ z_mst w9 s9 ∧ s9.1.1 = sp_k32 t (sp_bk k ∨ (r < 0 ∨ 5 < r) ∨ sp_bv y) ∧ sp_MR (if sp_k32 t (sp_bk k ∨ (r < 0 ∨ 5 < r) ∨ sp_bv y) = 0 then sp_tb S (sp_i t) (sp_mrg (sp_srt (sp_i t)) (sp_T S (sp_i t)) (sp_C S 2) (sp_i k) y r) else S) s9 ∧ (sp_k32 t (sp_bk k ∨ (r < 0 ∨ 5 < r) ∨ sp_bv y) = 0 → r9 = (sp_mrg (sp_srt (sp_i t)) (sp_T S (sp_i t)) (sp_C S 2) (sp_i k) y r).1.getD (-9))) = Q9
  refine z_body hl (by decide) rfl (Nat.le_of_ble_eq_true rfl) ?_
  show z_J G l mX11_merge _ 0 [(0, _), (1, _), (2, _), (3, _), (4, _)] [] _ 0 0
  refine j_aload_n dX11_merge_0 rfl rfl ?_
  refine j_iload_n dX11_merge_1 rfl ?_
  refine j_iload_n dX11_merge_2 rfl ?_
  refine j_iload dX11_merge_3 rfl ?_
  refine j_iload_n dX11_merge_5 rfl ?_
  refine j_callV (q := (RX11, TX11, 8)) dX11_merge_6 kX11_isNoRule lX11_155 inX11_isNoRule seX11_isNoRule h.m rfl (cx_isNoRule hl w S _ _ _ _ _ h R) (Nat.le_of_ble_eq_true rfl) ⟨(Nat.le_of_ble_eq_true rfl), (Nat.le_of_ble_eq_true rfl)⟩ rfl (Nat.le_of_ble_eq_true rfl) rfl rfl (fun _ _ h => h.elim) ?_
  rintro _ w1 (⟨i1, k1, s1, rfl, hi1, hk1, htt1, hbk1, hbr1, hbv1, rfl, rfl, fm1, h1, R1, th1⟩ | ⟨s1, rfl, fm1, h1, R1, th1, hno1⟩ | ⟨s1, rfl, fm1, h1, R1, th1, htt1, hP1⟩)
  · have ei1 : sp_i (nI i1) = i1 := sp_in' (by omega)
    have ek1 : sp_i (nI k1) = k1 := sp_in' (by omega)
    refine j_if_eq (tgt := 14) dX11_merge_9 (by decide) (fun c_9_11 => ?_) (fun c_9_11 => ?_)
    · refine j_aload_n dX11_merge_14 rfl rfl ?_
      refine j_iload_n dX11_merge_15 rfl ?_
      refine j_iload_n dX11_merge_16 rfl ?_
      refine j_callV (q := (RX11, TX11, 8)) dX11_merge_17 kX11_valueOf lX11_145 inX11_valueOf seX11_valueOf h1.m rfl (cx_valueOf hl w1 S _ (i1) (k1) h1 R1 (by omega) (by omega)) (Nat.le_of_ble_eq_true rfl) ⟨(Nat.le_of_ble_eq_true rfl), (Nat.le_of_ble_eq_true rfl)⟩ rfl (Nat.le_of_ble_eq_true rfl) rfl rfl (fun _ _ h => h.elim) ?_
      rintro _ _ ⟨rfl, hw502⟩
      refine j_w w1 hw502 ?_
      refine j_istore (lo' := [(5, _), (0, _), (1, _), (2, _), (3, _), (4, _)]) dX11_merge_20 (by decide) rfl ?_
      refine j_aload_n dX11_merge_22 rfl rfl ?_
      refine j_iload_n dX11_merge_23 rfl ?_
      refine j_iload_n dX11_merge_24 rfl ?_
      refine j_iload dX11_merge_25 rfl ?_
      refine j_sipush (v := (-1000)) dX11_merge_27 (by decide) ?_
      refine j_icmp_ne (tgt := 37) dX11_merge_30 (by decide) (fun c_30_24 => ?_) (fun c_30_24 => ?_)
      · refine j_iload dX11_merge_37 rfl ?_
        refine j_iload_n dX11_merge_39 rfl ?_
        refine j_iload dX11_merge_40 rfl ?_
        refine j_iload_n dX11_merge_42 rfl ?_
        refine j_callS dX11_merge_43 kX11_rule lX11_115 stX11_rule (cm_rule_r hl w1 _ _ _ _ (sp_lk99 (ok.2.1 i1 (by omega))) (sp_vl (by assumption)).2) (Nat.le_of_ble_eq_true rfl) ⟨(Nat.le_of_ble_eq_true rfl), (Nat.le_of_ble_eq_true rfl)⟩ rfl (Nat.le_of_ble_eq_true rfl) rfl rfl (fun _ _ h => h.elim) ?_
        rintro _ _ ⟨⟨rfl, hq503⟩ | ⟨y503, rfl, hq503, hne503⟩, hw503⟩
        · refine j_w w1 hw503 ?_
          refine j_callV (q := (RX11, TX11, 8)) dX11_merge_46 kX11_become lX11_159 inX11_become seX11_become h1.m rfl (cx_become_n hl w1 S _ (i1) (k1) h1 R1 (by omega) (by omega) (ok.2.1 (i1) (by omega))) (Nat.le_of_ble_eq_true rfl) ⟨(Nat.le_of_ble_eq_true rfl), (Nat.le_of_ble_eq_true rfl)⟩ rfl (Nat.le_of_ble_eq_true rfl) rfl rfl (fun _ _ h => h.elim) ?_
          rintro _ w2 ⟨s2, rfl, fm2, h2, R2, th2⟩
          have tx2 := th2.trans th1
          refine j_iret dX11_merge_49 rfl rfl ?_ (Nat.le_of_ble_eq_true rfl) (Nat.le_of_ble_eq_true rfl)
          refine cast (congrFun (congrFun hQ9 _) _) ?_
          try rw [ei1]
          try rw [ek1]
          refine ⟨_, _, rfl, ((fm1.le (q' := 59) (by decide)).tr (fm2.le (q' := 59) (by decide))), h2, sp_X0 ?_ tx2 (by rw [sp_mrg, if_neg c_30_24, hq503]; exact R2) (by rw [sp_mrg, if_neg c_30_24, hq503, sp_becf])⟩
          (first | (refine sp_k32_0 ?_ ?_ <;> (first | assumption | (refine Or.inl ?_; assumption) | (refine Or.inr ?_; assumption) | (refine Or.inr (Or.inl ?_); assumption) | (refine Or.inr (Or.inr ?_); assumption) | (refine Or.inr (Or.inr (Or.inl ?_)); assumption) | (refine Or.inr (Or.inr (Or.inr ?_)); assumption) | (refine fun z => Or.elim z ?_ ?_ <;> assumption) | (refine fun z => Or.elim z ?_ (fun z => Or.elim z ?_ ?_) <;> assumption) | (refine fun z => Or.elim z ?_ (fun z => Or.elim z ?_ (fun z => Or.elim z ?_ ?_)) <;> assumption) | (refine fun z => Or.elim z (fun z9 => z9 ?_) ?_ <;> (first | assumption | (refine Or.inl ?_; assumption) | (refine Or.inr (Or.inl ?_); assumption) | (refine Or.inr (Or.inr ?_); assumption) | (refine Or.inr (Or.inr (Or.inl ?_)); assumption) | (refine Or.inr (Or.inr (Or.inr ?_)); assumption))) | (refine Or.inl (fun z => Or.elim z ?_ (fun z => Or.elim z ?_ ?_)) <;> assumption) | (refine Or.inl (fun z => Or.elim z ?_ (fun z => Or.elim z ?_ (fun z => Or.elim z ?_ ?_))) <;> assumption))))
        · refine j_w w1 hw503 ?_
          refine j_callV (q := (RX11, TX11, 8)) dX11_merge_46 kX11_become lX11_159 inX11_become seX11_become h1.m rfl (cx_become_s hl w1 S _ (i1) (k1) y503 h1 R1 (by omega) (by omega) (ok.2.1 (i1) (by omega)) hne503) (Nat.le_of_ble_eq_true rfl) ⟨(Nat.le_of_ble_eq_true rfl), (Nat.le_of_ble_eq_true rfl)⟩ rfl (Nat.le_of_ble_eq_true rfl) rfl rfl (fun _ _ h => h.elim) ?_
          rintro _ w3 ⟨s3, rfl, fm3, h3, R3, th3⟩
          have tx3 := th3.trans th1
          refine j_iret dX11_merge_49 rfl rfl ?_ (Nat.le_of_ble_eq_true rfl) (Nat.le_of_ble_eq_true rfl)
          refine cast (congrFun (congrFun hQ9 _) _) ?_
          try rw [ei1]
          try rw [ek1]
          refine ⟨_, _, rfl, ((fm1.le (q' := 59) (by decide)).tr (fm3.le (q' := 59) (by decide))), h3, sp_X0 ?_ tx3 (by rw [sp_mrg, if_neg c_30_24, hq503]; exact R3) (by rw [sp_mrg, if_neg c_30_24, hq503, sp_becf])⟩
          (first | (refine sp_k32_0 ?_ ?_ <;> (first | assumption | (refine Or.inl ?_; assumption) | (refine Or.inr ?_; assumption) | (refine Or.inr (Or.inl ?_); assumption) | (refine Or.inr (Or.inr ?_); assumption) | (refine Or.inr (Or.inr (Or.inl ?_)); assumption) | (refine Or.inr (Or.inr (Or.inr ?_)); assumption) | (refine fun z => Or.elim z ?_ ?_ <;> assumption) | (refine fun z => Or.elim z ?_ (fun z => Or.elim z ?_ ?_) <;> assumption) | (refine fun z => Or.elim z ?_ (fun z => Or.elim z ?_ (fun z => Or.elim z ?_ ?_)) <;> assumption) | (refine fun z => Or.elim z (fun z9 => z9 ?_) ?_ <;> (first | assumption | (refine Or.inl ?_; assumption) | (refine Or.inr (Or.inl ?_); assumption) | (refine Or.inr (Or.inr ?_); assumption) | (refine Or.inr (Or.inr (Or.inl ?_)); assumption) | (refine Or.inr (Or.inr (Or.inr ?_)); assumption))) | (refine Or.inl (fun z => Or.elim z ?_ (fun z => Or.elim z ?_ ?_)) <;> assumption) | (refine Or.inl (fun z => Or.elim z ?_ (fun z => Or.elim z ?_ (fun z => Or.elim z ?_ ?_))) <;> assumption))))
      · refine j_iload_n dX11_merge_33 rfl ?_
        refine j_goto (tgt := 46) dX11_merge_34 (by decide) ?_
        refine j_callV (q := (RX11, TX11, 8)) dX11_merge_46 kX11_become lX11_159 inX11_become seX11_become h1.m rfl (cx_become_s hl w1 S _ (i1) (k1) y h1 R1 (by omega) (by omega) (ok.2.1 (i1) (by omega)) (sp_vl5 (by assumption))) (Nat.le_of_ble_eq_true rfl) ⟨(Nat.le_of_ble_eq_true rfl), (Nat.le_of_ble_eq_true rfl)⟩ rfl (Nat.le_of_ble_eq_true rfl) rfl rfl (fun _ _ h => h.elim) ?_
        rintro _ w4 ⟨s4, rfl, fm4, h4, R4, th4⟩
        have tx4 := th4.trans th1
        refine j_iret dX11_merge_49 rfl rfl ?_ (Nat.le_of_ble_eq_true rfl) (Nat.le_of_ble_eq_true rfl)
        refine cast (congrFun (congrFun hQ9 _) _) ?_
        try rw [ei1]
        try rw [ek1]
        refine ⟨_, _, rfl, ((fm1.le (q' := 59) (by decide)).tr (fm4.le (q' := 59) (by decide))), h4, sp_X0 ?_ tx4 (by rw [sp_mrg, if_pos c_30_24]; have e := R4; rw [sp_bec_v (by assumption)] at e; exact e) (by rw [sp_mrg, if_pos c_30_24])⟩
        (first | (refine sp_k32_0 ?_ ?_ <;> (first | assumption | (refine Or.inl ?_; assumption) | (refine Or.inr ?_; assumption) | (refine Or.inr (Or.inl ?_); assumption) | (refine Or.inr (Or.inr ?_); assumption) | (refine Or.inr (Or.inr (Or.inl ?_)); assumption) | (refine Or.inr (Or.inr (Or.inr ?_)); assumption) | (refine fun z => Or.elim z ?_ ?_ <;> assumption) | (refine fun z => Or.elim z ?_ (fun z => Or.elim z ?_ ?_) <;> assumption) | (refine fun z => Or.elim z ?_ (fun z => Or.elim z ?_ (fun z => Or.elim z ?_ ?_)) <;> assumption) | (refine fun z => Or.elim z (fun z9 => z9 ?_) ?_ <;> (first | assumption | (refine Or.inl ?_; assumption) | (refine Or.inr (Or.inl ?_); assumption) | (refine Or.inr (Or.inr ?_); assumption) | (refine Or.inr (Or.inr (Or.inl ?_)); assumption) | (refine Or.inr (Or.inr (Or.inr ?_)); assumption))) | (refine Or.inl (fun z => Or.elim z ?_ (fun z => Or.elim z ?_ ?_)) <;> assumption) | (refine Or.inl (fun z => Or.elim z ?_ (fun z => Or.elim z ?_ (fun z => Or.elim z ?_ ?_))) <;> assumption))))
    · exact absurd c_9_11 (by decide)
  · refine j_if_eq (tgt := 14) dX11_merge_9 (by decide) (fun c_9_63 => ?_) (fun c_9_63 => ?_)
    · exact absurd c_9_63 (by decide)
    · refine j_iconst (v := 0) dX11_merge_12 (by decide) ?_
      refine j_iret dX11_merge_13 rfl rfl ?_ (Nat.le_of_ble_eq_true rfl) (Nat.le_of_ble_eq_true rfl)
      refine cast (congrFun (congrFun hQ9 _) _) ?_
      refine ⟨_, _, rfl, (fm1.le (q' := 59) (by decide)), h1, sp_X1 (k := 1) ?_ (by decide) th1 R1⟩
      (first | (refine sp_k32_1 ?_ <;> (first | assumption | (refine Or.inl ?_; assumption) | (refine Or.inr ?_; assumption) | (refine Or.inr (Or.inl ?_); assumption) | (refine Or.inr (Or.inr ?_); assumption) | (refine Or.inr (Or.inr (Or.inl ?_)); assumption) | (refine Or.inr (Or.inr (Or.inr ?_)); assumption) | (refine fun z => Or.elim z ?_ ?_ <;> assumption) | (refine fun z => Or.elim z ?_ (fun z => Or.elim z ?_ ?_) <;> assumption) | (refine fun z => Or.elim z ?_ (fun z => Or.elim z ?_ (fun z => Or.elim z ?_ ?_)) <;> assumption) | (refine fun z => Or.elim z (fun z9 => z9 ?_) ?_ <;> (first | assumption | (refine Or.inl ?_; assumption) | (refine Or.inr (Or.inl ?_); assumption) | (refine Or.inr (Or.inr ?_); assumption) | (refine Or.inr (Or.inr (Or.inl ?_)); assumption) | (refine Or.inr (Or.inr (Or.inr ?_)); assumption))) | (refine Or.inl (fun z => Or.elim z ?_ (fun z => Or.elim z ?_ ?_)) <;> assumption) | (refine Or.inl (fun z => Or.elim z ?_ (fun z => Or.elim z ?_ (fun z => Or.elim z ?_ ?_))) <;> assumption))))
  · refine j_if_eq (tgt := 14) dX11_merge_9 (by decide) (fun c_9_70 => ?_) (fun c_9_70 => ?_)
    · exact absurd c_9_70 (by decide)
    · refine j_iconst (v := 0) dX11_merge_12 (by decide) ?_
      refine j_iret dX11_merge_13 rfl rfl ?_ (Nat.le_of_ble_eq_true rfl) (Nat.le_of_ble_eq_true rfl)
      refine cast (congrFun (congrFun hQ9 _) _) ?_
      refine ⟨_, _, rfl, (fm1.le (q' := 59) (by decide)), h1, sp_X1 (k := 2) ?_ (by decide) th1 R1⟩
      (first | (refine sp_k32_2 ?_ ?_ <;> (first | assumption | (refine Or.inl ?_; assumption) | (refine Or.inr ?_; assumption) | (refine Or.inr (Or.inl ?_); assumption) | (refine Or.inr (Or.inr ?_); assumption) | (refine Or.inr (Or.inr (Or.inl ?_)); assumption) | (refine Or.inr (Or.inr (Or.inr ?_)); assumption) | (refine fun z => Or.elim z ?_ ?_ <;> assumption) | (refine fun z => Or.elim z ?_ (fun z => Or.elim z ?_ ?_) <;> assumption) | (refine fun z => Or.elim z ?_ (fun z => Or.elim z ?_ (fun z => Or.elim z ?_ ?_)) <;> assumption) | (refine fun z => Or.elim z (fun z9 => z9 ?_) ?_ <;> (first | assumption | (refine Or.inl ?_; assumption) | (refine Or.inr (Or.inl ?_); assumption) | (refine Or.inr (Or.inr ?_); assumption) | (refine Or.inr (Or.inr (Or.inl ?_)); assumption) | (refine Or.inr (Or.inr (Or.inr ?_)); assumption))) | (refine Or.inl (fun z => Or.elim z ?_ (fun z => Or.elim z ?_ ?_)) <;> assumption) | (refine Or.inl (fun z => Or.elim z ?_ (fun z => Or.elim z ?_ (fun z => Or.elim z ?_ ?_))) <;> assumption))))
set_option maxRecDepth 100000 in
set_option maxHeartbeats 8000000 in
theorem cx_get (hl : l.stackTraces = false) (w : z_W) (S : sp_S) (s : z_Z) (t : Int32) (k : Int32) (h : z_mst w s) (R : sp_MR S s)  : z_Con G l mX11_get 24 2 52 w [.ref 1000, .int t, .int k] (fun v w9 => ∃ (r9 : Int32) (s9 : z_Z), v = some (.int r9) ∧ z_fm 59 w w9 ∧ z_mst w9 s9 ∧ s9.1.1 = sp_k32 t (sp_bk k) ∧ sp_MR (if sp_k32 t (sp_bk k) = 0 then S else S) s9 ∧ (sp_k32 t (sp_bk k) = 0 → r9 = sp_lk (sp_T S (sp_i t)) (sp_i k))) (fun _ _ => False) := by
  generalize hQ9 : (fun (v : Option Value) (w9 : z_W) => ∃ (r9 : Int32) (s9 : z_Z), v = some (.int r9) ∧ z_fm 59 w w9 ∧ z_mst w9 s9 ∧ s9.1.1 = sp_k32 t (sp_bk k) ∧ sp_MR (if sp_k32 t (sp_bk k) = 0 then S else S) s9 ∧ (sp_k32 t (sp_bk k) = 0 → r9 = sp_lk (sp_T S (sp_i t)) (sp_i k))) = Q9
  refine z_body hl (by decide) rfl (Nat.le_of_ble_eq_true rfl) ?_
  show z_J G l mX11_get _ 0 [(0, _), (1, _), (2, _)] [] _ 0 0
  refine j_aload_n dX11_get_0 rfl rfl ?_
  refine j_iload_n dX11_get_1 rfl ?_
  refine j_iload_n dX11_get_2 rfl ?_
  refine j_iconst (v := 0) dX11_get_3 (by decide) ?_
  refine j_callV (q := (RX11, TX11, 8)) dX11_get_4 kX11_isNoPair lX11_142 inX11_isNoPair seX11_isNoPair h.m rfl (cx_isNoPair hl w S _ _ _ 0 h R) (Nat.le_of_ble_eq_true rfl) ⟨(Nat.le_of_ble_eq_true rfl), (Nat.le_of_ble_eq_true rfl)⟩ rfl (Nat.le_of_ble_eq_true rfl) rfl rfl (fun _ _ h => h.elim) ?_
  rintro _ w1 (⟨i1, k1, s1, rfl, hi1, hk1, htt1, hbk1, hbv1, rfl, rfl, fm1, h1, R1, th1⟩ | ⟨s1, rfl, fm1, h1, R1, th1, hno1⟩ | ⟨s1, rfl, fm1, h1, R1, th1, htt1, hP1⟩)
  · have ei1 : sp_i (nI i1) = i1 := sp_in' (by omega)
    have ek1 : sp_i (nI k1) = k1 := sp_in' (by omega)
    refine j_if_eq (tgt := 14) dX11_get_7 (by decide) (fun c_7_10 => ?_) (fun c_7_10 => ?_)
    · refine j_aload_n dX11_get_14 rfl rfl ?_
      refine j_iload_n dX11_get_15 rfl ?_
      refine j_iload_n dX11_get_16 rfl ?_
      refine j_callV (q := (RX11, TX11, 8)) dX11_get_17 kX11_valueOf lX11_145 inX11_valueOf seX11_valueOf h1.m rfl (cx_valueOf hl w1 S _ (i1) (k1) h1 R1 (by omega) (by omega)) (Nat.le_of_ble_eq_true rfl) ⟨(Nat.le_of_ble_eq_true rfl), (Nat.le_of_ble_eq_true rfl)⟩ rfl (Nat.le_of_ble_eq_true rfl) rfl rfl (fun _ _ h => h.elim) ?_
      rintro _ _ ⟨rfl, hw504⟩
      refine j_w w1 hw504 ?_
      refine j_iret dX11_get_20 rfl rfl ?_ (Nat.le_of_ble_eq_true rfl) (Nat.le_of_ble_eq_true rfl)
      refine cast (congrFun (congrFun hQ9 _) _) ?_
      try rw [ei1]
      try rw [ek1]
      refine ⟨_, _, rfl, (fm1.le (q' := 59) (by decide)), h1, sp_X0 ?_ th1 R1 rfl⟩
      (first | (refine sp_k32_0 ?_ ?_ <;> (first | assumption | (refine Or.inl ?_; assumption) | (refine Or.inr ?_; assumption) | (refine Or.inr (Or.inl ?_); assumption) | (refine Or.inr (Or.inr ?_); assumption) | (refine Or.inr (Or.inr (Or.inl ?_)); assumption) | (refine Or.inr (Or.inr (Or.inr ?_)); assumption) | (refine fun z => Or.elim z ?_ ?_ <;> assumption) | (refine fun z => Or.elim z ?_ (fun z => Or.elim z ?_ ?_) <;> assumption) | (refine fun z => Or.elim z ?_ (fun z => Or.elim z ?_ (fun z => Or.elim z ?_ ?_)) <;> assumption) | (refine fun z => Or.elim z (fun z9 => z9 ?_) ?_ <;> (first | assumption | (refine Or.inl ?_; assumption) | (refine Or.inr (Or.inl ?_); assumption) | (refine Or.inr (Or.inr ?_); assumption) | (refine Or.inr (Or.inr (Or.inl ?_)); assumption) | (refine Or.inr (Or.inr (Or.inr ?_)); assumption))) | (refine Or.inl (fun z => Or.elim z ?_ (fun z => Or.elim z ?_ ?_)) <;> assumption) | (refine Or.inl (fun z => Or.elim z ?_ (fun z => Or.elim z ?_ (fun z => Or.elim z ?_ ?_))) <;> assumption))))
    · exact absurd c_7_10 (by decide)
  · refine j_if_eq (tgt := 14) dX11_get_7 (by decide) (fun c_7_24 => ?_) (fun c_7_24 => ?_)
    · exact absurd c_7_24 (by decide)
    · refine j_iconst (v := 0) dX11_get_10 (by decide) ?_
      refine j_goto (tgt := 20) dX11_get_11 (by decide) ?_
      refine j_iret dX11_get_20 rfl rfl ?_ (Nat.le_of_ble_eq_true rfl) (Nat.le_of_ble_eq_true rfl)
      refine cast (congrFun (congrFun hQ9 _) _) ?_
      refine ⟨_, _, rfl, (fm1.le (q' := 59) (by decide)), h1, sp_X1 (k := 1) ?_ (by decide) th1 R1⟩
      (first | (refine sp_k32_1 ?_ <;> (first | assumption | (refine Or.inl ?_; assumption) | (refine Or.inr ?_; assumption) | (refine Or.inr (Or.inl ?_); assumption) | (refine Or.inr (Or.inr ?_); assumption) | (refine Or.inr (Or.inr (Or.inl ?_)); assumption) | (refine Or.inr (Or.inr (Or.inr ?_)); assumption) | (refine fun z => Or.elim z ?_ ?_ <;> assumption) | (refine fun z => Or.elim z ?_ (fun z => Or.elim z ?_ ?_) <;> assumption) | (refine fun z => Or.elim z ?_ (fun z => Or.elim z ?_ (fun z => Or.elim z ?_ ?_)) <;> assumption) | (refine fun z => Or.elim z (fun z9 => z9 ?_) ?_ <;> (first | assumption | (refine Or.inl ?_; assumption) | (refine Or.inr (Or.inl ?_); assumption) | (refine Or.inr (Or.inr ?_); assumption) | (refine Or.inr (Or.inr (Or.inl ?_)); assumption) | (refine Or.inr (Or.inr (Or.inr ?_)); assumption))) | (refine Or.inl (fun z => Or.elim z ?_ (fun z => Or.elim z ?_ ?_)) <;> assumption) | (refine Or.inl (fun z => Or.elim z ?_ (fun z => Or.elim z ?_ (fun z => Or.elim z ?_ ?_))) <;> assumption))))
  · have hP9 : sp_bk k := hP1.resolve_right (by decide)
    refine j_if_eq (tgt := 14) dX11_get_7 (by decide) (fun c_7_33 => ?_) (fun c_7_33 => ?_)
    · exact absurd c_7_33 (by decide)
    · refine j_iconst (v := 0) dX11_get_10 (by decide) ?_
      refine j_goto (tgt := 20) dX11_get_11 (by decide) ?_
      refine j_iret dX11_get_20 rfl rfl ?_ (Nat.le_of_ble_eq_true rfl) (Nat.le_of_ble_eq_true rfl)
      refine cast (congrFun (congrFun hQ9 _) _) ?_
      refine ⟨_, _, rfl, (fm1.le (q' := 59) (by decide)), h1, sp_X1 (k := 2) ?_ (by decide) th1 R1⟩
      (first | (refine sp_k32_2 ?_ ?_ <;> (first | assumption | (refine Or.inl ?_; assumption) | (refine Or.inr ?_; assumption) | (refine Or.inr (Or.inl ?_); assumption) | (refine Or.inr (Or.inr ?_); assumption) | (refine Or.inr (Or.inr (Or.inl ?_)); assumption) | (refine Or.inr (Or.inr (Or.inr ?_)); assumption) | (refine fun z => Or.elim z ?_ ?_ <;> assumption) | (refine fun z => Or.elim z ?_ (fun z => Or.elim z ?_ ?_) <;> assumption) | (refine fun z => Or.elim z ?_ (fun z => Or.elim z ?_ (fun z => Or.elim z ?_ ?_)) <;> assumption) | (refine fun z => Or.elim z (fun z9 => z9 ?_) ?_ <;> (first | assumption | (refine Or.inl ?_; assumption) | (refine Or.inr (Or.inl ?_); assumption) | (refine Or.inr (Or.inr ?_); assumption) | (refine Or.inr (Or.inr (Or.inl ?_)); assumption) | (refine Or.inr (Or.inr (Or.inr ?_)); assumption))) | (refine Or.inl (fun z => Or.elim z ?_ (fun z => Or.elim z ?_ ?_)) <;> assumption) | (refine Or.inl (fun z => Or.elim z ?_ (fun z => Or.elim z ?_ (fun z => Or.elim z ?_ ?_))) <;> assumption))))
set_option maxRecDepth 100000 in
set_option maxHeartbeats 8000000 in
theorem cx_getOr (hl : l.stackTraces = false) (w : z_W) (S : sp_S) (s : z_Z) (t : Int32) (k : Int32) (y : Int32) (h : z_mst w s) (R : sp_MR S s)  : z_Con G l mX11_getOr 24 2 52 w [.ref 1000, .int t, .int k, .int y] (fun v w9 => ∃ (r9 : Int32) (s9 : z_Z), v = some (.int r9) ∧ z_fm 59 w w9 ∧ z_mst w9 s9 ∧ s9.1.1 = sp_k32 t (sp_bk k ∨ sp_bv y) ∧ sp_MR (if sp_k32 t (sp_bk k ∨ sp_bv y) = 0 then S else S) s9 ∧ (sp_k32 t (sp_bk k ∨ sp_bv y) = 0 → r9 = (if sp_lk (sp_T S (sp_i t)) (sp_i k) = -1000 then y else sp_lk (sp_T S (sp_i t)) (sp_i k)))) (fun _ _ => False) := by
  generalize hQ9 : (fun (v : Option Value) (w9 : z_W) => ∃ (r9 : Int32) (s9 : z_Z), v = some (.int r9) ∧ z_fm 59 w w9 ∧ z_mst w9 s9 ∧ s9.1.1 = sp_k32 t (sp_bk k ∨ sp_bv y) ∧ sp_MR (if sp_k32 t (sp_bk k ∨ sp_bv y) = 0 then S else S) s9 ∧ (sp_k32 t (sp_bk k ∨ sp_bv y) = 0 → r9 = (if sp_lk (sp_T S (sp_i t)) (sp_i k) = -1000 then y else sp_lk (sp_T S (sp_i t)) (sp_i k)))) = Q9
  refine z_body hl (by decide) rfl (Nat.le_of_ble_eq_true rfl) ?_
  show z_J G l mX11_getOr _ 0 [(0, _), (1, _), (2, _), (3, _)] [] _ 0 0
  refine j_aload_n dX11_getOr_0 rfl rfl ?_
  refine j_iload_n dX11_getOr_1 rfl ?_
  refine j_iload_n dX11_getOr_2 rfl ?_
  refine j_iload_n dX11_getOr_3 rfl ?_
  refine j_callV (q := (RX11, TX11, 8)) dX11_getOr_4 kX11_isNoPair lX11_142 inX11_isNoPair seX11_isNoPair h.m rfl (cx_isNoPair hl w S _ _ _ _ h R) (Nat.le_of_ble_eq_true rfl) ⟨(Nat.le_of_ble_eq_true rfl), (Nat.le_of_ble_eq_true rfl)⟩ rfl (Nat.le_of_ble_eq_true rfl) rfl rfl (fun _ _ h => h.elim) ?_
  rintro _ w1 (⟨i1, k1, s1, rfl, hi1, hk1, htt1, hbk1, hbv1, rfl, rfl, fm1, h1, R1, th1⟩ | ⟨s1, rfl, fm1, h1, R1, th1, hno1⟩ | ⟨s1, rfl, fm1, h1, R1, th1, htt1, hP1⟩)
  · have ei1 : sp_i (nI i1) = i1 := sp_in' (by omega)
    have ek1 : sp_i (nI k1) = k1 := sp_in' (by omega)
    refine j_if_eq (tgt := 12) dX11_getOr_7 (by decide) (fun c_7_10 => ?_) (fun c_7_10 => ?_)
    · refine j_aload_n dX11_getOr_12 rfl rfl ?_
      refine j_iload_n dX11_getOr_13 rfl ?_
      refine j_iload_n dX11_getOr_14 rfl ?_
      refine j_callV (q := (RX11, TX11, 8)) dX11_getOr_15 kX11_valueOf lX11_145 inX11_valueOf seX11_valueOf h1.m rfl (cx_valueOf hl w1 S _ (i1) (k1) h1 R1 (by omega) (by omega)) (Nat.le_of_ble_eq_true rfl) ⟨(Nat.le_of_ble_eq_true rfl), (Nat.le_of_ble_eq_true rfl)⟩ rfl (Nat.le_of_ble_eq_true rfl) rfl rfl (fun _ _ h => h.elim) ?_
      rintro _ _ ⟨rfl, hw505⟩
      refine j_w w1 hw505 ?_
      refine j_istore (lo' := [(4, _), (0, _), (1, _), (2, _), (3, _)]) dX11_getOr_18 (by decide) rfl ?_
      refine j_iload dX11_getOr_20 rfl ?_
      refine j_sipush (v := (-1000)) dX11_getOr_22 (by decide) ?_
      refine j_icmp_ne (tgt := 32) dX11_getOr_25 (by decide) (fun c_25_20 => ?_) (fun c_25_20 => ?_)
      · refine j_iload dX11_getOr_32 rfl ?_
        refine j_iret dX11_getOr_34 rfl rfl ?_ (Nat.le_of_ble_eq_true rfl) (Nat.le_of_ble_eq_true rfl)
        refine cast (congrFun (congrFun hQ9 _) _) ?_
        try rw [ei1]
        try rw [ek1]
        refine ⟨_, _, rfl, (fm1.le (q' := 59) (by decide)), h1, sp_X0 ?_ th1 R1 (by rw [if_neg c_25_20])⟩
        (first | (refine sp_k32_0 ?_ ?_ <;> (first | assumption | (refine Or.inl ?_; assumption) | (refine Or.inr ?_; assumption) | (refine Or.inr (Or.inl ?_); assumption) | (refine Or.inr (Or.inr ?_); assumption) | (refine Or.inr (Or.inr (Or.inl ?_)); assumption) | (refine Or.inr (Or.inr (Or.inr ?_)); assumption) | (refine fun z => Or.elim z ?_ ?_ <;> assumption) | (refine fun z => Or.elim z ?_ (fun z => Or.elim z ?_ ?_) <;> assumption) | (refine fun z => Or.elim z ?_ (fun z => Or.elim z ?_ (fun z => Or.elim z ?_ ?_)) <;> assumption) | (refine fun z => Or.elim z (fun z9 => z9 ?_) ?_ <;> (first | assumption | (refine Or.inl ?_; assumption) | (refine Or.inr (Or.inl ?_); assumption) | (refine Or.inr (Or.inr ?_); assumption) | (refine Or.inr (Or.inr (Or.inl ?_)); assumption) | (refine Or.inr (Or.inr (Or.inr ?_)); assumption))) | (refine Or.inl (fun z => Or.elim z ?_ (fun z => Or.elim z ?_ ?_)) <;> assumption) | (refine Or.inl (fun z => Or.elim z ?_ (fun z => Or.elim z ?_ (fun z => Or.elim z ?_ ?_))) <;> assumption))))
      · refine j_iload_n dX11_getOr_28 rfl ?_
        refine j_goto (tgt := 34) dX11_getOr_29 (by decide) ?_
        refine j_iret dX11_getOr_34 rfl rfl ?_ (Nat.le_of_ble_eq_true rfl) (Nat.le_of_ble_eq_true rfl)
        refine cast (congrFun (congrFun hQ9 _) _) ?_
        try rw [ei1]
        try rw [ek1]
        refine ⟨_, _, rfl, (fm1.le (q' := 59) (by decide)), h1, sp_X0 ?_ th1 R1 (by rw [if_pos c_25_20])⟩
        (first | (refine sp_k32_0 ?_ ?_ <;> (first | assumption | (refine Or.inl ?_; assumption) | (refine Or.inr ?_; assumption) | (refine Or.inr (Or.inl ?_); assumption) | (refine Or.inr (Or.inr ?_); assumption) | (refine Or.inr (Or.inr (Or.inl ?_)); assumption) | (refine Or.inr (Or.inr (Or.inr ?_)); assumption) | (refine fun z => Or.elim z ?_ ?_ <;> assumption) | (refine fun z => Or.elim z ?_ (fun z => Or.elim z ?_ ?_) <;> assumption) | (refine fun z => Or.elim z ?_ (fun z => Or.elim z ?_ (fun z => Or.elim z ?_ ?_)) <;> assumption) | (refine fun z => Or.elim z (fun z9 => z9 ?_) ?_ <;> (first | assumption | (refine Or.inl ?_; assumption) | (refine Or.inr (Or.inl ?_); assumption) | (refine Or.inr (Or.inr ?_); assumption) | (refine Or.inr (Or.inr (Or.inl ?_)); assumption) | (refine Or.inr (Or.inr (Or.inr ?_)); assumption))) | (refine Or.inl (fun z => Or.elim z ?_ (fun z => Or.elim z ?_ ?_)) <;> assumption) | (refine Or.inl (fun z => Or.elim z ?_ (fun z => Or.elim z ?_ (fun z => Or.elim z ?_ ?_))) <;> assumption))))
    · exact absurd c_7_10 (by decide)
  · refine j_if_eq (tgt := 12) dX11_getOr_7 (by decide) (fun c_7_37 => ?_) (fun c_7_37 => ?_)
    · exact absurd c_7_37 (by decide)
    · refine j_iconst (v := 0) dX11_getOr_10 (by decide) ?_
      refine j_iret dX11_getOr_11 rfl rfl ?_ (Nat.le_of_ble_eq_true rfl) (Nat.le_of_ble_eq_true rfl)
      refine cast (congrFun (congrFun hQ9 _) _) ?_
      refine ⟨_, _, rfl, (fm1.le (q' := 59) (by decide)), h1, sp_X1 (k := 1) ?_ (by decide) th1 R1⟩
      (first | (refine sp_k32_1 ?_ <;> (first | assumption | (refine Or.inl ?_; assumption) | (refine Or.inr ?_; assumption) | (refine Or.inr (Or.inl ?_); assumption) | (refine Or.inr (Or.inr ?_); assumption) | (refine Or.inr (Or.inr (Or.inl ?_)); assumption) | (refine Or.inr (Or.inr (Or.inr ?_)); assumption) | (refine fun z => Or.elim z ?_ ?_ <;> assumption) | (refine fun z => Or.elim z ?_ (fun z => Or.elim z ?_ ?_) <;> assumption) | (refine fun z => Or.elim z ?_ (fun z => Or.elim z ?_ (fun z => Or.elim z ?_ ?_)) <;> assumption) | (refine fun z => Or.elim z (fun z9 => z9 ?_) ?_ <;> (first | assumption | (refine Or.inl ?_; assumption) | (refine Or.inr (Or.inl ?_); assumption) | (refine Or.inr (Or.inr ?_); assumption) | (refine Or.inr (Or.inr (Or.inl ?_)); assumption) | (refine Or.inr (Or.inr (Or.inr ?_)); assumption))) | (refine Or.inl (fun z => Or.elim z ?_ (fun z => Or.elim z ?_ ?_)) <;> assumption) | (refine Or.inl (fun z => Or.elim z ?_ (fun z => Or.elim z ?_ (fun z => Or.elim z ?_ ?_))) <;> assumption))))
  · refine j_if_eq (tgt := 12) dX11_getOr_7 (by decide) (fun c_7_44 => ?_) (fun c_7_44 => ?_)
    · exact absurd c_7_44 (by decide)
    · refine j_iconst (v := 0) dX11_getOr_10 (by decide) ?_
      refine j_iret dX11_getOr_11 rfl rfl ?_ (Nat.le_of_ble_eq_true rfl) (Nat.le_of_ble_eq_true rfl)
      refine cast (congrFun (congrFun hQ9 _) _) ?_
      refine ⟨_, _, rfl, (fm1.le (q' := 59) (by decide)), h1, sp_X1 (k := 2) ?_ (by decide) th1 R1⟩
      (first | (refine sp_k32_2 ?_ ?_ <;> (first | assumption | (refine Or.inl ?_; assumption) | (refine Or.inr ?_; assumption) | (refine Or.inr (Or.inl ?_); assumption) | (refine Or.inr (Or.inr ?_); assumption) | (refine Or.inr (Or.inr (Or.inl ?_)); assumption) | (refine Or.inr (Or.inr (Or.inr ?_)); assumption) | (refine fun z => Or.elim z ?_ ?_ <;> assumption) | (refine fun z => Or.elim z ?_ (fun z => Or.elim z ?_ ?_) <;> assumption) | (refine fun z => Or.elim z ?_ (fun z => Or.elim z ?_ (fun z => Or.elim z ?_ ?_)) <;> assumption) | (refine fun z => Or.elim z (fun z9 => z9 ?_) ?_ <;> (first | assumption | (refine Or.inl ?_; assumption) | (refine Or.inr (Or.inl ?_); assumption) | (refine Or.inr (Or.inr ?_); assumption) | (refine Or.inr (Or.inr (Or.inl ?_)); assumption) | (refine Or.inr (Or.inr (Or.inr ?_)); assumption))) | (refine Or.inl (fun z => Or.elim z ?_ (fun z => Or.elim z ?_ ?_)) <;> assumption) | (refine Or.inl (fun z => Or.elim z ?_ (fun z => Or.elim z ?_ (fun z => Or.elim z ?_ ?_))) <;> assumption))))
set_option maxRecDepth 100000 in
set_option maxHeartbeats 8000000 in
theorem cx_has (hl : l.stackTraces = false) (w : z_W) (S : sp_S) (s : z_Z) (t : Int32) (k : Int32) (h : z_mst w s) (R : sp_MR S s) (ok : sp_ok S) : z_Con G l mX11_has 24 2 52 w [.ref 1000, .int t, .int k] (fun v w9 => ∃ (r9 : Int32) (s9 : z_Z), v = some (.int r9) ∧ z_fm 59 w w9 ∧ z_mst w9 s9 ∧ s9.1.1 = sp_k32 t (sp_bk k) ∧ sp_MR (if sp_k32 t (sp_bk k) = 0 then S else S) s9 ∧ (sp_k32 t (sp_bk k) = 0 → r9 = z_bi (!(decide (sp_lk (sp_T S (sp_i t)) (sp_i k) = -1000))))) (fun _ _ => False) := by
  generalize hQ9 : (fun (v : Option Value) (w9 : z_W) => ∃ (r9 : Int32) (s9 : z_Z), v = some (.int r9) ∧ z_fm 59 w w9 ∧ z_mst w9 s9 ∧ s9.1.1 = sp_k32 t (sp_bk k) ∧ sp_MR (if sp_k32 t (sp_bk k) = 0 then S else S) s9 ∧ (sp_k32 t (sp_bk k) = 0 → r9 = z_bi (!(decide (sp_lk (sp_T S (sp_i t)) (sp_i k) = -1000))))) = Q9
  refine z_body hl (by decide) rfl (Nat.le_of_ble_eq_true rfl) ?_
  show z_J G l mX11_has _ 0 [(0, _), (1, _), (2, _)] [] _ 0 0
  refine j_aload_n dX11_has_0 rfl rfl ?_
  refine j_iload_n dX11_has_1 rfl ?_
  refine j_iload_n dX11_has_2 rfl ?_
  refine j_iconst (v := 0) dX11_has_3 (by decide) ?_
  refine j_callV (q := (RX11, TX11, 8)) dX11_has_4 kX11_isNoPair lX11_142 inX11_isNoPair seX11_isNoPair h.m rfl (cx_isNoPair hl w S _ _ _ 0 h R) (Nat.le_of_ble_eq_true rfl) ⟨(Nat.le_of_ble_eq_true rfl), (Nat.le_of_ble_eq_true rfl)⟩ rfl (Nat.le_of_ble_eq_true rfl) rfl rfl (fun _ _ h => h.elim) ?_
  rintro _ w1 (⟨i1, k1, s1, rfl, hi1, hk1, htt1, hbk1, hbv1, rfl, rfl, fm1, h1, R1, th1⟩ | ⟨s1, rfl, fm1, h1, R1, th1, hno1⟩ | ⟨s1, rfl, fm1, h1, R1, th1, htt1, hP1⟩)
  · have ei1 : sp_i (nI i1) = i1 := sp_in' (by omega)
    have ek1 : sp_i (nI k1) = k1 := sp_in' (by omega)
    refine j_if_ne (tgt := 23) dX11_has_7 (by decide) (fun c_7_10 => ?_) (fun c_7_10 => ?_)
    · exact absurd c_7_10 (by decide)
    · refine j_aload_n dX11_has_10 rfl rfl ?_
      refine j_iload_n dX11_has_11 rfl ?_
      refine j_iload_n dX11_has_12 rfl ?_
      refine j_callV (q := (RX11, TX11, 8)) dX11_has_13 kX11_place lX11_130 inX11_place seX11_place h1.m rfl (cm_place_r hl w1 _ _ (i1) (k1) (sp_T S (i1)) h1 R1 (by omega) (by omega) rfl) (Nat.le_of_ble_eq_true rfl) ⟨(Nat.le_of_ble_eq_true rfl), (Nat.le_of_ble_eq_true rfl)⟩ rfl (Nat.le_of_ble_eq_true rfl) rfl rfl (fun _ _ h => h.elim) ?_
      rintro _ _ ⟨⟨j506, e506, rfl, hj506, he506, hlk506, hmem506, hjl506, hl20506⟩ | ⟨rfl, hnk506, hlk506⟩, hw506⟩
      · refine j_w w1 hw506 ?_
        refine j_if_lt (tgt := 23) dX11_has_16 (by decide) (fun c_16_18 => ?_) (fun c_16_18 => ?_)
        · exact absurd c_16_18 (nI_pos (n := j506) (by omega))
        · refine j_iconst (v := 1) dX11_has_19 (by decide) ?_
          refine j_goto (tgt := 24) dX11_has_20 (by decide) ?_
          refine j_iret dX11_has_24 rfl rfl ?_ (Nat.le_of_ble_eq_true rfl) (Nat.le_of_ble_eq_true rfl)
          refine cast (congrFun (congrFun hQ9 _) _) ?_
          try rw [ei1]
          try rw [ek1]
          refine ⟨_, _, rfl, (fm1.le (q' := 59) (by decide)), h1, sp_X0 ?_ th1 R1 (by rw [decide_eq_false (sp_vln (sp_lk_vl (ok.2.1 i1 (by omega)).2 hmem506))]; rfl)⟩
          (first | (refine sp_k32_0 ?_ ?_ <;> (first | assumption | (refine Or.inl ?_; assumption) | (refine Or.inr ?_; assumption) | (refine Or.inr (Or.inl ?_); assumption) | (refine Or.inr (Or.inr ?_); assumption) | (refine Or.inr (Or.inr (Or.inl ?_)); assumption) | (refine Or.inr (Or.inr (Or.inr ?_)); assumption) | (refine fun z => Or.elim z ?_ ?_ <;> assumption) | (refine fun z => Or.elim z ?_ (fun z => Or.elim z ?_ ?_) <;> assumption) | (refine fun z => Or.elim z ?_ (fun z => Or.elim z ?_ (fun z => Or.elim z ?_ ?_)) <;> assumption) | (refine fun z => Or.elim z (fun z9 => z9 ?_) ?_ <;> (first | assumption | (refine Or.inl ?_; assumption) | (refine Or.inr (Or.inl ?_); assumption) | (refine Or.inr (Or.inr ?_); assumption) | (refine Or.inr (Or.inr (Or.inl ?_)); assumption) | (refine Or.inr (Or.inr (Or.inr ?_)); assumption))) | (refine Or.inl (fun z => Or.elim z ?_ (fun z => Or.elim z ?_ ?_)) <;> assumption) | (refine Or.inl (fun z => Or.elim z ?_ (fun z => Or.elim z ?_ (fun z => Or.elim z ?_ ?_))) <;> assumption))))
      · refine j_w w1 hw506 ?_
        refine j_if_lt (tgt := 23) dX11_has_16 (by decide) (fun c_16_29 => ?_) (fun c_16_29 => ?_)
        · refine j_iconst (v := 0) dX11_has_23 (by decide) ?_
          refine j_iret dX11_has_24 rfl rfl ?_ (Nat.le_of_ble_eq_true rfl) (Nat.le_of_ble_eq_true rfl)
          refine cast (congrFun (congrFun hQ9 _) _) ?_
          try rw [ei1]
          try rw [ek1]
          refine ⟨_, _, rfl, (fm1.le (q' := 59) (by decide)), h1, sp_X0 ?_ th1 R1 (by rw [decide_eq_true hlk506]; rfl)⟩
          (first | (refine sp_k32_0 ?_ ?_ <;> (first | assumption | (refine Or.inl ?_; assumption) | (refine Or.inr ?_; assumption) | (refine Or.inr (Or.inl ?_); assumption) | (refine Or.inr (Or.inr ?_); assumption) | (refine Or.inr (Or.inr (Or.inl ?_)); assumption) | (refine Or.inr (Or.inr (Or.inr ?_)); assumption) | (refine fun z => Or.elim z ?_ ?_ <;> assumption) | (refine fun z => Or.elim z ?_ (fun z => Or.elim z ?_ ?_) <;> assumption) | (refine fun z => Or.elim z ?_ (fun z => Or.elim z ?_ (fun z => Or.elim z ?_ ?_)) <;> assumption) | (refine fun z => Or.elim z (fun z9 => z9 ?_) ?_ <;> (first | assumption | (refine Or.inl ?_; assumption) | (refine Or.inr (Or.inl ?_); assumption) | (refine Or.inr (Or.inr ?_); assumption) | (refine Or.inr (Or.inr (Or.inl ?_)); assumption) | (refine Or.inr (Or.inr (Or.inr ?_)); assumption))) | (refine Or.inl (fun z => Or.elim z ?_ (fun z => Or.elim z ?_ ?_)) <;> assumption) | (refine Or.inl (fun z => Or.elim z ?_ (fun z => Or.elim z ?_ (fun z => Or.elim z ?_ ?_))) <;> assumption))))
        · exact absurd c_16_29 (by decide)
  · refine j_if_ne (tgt := 23) dX11_has_7 (by decide) (fun c_7_38 => ?_) (fun c_7_38 => ?_)
    · refine j_iconst (v := 0) dX11_has_23 (by decide) ?_
      refine j_iret dX11_has_24 rfl rfl ?_ (Nat.le_of_ble_eq_true rfl) (Nat.le_of_ble_eq_true rfl)
      refine cast (congrFun (congrFun hQ9 _) _) ?_
      refine ⟨_, _, rfl, (fm1.le (q' := 59) (by decide)), h1, sp_X1 (k := 1) ?_ (by decide) th1 R1⟩
      (first | (refine sp_k32_1 ?_ <;> (first | assumption | (refine Or.inl ?_; assumption) | (refine Or.inr ?_; assumption) | (refine Or.inr (Or.inl ?_); assumption) | (refine Or.inr (Or.inr ?_); assumption) | (refine Or.inr (Or.inr (Or.inl ?_)); assumption) | (refine Or.inr (Or.inr (Or.inr ?_)); assumption) | (refine fun z => Or.elim z ?_ ?_ <;> assumption) | (refine fun z => Or.elim z ?_ (fun z => Or.elim z ?_ ?_) <;> assumption) | (refine fun z => Or.elim z ?_ (fun z => Or.elim z ?_ (fun z => Or.elim z ?_ ?_)) <;> assumption) | (refine fun z => Or.elim z (fun z9 => z9 ?_) ?_ <;> (first | assumption | (refine Or.inl ?_; assumption) | (refine Or.inr (Or.inl ?_); assumption) | (refine Or.inr (Or.inr ?_); assumption) | (refine Or.inr (Or.inr (Or.inl ?_)); assumption) | (refine Or.inr (Or.inr (Or.inr ?_)); assumption))) | (refine Or.inl (fun z => Or.elim z ?_ (fun z => Or.elim z ?_ ?_)) <;> assumption) | (refine Or.inl (fun z => Or.elim z ?_ (fun z => Or.elim z ?_ (fun z => Or.elim z ?_ ?_))) <;> assumption))))
    · exact absurd c_7_38 (by decide)
  · have hP9 : sp_bk k := hP1.resolve_right (by decide)
    refine j_if_ne (tgt := 23) dX11_has_7 (by decide) (fun c_7_46 => ?_) (fun c_7_46 => ?_)
    · refine j_iconst (v := 0) dX11_has_23 (by decide) ?_
      refine j_iret dX11_has_24 rfl rfl ?_ (Nat.le_of_ble_eq_true rfl) (Nat.le_of_ble_eq_true rfl)
      refine cast (congrFun (congrFun hQ9 _) _) ?_
      refine ⟨_, _, rfl, (fm1.le (q' := 59) (by decide)), h1, sp_X1 (k := 2) ?_ (by decide) th1 R1⟩
      (first | (refine sp_k32_2 ?_ ?_ <;> (first | assumption | (refine Or.inl ?_; assumption) | (refine Or.inr ?_; assumption) | (refine Or.inr (Or.inl ?_); assumption) | (refine Or.inr (Or.inr ?_); assumption) | (refine Or.inr (Or.inr (Or.inl ?_)); assumption) | (refine Or.inr (Or.inr (Or.inr ?_)); assumption) | (refine fun z => Or.elim z ?_ ?_ <;> assumption) | (refine fun z => Or.elim z ?_ (fun z => Or.elim z ?_ ?_) <;> assumption) | (refine fun z => Or.elim z ?_ (fun z => Or.elim z ?_ (fun z => Or.elim z ?_ ?_)) <;> assumption) | (refine fun z => Or.elim z (fun z9 => z9 ?_) ?_ <;> (first | assumption | (refine Or.inl ?_; assumption) | (refine Or.inr (Or.inl ?_); assumption) | (refine Or.inr (Or.inr ?_); assumption) | (refine Or.inr (Or.inr (Or.inl ?_)); assumption) | (refine Or.inr (Or.inr (Or.inr ?_)); assumption))) | (refine Or.inl (fun z => Or.elim z ?_ (fun z => Or.elim z ?_ ?_)) <;> assumption) | (refine Or.inl (fun z => Or.elim z ?_ (fun z => Or.elim z ?_ (fun z => Or.elim z ?_ ?_))) <;> assumption))))
    · exact absurd c_7_46 (by decide)
set_option maxRecDepth 100000 in
set_option maxHeartbeats 8000000 in
theorem cx_size (hl : l.stackTraces = false) (w : z_W) (S : sp_S) (s : z_Z) (t : Int32) (h : z_mst w s) (R : sp_MR S s)  : z_Con G l mX11_size 20 0 0 w [.ref 1000, .int t] (fun v w9 => ∃ (r9 : Int32) (s9 : z_Z), v = some (.int r9) ∧ z_fm 59 w w9 ∧ z_mst w9 s9 ∧ s9.1.1 = sp_k3 t ∧ sp_MR (if sp_k3 t = 0 then S else S) s9 ∧ (sp_k3 t = 0 → r9 = nI (sp_T S (sp_i t)).length)) (fun _ _ => False) := by
  generalize hQ9 : (fun (v : Option Value) (w9 : z_W) => ∃ (r9 : Int32) (s9 : z_Z), v = some (.int r9) ∧ z_fm 59 w w9 ∧ z_mst w9 s9 ∧ s9.1.1 = sp_k3 t ∧ sp_MR (if sp_k3 t = 0 then S else S) s9 ∧ (sp_k3 t = 0 → r9 = nI (sp_T S (sp_i t)).length)) = Q9
  refine z_body hl (by decide) rfl (Nat.le_of_ble_eq_true rfl) ?_
  show z_J G l mX11_size _ 0 [(0, _), (1, _)] [] _ 0 0
  refine j_aload_n dX11_size_0 rfl rfl ?_
  refine j_iload_n dX11_size_1 rfl ?_
  refine j_callS dX11_size_2 kX11_isNoTable lX11_136 stX11_isNoTable (cm_isNoTable_r hl w _) (Nat.le_of_ble_eq_true rfl) ⟨(Nat.le_of_ble_eq_true rfl), (Nat.le_of_ble_eq_true rfl)⟩ rfl (Nat.le_of_ble_eq_true rfl) rfl rfl (fun _ _ h => h.elim) ?_
  rintro _ _ ⟨⟨rfl, hno507⟩ | ⟨rfl, i507, hi507, ht507, rfl⟩, hw507⟩
  · refine j_w w hw507 ?_
    refine j_iconst (v := 1) dX11_size_5 (by decide) ?_
    refine j_callV (q := (RX11, TX11, 8)) dX11_size_6 kX11_start lX11_76 inX11_start seX11_start h.m rfl (cm_start1 hl w _ _ h (by decide)) (Nat.le_of_ble_eq_true rfl) ⟨(Nat.le_of_ble_eq_true rfl), (Nat.le_of_ble_eq_true rfl)⟩ rfl (Nat.le_of_ble_eq_true rfl) rfl rfl (fun _ _ h => h.elim) ?_
    rintro _ w1 ⟨rfl, fm1, h1⟩
    have R1 := R.th (k := 1)
    refine j_if_eq (tgt := 16) dX11_size_9 (by decide) (fun c_9_11 => ?_) (fun c_9_11 => ?_)
    · exact absurd c_9_11 (by decide)
    · refine j_iconst (v := 0) dX11_size_12 (by decide) ?_
      refine j_goto (tgt := 30) dX11_size_13 (by decide) ?_
      refine j_iret dX11_size_30 rfl rfl ?_ (Nat.le_of_ble_eq_true rfl) (Nat.le_of_ble_eq_true rfl)
      refine cast (congrFun (congrFun hQ9 _) _) ?_
      refine ⟨_, _, rfl, (fm1.le (q' := 59) (by decide)), h1, sp_X1 (k := 1) ?_ (by decide) rfl R1⟩
      (first | (refine sp_k3_1 ?_ <;> (first | assumption | (refine Or.inl ?_; assumption) | (refine Or.inr ?_; assumption) | (refine Or.inr (Or.inl ?_); assumption) | (refine Or.inr (Or.inr ?_); assumption) | (refine Or.inr (Or.inr (Or.inl ?_)); assumption) | (refine Or.inr (Or.inr (Or.inr ?_)); assumption) | (refine fun z => Or.elim z ?_ ?_ <;> assumption) | (refine fun z => Or.elim z ?_ (fun z => Or.elim z ?_ ?_) <;> assumption) | (refine fun z => Or.elim z ?_ (fun z => Or.elim z ?_ (fun z => Or.elim z ?_ ?_)) <;> assumption) | (refine fun z => Or.elim z (fun z9 => z9 ?_) ?_ <;> (first | assumption | (refine Or.inl ?_; assumption) | (refine Or.inr (Or.inl ?_); assumption) | (refine Or.inr (Or.inr ?_); assumption) | (refine Or.inr (Or.inr (Or.inl ?_)); assumption) | (refine Or.inr (Or.inr (Or.inr ?_)); assumption))) | (refine Or.inl (fun z => Or.elim z ?_ (fun z => Or.elim z ?_ ?_)) <;> assumption) | (refine Or.inl (fun z => Or.elim z ?_ (fun z => Or.elim z ?_ (fun z => Or.elim z ?_ ?_))) <;> assumption))))
  · refine j_w w hw507 ?_
    have ei507 : sp_i (nI i507) = i507 := sp_in' (by omega)
    refine j_iconst (v := 1) dX11_size_5 (by decide) ?_
    refine j_callV (q := (RX11, TX11, 8)) dX11_size_6 kX11_start lX11_76 inX11_start seX11_start h.m rfl (cm_start0 hl w _ _ h) (Nat.le_of_ble_eq_true rfl) ⟨(Nat.le_of_ble_eq_true rfl), (Nat.le_of_ble_eq_true rfl)⟩ rfl (Nat.le_of_ble_eq_true rfl) rfl rfl (fun _ _ h => h.elim) ?_
    rintro _ w2 ⟨rfl, fm2, h2⟩
    have R2 := R.th (k := 0)
    refine j_if_eq (tgt := 16) dX11_size_9 (by decide) (fun c_9_25 => ?_) (fun c_9_25 => ?_)
    · refine j_aload_n dX11_size_16 rfl rfl ?_
      refine j_getf dX11_size_17 fX11_34 h2.m rfl ?_
      refine j_iload_n dX11_size_20 rfl ?_
      obtain ⟨lv509, -, lg509⟩ := z_li.cell h2.tabs
      refine j_callV (q := (RJx4a65c, TJx4a65c, 3)) dX11_size_21 kJx4a65c_get_915e3 lX11_82 inJx4a65c_get_915e3 seJx4a65c_get_915e3 lg509 rfl (cl_get hl w2 47 1007 _ _ (i507) _ h2.tabs (z_thr3 (t := i507) (by omega))) (Nat.le_of_ble_eq_true rfl) ⟨(Nat.le_of_ble_eq_true rfl), (Nat.le_of_ble_eq_true rfl)⟩ rfl (Nat.le_of_ble_eq_true rfl) rfl rfl (fun _ _ h => h.elim) ?_
      rintro _ _ ⟨rfl, hw510⟩
      refine j_w w2 hw510 ?_
      refine j_castS dX11_size_24 (z_w 1341 ((lwg_6 96).trans (by decide +kernel)) (by decide +kernel)) (z_li.is (h2.tb (t := i507) (by omega))) ?_
      obtain ⟨lv512, -, lg512⟩ := z_li.cell (h2.tb (t := i507) (by omega))
      refine j_callV (q := (RJx4a65c, TJx4a65c, 3)) dX11_size_27 kJx4a65c_size_8abf5 lX11_86 inJx4a65c_size_8abf5 seJx4a65c_size_8abf5 lg512 rfl (cl_sizeT hl w2 (i507) (sp_T S (i507)) h2 R2 (by omega) rfl) (Nat.le_of_ble_eq_true rfl) ⟨(Nat.le_of_ble_eq_true rfl), (Nat.le_of_ble_eq_true rfl)⟩ rfl (Nat.le_of_ble_eq_true rfl) rfl rfl (fun _ _ h => h.elim) ?_
      rintro _ _ ⟨rfl, hw513⟩
      refine j_w w2 hw513 ?_
      have hz513 : (sp_T S (i507)).length ≤ 20 := R2.l20 h2 (t := i507) (by omega) rfl
      refine j_iret dX11_size_30 rfl rfl ?_ (Nat.le_of_ble_eq_true rfl) (Nat.le_of_ble_eq_true rfl)
      refine cast (congrFun (congrFun hQ9 _) _) ?_
      try rw [ei507]
      refine ⟨_, _, rfl, (fm2.le (q' := 59) (by decide)), h2, sp_X0 ?_ rfl R2 rfl⟩
      (first | (refine sp_k3_0 ?_ <;> (first | assumption | (refine Or.inl ?_; assumption) | (refine Or.inr ?_; assumption) | (refine Or.inr (Or.inl ?_); assumption) | (refine Or.inr (Or.inr ?_); assumption) | (refine Or.inr (Or.inr (Or.inl ?_)); assumption) | (refine Or.inr (Or.inr (Or.inr ?_)); assumption) | (refine fun z => Or.elim z ?_ ?_ <;> assumption) | (refine fun z => Or.elim z ?_ (fun z => Or.elim z ?_ ?_) <;> assumption) | (refine fun z => Or.elim z ?_ (fun z => Or.elim z ?_ (fun z => Or.elim z ?_ ?_)) <;> assumption) | (refine fun z => Or.elim z (fun z9 => z9 ?_) ?_ <;> (first | assumption | (refine Or.inl ?_; assumption) | (refine Or.inr (Or.inl ?_); assumption) | (refine Or.inr (Or.inr ?_); assumption) | (refine Or.inr (Or.inr (Or.inl ?_)); assumption) | (refine Or.inr (Or.inr (Or.inr ?_)); assumption))) | (refine Or.inl (fun z => Or.elim z ?_ (fun z => Or.elim z ?_ ?_)) <;> assumption) | (refine Or.inl (fun z => Or.elim z ?_ (fun z => Or.elim z ?_ (fun z => Or.elim z ?_ ?_))) <;> assumption))))
    · exact absurd c_9_25 (by decide)
set_option maxRecDepth 100000 in
set_option maxHeartbeats 8000000 in
theorem cx_clear (hl : l.stackTraces = false) (w : z_W) (S : sp_S) (s : z_Z) (t : Int32) (h : z_mst w s) (R : sp_MR S s)  : z_Con G l mX11_clear 20 0 0 w [.ref 1000, .int t] (fun v w9 => ∃ (r9 : Int32) (s9 : z_Z), v = some (.int r9) ∧ z_fm 59 w w9 ∧ z_mst w9 s9 ∧ s9.1.1 = sp_k3 t ∧ sp_MR (if sp_k3 t = 0 then sp_uT S (sp_i t) [] else S) s9 ∧ (sp_k3 t = 0 → r9 = nI (sp_T S (sp_i t)).length)) (fun _ _ => False) := by
  generalize hQ9 : (fun (v : Option Value) (w9 : z_W) => ∃ (r9 : Int32) (s9 : z_Z), v = some (.int r9) ∧ z_fm 59 w w9 ∧ z_mst w9 s9 ∧ s9.1.1 = sp_k3 t ∧ sp_MR (if sp_k3 t = 0 then sp_uT S (sp_i t) [] else S) s9 ∧ (sp_k3 t = 0 → r9 = nI (sp_T S (sp_i t)).length)) = Q9
  refine z_body hl (by decide) rfl (Nat.le_of_ble_eq_true rfl) ?_
  show z_J G l mX11_clear _ 0 [(0, _), (1, _)] [] _ 0 0
  refine j_aload_n dX11_clear_0 rfl rfl ?_
  refine j_iload_n dX11_clear_1 rfl ?_
  refine j_callS dX11_clear_2 kX11_isNoTable lX11_136 stX11_isNoTable (cm_isNoTable_r hl w _) (Nat.le_of_ble_eq_true rfl) ⟨(Nat.le_of_ble_eq_true rfl), (Nat.le_of_ble_eq_true rfl)⟩ rfl (Nat.le_of_ble_eq_true rfl) rfl rfl (fun _ _ h => h.elim) ?_
  rintro _ _ ⟨⟨rfl, hno514⟩ | ⟨rfl, i514, hi514, ht514, rfl⟩, hw514⟩
  · refine j_w w hw514 ?_
    refine j_iconst (v := 1) dX11_clear_5 (by decide) ?_
    refine j_callV (q := (RX11, TX11, 8)) dX11_clear_6 kX11_start lX11_76 inX11_start seX11_start h.m rfl (cm_start1 hl w _ _ h (by decide)) (Nat.le_of_ble_eq_true rfl) ⟨(Nat.le_of_ble_eq_true rfl), (Nat.le_of_ble_eq_true rfl)⟩ rfl (Nat.le_of_ble_eq_true rfl) rfl rfl (fun _ _ h => h.elim) ?_
    rintro _ w1 ⟨rfl, fm1, h1⟩
    have R1 := R.th (k := 1)
    refine j_if_eq (tgt := 14) dX11_clear_9 (by decide) (fun c_9_11 => ?_) (fun c_9_11 => ?_)
    · exact absurd c_9_11 (by decide)
    · refine j_iconst (v := 0) dX11_clear_12 (by decide) ?_
      refine j_iret dX11_clear_13 rfl rfl ?_ (Nat.le_of_ble_eq_true rfl) (Nat.le_of_ble_eq_true rfl)
      refine cast (congrFun (congrFun hQ9 _) _) ?_
      refine ⟨_, _, rfl, (fm1.le (q' := 59) (by decide)), h1, sp_X1 (k := 1) ?_ (by decide) rfl R1⟩
      (first | (refine sp_k3_1 ?_ <;> (first | assumption | (refine Or.inl ?_; assumption) | (refine Or.inr ?_; assumption) | (refine Or.inr (Or.inl ?_); assumption) | (refine Or.inr (Or.inr ?_); assumption) | (refine Or.inr (Or.inr (Or.inl ?_)); assumption) | (refine Or.inr (Or.inr (Or.inr ?_)); assumption) | (refine fun z => Or.elim z ?_ ?_ <;> assumption) | (refine fun z => Or.elim z ?_ (fun z => Or.elim z ?_ ?_) <;> assumption) | (refine fun z => Or.elim z ?_ (fun z => Or.elim z ?_ (fun z => Or.elim z ?_ ?_)) <;> assumption) | (refine fun z => Or.elim z (fun z9 => z9 ?_) ?_ <;> (first | assumption | (refine Or.inl ?_; assumption) | (refine Or.inr (Or.inl ?_); assumption) | (refine Or.inr (Or.inr ?_); assumption) | (refine Or.inr (Or.inr (Or.inl ?_)); assumption) | (refine Or.inr (Or.inr (Or.inr ?_)); assumption))) | (refine Or.inl (fun z => Or.elim z ?_ (fun z => Or.elim z ?_ ?_)) <;> assumption) | (refine Or.inl (fun z => Or.elim z ?_ (fun z => Or.elim z ?_ (fun z => Or.elim z ?_ ?_))) <;> assumption))))
  · refine j_w w hw514 ?_
    have ei514 : sp_i (nI i514) = i514 := sp_in' (by omega)
    refine j_iconst (v := 1) dX11_clear_5 (by decide) ?_
    refine j_callV (q := (RX11, TX11, 8)) dX11_clear_6 kX11_start lX11_76 inX11_start seX11_start h.m rfl (cm_start0 hl w _ _ h) (Nat.le_of_ble_eq_true rfl) ⟨(Nat.le_of_ble_eq_true rfl), (Nat.le_of_ble_eq_true rfl)⟩ rfl (Nat.le_of_ble_eq_true rfl) rfl rfl (fun _ _ h => h.elim) ?_
    rintro _ w2 ⟨rfl, fm2, h2⟩
    have R2 := R.th (k := 0)
    refine j_if_eq (tgt := 14) dX11_clear_9 (by decide) (fun c_9_24 => ?_) (fun c_9_24 => ?_)
    · refine j_aload_n dX11_clear_14 rfl rfl ?_
      refine j_getf dX11_clear_15 fX11_34 h2.m rfl ?_
      refine j_iload_n dX11_clear_18 rfl ?_
      obtain ⟨lv516, -, lg516⟩ := z_li.cell h2.tabs
      refine j_callV (q := (RJx4a65c, TJx4a65c, 3)) dX11_clear_19 kJx4a65c_get_915e3 lX11_82 inJx4a65c_get_915e3 seJx4a65c_get_915e3 lg516 rfl (cl_get hl w2 47 1007 _ _ (i514) _ h2.tabs (z_thr3 (t := i514) (by omega))) (Nat.le_of_ble_eq_true rfl) ⟨(Nat.le_of_ble_eq_true rfl), (Nat.le_of_ble_eq_true rfl)⟩ rfl (Nat.le_of_ble_eq_true rfl) rfl rfl (fun _ _ h => h.elim) ?_
      rintro _ _ ⟨rfl, hw517⟩
      refine j_w w2 hw517 ?_
      refine j_castS dX11_clear_22 (z_w 1341 ((lwg_6 96).trans (by decide +kernel)) (by decide +kernel)) (z_li.is (h2.tb (t := i514) (by omega))) ?_
      obtain ⟨lv519, -, lg519⟩ := z_li.cell (h2.tb (t := i514) (by omega))
      refine j_callV (q := (RJx4a65c, TJx4a65c, 3)) dX11_clear_25 kJx4a65c_size_8abf5 lX11_86 inJx4a65c_size_8abf5 seJx4a65c_size_8abf5 lg519 rfl (cl_sizeT hl w2 (i514) (sp_T S (i514)) h2 R2 (by omega) rfl) (Nat.le_of_ble_eq_true rfl) ⟨(Nat.le_of_ble_eq_true rfl), (Nat.le_of_ble_eq_true rfl)⟩ rfl (Nat.le_of_ble_eq_true rfl) rfl rfl (fun _ _ h => h.elim) ?_
      rintro _ _ ⟨rfl, hw520⟩
      refine j_w w2 hw520 ?_
      have hz520 : (sp_T S (i514)).length ≤ 20 := R2.l20 h2 (t := i514) (by omega) rfl
      refine j_istore_n (lo' := [(2, _), (0, _), (1, _)]) dX11_clear_28 (by decide) rfl ?_
      refine j_aload_n dX11_clear_29 rfl rfl ?_
      refine j_getf dX11_clear_30 fX11_34 h2.m rfl ?_
      refine j_iload_n dX11_clear_33 rfl ?_
      obtain ⟨lv522, -, lg522⟩ := z_li.cell h2.tabs
      refine j_callV (q := (RJx4a65c, TJx4a65c, 3)) dX11_clear_34 kJx4a65c_get_915e3 lX11_82 inJx4a65c_get_915e3 seJx4a65c_get_915e3 lg522 rfl (cl_get hl w2 47 1007 _ _ (i514) _ h2.tabs (z_thr3 (t := i514) (by omega))) (Nat.le_of_ble_eq_true rfl) ⟨(Nat.le_of_ble_eq_true rfl), (Nat.le_of_ble_eq_true rfl)⟩ rfl (Nat.le_of_ble_eq_true rfl) rfl rfl (fun _ _ h => h.elim) ?_
      rintro _ _ ⟨rfl, hw523⟩
      refine j_w w2 hw523 ?_
      refine j_castS dX11_clear_37 (z_w 1341 ((lwg_6 96).trans (by decide +kernel)) (by decide +kernel)) (z_li.is (h2.tb (t := i514) (by omega))) ?_
      obtain ⟨lv525, -, lg525⟩ := z_li.cell (h2.tb (t := i514) (by omega))
      refine j_callV (q := (RJx4a65c, TJx4a65c, 3)) dX11_clear_40 kJx4a65c_clear_da8c8 lX11_176 inJx4a65c_clear_da8c8 seJx4a65c_clear_da8c8 lg525 rfl (cl_clear hl w2 _ _ _ _ (h2.tb (t := i514) (by omega)) h2.fn) (Nat.le_of_ble_eq_true rfl) ⟨(Nat.le_of_ble_eq_true rfl), (Nat.le_of_ble_eq_true rfl)⟩ rfl (Nat.le_of_ble_eq_true rfl) rfl rfl (fun _ _ h => h.elim) ?_
      rintro _ w3 ⟨rfl, fw3, mo3, hr3⟩
      have fm3 := fw3.fm (q := 56) (by omega)
      have h3 := h2.li51 (t0 := i514) (P := []) (by omega) fw3 hr3 z_pr.nil
      have R3 := R2.up (t := i514) (c := mo3) (P := []) (T := []) rfl
      refine j_iload_n dX11_clear_43 rfl ?_
      refine j_iret dX11_clear_44 rfl rfl ?_ (Nat.le_of_ble_eq_true rfl) (Nat.le_of_ble_eq_true rfl)
      refine cast (congrFun (congrFun hQ9 _) _) ?_
      try rw [ei514]
      refine ⟨_, _, rfl, ((fm2.le (q' := 59) (by decide)).tr (fm3.le (q' := 59) (by decide))), h3, sp_X0 ?_ rfl R3 rfl⟩
      (first | (refine sp_k3_0 ?_ <;> (first | assumption | (refine Or.inl ?_; assumption) | (refine Or.inr ?_; assumption) | (refine Or.inr (Or.inl ?_); assumption) | (refine Or.inr (Or.inr ?_); assumption) | (refine Or.inr (Or.inr (Or.inl ?_)); assumption) | (refine Or.inr (Or.inr (Or.inr ?_)); assumption) | (refine fun z => Or.elim z ?_ ?_ <;> assumption) | (refine fun z => Or.elim z ?_ (fun z => Or.elim z ?_ ?_) <;> assumption) | (refine fun z => Or.elim z ?_ (fun z => Or.elim z ?_ (fun z => Or.elim z ?_ ?_)) <;> assumption) | (refine fun z => Or.elim z (fun z9 => z9 ?_) ?_ <;> (first | assumption | (refine Or.inl ?_; assumption) | (refine Or.inr (Or.inl ?_); assumption) | (refine Or.inr (Or.inr ?_); assumption) | (refine Or.inr (Or.inr (Or.inl ?_)); assumption) | (refine Or.inr (Or.inr (Or.inr ?_)); assumption))) | (refine Or.inl (fun z => Or.elim z ?_ (fun z => Or.elim z ?_ ?_)) <;> assumption) | (refine Or.inl (fun z => Or.elim z ?_ (fun z => Or.elim z ?_ (fun z => Or.elim z ?_ ?_))) <;> assumption))))
    · exact absurd c_9_24 (by decide)
set_option maxRecDepth 100000 in
set_option maxHeartbeats 8000000 in
theorem cx_areLike (hl : l.stackTraces = false) (w : z_W) (S : sp_S) (s : z_Z) (t : Int32) (u : Int32) (h : z_mst w s) (R : sp_MR S s)  : z_Con G l mX11_areLike 24 0 0 w [.ref 1000, .int t, .int u] (fun v w9 => ∃ (r9 : Int32) (s9 : z_Z), v = some (.int r9) ∧ z_fm 59 w w9 ∧ z_mst w9 s9 ∧ s9.1.1 = sp_k33 t u ∧ sp_MR (if sp_k33 t u = 0 then S else S) s9 ∧ (sp_k33 t u = 0 → r9 = z_bi (sp_lik (sp_T S (sp_i t)) (sp_T S (sp_i u))))) (fun _ _ => False) := by
  generalize hQ9 : (fun (v : Option Value) (w9 : z_W) => ∃ (r9 : Int32) (s9 : z_Z), v = some (.int r9) ∧ z_fm 59 w w9 ∧ z_mst w9 s9 ∧ s9.1.1 = sp_k33 t u ∧ sp_MR (if sp_k33 t u = 0 then S else S) s9 ∧ (sp_k33 t u = 0 → r9 = z_bi (sp_lik (sp_T S (sp_i t)) (sp_T S (sp_i u))))) = Q9
  refine z_body hl (by decide) rfl (Nat.le_of_ble_eq_true rfl) ?_
  show z_J G l mX11_areLike _ 0 [(0, _), (1, _), (2, _)] [] _ 0 0
  refine j_aload_n dX11_areLike_0 rfl rfl ?_
  refine j_iload_n dX11_areLike_1 rfl ?_
  refine j_callS dX11_areLike_2 kX11_isNoTable lX11_136 stX11_isNoTable (cm_isNoTable_r hl w _) (Nat.le_of_ble_eq_true rfl) ⟨(Nat.le_of_ble_eq_true rfl), (Nat.le_of_ble_eq_true rfl)⟩ rfl (Nat.le_of_ble_eq_true rfl) rfl rfl (fun _ _ h => h.elim) ?_
  rintro _ _ ⟨⟨rfl, hno526⟩ | ⟨rfl, i526, hi526, ht526, rfl⟩, hw526⟩
  · refine j_w w hw526 ?_
    refine j_if_ne (tgt := 15) dX11_areLike_5 (by decide) (fun c_5_7 => ?_) (fun c_5_7 => ?_)
    · refine j_iconst (v := 1) dX11_areLike_15 (by decide) ?_
      refine j_goto (tgt := 20) dX11_areLike_16 (by decide) ?_
      refine j_iconst (v := 1) dX11_areLike_20 (by decide) ?_
      refine j_callV (q := (RX11, TX11, 8)) dX11_areLike_21 kX11_start lX11_76 inX11_start seX11_start h.m rfl (cm_start1 hl w _ _ h (by decide)) (Nat.le_of_ble_eq_true rfl) ⟨(Nat.le_of_ble_eq_true rfl), (Nat.le_of_ble_eq_true rfl)⟩ rfl (Nat.le_of_ble_eq_true rfl) rfl rfl (fun _ _ h => h.elim) ?_
      rintro _ w1 ⟨rfl, fm1, h1⟩
      have R1 := R.th (k := 1)
      refine j_if_eq (tgt := 29) dX11_areLike_24 (by decide) (fun c_24_14 => ?_) (fun c_24_14 => ?_)
      · exact absurd c_24_14 (by decide)
      · refine j_iconst (v := 0) dX11_areLike_27 (by decide) ?_
        refine j_iret dX11_areLike_28 rfl rfl ?_ (Nat.le_of_ble_eq_true rfl) (Nat.le_of_ble_eq_true rfl)
        refine cast (congrFun (congrFun hQ9 _) _) ?_
        refine ⟨_, _, rfl, (fm1.le (q' := 59) (by decide)), h1, sp_X1 (k := 1) ?_ (by decide) rfl R1⟩
        (first | (refine sp_k33_1 ?_ <;> (first | assumption | (refine Or.inl ?_; assumption) | (refine Or.inr ?_; assumption) | (refine Or.inr (Or.inl ?_); assumption) | (refine Or.inr (Or.inr ?_); assumption) | (refine Or.inr (Or.inr (Or.inl ?_)); assumption) | (refine Or.inr (Or.inr (Or.inr ?_)); assumption) | (refine fun z => Or.elim z ?_ ?_ <;> assumption) | (refine fun z => Or.elim z ?_ (fun z => Or.elim z ?_ ?_) <;> assumption) | (refine fun z => Or.elim z ?_ (fun z => Or.elim z ?_ (fun z => Or.elim z ?_ ?_)) <;> assumption) | (refine fun z => Or.elim z (fun z9 => z9 ?_) ?_ <;> (first | assumption | (refine Or.inl ?_; assumption) | (refine Or.inr (Or.inl ?_); assumption) | (refine Or.inr (Or.inr ?_); assumption) | (refine Or.inr (Or.inr (Or.inl ?_)); assumption) | (refine Or.inr (Or.inr (Or.inr ?_)); assumption))) | (refine Or.inl (fun z => Or.elim z ?_ (fun z => Or.elim z ?_ ?_)) <;> assumption) | (refine Or.inl (fun z => Or.elim z ?_ (fun z => Or.elim z ?_ (fun z => Or.elim z ?_ ?_))) <;> assumption))) | (refine sp_k33_1' ?_ <;> (first | assumption | (refine Or.inl ?_; assumption) | (refine Or.inr ?_; assumption) | (refine Or.inr (Or.inl ?_); assumption) | (refine Or.inr (Or.inr ?_); assumption) | (refine Or.inr (Or.inr (Or.inl ?_)); assumption) | (refine Or.inr (Or.inr (Or.inr ?_)); assumption) | (refine fun z => Or.elim z ?_ ?_ <;> assumption) | (refine fun z => Or.elim z ?_ (fun z => Or.elim z ?_ ?_) <;> assumption) | (refine fun z => Or.elim z ?_ (fun z => Or.elim z ?_ (fun z => Or.elim z ?_ ?_)) <;> assumption) | (refine fun z => Or.elim z (fun z9 => z9 ?_) ?_ <;> (first | assumption | (refine Or.inl ?_; assumption) | (refine Or.inr (Or.inl ?_); assumption) | (refine Or.inr (Or.inr ?_); assumption) | (refine Or.inr (Or.inr (Or.inl ?_)); assumption) | (refine Or.inr (Or.inr (Or.inr ?_)); assumption))) | (refine Or.inl (fun z => Or.elim z ?_ (fun z => Or.elim z ?_ ?_)) <;> assumption) | (refine Or.inl (fun z => Or.elim z ?_ (fun z => Or.elim z ?_ (fun z => Or.elim z ?_ ?_))) <;> assumption))))
    · exact absurd c_5_7 (by decide)
  · refine j_w w hw526 ?_
    have ei526 : sp_i (nI i526) = i526 := sp_in' (by omega)
    refine j_if_ne (tgt := 15) dX11_areLike_5 (by decide) (fun c_5_24 => ?_) (fun c_5_24 => ?_)
    · exact absurd c_5_24 (by decide)
    · refine j_iload_n dX11_areLike_8 rfl ?_
      refine j_callS dX11_areLike_9 kX11_isNoTable lX11_136 stX11_isNoTable (cm_isNoTable_r hl w _) (Nat.le_of_ble_eq_true rfl) ⟨(Nat.le_of_ble_eq_true rfl), (Nat.le_of_ble_eq_true rfl)⟩ rfl (Nat.le_of_ble_eq_true rfl) rfl rfl (fun _ _ h => h.elim) ?_
      rintro _ _ ⟨⟨rfl, hno527⟩ | ⟨rfl, i527, hi527, ht527, rfl⟩, hw527⟩
      · refine j_w w hw527 ?_
        refine j_if_eq (tgt := 19) dX11_areLike_12 (by decide) (fun c_12_30 => ?_) (fun c_12_30 => ?_)
        · exact absurd c_12_30 (by decide)
        · refine j_iconst (v := 1) dX11_areLike_15 (by decide) ?_
          refine j_goto (tgt := 20) dX11_areLike_16 (by decide) ?_
          refine j_iconst (v := 1) dX11_areLike_20 (by decide) ?_
          refine j_callV (q := (RX11, TX11, 8)) dX11_areLike_21 kX11_start lX11_76 inX11_start seX11_start h.m rfl (cm_start1 hl w _ _ h (by decide)) (Nat.le_of_ble_eq_true rfl) ⟨(Nat.le_of_ble_eq_true rfl), (Nat.le_of_ble_eq_true rfl)⟩ rfl (Nat.le_of_ble_eq_true rfl) rfl rfl (fun _ _ h => h.elim) ?_
          rintro _ w2 ⟨rfl, fm2, h2⟩
          have R2 := R.th (k := 1)
          refine j_if_eq (tgt := 29) dX11_areLike_24 (by decide) (fun c_24_38 => ?_) (fun c_24_38 => ?_)
          · exact absurd c_24_38 (by decide)
          · refine j_iconst (v := 0) dX11_areLike_27 (by decide) ?_
            refine j_iret dX11_areLike_28 rfl rfl ?_ (Nat.le_of_ble_eq_true rfl) (Nat.le_of_ble_eq_true rfl)
            refine cast (congrFun (congrFun hQ9 _) _) ?_
            try rw [ei526]
            refine ⟨_, _, rfl, (fm2.le (q' := 59) (by decide)), h2, sp_X1 (k := 1) ?_ (by decide) rfl R2⟩
            (first | (refine sp_k33_1 ?_ <;> (first | assumption | (refine Or.inl ?_; assumption) | (refine Or.inr ?_; assumption) | (refine Or.inr (Or.inl ?_); assumption) | (refine Or.inr (Or.inr ?_); assumption) | (refine Or.inr (Or.inr (Or.inl ?_)); assumption) | (refine Or.inr (Or.inr (Or.inr ?_)); assumption) | (refine fun z => Or.elim z ?_ ?_ <;> assumption) | (refine fun z => Or.elim z ?_ (fun z => Or.elim z ?_ ?_) <;> assumption) | (refine fun z => Or.elim z ?_ (fun z => Or.elim z ?_ (fun z => Or.elim z ?_ ?_)) <;> assumption) | (refine fun z => Or.elim z (fun z9 => z9 ?_) ?_ <;> (first | assumption | (refine Or.inl ?_; assumption) | (refine Or.inr (Or.inl ?_); assumption) | (refine Or.inr (Or.inr ?_); assumption) | (refine Or.inr (Or.inr (Or.inl ?_)); assumption) | (refine Or.inr (Or.inr (Or.inr ?_)); assumption))) | (refine Or.inl (fun z => Or.elim z ?_ (fun z => Or.elim z ?_ ?_)) <;> assumption) | (refine Or.inl (fun z => Or.elim z ?_ (fun z => Or.elim z ?_ (fun z => Or.elim z ?_ ?_))) <;> assumption))) | (refine sp_k33_1' ?_ <;> (first | assumption | (refine Or.inl ?_; assumption) | (refine Or.inr ?_; assumption) | (refine Or.inr (Or.inl ?_); assumption) | (refine Or.inr (Or.inr ?_); assumption) | (refine Or.inr (Or.inr (Or.inl ?_)); assumption) | (refine Or.inr (Or.inr (Or.inr ?_)); assumption) | (refine fun z => Or.elim z ?_ ?_ <;> assumption) | (refine fun z => Or.elim z ?_ (fun z => Or.elim z ?_ ?_) <;> assumption) | (refine fun z => Or.elim z ?_ (fun z => Or.elim z ?_ (fun z => Or.elim z ?_ ?_)) <;> assumption) | (refine fun z => Or.elim z (fun z9 => z9 ?_) ?_ <;> (first | assumption | (refine Or.inl ?_; assumption) | (refine Or.inr (Or.inl ?_); assumption) | (refine Or.inr (Or.inr ?_); assumption) | (refine Or.inr (Or.inr (Or.inl ?_)); assumption) | (refine Or.inr (Or.inr (Or.inr ?_)); assumption))) | (refine Or.inl (fun z => Or.elim z ?_ (fun z => Or.elim z ?_ ?_)) <;> assumption) | (refine Or.inl (fun z => Or.elim z ?_ (fun z => Or.elim z ?_ (fun z => Or.elim z ?_ ?_))) <;> assumption))))
      · refine j_w w hw527 ?_
        have ei527 : sp_i (nI i527) = i527 := sp_in' (by omega)
        refine j_if_eq (tgt := 19) dX11_areLike_12 (by decide) (fun c_12_48 => ?_) (fun c_12_48 => ?_)
        · refine j_iconst (v := 0) dX11_areLike_19 (by decide) ?_
          refine j_iconst (v := 1) dX11_areLike_20 (by decide) ?_
          refine j_callV (q := (RX11, TX11, 8)) dX11_areLike_21 kX11_start lX11_76 inX11_start seX11_start h.m rfl (cm_start0 hl w _ _ h) (Nat.le_of_ble_eq_true rfl) ⟨(Nat.le_of_ble_eq_true rfl), (Nat.le_of_ble_eq_true rfl)⟩ rfl (Nat.le_of_ble_eq_true rfl) rfl rfl (fun _ _ h => h.elim) ?_
          rintro _ w3 ⟨rfl, fm3, h3⟩
          have R3 := R.th (k := 0)
          refine j_if_eq (tgt := 29) dX11_areLike_24 (by decide) (fun c_24_54 => ?_) (fun c_24_54 => ?_)
          · refine j_iconst (v := 0) dX11_areLike_29 (by decide) ?_
            refine j_istore_n (lo' := [(3, _), (0, _), (1, _), (2, _)]) dX11_areLike_30 (by decide) rfl ?_
            have loop31 : ∀ (n9 : Nat) (w4 : z_W) (s1 : z_Z) (j : Nat), (j ≤ 20) → (20 < j + n9) → (∀ q, q < j → sp_lk (sp_T S i526) q = sp_lk (sp_T S i527) q) → (sp_MR S s1) → (s1.1.1 = 0) → (z_mst w4 s1) → (z_fm 59 w w4) → z_J G l mX11_areLike (24, 0, 0, w, Q9, (fun _ _ => False)) 31 [(0, .ref 1000), (1, .int (nI i526)), (2, .int (nI i527)), (3, .int (nI j))] [] w4 0 0 := by
              intro n9
              induction n9 with
              | zero => intro w4 s1 j hj hf9 hq hR hth hm hfm; exact absurd hf9 (by omega)
              | succ n9 ih =>
                intro w4 s1 j hj hf9 hq hR hth hm hfm
                refine j_iload_n dX11_areLike_31 rfl ?_
                refine j_bipush (v := 20) dX11_areLike_32 (by decide) ?_
                refine j_icmp_ge (tgt := 60) dX11_areLike_34 (by decide) (fun c_34_65 => ?_) (fun c_34_65 => ?_)
                · have hb34 : 20 ≤ j := (nI_leI (a := 20) (b := j) (by omega) (by omega)).mp c_34_65
                  refine j_iconst (v := 1) dX11_areLike_60 (by decide) ?_
                  refine j_iret dX11_areLike_61 rfl rfl ?_ (Nat.le_of_ble_eq_true rfl) (Nat.le_of_ble_eq_true rfl)
                  refine cast (congrFun (congrFun hQ9 _) _) ?_
                  try rw [ei526]
                  try rw [ei527]
                  refine ⟨_, _, rfl, hfm, hm, sp_X0 ?_ hth hR (by rw [sp_lik1 (fun q hq1 => hq q (by omega))]; rfl)⟩
                  (first | (refine sp_k33_0 ?_ ?_ <;> (first | assumption | (refine Or.inl ?_; assumption) | (refine Or.inr ?_; assumption) | (refine Or.inr (Or.inl ?_); assumption) | (refine Or.inr (Or.inr ?_); assumption) | (refine Or.inr (Or.inr (Or.inl ?_)); assumption) | (refine Or.inr (Or.inr (Or.inr ?_)); assumption) | (refine fun z => Or.elim z ?_ ?_ <;> assumption) | (refine fun z => Or.elim z ?_ (fun z => Or.elim z ?_ ?_) <;> assumption) | (refine fun z => Or.elim z ?_ (fun z => Or.elim z ?_ (fun z => Or.elim z ?_ ?_)) <;> assumption) | (refine fun z => Or.elim z (fun z9 => z9 ?_) ?_ <;> (first | assumption | (refine Or.inl ?_; assumption) | (refine Or.inr (Or.inl ?_); assumption) | (refine Or.inr (Or.inr ?_); assumption) | (refine Or.inr (Or.inr (Or.inl ?_)); assumption) | (refine Or.inr (Or.inr (Or.inr ?_)); assumption))) | (refine Or.inl (fun z => Or.elim z ?_ (fun z => Or.elim z ?_ ?_)) <;> assumption) | (refine Or.inl (fun z => Or.elim z ?_ (fun z => Or.elim z ?_ (fun z => Or.elim z ?_ ?_))) <;> assumption))))
                · have hb34 : j < 20 := Nat.not_le.mp (fun z => c_34_65 ((nI_leI (a := 20) (b := j) (by omega) (by omega)).mpr z))
                  refine j_aload_n dX11_areLike_37 rfl rfl ?_
                  refine j_iload_n dX11_areLike_38 rfl ?_
                  refine j_iload_n dX11_areLike_39 rfl ?_
                  refine j_callV (q := (RX11, TX11, 8)) dX11_areLike_40 kX11_valueOf lX11_145 inX11_valueOf seX11_valueOf hm.m rfl (cx_valueOf hl w4 S _ (i526) (j) hm hR (by omega) (by omega)) (Nat.le_of_ble_eq_true rfl) ⟨(Nat.le_of_ble_eq_true rfl), (Nat.le_of_ble_eq_true rfl)⟩ rfl (Nat.le_of_ble_eq_true rfl) rfl rfl (fun _ _ h => h.elim) ?_
                  rintro _ _ ⟨rfl, hw528⟩
                  refine j_w w4 hw528 ?_
                  refine j_aload_n dX11_areLike_43 rfl rfl ?_
                  refine j_iload_n dX11_areLike_44 rfl ?_
                  refine j_iload_n dX11_areLike_45 rfl ?_
                  refine j_callV (q := (RX11, TX11, 8)) dX11_areLike_46 kX11_valueOf lX11_145 inX11_valueOf seX11_valueOf hm.m rfl (cx_valueOf hl w4 S _ (i527) (j) hm hR (by omega) (by omega)) (Nat.le_of_ble_eq_true rfl) ⟨(Nat.le_of_ble_eq_true rfl), (Nat.le_of_ble_eq_true rfl)⟩ rfl (Nat.le_of_ble_eq_true rfl) rfl rfl (fun _ _ h => h.elim) ?_
                  rintro _ _ ⟨rfl, hw529⟩
                  refine j_w w4 hw529 ?_
                  refine j_icmp_eq (tgt := 54) dX11_areLike_49 (by decide) (fun c_49_87 => ?_) (fun c_49_87 => ?_)
                  · refine j_iinc (lo' := [(3, _), (0, _), (1, _), (2, _)]) dX11_areLike_54 rfl (z_inc _) (by decide) rfl ?_
                    refine j_goto (tgt := 31) dX11_areLike_57 (by decide) ?_
                    exact j_lo2 (ih w4 _ (j + 1) (by omega) (by omega) (fun q hq1 => by rcases Nat.lt_succ_iff_lt_or_eq.mp hq1 with z | z; exact hq q z; rw [z]; exact c_49_87) hR (by exact hth) hm hfm) (z_q1 rfl (z_q1 rfl (z_q1 rfl (z_q1 rfl z_q0))))
                  · refine j_iconst (v := 0) dX11_areLike_52 (by decide) ?_
                    refine j_iret dX11_areLike_53 rfl rfl ?_ (Nat.le_of_ble_eq_true rfl) (Nat.le_of_ble_eq_true rfl)
                    refine cast (congrFun (congrFun hQ9 _) _) ?_
                    try rw [ei526]
                    try rw [ei527]
                    refine ⟨_, _, rfl, hfm, hm, sp_X0 ?_ hth hR (by rw [sp_lik0 (k := j) (by omega) c_49_87]; rfl)⟩
                    (first | (refine sp_k33_0 ?_ ?_ <;> (first | assumption | (refine Or.inl ?_; assumption) | (refine Or.inr ?_; assumption) | (refine Or.inr (Or.inl ?_); assumption) | (refine Or.inr (Or.inr ?_); assumption) | (refine Or.inr (Or.inr (Or.inl ?_)); assumption) | (refine Or.inr (Or.inr (Or.inr ?_)); assumption) | (refine fun z => Or.elim z ?_ ?_ <;> assumption) | (refine fun z => Or.elim z ?_ (fun z => Or.elim z ?_ ?_) <;> assumption) | (refine fun z => Or.elim z ?_ (fun z => Or.elim z ?_ (fun z => Or.elim z ?_ ?_)) <;> assumption) | (refine fun z => Or.elim z (fun z9 => z9 ?_) ?_ <;> (first | assumption | (refine Or.inl ?_; assumption) | (refine Or.inr (Or.inl ?_); assumption) | (refine Or.inr (Or.inr ?_); assumption) | (refine Or.inr (Or.inr (Or.inl ?_)); assumption) | (refine Or.inr (Or.inr (Or.inr ?_)); assumption))) | (refine Or.inl (fun z => Or.elim z ?_ (fun z => Or.elim z ?_ ?_)) <;> assumption) | (refine Or.inl (fun z => Or.elim z ?_ (fun z => Or.elim z ?_ (fun z => Or.elim z ?_ ?_))) <;> assumption))))
            exact j_lo2 (loop31 21 w3 _ 0 (by omega) (by omega) (fun q hq => absurd hq (Nat.not_lt_zero _)) R3 (by exact rfl) h3 (fm3.le (q' := 59) (by decide))) (z_q1 rfl (z_q1 rfl (z_q1 rfl (z_q1 rfl z_q0))))
          · exact absurd c_24_54 (by decide)
        · exact absurd c_12_48 (by decide)
theorem sp_asc {T : List (Nat × Int32)} {k : Nat} {e1 e0 : Nat × Int32} (h : sp_ri2 T) (hk : 1 ≤ k) (h1 : T[k]? = some e1) (h0 : T[k - 1]? = some e0) : e0.1 < e1.1 := by
  have hp := List.pairwise_iff_getElem.mp h
  have l1 := (List.getElem?_eq_some_iff.mp h1).1
  have l0 := (List.getElem?_eq_some_iff.mp h0).1
  have hl : (sp_ks T).length = T.length := List.length_map ..
  have h2 := hp (k - 1) k (by omega) (by omega) (by omega)
  have a1 : (sp_ks T)[k]'(by omega) = e1.1 := by
    rw [← sp_gk l1, h1]; rfl
  have a0 : (sp_ks T)[k - 1]'(by omega) = e0.1 := by
    rw [← sp_gk l0, h0]; rfl
  rw [a1, a0] at h2
  exact h2
set_option maxRecDepth 100000 in
set_option maxHeartbeats 8000000 in
theorem cx_isTrue (hl : l.stackTraces = false) (w : z_W) (S : sp_S) (s : z_Z)  (h : z_mst w s) (R : sp_MR S s) (ok : sp_ok S) : z_Con G l mX11_isTrue 16 0 0 w [.ref 1000] (fun v w9 => v = some (.int 1) ∧ w9 = w) (fun _ _ => False) := by
  generalize hQ9 : (fun (v : Option Value) (w9 : z_W) => v = some (.int 1) ∧ w9 = w) = Q9
  refine z_body hl (by decide) rfl (Nat.le_of_ble_eq_true rfl) ?_
  show z_J G l mX11_isTrue _ 0 [(0, _)] [] _ 0 0
  refine j_iconst (v := 1) dX11_isTrue_0 (by decide) ?_
  refine j_istore_n (lo' := [(1, _), (0, _)]) dX11_isTrue_1 (by decide) rfl ?_
  have loop2 : ∀ (n9 : Nat) (w1 : z_W) (k : Nat), (1 ≤ k) → (k ≤ 21) → (21 < k + n9) → (z_mst w1 s) → (w1 = w) → z_J G l mX11_isTrue (16, 0, 0, w, Q9, (fun _ _ => False)) 2 [(0, .ref 1000), (1, .int (nI k))] [] w1 0 0 := by
    intro n9
    induction n9 with
    | zero => intro w1 k hk1 hk20 hf9 hm hW; exact absurd hf9 (by omega)
    | succ n9 ih =>
      intro w1 k hk1 hk20 hf9 hm hW
      refine j_iload_n dX11_isTrue_2 rfl ?_
      refine j_aload_n dX11_isTrue_3 rfl rfl ?_
      refine j_getf dX11_isTrue_4 fX11_34 hm.m rfl ?_
      refine j_iconst (v := 2) dX11_isTrue_7 (by decide) ?_
      obtain ⟨lv531, -, lg531⟩ := z_li.cell hm.tabs
      refine j_callV (q := (RJx4a65c, TJx4a65c, 3)) dX11_isTrue_8 kJx4a65c_get_915e3 lX11_82 inJx4a65c_get_915e3 seJx4a65c_get_915e3 lg531 rfl (cl_get hl w1 47 1007 _ _ (2) _ hm.tabs (z_thr3 (t := 2) (by decide))) (Nat.le_of_ble_eq_true rfl) ⟨(Nat.le_of_ble_eq_true rfl), (Nat.le_of_ble_eq_true rfl)⟩ rfl (Nat.le_of_ble_eq_true rfl) rfl rfl (fun _ _ h => h.elim) ?_
      rintro _ _ ⟨rfl, hw532⟩
      refine j_w w1 hw532 ?_
      refine j_castS dX11_isTrue_11 (z_w 1341 ((lwg_6 96).trans (by decide +kernel)) (by decide +kernel)) (z_li.is (hm.tb (t := 2) (by decide))) ?_
      obtain ⟨lv534, -, lg534⟩ := z_li.cell (hm.tb (t := 2) (by decide))
      refine j_callV (q := (RJx4a65c, TJx4a65c, 3)) dX11_isTrue_14 kJx4a65c_size_8abf5 lX11_86 inJx4a65c_size_8abf5 seJx4a65c_size_8abf5 lg534 rfl (cl_sizeT hl w1 (2) (sp_T S (2)) hm R (by decide) rfl) (Nat.le_of_ble_eq_true rfl) ⟨(Nat.le_of_ble_eq_true rfl), (Nat.le_of_ble_eq_true rfl)⟩ rfl (Nat.le_of_ble_eq_true rfl) rfl rfl (fun _ _ h => h.elim) ?_
      rintro _ _ ⟨rfl, hw535⟩
      refine j_w w1 hw535 ?_
      have hz535 : (sp_T S (2)).length ≤ 20 := R.l20 hm (t := 2) (by decide) rfl
      refine j_icmp_ge (tgt := 73) dX11_isTrue_17 (by decide) (fun c_17_24 => ?_) (fun c_17_24 => ?_)
      · have hb17 : (sp_T S (2)).length ≤ k := (nI_leI (a := (sp_T S (2)).length) (b := k) (by omega) (by omega)).mp c_17_24
        refine j_iconst (v := 1) dX11_isTrue_73 (by decide) ?_
        refine j_iret dX11_isTrue_74 rfl rfl ?_ (Nat.le_of_ble_eq_true rfl) (Nat.le_of_ble_eq_true rfl)
        refine cast (congrFun (congrFun hQ9 _) _) ?_
        exact ⟨rfl, hW⟩
      · have hb17 : k < (sp_T S (2)).length := Nat.not_le.mp (fun z => c_17_24 ((nI_leI (a := (sp_T S (2)).length) (b := k) (by omega) (by omega)).mpr z))
        refine j_aload_n dX11_isTrue_20 rfl rfl ?_
        refine j_getf dX11_isTrue_21 fX11_34 hm.m rfl ?_
        refine j_iconst (v := 2) dX11_isTrue_24 (by decide) ?_
        obtain ⟨lv537, -, lg537⟩ := z_li.cell hm.tabs
        refine j_callV (q := (RJx4a65c, TJx4a65c, 3)) dX11_isTrue_25 kJx4a65c_get_915e3 lX11_82 inJx4a65c_get_915e3 seJx4a65c_get_915e3 lg537 rfl (cl_get hl w1 47 1007 _ _ (2) _ hm.tabs (z_thr3 (t := 2) (by decide))) (Nat.le_of_ble_eq_true rfl) ⟨(Nat.le_of_ble_eq_true rfl), (Nat.le_of_ble_eq_true rfl)⟩ rfl (Nat.le_of_ble_eq_true rfl) rfl rfl (fun _ _ h => h.elim) ?_
        rintro _ _ ⟨rfl, hw538⟩
        refine j_w w1 hw538 ?_
        refine j_castS dX11_isTrue_28 (z_w 1341 ((lwg_6 96).trans (by decide +kernel)) (by decide +kernel)) (z_li.is (hm.tb (t := 2) (by decide))) ?_
        refine j_iload_n dX11_isTrue_31 rfl ?_
        obtain ⟨x540, hx540⟩ : ∃ x, (sp_T S (2))[k]? = some x := ⟨_, List.getElem?_eq_getElem (show k < (sp_T S (2)).length by omega)⟩
        obtain ⟨p540, hp540, hq540, hk540, hv0540, hv1540, hv2540⟩ := R.prB hm (t := 2) (k := k) (by decide) rfl hx540
        obtain ⟨lv541, -, lg541⟩ := z_li.cell (hm.tb (t := 2) (by decide))
        refine j_callV (q := (RJx4a65c, TJx4a65c, 3)) dX11_isTrue_32 kJx4a65c_get_915e3 lX11_82 inJx4a65c_get_915e3 seJx4a65c_get_915e3 lg541 rfl (cl_get hl w1 _ _ _ _ (k) _ (hm.tb (t := 2) (by decide)) hq540) (Nat.le_of_ble_eq_true rfl) ⟨(Nat.le_of_ble_eq_true rfl), (Nat.le_of_ble_eq_true rfl)⟩ rfl (Nat.le_of_ble_eq_true rfl) rfl rfl (fun _ _ h => h.elim) ?_
        rintro _ _ ⟨rfl, hw542⟩
        refine j_w w1 hw542 ?_
        refine j_castS dX11_isTrue_35 (z_w 1663 ((lwg_7 178).trans (by decide +kernel)) (by decide +kernel)) (z_isA ((hm.pr (t := 2) (by decide)).1 p540 hp540).2) ?_
        refine j_iconst (v := 0) dX11_isTrue_38 (by decide) ?_
        refine j_ld dX11_isTrue_39 ((hm.pr (t := 2) (by decide)).1 p540 hp540).2 (vp_in_nI (n := 0) (by decide) (by decide)) ?_
        refine j_top (congrArg Value.int (show _ = nI x540.1 from by rw [show (0 : Int32).toNatClampNeg = 0 from by decide]; exact hv0540)) ?_
        refine j_aload_n dX11_isTrue_40 rfl rfl ?_
        refine j_getf dX11_isTrue_41 fX11_34 hm.m rfl ?_
        refine j_iconst (v := 2) dX11_isTrue_44 (by decide) ?_
        obtain ⟨lv546, -, lg546⟩ := z_li.cell hm.tabs
        refine j_callV (q := (RJx4a65c, TJx4a65c, 3)) dX11_isTrue_45 kJx4a65c_get_915e3 lX11_82 inJx4a65c_get_915e3 seJx4a65c_get_915e3 lg546 rfl (cl_get hl w1 47 1007 _ _ (2) _ hm.tabs (z_thr3 (t := 2) (by decide))) (Nat.le_of_ble_eq_true rfl) ⟨(Nat.le_of_ble_eq_true rfl), (Nat.le_of_ble_eq_true rfl)⟩ rfl (Nat.le_of_ble_eq_true rfl) rfl rfl (fun _ _ h => h.elim) ?_
        rintro _ _ ⟨rfl, hw547⟩
        refine j_w w1 hw547 ?_
        refine j_castS dX11_isTrue_48 (z_w 1341 ((lwg_6 96).trans (by decide +kernel)) (by decide +kernel)) (z_li.is (hm.tb (t := 2) (by decide))) ?_
        refine j_iload_n dX11_isTrue_51 rfl ?_
        refine j_iconst (v := 1) dX11_isTrue_52 (by decide) ?_
        refine j_isub dX11_isTrue_53 ?_
        refine j_top (congrArg Value.int (pk_sub (a := k) (b := 1) (by omega))) ?_
        obtain ⟨x549, hx549⟩ : ∃ x, (sp_T S (2))[(k - 1)]? = some x := ⟨_, List.getElem?_eq_getElem (show (k - 1) < (sp_T S (2)).length by omega)⟩
        obtain ⟨p549, hp549, hq549, hk549, hv0549, hv1549, hv2549⟩ := R.prB hm (t := 2) (k := (k - 1)) (by decide) rfl hx549
        obtain ⟨lv550, -, lg550⟩ := z_li.cell (hm.tb (t := 2) (by decide))
        refine j_callV (q := (RJx4a65c, TJx4a65c, 3)) dX11_isTrue_54 kJx4a65c_get_915e3 lX11_82 inJx4a65c_get_915e3 seJx4a65c_get_915e3 lg550 rfl (cl_get hl w1 _ _ _ _ ((k - 1)) _ (hm.tb (t := 2) (by decide)) hq549) (Nat.le_of_ble_eq_true rfl) ⟨(Nat.le_of_ble_eq_true rfl), (Nat.le_of_ble_eq_true rfl)⟩ rfl (Nat.le_of_ble_eq_true rfl) rfl rfl (fun _ _ h => h.elim) ?_
        rintro _ _ ⟨rfl, hw551⟩
        refine j_w w1 hw551 ?_
        refine j_castS dX11_isTrue_57 (z_w 1663 ((lwg_7 178).trans (by decide +kernel)) (by decide +kernel)) (z_isA ((hm.pr (t := 2) (by decide)).1 p549 hp549).2) ?_
        refine j_iconst (v := 0) dX11_isTrue_60 (by decide) ?_
        refine j_ld dX11_isTrue_61 ((hm.pr (t := 2) (by decide)).1 p549 hp549).2 (vp_in_nI (n := 0) (by decide) (by decide)) ?_
        refine j_top (congrArg Value.int (show _ = nI x549.1 from by rw [show (0 : Int32).toNatClampNeg = 0 from by decide]; exact hv0549)) ?_
        refine j_icmp_gt (tgt := 67) dX11_isTrue_62 (by decide) (fun c_62_72 => ?_) (fun c_62_72 => ?_)
        · have hb62 : x549.1 < x540.1 := (nI_ltI (a := x549.1) (b := x540.1) (by omega) (by omega)).mp c_62_72
          refine j_iinc (lo' := [(1, _), (0, _)]) dX11_isTrue_67 rfl (z_inc _) (by decide) rfl ?_
          refine j_goto (tgt := 2) dX11_isTrue_70 (by decide) ?_
          exact j_lo2 (ih w1 (k + 1) (by omega) (by omega) (by omega) hm hW) (z_q1 rfl (z_q1 rfl z_q0))
        · have hb62 : ¬ x549.1 < x540.1 := fun z => c_62_72 ((nI_ltI (a := x549.1) (b := x540.1) (by omega) (by omega)).mpr z)
          refine j_iconst (v := 0) dX11_isTrue_65 (by decide) ?_
          refine j_iret dX11_isTrue_66 rfl rfl ?_ (Nat.le_of_ble_eq_true rfl) (Nat.le_of_ble_eq_true rfl)
          refine cast (congrFun (congrFun hQ9 _) _) ?_
          exact absurd (sp_asc ok.2.2.1 hk1 hx540 hx549) hb62
  exact j_lo2 (loop2 22 w 1 (by omega) (by omega) (by omega) h rfl) (z_q1 rfl (z_q1 rfl z_q0))
set_option maxRecDepth 100000 in
set_option maxHeartbeats 8000000 in
theorem cx_isSound (hl : l.stackTraces = false) (w : z_W) (S : sp_S) (s : z_Z)  (h : z_mst w s) (R : sp_MR S s) (ok : sp_ok S) : z_Con G l mX11_isSound 20 0 0 w [.ref 1000] (fun v w9 => ∃ (r9 : Int32) (s9 : z_Z), v = some (.int r9) ∧ z_fm 59 w w9 ∧ z_mst w9 s9 ∧ s9.1.1 = 0 ∧ sp_MR (S) s9 ∧ r9 = (1 : Int32)) (fun _ _ => False) := by
  generalize hQ9 : (fun (v : Option Value) (w9 : z_W) => ∃ (r9 : Int32) (s9 : z_Z), v = some (.int r9) ∧ z_fm 59 w w9 ∧ z_mst w9 s9 ∧ s9.1.1 = 0 ∧ sp_MR (S) s9 ∧ r9 = (1 : Int32)) = Q9
  refine z_body hl (by decide) rfl (Nat.le_of_ble_eq_true rfl) ?_
  show z_J G l mX11_isSound _ 0 [(0, _)] [] _ 0 0
  refine j_aload_n dX11_isSound_0 rfl rfl ?_
  refine j_iconst (v := 0) dX11_isSound_1 (by decide) ?_
  refine j_put (w' := _) dX11_isSound_2 fX11_48 tX11_0 h.m ⟨rfl, rfl⟩ rfl ?_
  refine j_seal (by omega) ?_
  intro w1 u1
  have fw1 := u1.fw (ρ := 40) (by omega) (by omega)
  have h1 := h.up40 fw1 u1.1
  have R1 := R.th (k := 0)
  refine j_aload_n dX11_isSound_5 rfl rfl ?_
  refine j_callV (q := (RX11, TX11, 8)) dX11_isSound_6 kX11_isTrue lX11_240 inX11_isTrue seX11_isTrue h1.m rfl (cx_isTrue hl w1 _ _ h1 R1 ok) (Nat.le_of_ble_eq_true rfl) ⟨(Nat.le_of_ble_eq_true rfl), (Nat.le_of_ble_eq_true rfl)⟩ rfl (Nat.le_of_ble_eq_true rfl) rfl rfl (fun _ _ h => h.elim) ?_
  rintro _ _ ⟨rfl, hw554⟩
  refine j_w w1 hw554 ?_
  refine j_iret dX11_isSound_9 rfl rfl ?_ (Nat.le_of_ble_eq_true rfl) (Nat.le_of_ble_eq_true rfl)
  refine cast (congrFun (congrFun hQ9 _) _) ?_
  exact ⟨_, _, rfl, (fw1.fm (q := 59) (by omega)), h1, rfl, R1, rfl⟩
end ZMe6
